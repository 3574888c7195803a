set_option maxHeartbeats 4000000 in
set_option maxRecDepth 100000 in
theorem s_X8_areTwo (l : Launch) (G : va_G) {cy : Nat → ClassId} {L : List Nat} {M : Nat → va_E} {a : Nat → Nat} {act : Nat → Bool} {C0 : Nat → Nat → Int32} {D0 : Nat → Nat → Int64} {R : Nat → Nat → Option Nat} (F : WI L M a act (ent cy a C0 D0 R)) (I : Inv C0) (p0 : Int32) (p1 : Int32)  : MI l G cy yX8_areTwo cX8_areTwo 3 (some .boolean) 2 0 0 [.ref (a 100), .int p0, .int p1] L M (fun r L2 M2 => ∃ C2 D2, WI L2 M2 a act (ent cy a C2 D2 R) ∧ Inv C2 ∧ Kp [] C0 D0 C2 D2 ∧ (r = 0 ∨ (r = 1 ∧ (∃ n : Nat, n ≤ 7 ∧ p0 = nI n) ∧ ∃ n : Nat, n ≤ 7 ∧ p1 = nI n))) := by
  refine MI.of (own := RX8) rfl (by decide) (Nat.le_of_ble_eq_true rfl) ?_
  intro p e s m below meth c A X hrt hnm
  obtain ⟨C, D, hC0, hD0, F, I, K⟩ : ∃ C D, C = C0 ∧ D = D0 ∧ WI L M a act (ent cy a C D R) ∧ Inv C ∧ Kp [] C0 D0 C D := ⟨C0, D0, rfl, rfl, F, I, Kp.rf⟩
  obtain ⟨n1, hn1, en1⟩ := rg_nat ((show okw 0 (C 101 0) from I 101 0).1 rfl) (by decide)
  rw [hC0] at en1
  obtain ⟨n2, hn2, en2⟩ := rg_nat ((show okw 4 (C 101 4) from I 101 4).2.2.2.1 rfl) (by decide)
  rw [hC0] at en2
  obtain ⟨n3, hn3, en3⟩ := rg_nat ((show okw 7 (C 101 7) from I 101 7).2.2.2.2.1 rfl) (by decide)
  rw [hC0] at en3
  refine g_aload_n X dX8_areTwo_0 rfl (j := 0) rfl ?_
  refine g_iload_n X dX8_areTwo_1 rfl (j := 1) rfl ?_
  refine g_i2l X dX8_areTwo_2 rfl ?_
  refine g_callVI X (s_X8_isWalker l G F I ((Int32.toInt64 p0)) ) lk_X8_254 (F.1 100 rfl).2 (F.1 100 rfl).1 rfl rfl dX8_areTwo_3 (Nat.le_of_ble_eq_true rfl) ⟨by decide, by decide⟩ ⟨by decide, by decide⟩ (fun r4 L M hp => ?_)
  obtain ⟨C, D, F, I, K1, hr⟩ := hp
  have K := K.step K1 (by decide)
  rcases hr with rfl | ⟨rfl, hl5a, hl5b⟩
  · skip
    refine g_if_eq X dX8_areTwo_6 (tgt := 27) (by decide) (fun _ => ?_) (fun q => absurd (by decide) q)
    refine g_iconst X dX8_areTwo_27 (v := 0) (by decide) ?_
    exact g_zret X hrt rfl dX8_areTwo_28 (by decide) (by decide) ⟨C, D, F, I, K, Or.inl rfl⟩
  · skip
    rw [Jvm.Kit.i64_of_i32] at hl5a hl5b
    obtain ⟨n6, hn6a, hn6b, en6⟩ := nI_ofInt (x := p0) (lo := 0) (hi := 7) (by omega) (by omega) (by decide)
    subst en6
    refine g_if_eq X dX8_areTwo_6 (tgt := 27) (by decide) (fun q => absurd q (by decide)) (fun _ => ?_)
    refine g_aload_n X dX8_areTwo_9 rfl (j := 0) rfl ?_
    refine g_iload_n X dX8_areTwo_10 rfl (j := 2) rfl ?_
    refine g_i2l X dX8_areTwo_11 rfl ?_
    refine g_callVI X (s_X8_isWalker l G F I ((Int32.toInt64 p1)) ) lk_X8_254 (F.1 100 rfl).2 (F.1 100 rfl).1 rfl rfl dX8_areTwo_12 (Nat.le_of_ble_eq_true rfl) ⟨by decide, by decide⟩ ⟨by decide, by decide⟩ (fun r7 L M hp => ?_)
    obtain ⟨C, D, F, I, K1, hr⟩ := hp
    have K := K.step K1 (by decide)
    rcases hr with rfl | ⟨rfl, hl8a, hl8b⟩
    · skip
      refine g_if_eq X dX8_areTwo_15 (tgt := 27) (by decide) (fun _ => ?_) (fun q => absurd (by decide) q)
      refine g_iconst X dX8_areTwo_27 (v := 0) (by decide) ?_
      exact g_zret X hrt rfl dX8_areTwo_28 (by decide) (by decide) ⟨C, D, F, I, K, Or.inl rfl⟩
    · skip
      rw [Jvm.Kit.i64_of_i32] at hl8a hl8b
      obtain ⟨n9, hn9a, hn9b, en9⟩ := nI_ofInt (x := p1) (lo := 0) (hi := 7) (by omega) (by omega) (by decide)
      subst en9
      refine g_if_eq X dX8_areTwo_15 (tgt := 27) (by decide) (fun q => absurd q (by decide)) (fun _ => ?_)
      refine g_iload_n X dX8_areTwo_18 rfl (j := 1) rfl ?_
      refine g_iload_n X dX8_areTwo_19 rfl (j := 2) rfl ?_
      refine g_icmp_eq X dX8_areTwo_20 (tgt := 27) (by decide) (fun q10 => ?_) (fun q10 => ?_)
      · skip
        have q10 : n6 = n9 := (nI_eq (a := n6) (b := n9) (by omega) (by omega)).mp q10
        refine g_iconst X dX8_areTwo_27 (v := 0) (by decide) ?_
        exact g_zret X hrt rfl dX8_areTwo_28 (by decide) (by decide) ⟨C, D, F, I, K, Or.inl rfl⟩
      · skip
        have q10 : ¬ n6 = n9 := fun z => q10 ((nI_eq (a := n6) (b := n9) (by omega) (by omega)).mpr z)
        refine g_iconst X dX8_areTwo_23 (v := 1) (by decide) ?_
        refine g_goto X dX8_areTwo_24 (tgt := 28) (by decide) ?_
        exact g_zret X hrt rfl dX8_areTwo_28 (by decide) (by decide) ⟨C, D, F, I, K, Or.inr ⟨rfl, ⟨n6, by omega, rfl⟩, ⟨n9, by omega, rfl⟩⟩⟩
set_option maxHeartbeats 4000000 in
set_option maxRecDepth 100000 in
theorem s_X8_meet (l : Launch) (G : va_G) {cy : Nat → ClassId} {L : List Nat} {M : Nat → va_E} {a : Nat → Nat} {act : Nat → Bool} {C0 : Nat → Nat → Int32} {D0 : Nat → Nat → Int64} {R : Nat → Nat → Option Nat} (F : WI L M a act (ent cy a C0 D0 R)) (I : Inv C0) (p0 : Int32) (p1 : Int32)  : MI l G cy yX8_meet cX8_meet 4 (some .int) 7 0 0 [.ref (a 100), .int p0, .int p1] L M (fun r L2 M2 => ∃ C2 D2, WI L2 M2 a act (ent cy a C2 D2 R) ∧ Inv C2 ∧ Kp [100, 115, 116, 120, 121, 122, 123, 124, 125, 126, 127, 128] C0 D0 C2 D2 ∧ True) := by
  refine MI.of (own := RX8) rfl (by decide) (Nat.le_of_ble_eq_true rfl) ?_
  intro p e s m below meth c A X hrt hnm
  obtain ⟨C, D, hC0, hD0, F, I, K⟩ : ∃ C D, C = C0 ∧ D = D0 ∧ WI L M a act (ent cy a C D R) ∧ Inv C ∧ Kp [100, 115, 116, 120, 121, 122, 123, 124, 125, 126, 127, 128] C0 D0 C D := ⟨C0, D0, rfl, rfl, F, I, Kp.rf⟩
  obtain ⟨n1, hn1, en1⟩ := rg_nat ((show okw 0 (C 101 0) from I 101 0).1 rfl) (by decide)
  rw [hC0] at en1
  obtain ⟨n2, hn2, en2⟩ := rg_nat ((show okw 4 (C 101 4) from I 101 4).2.2.2.1 rfl) (by decide)
  rw [hC0] at en2
  obtain ⟨n3, hn3, en3⟩ := rg_nat ((show okw 7 (C 101 7) from I 101 7).2.2.2.2.1 rfl) (by decide)
  rw [hC0] at en3
  refine g_aload_n X dX8_meet_0 rfl (j := 0) rfl ?_
  refine g_callVI X (s_X8_asksHeath l G F I  ) lk_X8_292 (F.1 100 rfl).2 (F.1 100 rfl).1 rfl rfl dX8_meet_1 (Nat.le_of_ble_eq_true rfl) ⟨by decide, by decide⟩ ⟨by decide, by decide⟩ (fun r4 L M hp => ?_)
  obtain ⟨C, D, F, I, K1, hr⟩ := hp
  have K := K.step K1 (by decide)
  rcases hr with rfl | rfl
  · skip
    refine g_pop X dX8_meet_4 rfl ?_
    refine g_aload_n X dX8_meet_5 rfl (j := 0) rfl ?_
    refine g_iload_n X dX8_meet_6 rfl (j := 1) rfl ?_
    refine g_iload_n X dX8_meet_7 rfl (j := 2) rfl ?_
    refine g_callVI X (s_X8_areTwo l G F I p0 p1 ) lk_X8_346 (F.1 100 rfl).2 (F.1 100 rfl).1 rfl rfl dX8_meet_8 (Nat.le_of_ble_eq_true rfl) ⟨by decide, by decide⟩ ⟨by decide, by decide⟩ (fun r5 L M hp => ?_)
    obtain ⟨C, D, F, I, K1, hr⟩ := hp
    have K := K.step K1 (by decide)
    rcases hr with rfl | ⟨rfl, ⟨n6, hn6, en6⟩, ⟨n7, hn7, en7⟩⟩
    · skip
      refine g_if_ne X dX8_meet_11 (tgt := 17) (by decide) (fun q => absurd (by decide) q) (fun _ => ?_)
      refine g_bipush X dX8_meet_14 (v := -2) (by decide) ?_
      exact g_iret X hrt dX8_meet_16 (by decide) (by decide) ⟨C, D, F, I, K, trivial⟩
    · skip
      subst en6
      subst en7
      refine g_if_ne X dX8_meet_11 (tgt := 17) (by decide) (fun _ => ?_) (fun q => absurd q (by decide))
      refine g_iconst X dX8_meet_17 (v := 0) (by decide) ?_
      refine g_istore_n X dX8_meet_18 rfl (by decide) (lv2 := [(3, .int 0), (0, .ref (a 100)), (1, .int (nI n6)), (2, .int (nI n7))]) rfl ?_
      refine g_lv [0, 1, 2, 3] (lv2 := [(3, .int 0), (0, .ref (a 100)), (1, .int (nI n6)), (2, .int (nI n7))]) rfl ?_
      refine i_loop (mods := [100, 115, 116, 120, 121, 122, 123, 124, 125, 126, 127, 128]) (fun x : Nat => 17 - x) (fun x => [(3, .int (nI (x))), (0, .ref (a 100)), (1, .int (nI n6)), (2, .int (nI n7))]) (fun x C => 0 ≤ x ∧ x ≤ 17) (fun x L M C D F I K hP ih19 => ?_) ((0) : Nat) F I K ⟨by show _ ≤ _; omega, by show _ ≤ _; omega⟩
      obtain ⟨i19_3, rfl⟩ : ∃ z, z = x := ⟨_, rfl⟩
      obtain ⟨hi19_3a, hi19_3b⟩ := hP
      refine g_lv [0, 1, 2, 3] (lv2 := [(3, .int (nI i19_3)), (0, .ref (a 100)), (1, .int (nI n6)), (2, .int (nI n7))]) rfl ?_
      refine g_iload_n X dX8_meet_19 rfl (j := 0) rfl ?_
      refine g_aload_n X dX8_meet_20 rfl (j := 1) rfl ?_
      refine g_callVI X (s_X8_hours l G F I  ) lk_X8_106 (F.1 100 rfl).2 (F.1 100 rfl).1 rfl rfl dX8_meet_21 (Nat.le_of_ble_eq_true rfl) ⟨by decide, by decide⟩ ⟨by decide, by decide⟩ (fun r8 L M hp => ?_)
      obtain ⟨C, D, F, I, K1, hr⟩ := hp
      have K := K.step K1 (by decide)
      obtain ⟨n9, hn9, en9, rfl⟩ := hr
      obtain rfl : n1 = n9 := ((nI_eq (by omega) (by omega)).mp (en9.symm.trans ((congrFun (K 101 (by decide)).1 0).trans en1))).symm
      refine g_icmp_gt X dX8_meet_24 (tgt := 60) (by decide) (fun q10 => ?_) (fun q10 => ?_)
      · skip
        have q10 : n1 < i19_3 := (nI_ltI (a := n1) (b := i19_3) (by omega) (by omega)).mp q10
        refine g_iconst X dX8_meet_60 (v := -1) (by decide) ?_
        exact g_iret X hrt dX8_meet_61 (by decide) (by decide) ⟨C, D, F, I, K, trivial⟩
      · skip
        have q10 : ¬ n1 < i19_3 := fun z => q10 ((nI_ltI (a := n1) (b := i19_3) (by omega) (by omega)).mpr z)
        refine g_aload_n X dX8_meet_27 rfl (j := 1) rfl ?_
        refine g_iload_n X dX8_meet_28 rfl (j := 2) rfl ?_
        refine g_iload_n X dX8_meet_29 rfl (j := 0) rfl ?_
        refine g_callVI X (s_X8_placeOf l G F I n6 (by omega) (by omega) i19_3 (by omega) (by omega) ) lk_X8_298 (F.1 100 rfl).2 (F.1 100 rfl).1 rfl rfl dX8_meet_30 (Nat.le_of_ble_eq_true rfl) ⟨by decide, by decide⟩ ⟨by decide, by decide⟩ (fun r11 L M hp => ?_)
        obtain ⟨C, D, F, I, K1, hr⟩ := hp
        have K := K.step K1 (by decide)
        rcases okp_nat hr with rfl | ⟨n12, hn12, rfl⟩
        · skip
          refine g_iconst X dX8_meet_33 (v := -1) (by decide) ?_
          refine g_icmp_eq X dX8_meet_34 (tgt := 54) (by decide) (fun _ => ?_) (fun q => absurd (by decide) q)
          refine g_iinc X dX8_meet_54 (j := 0) rfl (v := nI (i19_3 + 1)) (nI_1 i19_3) (by decide) (lv2 := [(3, .int (nI (i19_3 + 1))), (0, .ref (a 100)), (1, .int (nI n6)), (2, .int (nI n7))]) rfl ?_
          refine g_goto X dX8_meet_57 (tgt := 19) (by decide) ?_
          refine g_lv [0, 1, 2, 3] (lv2 := [(3, .int (nI (i19_3 + 1))), (0, .ref (a 100)), (1, .int (nI n6)), (2, .int (nI n7))]) rfl ?_
          exact ih19 ((i19_3 + 1)) L M C D F I K ⟨by omega, by omega⟩ (by show _ < _; omega)
        · skip
          refine g_iconst X dX8_meet_33 (v := -1) (by decide) ?_
          refine g_icmp_eq X dX8_meet_34 (tgt := 54) (by decide) (fun q => absurd q (nI_nm1 (by omega))) (fun _ => ?_)
          refine g_aload_n X dX8_meet_37 rfl (j := 1) rfl ?_
          refine g_iload_n X dX8_meet_38 rfl (j := 2) rfl ?_
          refine g_iload_n X dX8_meet_39 rfl (j := 0) rfl ?_
          refine g_callVI X (s_X8_placeOf l G F I n6 (by omega) (by omega) i19_3 (by omega) (by omega) ) lk_X8_298 (F.1 100 rfl).2 (F.1 100 rfl).1 rfl rfl dX8_meet_40 (Nat.le_of_ble_eq_true rfl) ⟨by decide, by decide⟩ ⟨by decide, by decide⟩ (fun r14 L M hp => ?_)
          obtain ⟨C, D, F, I, K1, hr⟩ := hp
          have K := K.step K1 (by decide)
          rcases okp_nat hr with rfl | ⟨n15, hn15, rfl⟩
          · skip
            refine g_aload_n X dX8_meet_43 rfl (j := 1) rfl ?_
            refine g_iload_n X dX8_meet_44 rfl (j := 3) rfl ?_
            refine g_iload_n X dX8_meet_45 rfl (j := 0) rfl ?_
            refine g_callVI X (s_X8_placeOf l G F I n7 (by omega) (by omega) i19_3 (by omega) (by omega) ) lk_X8_298 (F.1 100 rfl).2 (F.1 100 rfl).1 rfl rfl dX8_meet_46 (Nat.le_of_ble_eq_true rfl) ⟨by decide, by decide⟩ ⟨by decide, by decide⟩ (fun r16 L M hp => ?_)
            obtain ⟨C, D, F, I, K1, hr⟩ := hp
            have K := K.step K1 (by decide)
            rcases okp_nat hr with rfl | ⟨n17, hn17, rfl⟩
            · skip
              refine g_icmp_ne X dX8_meet_49 (tgt := 54) (by decide) (fun q => absurd (by decide) q) (fun _ => ?_)
              refine g_iload_n X dX8_meet_52 rfl (j := 0) rfl ?_
              exact g_iret X hrt dX8_meet_53 (by decide) (by decide) ⟨C, D, F, I, K, trivial⟩
            · skip
              refine g_icmp_ne X dX8_meet_49 (tgt := 54) (by decide) (fun q18 => ?_) (fun q18 => ?_)
              · skip
                refine g_iinc X dX8_meet_54 (j := 0) rfl (v := nI (i19_3 + 1)) (nI_1 i19_3) (by decide) (lv2 := [(3, .int (nI (i19_3 + 1))), (0, .ref (a 100)), (1, .int (nI n6)), (2, .int (nI n7))]) rfl ?_
                refine g_goto X dX8_meet_57 (tgt := 19) (by decide) ?_
                refine g_lv [0, 1, 2, 3] (lv2 := [(3, .int (nI (i19_3 + 1))), (0, .ref (a 100)), (1, .int (nI n6)), (2, .int (nI n7))]) rfl ?_
                exact ih19 ((i19_3 + 1)) L M C D F I K ⟨by omega, by omega⟩ (by show _ < _; omega)
              · skip
                refine g_iload_n X dX8_meet_52 rfl (j := 0) rfl ?_
                exact g_iret X hrt dX8_meet_53 (by decide) (by decide) ⟨C, D, F, I, K, trivial⟩
          · skip
            refine g_aload_n X dX8_meet_43 rfl (j := 1) rfl ?_
            refine g_iload_n X dX8_meet_44 rfl (j := 3) rfl ?_
            refine g_iload_n X dX8_meet_45 rfl (j := 0) rfl ?_
            refine g_callVI X (s_X8_placeOf l G F I n7 (by omega) (by omega) i19_3 (by omega) (by omega) ) lk_X8_298 (F.1 100 rfl).2 (F.1 100 rfl).1 rfl rfl dX8_meet_46 (Nat.le_of_ble_eq_true rfl) ⟨by decide, by decide⟩ ⟨by decide, by decide⟩ (fun r19 L M hp => ?_)
            obtain ⟨C, D, F, I, K1, hr⟩ := hp
            have K := K.step K1 (by decide)
            rcases okp_nat hr with rfl | ⟨n20, hn20, rfl⟩
            · skip
              refine g_icmp_ne X dX8_meet_49 (tgt := 54) (by decide) (fun _ => ?_) (fun q => absurd q (nI_nm1 (by omega)))
              refine g_iinc X dX8_meet_54 (j := 0) rfl (v := nI (i19_3 + 1)) (nI_1 i19_3) (by decide) (lv2 := [(3, .int (nI (i19_3 + 1))), (0, .ref (a 100)), (1, .int (nI n6)), (2, .int (nI n7))]) rfl ?_
              refine g_goto X dX8_meet_57 (tgt := 19) (by decide) ?_
              refine g_lv [0, 1, 2, 3] (lv2 := [(3, .int (nI (i19_3 + 1))), (0, .ref (a 100)), (1, .int (nI n6)), (2, .int (nI n7))]) rfl ?_
              exact ih19 ((i19_3 + 1)) L M C D F I K ⟨by omega, by omega⟩ (by show _ < _; omega)
            · skip
              refine g_icmp_ne X dX8_meet_49 (tgt := 54) (by decide) (fun q22 => ?_) (fun q22 => ?_)
              · skip
                have q22 : ¬ n15 = n20 := fun z => q22 ((nI_eq (a := n15) (b := n20) (by omega) (by omega)).mpr z)
                refine g_iinc X dX8_meet_54 (j := 0) rfl (v := nI (i19_3 + 1)) (nI_1 i19_3) (by decide) (lv2 := [(3, .int (nI (i19_3 + 1))), (0, .ref (a 100)), (1, .int (nI n6)), (2, .int (nI n7))]) rfl ?_
                refine g_goto X dX8_meet_57 (tgt := 19) (by decide) ?_
                refine g_lv [0, 1, 2, 3] (lv2 := [(3, .int (nI (i19_3 + 1))), (0, .ref (a 100)), (1, .int (nI n6)), (2, .int (nI n7))]) rfl ?_
                exact ih19 ((i19_3 + 1)) L M C D F I K ⟨by omega, by omega⟩ (by show _ < _; omega)
              · skip
                have q22 : n15 = n20 := (nI_eq (a := n15) (b := n20) (by omega) (by omega)).mp q22
                refine g_iload_n X dX8_meet_52 rfl (j := 0) rfl ?_
                exact g_iret X hrt dX8_meet_53 (by decide) (by decide) ⟨C, D, F, I, K, trivial⟩
  · skip
    refine g_pop X dX8_meet_4 rfl ?_
    refine g_aload_n X dX8_meet_5 rfl (j := 0) rfl ?_
    refine g_iload_n X dX8_meet_6 rfl (j := 1) rfl ?_
    refine g_iload_n X dX8_meet_7 rfl (j := 2) rfl ?_
    refine g_callVI X (s_X8_areTwo l G F I p0 p1 ) lk_X8_346 (F.1 100 rfl).2 (F.1 100 rfl).1 rfl rfl dX8_meet_8 (Nat.le_of_ble_eq_true rfl) ⟨by decide, by decide⟩ ⟨by decide, by decide⟩ (fun r23 L M hp => ?_)
    obtain ⟨C, D, F, I, K1, hr⟩ := hp
    have K := K.step K1 (by decide)
    rcases hr with rfl | ⟨rfl, ⟨n24, hn24, en24⟩, ⟨n25, hn25, en25⟩⟩
    · skip
      refine g_if_ne X dX8_meet_11 (tgt := 17) (by decide) (fun q => absurd (by decide) q) (fun _ => ?_)
      refine g_bipush X dX8_meet_14 (v := -2) (by decide) ?_
      exact g_iret X hrt dX8_meet_16 (by decide) (by decide) ⟨C, D, F, I, K, trivial⟩
    · skip
      subst en24
      subst en25
      refine g_if_ne X dX8_meet_11 (tgt := 17) (by decide) (fun _ => ?_) (fun q => absurd q (by decide))
      refine g_iconst X dX8_meet_17 (v := 0) (by decide) ?_
      refine g_istore_n X dX8_meet_18 rfl (by decide) (lv2 := [(3, .int 0), (0, .ref (a 100)), (1, .int (nI n24)), (2, .int (nI n25))]) rfl ?_
      refine g_lv [0, 1, 2, 3] (lv2 := [(3, .int 0), (0, .ref (a 100)), (1, .int (nI n24)), (2, .int (nI n25))]) rfl ?_
      refine i_loop (mods := [100, 115, 116, 120, 121, 122, 123, 124, 125, 126, 127, 128]) (fun x : Nat => 17 - x) (fun x => [(3, .int (nI (x))), (0, .ref (a 100)), (1, .int (nI n24)), (2, .int (nI n25))]) (fun x C => 0 ≤ x ∧ x ≤ 17) (fun x L M C D F I K hP ih19 => ?_) ((0) : Nat) F I K ⟨by show _ ≤ _; omega, by show _ ≤ _; omega⟩
      obtain ⟨i19_3, rfl⟩ : ∃ z, z = x := ⟨_, rfl⟩
      obtain ⟨hi19_3a, hi19_3b⟩ := hP
      refine g_lv [0, 1, 2, 3] (lv2 := [(3, .int (nI i19_3)), (0, .ref (a 100)), (1, .int (nI n24)), (2, .int (nI n25))]) rfl ?_
      refine g_iload_n X dX8_meet_19 rfl (j := 0) rfl ?_
      refine g_aload_n X dX8_meet_20 rfl (j := 1) rfl ?_
      refine g_callVI X (s_X8_hours l G F I  ) lk_X8_106 (F.1 100 rfl).2 (F.1 100 rfl).1 rfl rfl dX8_meet_21 (Nat.le_of_ble_eq_true rfl) ⟨by decide, by decide⟩ ⟨by decide, by decide⟩ (fun r26 L M hp => ?_)
      obtain ⟨C, D, F, I, K1, hr⟩ := hp
      have K := K.step K1 (by decide)
      obtain ⟨n27, hn27, en27, rfl⟩ := hr
      obtain rfl : n1 = n27 := ((nI_eq (by omega) (by omega)).mp (en27.symm.trans ((congrFun (K 101 (by decide)).1 0).trans en1))).symm
      refine g_icmp_gt X dX8_meet_24 (tgt := 60) (by decide) (fun q28 => ?_) (fun q28 => ?_)
      · skip
        have q28 : n1 < i19_3 := (nI_ltI (a := n1) (b := i19_3) (by omega) (by omega)).mp q28
        refine g_iconst X dX8_meet_60 (v := -1) (by decide) ?_
        exact g_iret X hrt dX8_meet_61 (by decide) (by decide) ⟨C, D, F, I, K, trivial⟩
      · skip
        have q28 : ¬ n1 < i19_3 := fun z => q28 ((nI_ltI (a := n1) (b := i19_3) (by omega) (by omega)).mpr z)
        refine g_aload_n X dX8_meet_27 rfl (j := 1) rfl ?_
        refine g_iload_n X dX8_meet_28 rfl (j := 2) rfl ?_
        refine g_iload_n X dX8_meet_29 rfl (j := 0) rfl ?_
        refine g_callVI X (s_X8_placeOf l G F I n24 (by omega) (by omega) i19_3 (by omega) (by omega) ) lk_X8_298 (F.1 100 rfl).2 (F.1 100 rfl).1 rfl rfl dX8_meet_30 (Nat.le_of_ble_eq_true rfl) ⟨by decide, by decide⟩ ⟨by decide, by decide⟩ (fun r29 L M hp => ?_)
        obtain ⟨C, D, F, I, K1, hr⟩ := hp
        have K := K.step K1 (by decide)
        rcases okp_nat hr with rfl | ⟨n30, hn30, rfl⟩
        · skip
          refine g_iconst X dX8_meet_33 (v := -1) (by decide) ?_
          refine g_icmp_eq X dX8_meet_34 (tgt := 54) (by decide) (fun _ => ?_) (fun q => absurd (by decide) q)
          refine g_iinc X dX8_meet_54 (j := 0) rfl (v := nI (i19_3 + 1)) (nI_1 i19_3) (by decide) (lv2 := [(3, .int (nI (i19_3 + 1))), (0, .ref (a 100)), (1, .int (nI n24)), (2, .int (nI n25))]) rfl ?_
          refine g_goto X dX8_meet_57 (tgt := 19) (by decide) ?_
          refine g_lv [0, 1, 2, 3] (lv2 := [(3, .int (nI (i19_3 + 1))), (0, .ref (a 100)), (1, .int (nI n24)), (2, .int (nI n25))]) rfl ?_
          exact ih19 ((i19_3 + 1)) L M C D F I K ⟨by omega, by omega⟩ (by show _ < _; omega)
        · skip
          refine g_iconst X dX8_meet_33 (v := -1) (by decide) ?_
          refine g_icmp_eq X dX8_meet_34 (tgt := 54) (by decide) (fun q => absurd q (nI_nm1 (by omega))) (fun _ => ?_)
          refine g_aload_n X dX8_meet_37 rfl (j := 1) rfl ?_
          refine g_iload_n X dX8_meet_38 rfl (j := 2) rfl ?_
          refine g_iload_n X dX8_meet_39 rfl (j := 0) rfl ?_
          refine g_callVI X (s_X8_placeOf l G F I n24 (by omega) (by omega) i19_3 (by omega) (by omega) ) lk_X8_298 (F.1 100 rfl).2 (F.1 100 rfl).1 rfl rfl dX8_meet_40 (Nat.le_of_ble_eq_true rfl) ⟨by decide, by decide⟩ ⟨by decide, by decide⟩ (fun r32 L M hp => ?_)
          obtain ⟨C, D, F, I, K1, hr⟩ := hp
          have K := K.step K1 (by decide)
          rcases okp_nat hr with rfl | ⟨n33, hn33, rfl⟩
          · skip
            refine g_aload_n X dX8_meet_43 rfl (j := 1) rfl ?_
            refine g_iload_n X dX8_meet_44 rfl (j := 3) rfl ?_
            refine g_iload_n X dX8_meet_45 rfl (j := 0) rfl ?_
            refine g_callVI X (s_X8_placeOf l G F I n25 (by omega) (by omega) i19_3 (by omega) (by omega) ) lk_X8_298 (F.1 100 rfl).2 (F.1 100 rfl).1 rfl rfl dX8_meet_46 (Nat.le_of_ble_eq_true rfl) ⟨by decide, by decide⟩ ⟨by decide, by decide⟩ (fun r34 L M hp => ?_)
            obtain ⟨C, D, F, I, K1, hr⟩ := hp
            have K := K.step K1 (by decide)
            rcases okp_nat hr with rfl | ⟨n35, hn35, rfl⟩
            · skip
              refine g_icmp_ne X dX8_meet_49 (tgt := 54) (by decide) (fun q => absurd (by decide) q) (fun _ => ?_)
              refine g_iload_n X dX8_meet_52 rfl (j := 0) rfl ?_
              exact g_iret X hrt dX8_meet_53 (by decide) (by decide) ⟨C, D, F, I, K, trivial⟩
            · skip
              refine g_icmp_ne X dX8_meet_49 (tgt := 54) (by decide) (fun q36 => ?_) (fun q36 => ?_)
              · skip
                refine g_iinc X dX8_meet_54 (j := 0) rfl (v := nI (i19_3 + 1)) (nI_1 i19_3) (by decide) (lv2 := [(3, .int (nI (i19_3 + 1))), (0, .ref (a 100)), (1, .int (nI n24)), (2, .int (nI n25))]) rfl ?_
                refine g_goto X dX8_meet_57 (tgt := 19) (by decide) ?_
                refine g_lv [0, 1, 2, 3] (lv2 := [(3, .int (nI (i19_3 + 1))), (0, .ref (a 100)), (1, .int (nI n24)), (2, .int (nI n25))]) rfl ?_
                exact ih19 ((i19_3 + 1)) L M C D F I K ⟨by omega, by omega⟩ (by show _ < _; omega)
              · skip
                refine g_iload_n X dX8_meet_52 rfl (j := 0) rfl ?_
                exact g_iret X hrt dX8_meet_53 (by decide) (by decide) ⟨C, D, F, I, K, trivial⟩
          · skip
            refine g_aload_n X dX8_meet_43 rfl (j := 1) rfl ?_
            refine g_iload_n X dX8_meet_44 rfl (j := 3) rfl ?_
            refine g_iload_n X dX8_meet_45 rfl (j := 0) rfl ?_
            refine g_callVI X (s_X8_placeOf l G F I n25 (by omega) (by omega) i19_3 (by omega) (by omega) ) lk_X8_298 (F.1 100 rfl).2 (F.1 100 rfl).1 rfl rfl dX8_meet_46 (Nat.le_of_ble_eq_true rfl) ⟨by decide, by decide⟩ ⟨by decide, by decide⟩ (fun r37 L M hp => ?_)
            obtain ⟨C, D, F, I, K1, hr⟩ := hp
            have K := K.step K1 (by decide)
            rcases okp_nat hr with rfl | ⟨n38, hn38, rfl⟩
            · skip
              refine g_icmp_ne X dX8_meet_49 (tgt := 54) (by decide) (fun _ => ?_) (fun q => absurd q (nI_nm1 (by omega)))
              refine g_iinc X dX8_meet_54 (j := 0) rfl (v := nI (i19_3 + 1)) (nI_1 i19_3) (by decide) (lv2 := [(3, .int (nI (i19_3 + 1))), (0, .ref (a 100)), (1, .int (nI n24)), (2, .int (nI n25))]) rfl ?_
              refine g_goto X dX8_meet_57 (tgt := 19) (by decide) ?_
              refine g_lv [0, 1, 2, 3] (lv2 := [(3, .int (nI (i19_3 + 1))), (0, .ref (a 100)), (1, .int (nI n24)), (2, .int (nI n25))]) rfl ?_
              exact ih19 ((i19_3 + 1)) L M C D F I K ⟨by omega, by omega⟩ (by show _ < _; omega)
            · skip
              refine g_icmp_ne X dX8_meet_49 (tgt := 54) (by decide) (fun q40 => ?_) (fun q40 => ?_)
              · skip
                have q40 : ¬ n33 = n38 := fun z => q40 ((nI_eq (a := n33) (b := n38) (by omega) (by omega)).mpr z)
                refine g_iinc X dX8_meet_54 (j := 0) rfl (v := nI (i19_3 + 1)) (nI_1 i19_3) (by decide) (lv2 := [(3, .int (nI (i19_3 + 1))), (0, .ref (a 100)), (1, .int (nI n24)), (2, .int (nI n25))]) rfl ?_
                refine g_goto X dX8_meet_57 (tgt := 19) (by decide) ?_
                refine g_lv [0, 1, 2, 3] (lv2 := [(3, .int (nI (i19_3 + 1))), (0, .ref (a 100)), (1, .int (nI n24)), (2, .int (nI n25))]) rfl ?_
                exact ih19 ((i19_3 + 1)) L M C D F I K ⟨by omega, by omega⟩ (by show _ < _; omega)
              · skip
                have q40 : n33 = n38 := (nI_eq (a := n33) (b := n38) (by omega) (by omega)).mp q40
                refine g_iload_n X dX8_meet_52 rfl (j := 0) rfl ?_
                exact g_iret X hrt dX8_meet_53 (by decide) (by decide) ⟨C, D, F, I, K, trivial⟩
set_option maxHeartbeats 4000000 in
set_option maxRecDepth 100000 in
theorem s_X8_busy (l : Launch) (G : va_G) {cy : Nat → ClassId} {L : List Nat} {M : Nat → va_E} {a : Nat → Nat} {act : Nat → Bool} {C0 : Nat → Nat → Int32} {D0 : Nat → Nat → Int64} {R : Nat → Nat → Option Nat} (F : WI L M a act (ent cy a C0 D0 R)) (I : Inv C0)   : MI l G cy yX8_busy cX8_busy 3 (some .int) 7 0 0 [.ref (a 100)] L M (fun r L2 M2 => ∃ C2 D2, WI L2 M2 a act (ent cy a C2 D2 R) ∧ Inv C2 ∧ Kp [100, 115, 116, 120, 121, 122, 123, 124, 125, 126, 127, 128] C0 D0 C2 D2 ∧ True) := by
  refine MI.of (own := RX8) rfl (by decide) (Nat.le_of_ble_eq_true rfl) ?_
  intro p e s m below meth c A X hrt hnm
  obtain ⟨C, D, hC0, hD0, F, I, K⟩ : ∃ C D, C = C0 ∧ D = D0 ∧ WI L M a act (ent cy a C D R) ∧ Inv C ∧ Kp [100, 115, 116, 120, 121, 122, 123, 124, 125, 126, 127, 128] C0 D0 C D := ⟨C0, D0, rfl, rfl, F, I, Kp.rf⟩
  obtain ⟨n1, hn1, en1⟩ := rg_nat ((show okw 0 (C 101 0) from I 101 0).1 rfl) (by decide)
  rw [hC0] at en1
  obtain ⟨n2, hn2, en2⟩ := rg_nat ((show okw 4 (C 101 4) from I 101 4).2.2.2.1 rfl) (by decide)
  rw [hC0] at en2
  obtain ⟨n3, hn3, en3⟩ := rg_nat ((show okw 7 (C 101 7) from I 101 7).2.2.2.2.1 rfl) (by decide)
  rw [hC0] at en3
  refine g_aload_n X dX8_busy_0 rfl (j := 0) rfl ?_
  refine g_callVI X (s_X8_asksHeath l G F I  ) lk_X8_292 (F.1 100 rfl).2 (F.1 100 rfl).1 rfl rfl dX8_busy_1 (Nat.le_of_ble_eq_true rfl) ⟨by decide, by decide⟩ ⟨by decide, by decide⟩ (fun r4 L M hp => ?_)
  obtain ⟨C, D, F, I, K1, hr⟩ := hp
  have K := K.step K1 (by decide)
  rcases hr with rfl | rfl
  · skip
    refine g_if_ne X dX8_busy_4 (tgt := 10) (by decide) (fun q => absurd (by decide) q) (fun _ => ?_)
    refine g_bipush X dX8_busy_7 (v := -2) (by decide) ?_
    exact g_iret X hrt dX8_busy_9 (by decide) (by decide) ⟨C, D, F, I, K, trivial⟩
  · skip
    refine g_if_ne X dX8_busy_4 (tgt := 10) (by decide) (fun _ => ?_) (fun q => absurd q (by decide))
    refine g_iconst X dX8_busy_10 (v := -1) (by decide) ?_
    refine g_istore_n X dX8_busy_11 rfl (by decide) (lv2 := [(1, .int (-1)), (0, .ref (a 100))]) rfl ?_
    refine g_iconst X dX8_busy_12 (v := 0) (by decide) ?_
    refine g_istore_n X dX8_busy_13 rfl (by decide) (lv2 := [(2, .int 0), (1, .int (-1)), (0, .ref (a 100))]) rfl ?_
    refine g_lv [0, 1, 2] (lv2 := [(2, .int 0), (1, .int (-1)), (0, .ref (a 100))]) rfl ?_
    refine i_loop (mods := [100, 115, 116, 120, 121, 122, 123, 124, 125, 126, 127, 128]) (fun x : Nat × Int32 => 7 - x.1) (fun x => [(2, .int (nI (x.1))), (1, .int (x.2)), (0, .ref (a 100))]) (fun x C => 0 ≤ x.1 ∧ x.1 ≤ 7 ∧ (pbq (x.2))) (fun x L M C D F I K hP ih14 => ?_) ((0, (-1)) : Nat × Int32) F I K ⟨by show _ ≤ _; omega, by show _ ≤ _; omega, (Or.inl rfl)⟩
    rcases x with ⟨i14_2, v14_1⟩
    obtain ⟨hi14_2a, hi14_2b, hpb⟩ := hP
    try dsimp only at hpb
    refine g_lv [0, 1, 2] (lv2 := [(2, .int (nI i14_2)), (1, .int v14_1), (0, .ref (a 100))]) rfl ?_
    refine g_iload_n X dX8_busy_14 rfl (j := 0) rfl ?_
    refine g_aload_n X dX8_busy_15 rfl (j := 2) rfl ?_
    refine g_callVI X (s_X8_posts l G F I  ) lk_X8_98 (F.1 100 rfl).2 (F.1 100 rfl).1 rfl rfl dX8_busy_16 (Nat.le_of_ble_eq_true rfl) ⟨by decide, by decide⟩ ⟨by decide, by decide⟩ (fun r5 L M hp => ?_)
    obtain ⟨C, D, F, I, K1, hr⟩ := hp
    have K := K.step K1 (by decide)
    obtain ⟨n6, hn6, en6, rfl⟩ := hr
    obtain rfl : n2 = n6 := ((nI_eq (by omega) (by omega)).mp (en6.symm.trans ((congrFun (K 101 (by decide)).1 4).trans en2))).symm
    refine g_icmp_ge X dX8_busy_19 (tgt := 48) (by decide) (fun q7 => ?_) (fun q7 => ?_)
    · skip
      have q7 : n2 ≤ i14_2 := (nI_leI (a := n2) (b := i14_2) (by omega) (by omega)).mp q7
      refine g_iload_n X dX8_busy_48 rfl (j := 1) rfl ?_
      exact g_iret X hrt dX8_busy_49 (by decide) (by decide) ⟨C, D, F, I, K, trivial⟩
    · skip
      have q7 : ¬ n2 ≤ i14_2 := fun z => q7 ((nI_leI (a := n2) (b := i14_2) (by omega) (by omega)).mpr z)
      refine g_iload_n X dX8_busy_22 rfl (j := 1) rfl ?_
      refine g_iconst X dX8_busy_23 (v := -1) (by decide) ?_
      refine g_icmp_eq X dX8_busy_24 (tgt := 40) (by decide) (fun q8 => ?_) (fun q8 => ?_)
      · skip
        subst q8
        refine g_iload_n X dX8_busy_40 rfl (j := 0) rfl ?_
        refine g_istore_n X dX8_busy_41 rfl (by decide) (lv2 := [(1, .int (nI i14_2)), (2, .int (nI i14_2)), (0, .ref (a 100))]) rfl ?_
        refine g_iinc X dX8_busy_42 (j := 1) rfl (v := nI (i14_2 + 1)) (nI_1 i14_2) (by decide) (lv2 := [(2, .int (nI (i14_2 + 1))), (1, .int (nI i14_2)), (0, .ref (a 100))]) rfl ?_
        refine g_goto X dX8_busy_45 (tgt := 14) (by decide) ?_
        refine g_lv [0, 1, 2] (lv2 := [(2, .int (nI (i14_2 + 1))), (1, .int (nI i14_2)), (0, .ref (a 100))]) rfl ?_
        exact ih14 ((i14_2 + 1), nI i14_2) L M C D F I K ⟨by omega, by omega, (Or.inr ⟨i14_2, by omega, rfl⟩)⟩ (by show _ < _; omega)
      · skip
        obtain ⟨n9, hn9, en9⟩ : ∃ n : Nat, n ≤ 6 ∧ v14_1 = nI n := hpb.resolve_left q8
        subst en9
        refine g_aload_n X dX8_busy_27 rfl (j := 2) rfl ?_
        refine g_iload_n X dX8_busy_28 rfl (j := 0) rfl ?_
        refine g_callVI X (s_X8_sendsOf l G F I i14_2 (by omega) (by omega) ) lk_X8_317 (F.1 100 rfl).2 (F.1 100 rfl).1 rfl rfl dX8_busy_29 (Nat.le_of_ble_eq_true rfl) ⟨by decide, by decide⟩ ⟨by decide, by decide⟩ (fun r10 L M hp => ?_)
        obtain ⟨C, D, F, I, K1, hr⟩ := hp
        have K := K.step K1 (by decide)
        refine g_aload_n X dX8_busy_32 rfl (j := 2) rfl ?_
        refine g_iload_n X dX8_busy_33 rfl (j := 1) rfl ?_
        refine g_callVI X (s_X8_sendsOf l G F I n9 (by omega) (by omega) ) lk_X8_317 (F.1 100 rfl).2 (F.1 100 rfl).1 rfl rfl dX8_busy_34 (Nat.le_of_ble_eq_true rfl) ⟨by decide, by decide⟩ ⟨by decide, by decide⟩ (fun r11 L M hp => ?_)
        obtain ⟨C, D, F, I, K1, hr⟩ := hp
        have K := K.step K1 (by decide)
        refine g_icmp_le X dX8_busy_37 (tgt := 42) (by decide) (fun q12 => ?_) (fun q12 => ?_)
        · skip
          refine g_iinc X dX8_busy_42 (j := 0) rfl (v := nI (i14_2 + 1)) (nI_1 i14_2) (by decide) (lv2 := [(2, .int (nI (i14_2 + 1))), (1, .int (nI n9)), (0, .ref (a 100))]) rfl ?_
          refine g_goto X dX8_busy_45 (tgt := 14) (by decide) ?_
          refine g_lv [0, 1, 2] (lv2 := [(2, .int (nI (i14_2 + 1))), (1, .int (nI n9)), (0, .ref (a 100))]) rfl ?_
          exact ih14 ((i14_2 + 1), nI n9) L M C D F I K ⟨by omega, by omega, (Or.inr ⟨n9, by omega, rfl⟩)⟩ (by show _ < _; omega)
        · skip
          refine g_iload_n X dX8_busy_40 rfl (j := 0) rfl ?_
          refine g_istore_n X dX8_busy_41 rfl (by decide) (lv2 := [(1, .int (nI i14_2)), (2, .int (nI i14_2)), (0, .ref (a 100))]) rfl ?_
          refine g_iinc X dX8_busy_42 (j := 1) rfl (v := nI (i14_2 + 1)) (nI_1 i14_2) (by decide) (lv2 := [(2, .int (nI (i14_2 + 1))), (1, .int (nI i14_2)), (0, .ref (a 100))]) rfl ?_
          refine g_goto X dX8_busy_45 (tgt := 14) (by decide) ?_
          refine g_lv [0, 1, 2] (lv2 := [(2, .int (nI (i14_2 + 1))), (1, .int (nI i14_2)), (0, .ref (a 100))]) rfl ?_
          exact ih14 ((i14_2 + 1), nI i14_2) L M C D F I K ⟨by omega, by omega, (Or.inr ⟨i14_2, by omega, rfl⟩)⟩ (by show _ < _; omega)
set_option maxHeartbeats 4000000 in
set_option maxRecDepth 100000 in
theorem s_X8_idle (l : Launch) (G : va_G) {cy : Nat → ClassId} {L : List Nat} {M : Nat → va_E} {a : Nat → Nat} {act : Nat → Bool} {C0 : Nat → Nat → Int32} {D0 : Nat → Nat → Int64} {R : Nat → Nat → Option Nat} (F : WI L M a act (ent cy a C0 D0 R)) (I : Inv C0)   : MI l G cy yX8_idle cX8_idle 3 (some .int) 7 0 0 [.ref (a 100)] L M (fun r L2 M2 => ∃ C2 D2, WI L2 M2 a act (ent cy a C2 D2 R) ∧ Inv C2 ∧ Kp [100, 115, 116, 120, 121, 122, 123, 124, 125, 126, 127, 128] C0 D0 C2 D2 ∧ True) := by
  refine MI.of (own := RX8) rfl (by decide) (Nat.le_of_ble_eq_true rfl) ?_
  intro p e s m below meth c A X hrt hnm
  obtain ⟨C, D, hC0, hD0, F, I, K⟩ : ∃ C D, C = C0 ∧ D = D0 ∧ WI L M a act (ent cy a C D R) ∧ Inv C ∧ Kp [100, 115, 116, 120, 121, 122, 123, 124, 125, 126, 127, 128] C0 D0 C D := ⟨C0, D0, rfl, rfl, F, I, Kp.rf⟩
  obtain ⟨n1, hn1, en1⟩ := rg_nat ((show okw 0 (C 101 0) from I 101 0).1 rfl) (by decide)
  rw [hC0] at en1
  obtain ⟨n2, hn2, en2⟩ := rg_nat ((show okw 4 (C 101 4) from I 101 4).2.2.2.1 rfl) (by decide)
  rw [hC0] at en2
  obtain ⟨n3, hn3, en3⟩ := rg_nat ((show okw 7 (C 101 7) from I 101 7).2.2.2.2.1 rfl) (by decide)
  rw [hC0] at en3
  refine g_aload_n X dX8_idle_0 rfl (j := 0) rfl ?_
  refine g_callVI X (s_X8_asksHeath l G F I  ) lk_X8_292 (F.1 100 rfl).2 (F.1 100 rfl).1 rfl rfl dX8_idle_1 (Nat.le_of_ble_eq_true rfl) ⟨by decide, by decide⟩ ⟨by decide, by decide⟩ (fun r4 L M hp => ?_)
  obtain ⟨C, D, F, I, K1, hr⟩ := hp
  have K := K.step K1 (by decide)
  rcases hr with rfl | rfl
  · skip
    refine g_if_ne X dX8_idle_4 (tgt := 10) (by decide) (fun q => absurd (by decide) q) (fun _ => ?_)
    refine g_bipush X dX8_idle_7 (v := -2) (by decide) ?_
    exact g_iret X hrt dX8_idle_9 (by decide) (by decide) ⟨C, D, F, I, K, trivial⟩
  · skip
    refine g_if_ne X dX8_idle_4 (tgt := 10) (by decide) (fun _ => ?_) (fun q => absurd q (by decide))
    refine g_iconst X dX8_idle_10 (v := 0) (by decide) ?_
    refine g_istore_n X dX8_idle_11 rfl (by decide) (lv2 := [(1, .int 0), (0, .ref (a 100))]) rfl ?_
    refine g_iconst X dX8_idle_12 (v := 0) (by decide) ?_
    refine g_istore_n X dX8_idle_13 rfl (by decide) (lv2 := [(2, .int 0), (1, .int 0), (0, .ref (a 100))]) rfl ?_
    refine g_lv [0, 1, 2] (lv2 := [(2, .int 0), (1, .int 0), (0, .ref (a 100))]) rfl ?_
    refine i_loop (mods := [100, 115, 116, 120, 121, 122, 123, 124, 125, 126, 127, 128]) (fun x : Nat × Int32 => 7 - x.1) (fun x => [(2, .int (nI (x.1))), (1, .int (x.2)), (0, .ref (a 100))]) (fun x C => 0 ≤ x.1 ∧ x.1 ≤ 7) (fun x L M C D F I K hP ih14 => ?_) ((0, 0) : Nat × Int32) F I K ⟨by show _ ≤ _; omega, by show _ ≤ _; omega⟩
    rcases x with ⟨i14_2, v14_1⟩
    obtain ⟨hi14_2a, hi14_2b⟩ := hP
    refine g_lv [0, 1, 2] (lv2 := [(2, .int (nI i14_2)), (1, .int v14_1), (0, .ref (a 100))]) rfl ?_
    refine g_iload_n X dX8_idle_14 rfl (j := 0) rfl ?_
    refine g_aload_n X dX8_idle_15 rfl (j := 2) rfl ?_
    refine g_callVI X (s_X8_posts l G F I  ) lk_X8_98 (F.1 100 rfl).2 (F.1 100 rfl).1 rfl rfl dX8_idle_16 (Nat.le_of_ble_eq_true rfl) ⟨by decide, by decide⟩ ⟨by decide, by decide⟩ (fun r5 L M hp => ?_)
    obtain ⟨C, D, F, I, K1, hr⟩ := hp
    have K := K.step K1 (by decide)
    obtain ⟨n6, hn6, en6, rfl⟩ := hr
    obtain rfl : n2 = n6 := ((nI_eq (by omega) (by omega)).mp (en6.symm.trans ((congrFun (K 101 (by decide)).1 4).trans en2))).symm
    refine g_icmp_ge X dX8_idle_19 (tgt := 46) (by decide) (fun q7 => ?_) (fun q7 => ?_)
    · skip
      have q7 : n2 ≤ i14_2 := (nI_leI (a := n2) (b := i14_2) (by omega) (by omega)).mp q7
      refine g_iload_n X dX8_idle_46 rfl (j := 1) rfl ?_
      exact g_iret X hrt dX8_idle_47 (by decide) (by decide) ⟨C, D, F, I, K, trivial⟩
    · skip
      have q7 : ¬ n2 ≤ i14_2 := fun z => q7 ((nI_leI (a := n2) (b := i14_2) (by omega) (by omega)).mpr z)
      refine g_iload_n X dX8_idle_22 rfl (j := 1) rfl ?_
      refine g_aload_n X dX8_idle_23 rfl (j := 2) rfl ?_
      refine g_iload_n X dX8_idle_24 rfl (j := 0) rfl ?_
      refine g_callVI X (s_X8_sendsOf l G F I i14_2 (by omega) (by omega) ) lk_X8_317 (F.1 100 rfl).2 (F.1 100 rfl).1 rfl rfl dX8_idle_25 (Nat.le_of_ble_eq_true rfl) ⟨by decide, by decide⟩ ⟨by decide, by decide⟩ (fun r8 L M hp => ?_)
      obtain ⟨C, D, F, I, K1, hr⟩ := hp
      have K := K.step K1 (by decide)
      refine g_if_ne X dX8_idle_28 (tgt := 37) (by decide) (fun q9 => ?_) (fun q9 => ?_)
      · skip
        refine g_iconst X dX8_idle_37 (v := 0) (by decide) ?_
        refine g_ior X dX8_idle_38 ?_
        refine Go.gen (fun o10 => ?_)
        refine g_istore_n X dX8_idle_39 rfl (by decide) (lv2 := [(1, .int o10), (2, .int (nI i14_2)), (0, .ref (a 100))]) rfl ?_
        refine g_iinc X dX8_idle_40 (j := 1) rfl (v := nI (i14_2 + 1)) (nI_1 i14_2) (by decide) (lv2 := [(2, .int (nI (i14_2 + 1))), (1, .int o10), (0, .ref (a 100))]) rfl ?_
        refine g_goto X dX8_idle_43 (tgt := 14) (by decide) ?_
        refine g_lv [0, 1, 2] (lv2 := [(2, .int (nI (i14_2 + 1))), (1, .int o10), (0, .ref (a 100))]) rfl ?_
        exact ih14 ((i14_2 + 1), o10) L M C D F I K ⟨by omega, by omega⟩ (by show _ < _; omega)
      · skip
        subst q9
        refine g_iconst X dX8_idle_31 (v := 1) (by decide) ?_
        refine g_iload_n X dX8_idle_32 rfl (j := 0) rfl ?_
        refine g_ishl X dX8_idle_33 ?_
        refine Go.gen (fun o11 => ?_)
        refine g_goto X dX8_idle_34 (tgt := 38) (by decide) ?_
        refine g_ior X dX8_idle_38 ?_
        refine Go.gen (fun o12 => ?_)
        refine g_istore_n X dX8_idle_39 rfl (by decide) (lv2 := [(1, .int o12), (2, .int (nI i14_2)), (0, .ref (a 100))]) rfl ?_
        refine g_iinc X dX8_idle_40 (j := 1) rfl (v := nI (i14_2 + 1)) (nI_1 i14_2) (by decide) (lv2 := [(2, .int (nI (i14_2 + 1))), (1, .int o12), (0, .ref (a 100))]) rfl ?_
        refine g_goto X dX8_idle_43 (tgt := 14) (by decide) ?_
        refine g_lv [0, 1, 2] (lv2 := [(2, .int (nI (i14_2 + 1))), (1, .int o12), (0, .ref (a 100))]) rfl ?_
        exact ih14 ((i14_2 + 1), o12) L M C D F I K ⟨by omega, by omega⟩ (by show _ < _; omega)
set_option maxHeartbeats 4000000 in
set_option maxRecDepth 100000 in
theorem s_X8_goOn (l : Launch) (G : va_G) {cy : Nat → ClassId} {L : List Nat} {M : Nat → va_E} {a : Nat → Nat} {act : Nat → Bool} {C0 : Nat → Nat → Int32} {D0 : Nat → Nat → Int64} {R : Nat → Nat → Option Nat} (F : WI L M a act (ent cy a C0 D0 R)) (I : Inv C0) (p0 : Int32)  : MI l G cy yX8_goOn cX8_goOn 5 (some .int) 1 0 0 [.ref (a 100), .int p0] L M (fun r L2 M2 => ∃ C2 D2, WI L2 M2 a act (ent cy a C2 D2 R) ∧ Inv C2 ∧ Kp [] C0 D0 C2 D2 ∧ True) := by
  refine MI.of (own := RX8) rfl (by decide) (Nat.le_of_ble_eq_true rfl) ?_
  intro p e s m below meth c A X hrt hnm
  obtain ⟨C, D, hC0, hD0, F, I, K⟩ : ∃ C D, C = C0 ∧ D = D0 ∧ WI L M a act (ent cy a C D R) ∧ Inv C ∧ Kp [] C0 D0 C D := ⟨C0, D0, rfl, rfl, F, I, Kp.rf⟩
  obtain ⟨n1, hn1, en1⟩ := rg_nat ((show okw 0 (C 101 0) from I 101 0).1 rfl) (by decide)
  rw [hC0] at en1
  obtain ⟨n2, hn2, en2⟩ := rg_nat ((show okw 4 (C 101 4) from I 101 4).2.2.2.1 rfl) (by decide)
  rw [hC0] at en2
  obtain ⟨n3, hn3, en3⟩ := rg_nat ((show okw 7 (C 101 7) from I 101 7).2.2.2.2.1 rfl) (by decide)
  rw [hC0] at en3
  refine g_iload_n X dX8_goOn_0 rfl (j := 1) rfl ?_
  refine g_istore_n X dX8_goOn_1 rfl (by decide) (lv2 := [(2, .int p0), (0, .ref (a 100)), (1, .int p0)]) rfl ?_
  refine g_iconst X dX8_goOn_2 (v := 0) (by decide) ?_
  refine g_istore_n X dX8_goOn_3 rfl (by decide) (lv2 := [(3, .int 0), (2, .int p0), (0, .ref (a 100)), (1, .int p0)]) rfl ?_
  refine g_lv [0, 1, 2, 3] (lv2 := [(3, .int 0), (2, .int p0), (0, .ref (a 100)), (1, .int p0)]) rfl ?_
  refine i_loop (mods := []) (fun x : Nat × Int32 => 7 - x.1) (fun x => [(3, .int (nI (x.1))), (2, .int (x.2)), (0, .ref (a 100)), (1, .int p0)]) (fun x C => 0 ≤ x.1 ∧ x.1 ≤ 7) (fun x L M C D F I K hP ih4 => ?_) ((0, p0) : Nat × Int32) F I K ⟨by show _ ≤ _; omega, by show _ ≤ _; omega⟩
  rcases x with ⟨i4_3, v4_2⟩
  obtain ⟨hi4_3a, hi4_3b⟩ := hP
  refine g_lv [0, 1, 2, 3] (lv2 := [(3, .int (nI i4_3)), (2, .int v4_2), (0, .ref (a 100)), (1, .int p0)]) rfl ?_
  refine g_iload_n X dX8_goOn_4 rfl (j := 0) rfl ?_
  refine g_aload_n X dX8_goOn_5 rfl (j := 2) rfl ?_
  refine g_callVI X (s_X8_posts l G F I  ) lk_X8_98 (F.1 100 rfl).2 (F.1 100 rfl).1 rfl rfl dX8_goOn_6 (Nat.le_of_ble_eq_true rfl) ⟨by decide, by decide⟩ ⟨by decide, by decide⟩ (fun r4 L M hp => ?_)
  obtain ⟨C, D, F, I, K1, hr⟩ := hp
  have K := K.step K1 (by decide)
  obtain ⟨n5, hn5, en5, rfl⟩ := hr
  obtain rfl : n2 = n5 := ((nI_eq (by omega) (by omega)).mp (en5.symm.trans ((congrFun (K 101 (by decide)).1 4).trans en2))).symm
  refine g_icmp_ge X dX8_goOn_9 (tgt := 62) (by decide) (fun q6 => ?_) (fun q6 => ?_)
  · skip
    have q6 : n2 ≤ i4_3 := (nI_leI (a := n2) (b := i4_3) (by omega) (by omega)).mp q6
    refine g_iload_n X dX8_goOn_62 rfl (j := 1) rfl ?_
    exact g_iret X hrt dX8_goOn_63 (by decide) (by decide) ⟨C, D, F, I, K, trivial⟩
  · skip
    have q6 : ¬ n2 ≤ i4_3 := fun z => q6 ((nI_leI (a := n2) (b := i4_3) (by omega) (by omega)).mpr z)
    refine g_iconst X dX8_goOn_12 (v := 0) (by decide) ?_
    refine g_istore X dX8_goOn_13 (by decide) (lv2 := [(4, .int 0), (3, .int (nI i4_3)), (2, .int v4_2), (0, .ref (a 100)), (1, .int p0)]) rfl ?_
    refine g_lv [0, 2, 1, 3, 4] (lv2 := [(4, .int 0), (2, .int v4_2), (3, .int (nI i4_3)), (0, .ref (a 100)), (1, .int p0)]) rfl ?_
    refine i_loop (mods := []) (fun x : Nat × Int32 => 4 - x.1) (fun x => [(4, .int (nI (x.1))), (2, .int (x.2)), (3, .int (nI i4_3)), (0, .ref (a 100)), (1, .int p0)]) (fun x C => 0 ≤ x.1 ∧ x.1 ≤ 4) (fun x L M C D F I K hP ih15 => ?_) ((0, v4_2) : Nat × Int32) F I K ⟨by show _ ≤ _; omega, by show _ ≤ _; omega⟩
    rcases x with ⟨i15_4, v15_2⟩
    obtain ⟨hi15_4a, hi15_4b⟩ := hP
    refine g_lv [0, 1, 2, 3, 4] (lv2 := [(4, .int (nI i15_4)), (2, .int v15_2), (3, .int (nI i4_3)), (0, .ref (a 100)), (1, .int p0)]) rfl ?_
    refine g_iload X dX8_goOn_15 (j := 0) rfl ?_
    refine g_aload_n X dX8_goOn_17 rfl (j := 3) rfl ?_
    refine g_iload_n X dX8_goOn_18 rfl (j := 2) rfl ?_
    refine g_callVI X (s_X8_roadMany l G F I i4_3 (by omega) (by omega) ) lk_X8_245 (F.1 100 rfl).2 (F.1 100 rfl).1 rfl rfl dX8_goOn_19 (Nat.le_of_ble_eq_true rfl) ⟨by decide, by decide⟩ ⟨by decide, by decide⟩ (fun r7 L M hp => ?_)
    obtain ⟨C, D, F, I, K1, hr⟩ := hp
    have K := K.step K1 (by decide)
    obtain ⟨n8, hn8, en8, rfl⟩ := hr
    have fn8 : C0 101 (14 + 6 * i4_3) = nI n8 := (congrFun (K 101 (by decide)).1 _).symm.trans en8
    refine g_icmp_ge X dX8_goOn_22 (tgt := 56) (by decide) (fun q9 => ?_) (fun q9 => ?_)
    · skip
      have q9 : n8 ≤ i15_4 := (nI_leI (a := n8) (b := i15_4) (by omega) (by omega)).mp q9
      refine g_iinc X dX8_goOn_56 (j := 2) rfl (v := nI (i4_3 + 1)) (nI_1 i4_3) (by decide) (lv2 := [(3, .int (nI (i4_3 + 1))), (4, .int (nI i15_4)), (2, .int v15_2), (0, .ref (a 100)), (1, .int p0)]) rfl ?_
      refine g_goto X dX8_goOn_59 (tgt := 4) (by decide) ?_
      refine g_lv [0, 2, 3, 4] (lv2 := [(3, .int (nI (i4_3 + 1))), (2, .int v15_2), (0, .ref (a 100)), (1, .int p0)]) rfl ?_
      exact ih4 ((i4_3 + 1), v15_2) L M C D F I K ⟨by omega, by omega⟩ (by show _ < _; omega)
    · skip
      have q9 : ¬ n8 ≤ i15_4 := fun z => q9 ((nI_leI (a := n8) (b := i15_4) (by omega) (by omega)).mpr z)
      refine g_iload_n X dX8_goOn_25 rfl (j := 1) rfl ?_
      refine g_iload_n X dX8_goOn_26 rfl (j := 4) rfl ?_
      refine g_iload_n X dX8_goOn_27 rfl (j := 2) rfl ?_
      refine g_callSI X (s_X8_bit l G F I p0 (nI i4_3) ) lk_X8_266 rfl rfl dX8_goOn_28 (Nat.le_of_ble_eq_true rfl) ⟨by decide, by decide⟩ ⟨by decide, by decide⟩ (fun r10 L M hp => ?_)
      obtain ⟨C, D, F, I, K1, hr⟩ := hp
      have K := K.step K1 (by decide)
      obtain ⟨n11, hn11a, hn11b, rfl⟩ := hr
      refine g_iconst X dX8_goOn_31 (v := 1) (by decide) ?_
      refine g_icmp_ne X dX8_goOn_32 (tgt := 47) (by decide) (fun q12 => ?_) (fun q12 => ?_)
      · skip
        have q12 : ¬ n11 = 1 := fun z => q12 ((nI_eq (a := n11) (b := 1) (by omega) (by omega)).mpr z)
        refine g_iconst X dX8_goOn_47 (v := 0) (by decide) ?_
        refine g_ior X dX8_goOn_48 ?_
        refine Go.gen (fun o13 => ?_)
        refine g_istore_n X dX8_goOn_49 rfl (by decide) (lv2 := [(2, .int o13), (4, .int (nI i15_4)), (3, .int (nI i4_3)), (0, .ref (a 100)), (1, .int p0)]) rfl ?_
        refine g_iinc X dX8_goOn_50 (j := 1) rfl (v := nI (i15_4 + 1)) (nI_1 i15_4) (by decide) (lv2 := [(4, .int (nI (i15_4 + 1))), (2, .int o13), (3, .int (nI i4_3)), (0, .ref (a 100)), (1, .int p0)]) rfl ?_
        refine g_goto X dX8_goOn_53 (tgt := 15) (by decide) ?_
        refine g_lv [0, 1, 2, 3, 4] (lv2 := [(4, .int (nI (i15_4 + 1))), (2, .int o13), (3, .int (nI i4_3)), (0, .ref (a 100)), (1, .int p0)]) rfl ?_
        exact ih15 ((i15_4 + 1), o13) L M C D F I K ⟨by omega, by omega⟩ (by show _ < _; omega)
      · skip
        have q12 : n11 = 1 := (nI_eq (a := n11) (b := 1) (by omega) (by omega)).mp q12
        refine g_iconst X dX8_goOn_35 (v := 1) (by decide) ?_
        refine g_aload_n X dX8_goOn_36 rfl (j := 3) rfl ?_
        refine g_iload_n X dX8_goOn_37 rfl (j := 2) rfl ?_
        refine g_iload X dX8_goOn_38 (j := 0) rfl ?_
        refine g_callVI X (s_X8_roadTo l G F I i4_3 (by omega) (by omega) i15_4 (by omega) (by omega) ) lk_X8_248 (F.1 100 rfl).2 (F.1 100 rfl).1 rfl rfl dX8_goOn_40 (Nat.le_of_ble_eq_true rfl) ⟨by decide, by decide⟩ ⟨by decide, by decide⟩ (fun r14 L M hp => ?_)
        obtain ⟨C, D, F, I, K1, hr⟩ := hp
        have K := K.step K1 (by decide)
        obtain ⟨n15, hn15, rfl⟩ := hr
        refine g_ishl X dX8_goOn_43 ?_
        refine Go.gen (fun o16 => ?_)
        refine g_goto X dX8_goOn_44 (tgt := 48) (by decide) ?_
        refine g_ior X dX8_goOn_48 ?_
        refine Go.gen (fun o17 => ?_)
        refine g_istore_n X dX8_goOn_49 rfl (by decide) (lv2 := [(2, .int o17), (4, .int (nI i15_4)), (3, .int (nI i4_3)), (0, .ref (a 100)), (1, .int p0)]) rfl ?_
        refine g_iinc X dX8_goOn_50 (j := 1) rfl (v := nI (i15_4 + 1)) (nI_1 i15_4) (by decide) (lv2 := [(4, .int (nI (i15_4 + 1))), (2, .int o17), (3, .int (nI i4_3)), (0, .ref (a 100)), (1, .int p0)]) rfl ?_
        refine g_goto X dX8_goOn_53 (tgt := 15) (by decide) ?_
        refine g_lv [0, 1, 2, 3, 4] (lv2 := [(4, .int (nI (i15_4 + 1))), (2, .int o17), (3, .int (nI i4_3)), (0, .ref (a 100)), (1, .int p0)]) rfl ?_
        exact ih15 ((i15_4 + 1), o17) L M C D F I K ⟨by omega, by omega⟩ (by show _ < _; omega)
set_option maxHeartbeats 4000000 in
set_option maxRecDepth 100000 in
theorem s_X8_reach (l : Launch) (G : va_G) {cy : Nat → ClassId} {L : List Nat} {M : Nat → va_E} {a : Nat → Nat} {act : Nat → Bool} {C0 : Nat → Nat → Int32} {D0 : Nat → Nat → Int64} {R : Nat → Nat → Option Nat} (F : WI L M a act (ent cy a C0 D0 R)) (I : Inv C0) (p0 : Int32)  : MI l G cy yX8_reach cX8_reach 4 (some .int) 2 0 0 [.ref (a 100), .int p0] L M (fun r L2 M2 => ∃ C2 D2, WI L2 M2 a act (ent cy a C2 D2 R) ∧ Inv C2 ∧ Kp [] C0 D0 C2 D2 ∧ True) := by
  refine MI.of (own := RX8) rfl (by decide) (Nat.le_of_ble_eq_true rfl) ?_
  intro p e s m below meth c A X hrt hnm
  obtain ⟨C, D, hC0, hD0, F, I, K⟩ : ∃ C D, C = C0 ∧ D = D0 ∧ WI L M a act (ent cy a C D R) ∧ Inv C ∧ Kp [] C0 D0 C D := ⟨C0, D0, rfl, rfl, F, I, Kp.rf⟩
  obtain ⟨n1, hn1, en1⟩ := rg_nat ((show okw 0 (C 101 0) from I 101 0).1 rfl) (by decide)
  rw [hC0] at en1
  obtain ⟨n2, hn2, en2⟩ := rg_nat ((show okw 4 (C 101 4) from I 101 4).2.2.2.1 rfl) (by decide)
  rw [hC0] at en2
  obtain ⟨n3, hn3, en3⟩ := rg_nat ((show okw 7 (C 101 7) from I 101 7).2.2.2.2.1 rfl) (by decide)
  rw [hC0] at en3
  refine g_aload_n X dX8_reach_0 rfl (j := 0) rfl ?_
  refine g_iload_n X dX8_reach_1 rfl (j := 1) rfl ?_
  refine g_i2l X dX8_reach_2 rfl ?_
  refine g_callVI X (s_X8_isPost l G F I ((Int32.toInt64 p0)) ) lk_X8_112 (F.1 100 rfl).2 (F.1 100 rfl).1 rfl rfl dX8_reach_3 (Nat.le_of_ble_eq_true rfl) ⟨by decide, by decide⟩ ⟨by decide, by decide⟩ (fun r4 L M hp => ?_)
  obtain ⟨C, D, F, I, K1, hr⟩ := hp
  have K := K.step K1 (by decide)
  rcases hr with rfl | ⟨rfl, hl5a, hl5b⟩
  · skip
    refine g_if_ne X dX8_reach_6 (tgt := 12) (by decide) (fun q => absurd (by decide) q) (fun _ => ?_)
    refine g_bipush X dX8_reach_9 (v := -2) (by decide) ?_
    exact g_iret X hrt dX8_reach_11 (by decide) (by decide) ⟨C, D, F, I, K, trivial⟩
  · skip
    rw [Jvm.Kit.i64_of_i32] at hl5a hl5b
    obtain ⟨n6, hn6a, hn6b, en6⟩ := nI_ofInt (x := p0) (lo := 0) (hi := 6) (by omega) (by omega) (by decide)
    subst en6
    refine g_if_ne X dX8_reach_6 (tgt := 12) (by decide) (fun _ => ?_) (fun q => absurd q (by decide))
    refine g_iconst X dX8_reach_12 (v := 1) (by decide) ?_
    refine g_iload_n X dX8_reach_13 rfl (j := 1) rfl ?_
    refine g_ishl X dX8_reach_14 ?_
    refine Go.gen (fun o7 => ?_)
    refine g_istore_n X dX8_reach_15 rfl (by decide) (lv2 := [(2, .int o7), (0, .ref (a 100)), (1, .int (nI n6))]) rfl ?_
    refine g_iconst X dX8_reach_16 (v := 0) (by decide) ?_
    refine g_istore_n X dX8_reach_17 rfl (by decide) (lv2 := [(3, .int 0), (2, .int o7), (0, .ref (a 100)), (1, .int (nI n6))]) rfl ?_
    refine g_lv [0, 1, 2, 3] (lv2 := [(3, .int 0), (2, .int o7), (0, .ref (a 100)), (1, .int (nI n6))]) rfl ?_
    refine i_loop (mods := []) (fun x : Nat × Int32 => 8 - x.1) (fun x => [(3, .int (nI (x.1))), (2, .int (x.2)), (0, .ref (a 100)), (1, .int (nI n6))]) (fun x C => 0 ≤ x.1 ∧ x.1 ≤ 8) (fun x L M C D F I K hP ih18 => ?_) ((0, o7) : Nat × Int32) F I K ⟨by show _ ≤ _; omega, by show _ ≤ _; omega⟩
    rcases x with ⟨i18_3, v18_2⟩
    obtain ⟨hi18_3a, hi18_3b⟩ := hP
    refine g_lv [0, 1, 2, 3] (lv2 := [(3, .int (nI i18_3)), (2, .int v18_2), (0, .ref (a 100)), (1, .int (nI n6))]) rfl ?_
    refine g_iload_n X dX8_reach_18 rfl (j := 0) rfl ?_
    refine g_bipush X dX8_reach_19 (v := 7) (by decide) ?_
    refine g_icmp_gt X dX8_reach_21 (tgt := 36) (by decide) (fun q8 => ?_) (fun q8 => ?_)
    · skip
      have q8 : 7 < i18_3 := (nI_ltI (a := 7) (b := i18_3) (by omega) (by omega)).mp q8
      refine g_iload_n X dX8_reach_36 rfl (j := 1) rfl ?_
      exact g_iret X hrt dX8_reach_37 (by decide) (by decide) ⟨C, D, F, I, K, trivial⟩
    · skip
      have q8 : ¬ 7 < i18_3 := fun z => q8 ((nI_ltI (a := 7) (b := i18_3) (by omega) (by omega)).mpr z)
      refine g_aload_n X dX8_reach_24 rfl (j := 2) rfl ?_
      refine g_iload_n X dX8_reach_25 rfl (j := 1) rfl ?_
      refine g_callVI X (s_X8_goOn l G F I v18_2 ) lk_X8_349 (F.1 100 rfl).2 (F.1 100 rfl).1 rfl rfl dX8_reach_26 (Nat.le_of_ble_eq_true rfl) ⟨by decide, by decide⟩ ⟨by decide, by decide⟩ (fun r9 L M hp => ?_)
      obtain ⟨C, D, F, I, K1, hr⟩ := hp
      have K := K.step K1 (by decide)
      refine g_istore_n X dX8_reach_29 rfl (by decide) (lv2 := [(2, .int r9), (3, .int (nI i18_3)), (0, .ref (a 100)), (1, .int (nI n6))]) rfl ?_
      refine g_iinc X dX8_reach_30 (j := 1) rfl (v := nI (i18_3 + 1)) (nI_1 i18_3) (by decide) (lv2 := [(3, .int (nI (i18_3 + 1))), (2, .int r9), (0, .ref (a 100)), (1, .int (nI n6))]) rfl ?_
      refine g_goto X dX8_reach_33 (tgt := 18) (by decide) ?_
      refine g_lv [0, 1, 2, 3] (lv2 := [(3, .int (nI (i18_3 + 1))), (2, .int r9), (0, .ref (a 100)), (1, .int (nI n6))]) rfl ?_
      exact ih18 ((i18_3 + 1), r9) L M C D F I K ⟨by omega, by omega⟩ (by show _ < _; omega)
set_option maxHeartbeats 4000000 in
set_option maxRecDepth 100000 in
theorem s_X8_far (l : Launch) (G : va_G) {cy : Nat → ClassId} {L : List Nat} {M : Nat → va_E} {a : Nat → Nat} {act : Nat → Bool} {C0 : Nat → Nat → Int32} {D0 : Nat → Nat → Int64} {R : Nat → Nat → Option Nat} (F : WI L M a act (ent cy a C0 D0 R)) (I : Inv C0) (p0 : Int32) (p1 : Int32)  : MI l G cy yX8_far cX8_far 5 (some .int) 3 0 0 [.ref (a 100), .int p0, .int p1] L M (fun r L2 M2 => ∃ C2 D2, WI L2 M2 a act (ent cy a C2 D2 R) ∧ Inv C2 ∧ Kp [] C0 D0 C2 D2 ∧ True) := by
  refine MI.of (own := RX8) rfl (by decide) (Nat.le_of_ble_eq_true rfl) ?_
  intro p e s m below meth c A X hrt hnm
  obtain ⟨C, D, hC0, hD0, F, I, K⟩ : ∃ C D, C = C0 ∧ D = D0 ∧ WI L M a act (ent cy a C D R) ∧ Inv C ∧ Kp [] C0 D0 C D := ⟨C0, D0, rfl, rfl, F, I, Kp.rf⟩
  obtain ⟨n1, hn1, en1⟩ := rg_nat ((show okw 0 (C 101 0) from I 101 0).1 rfl) (by decide)
  rw [hC0] at en1
  obtain ⟨n2, hn2, en2⟩ := rg_nat ((show okw 4 (C 101 4) from I 101 4).2.2.2.1 rfl) (by decide)
  rw [hC0] at en2
  obtain ⟨n3, hn3, en3⟩ := rg_nat ((show okw 7 (C 101 7) from I 101 7).2.2.2.2.1 rfl) (by decide)
  rw [hC0] at en3
  refine g_aload_n X dX8_far_0 rfl (j := 0) rfl ?_
  refine g_iload_n X dX8_far_1 rfl (j := 1) rfl ?_
  refine g_i2l X dX8_far_2 rfl ?_
  refine g_callVI X (s_X8_isPost l G F I ((Int32.toInt64 p0)) ) lk_X8_112 (F.1 100 rfl).2 (F.1 100 rfl).1 rfl rfl dX8_far_3 (Nat.le_of_ble_eq_true rfl) ⟨by decide, by decide⟩ ⟨by decide, by decide⟩ (fun r4 L M hp => ?_)
  obtain ⟨C, D, F, I, K1, hr⟩ := hp
  have K := K.step K1 (by decide)
  rcases hr with rfl | ⟨rfl, hl5a, hl5b⟩
  · skip
    refine g_if_eq X dX8_far_6 (tgt := 18) (by decide) (fun _ => ?_) (fun q => absurd (by decide) q)
    refine g_bipush X dX8_far_18 (v := -2) (by decide) ?_
    exact g_iret X hrt dX8_far_20 (by decide) (by decide) ⟨C, D, F, I, K, trivial⟩
  · skip
    rw [Jvm.Kit.i64_of_i32] at hl5a hl5b
    obtain ⟨n6, hn6a, hn6b, en6⟩ := nI_ofInt (x := p0) (lo := 0) (hi := 6) (by omega) (by omega) (by decide)
    subst en6
    refine g_if_eq X dX8_far_6 (tgt := 18) (by decide) (fun q => absurd q (by decide)) (fun _ => ?_)
    refine g_aload_n X dX8_far_9 rfl (j := 0) rfl ?_
    refine g_iload_n X dX8_far_10 rfl (j := 2) rfl ?_
    refine g_i2l X dX8_far_11 rfl ?_
    refine g_callVI X (s_X8_isPlace l G F I ((Int32.toInt64 p1)) ) lk_X8_305 (F.1 100 rfl).2 (F.1 100 rfl).1 rfl rfl dX8_far_12 (Nat.le_of_ble_eq_true rfl) ⟨by decide, by decide⟩ ⟨by decide, by decide⟩ (fun r7 L M hp => ?_)
    obtain ⟨C, D, F, I, K1, hr⟩ := hp
    have K := K.step K1 (by decide)
    rcases hr with rfl | rfl
    · skip
      refine g_if_ne X dX8_far_15 (tgt := 21) (by decide) (fun q => absurd (by decide) q) (fun _ => ?_)
      refine g_bipush X dX8_far_18 (v := -2) (by decide) ?_
      exact g_iret X hrt dX8_far_20 (by decide) (by decide) ⟨C, D, F, I, K, trivial⟩
    · skip
      refine g_if_ne X dX8_far_15 (tgt := 21) (by decide) (fun _ => ?_) (fun q => absurd q (by decide))
      refine g_iconst X dX8_far_21 (v := 1) (by decide) ?_
      refine g_iload_n X dX8_far_22 rfl (j := 1) rfl ?_
      refine g_ishl X dX8_far_23 ?_
      refine Go.gen (fun o8 => ?_)
      refine g_istore_n X dX8_far_24 rfl (by decide) (lv2 := [(3, .int o8), (0, .ref (a 100)), (1, .int (nI n6)), (2, .int p1)]) rfl ?_
      refine g_iconst X dX8_far_25 (v := 0) (by decide) ?_
      refine g_istore X dX8_far_26 (by decide) (lv2 := [(4, .int 0), (3, .int o8), (0, .ref (a 100)), (1, .int (nI n6)), (2, .int p1)]) rfl ?_
      refine g_lv [0, 1, 2, 3, 4] (lv2 := [(4, .int 0), (3, .int o8), (0, .ref (a 100)), (1, .int (nI n6)), (2, .int p1)]) rfl ?_
      refine i_loop (mods := []) (fun x : Nat × Int32 => 8 - x.1) (fun x => [(4, .int (nI (x.1))), (3, .int (x.2)), (0, .ref (a 100)), (1, .int (nI n6)), (2, .int p1)]) (fun x C => 0 ≤ x.1 ∧ x.1 ≤ 8) (fun x L M C D F I K hP ih28 => ?_) ((0, o8) : Nat × Int32) F I K ⟨by show _ ≤ _; omega, by show _ ≤ _; omega⟩
      rcases x with ⟨i28_4, v28_3⟩
      obtain ⟨hi28_4a, hi28_4b⟩ := hP
      refine g_lv [0, 1, 2, 3, 4] (lv2 := [(4, .int (nI i28_4)), (3, .int v28_3), (0, .ref (a 100)), (1, .int (nI n6)), (2, .int p1)]) rfl ?_
      refine g_iload X dX8_far_28 (j := 0) rfl ?_
      refine g_bipush X dX8_far_30 (v := 7) (by decide) ?_
      refine g_icmp_gt X dX8_far_32 (tgt := 59) (by decide) (fun q9 => ?_) (fun q9 => ?_)
      · skip
        have q9 : 7 < i28_4 := (nI_ltI (a := 7) (b := i28_4) (by omega) (by omega)).mp q9
        refine g_iconst X dX8_far_59 (v := -1) (by decide) ?_
        exact g_iret X hrt dX8_far_60 (by decide) (by decide) ⟨C, D, F, I, K, trivial⟩
      · skip
        have q9 : ¬ 7 < i28_4 := fun z => q9 ((nI_ltI (a := 7) (b := i28_4) (by omega) (by omega)).mpr z)
        refine g_iload_n X dX8_far_35 rfl (j := 1) rfl ?_
        refine g_iload_n X dX8_far_36 rfl (j := 4) rfl ?_
        refine g_callSI X (s_X8_bit l G F I v28_3 p1 ) lk_X8_266 rfl rfl dX8_far_37 (Nat.le_of_ble_eq_true rfl) ⟨by decide, by decide⟩ ⟨by decide, by decide⟩ (fun r10 L M hp => ?_)
        obtain ⟨C, D, F, I, K1, hr⟩ := hp
        have K := K.step K1 (by decide)
        obtain ⟨n11, hn11a, hn11b, rfl⟩ := hr
        refine g_iconst X dX8_far_40 (v := 1) (by decide) ?_
        refine g_icmp_ne X dX8_far_41 (tgt := 47) (by decide) (fun q12 => ?_) (fun q12 => ?_)
        · skip
          have q12 : ¬ n11 = 1 := fun z => q12 ((nI_eq (a := n11) (b := 1) (by omega) (by omega)).mpr z)
          refine g_aload_n X dX8_far_47 rfl (j := 2) rfl ?_
          refine g_iload_n X dX8_far_48 rfl (j := 1) rfl ?_
          refine g_callVI X (s_X8_goOn l G F I v28_3 ) lk_X8_349 (F.1 100 rfl).2 (F.1 100 rfl).1 rfl rfl dX8_far_49 (Nat.le_of_ble_eq_true rfl) ⟨by decide, by decide⟩ ⟨by decide, by decide⟩ (fun r13 L M hp => ?_)
          obtain ⟨C, D, F, I, K1, hr⟩ := hp
          have K := K.step K1 (by decide)
          refine g_istore_n X dX8_far_52 rfl (by decide) (lv2 := [(3, .int r13), (4, .int (nI i28_4)), (0, .ref (a 100)), (1, .int (nI n6)), (2, .int p1)]) rfl ?_
          refine g_iinc X dX8_far_53 (j := 1) rfl (v := nI (i28_4 + 1)) (nI_1 i28_4) (by decide) (lv2 := [(4, .int (nI (i28_4 + 1))), (3, .int r13), (0, .ref (a 100)), (1, .int (nI n6)), (2, .int p1)]) rfl ?_
          refine g_goto X dX8_far_56 (tgt := 28) (by decide) ?_
          refine g_lv [0, 1, 2, 3, 4] (lv2 := [(4, .int (nI (i28_4 + 1))), (3, .int r13), (0, .ref (a 100)), (1, .int (nI n6)), (2, .int p1)]) rfl ?_
          exact ih28 ((i28_4 + 1), r13) L M C D F I K ⟨by omega, by omega⟩ (by show _ < _; omega)
        · skip
          have q12 : n11 = 1 := (nI_eq (a := n11) (b := 1) (by omega) (by omega)).mp q12
          refine g_iload X dX8_far_44 (j := 0) rfl ?_
          exact g_iret X hrt dX8_far_46 (by decide) (by decide) ⟨C, D, F, I, K, trivial⟩
set_option maxHeartbeats 4000000 in
set_option maxRecDepth 100000 in
theorem s_X8_numberOf (l : Launch) (G : va_G) {cy : Nat → ClassId} {L : List Nat} {M : Nat → va_E} {a : Nat → Nat} {act : Nat → Bool} {C0 : Nat → Nat → Int32} {D0 : Nat → Nat → Int64} {R : Nat → Nat → Option Nat} (F : WI L M a act (ent cy a C0 D0 R)) (I : Inv C0)   : MI l G cy yX8_numberOf cX8_numberOf 4 (some .int) 1 0 0 [.ref (a 100)] L M (fun r L2 M2 => ∃ C2 D2, WI L2 M2 a act (ent cy a C2 D2 R) ∧ Inv C2 ∧ Kp [] C0 D0 C2 D2 ∧ True) := by
  refine MI.of (own := RX8) rfl (by decide) (Nat.le_of_ble_eq_true rfl) ?_
  intro p e s m below meth c A X hrt hnm
  obtain ⟨C, D, hC0, hD0, F, I, K⟩ : ∃ C D, C = C0 ∧ D = D0 ∧ WI L M a act (ent cy a C D R) ∧ Inv C ∧ Kp [] C0 D0 C D := ⟨C0, D0, rfl, rfl, F, I, Kp.rf⟩
  obtain ⟨n1, hn1, en1⟩ := rg_nat ((show okw 0 (C 101 0) from I 101 0).1 rfl) (by decide)
  rw [hC0] at en1
  obtain ⟨n2, hn2, en2⟩ := rg_nat ((show okw 4 (C 101 4) from I 101 4).2.2.2.1 rfl) (by decide)
  rw [hC0] at en2
  obtain ⟨n3, hn3, en3⟩ := rg_nat ((show okw 7 (C 101 7) from I 101 7).2.2.2.2.1 rfl) (by decide)
  rw [hC0] at en3
  refine g_iconst X dX8_numberOf_0 (v := 0) (by decide) ?_
  refine g_istore_n X dX8_numberOf_1 rfl (by decide) (lv2 := [(1, .int 0), (0, .ref (a 100))]) rfl ?_
  refine g_iconst X dX8_numberOf_2 (v := 1) (by decide) ?_
  refine g_istore_n X dX8_numberOf_3 rfl (by decide) (lv2 := [(2, .int 1), (1, .int 0), (0, .ref (a 100))]) rfl ?_
  refine g_iconst X dX8_numberOf_4 (v := 0) (by decide) ?_
  refine g_istore_n X dX8_numberOf_5 rfl (by decide) (lv2 := [(3, .int 0), (2, .int 1), (1, .int 0), (0, .ref (a 100))]) rfl ?_
  refine g_lv [0, 2, 1, 3] (lv2 := [(3, .int 0), (1, .int 0), (2, .int 1), (0, .ref (a 100))]) rfl ?_
  refine i_loop (mods := []) (fun x : Nat × Int32 × Int32 => 7 - x.1) (fun x => [(3, .int (nI (x.1))), (1, .int (x.2.1)), (2, .int (x.2.2)), (0, .ref (a 100))]) (fun x C => 0 ≤ x.1 ∧ x.1 ≤ 7) (fun x L M C D F I K hP ih6 => ?_) ((0, 0, 1) : Nat × Int32 × Int32) F I K ⟨by show _ ≤ _; omega, by show _ ≤ _; omega⟩
  rcases x with ⟨i6_3, v6_1, v6_2⟩
  obtain ⟨hi6_3a, hi6_3b⟩ := hP
  refine g_lv [0, 1, 2, 3] (lv2 := [(3, .int (nI i6_3)), (1, .int v6_1), (2, .int v6_2), (0, .ref (a 100))]) rfl ?_
  refine g_iload_n X dX8_numberOf_6 rfl (j := 0) rfl ?_
  refine g_aload_n X dX8_numberOf_7 rfl (j := 3) rfl ?_
  refine g_callVI X (s_X8_posts l G F I  ) lk_X8_98 (F.1 100 rfl).2 (F.1 100 rfl).1 rfl rfl dX8_numberOf_8 (Nat.le_of_ble_eq_true rfl) ⟨by decide, by decide⟩ ⟨by decide, by decide⟩ (fun r4 L M hp => ?_)
  obtain ⟨C, D, F, I, K1, hr⟩ := hp
  have K := K.step K1 (by decide)
  obtain ⟨n5, hn5, en5, rfl⟩ := hr
  obtain rfl : n2 = n5 := ((nI_eq (by omega) (by omega)).mp (en5.symm.trans ((congrFun (K 101 (by decide)).1 4).trans en2))).symm
  refine g_icmp_ge X dX8_numberOf_11 (tgt := 50) (by decide) (fun q6 => ?_) (fun q6 => ?_)
  · skip
    have q6 : n2 ≤ i6_3 := (nI_leI (a := n2) (b := i6_3) (by omega) (by omega)).mp q6
    refine g_iload_n X dX8_numberOf_50 rfl (j := 1) rfl ?_
    exact g_iret X hrt dX8_numberOf_51 (by decide) (by decide) ⟨C, D, F, I, K, trivial⟩
  · skip
    have q6 : ¬ n2 ≤ i6_3 := fun z => q6 ((nI_leI (a := n2) (b := i6_3) (by omega) (by omega)).mpr z)
    refine g_aload_n X dX8_numberOf_14 rfl (j := 3) rfl ?_
    refine g_iload_n X dX8_numberOf_15 rfl (j := 0) rfl ?_
    refine g_callVI X (s_X8_roadMany l G F I i6_3 (by omega) (by omega) ) lk_X8_245 (F.1 100 rfl).2 (F.1 100 rfl).1 rfl rfl dX8_numberOf_16 (Nat.le_of_ble_eq_true rfl) ⟨by decide, by decide⟩ ⟨by decide, by decide⟩ (fun r7 L M hp => ?_)
    obtain ⟨C, D, F, I, K1, hr⟩ := hp
    have K := K.step K1 (by decide)
    obtain ⟨n8, hn8, en8, rfl⟩ := hr
    have fn8 : C0 101 (14 + 6 * i6_3) = nI n8 := (congrFun (K 101 (by decide)).1 _).symm.trans en8
    refine g_if_ne X dX8_numberOf_19 (tgt := 25) (by decide) (fun q9 => ?_) (fun q9 => ?_)
    · skip
      have q9 : ¬ n8 = 0 := fun z => q9 ((nI_eq (a := n8) (b := 0) (by omega) (by omega)).mpr z)
      refine g_iload_n X dX8_numberOf_25 rfl (j := 1) rfl ?_
      refine g_iload_n X dX8_numberOf_26 rfl (j := 2) rfl ?_
      refine g_aload_n X dX8_numberOf_27 rfl (j := 3) rfl ?_
      refine i_get X F 100 rfl rfl fk_X8_67 dX8_numberOf_28 rfl ?_
      refine g_iload_n X dX8_numberOf_31 rfl (j := 0) rfl ?_
      obtain ⟨n10, hn10, en10⟩ := rg_nat (I 129 i6_3) (by decide)
      refine i_iald X F 129 rfl rfl dX8_numberOf_32 (vp_in_nI (by omega) (by decide)) (v := nI n10) (by rw [nI_clamp (by omega)]; exact en10) ?_
      refine g_imul X dX8_numberOf_33 ?_
      refine Go.gen (fun o11 => ?_)
      refine g_iadd X dX8_numberOf_34 ?_
      refine Go.gen (fun o12 => ?_)
      refine g_istore_n X dX8_numberOf_35 rfl (by decide) (lv2 := [(1, .int o12), (3, .int (nI i6_3)), (2, .int v6_2), (0, .ref (a 100))]) rfl ?_
      refine g_iload_n X dX8_numberOf_36 rfl (j := 2) rfl ?_
      refine g_aload_n X dX8_numberOf_37 rfl (j := 3) rfl ?_
      refine g_iload_n X dX8_numberOf_38 rfl (j := 1) rfl ?_
      refine g_callVI X (s_X8_roadMany l G F I i6_3 (by omega) (by omega) ) lk_X8_245 (F.1 100 rfl).2 (F.1 100 rfl).1 rfl rfl dX8_numberOf_39 (Nat.le_of_ble_eq_true rfl) ⟨by decide, by decide⟩ ⟨by decide, by decide⟩ (fun r13 L M hp => ?_)
      obtain ⟨C, D, F, I, K1, hr⟩ := hp
      have K := K.step K1 (by decide)
      obtain ⟨n14, hn14, en14, rfl⟩ := hr
      have fn14 : C0 101 (14 + 6 * i6_3) = nI n14 := (congrFun (K 101 (by decide)).1 _).symm.trans en14
      refine g_imul X dX8_numberOf_42 ?_
      refine Go.gen (fun o15 => ?_)
      refine g_istore_n X dX8_numberOf_43 rfl (by decide) (lv2 := [(2, .int o15), (1, .int o12), (3, .int (nI i6_3)), (0, .ref (a 100))]) rfl ?_
      refine g_iinc X dX8_numberOf_44 (j := 2) rfl (v := nI (i6_3 + 1)) (nI_1 i6_3) (by decide) (lv2 := [(3, .int (nI (i6_3 + 1))), (2, .int o15), (1, .int o12), (0, .ref (a 100))]) rfl ?_
      refine g_goto X dX8_numberOf_47 (tgt := 6) (by decide) ?_
      refine g_lv [0, 2, 1, 3] (lv2 := [(3, .int (nI (i6_3 + 1))), (1, .int o12), (2, .int o15), (0, .ref (a 100))]) rfl ?_
      exact ih6 ((i6_3 + 1), o12, o15) L M C D F I K ⟨by omega, by omega⟩ (by show _ < _; omega)
    · skip
      have q9 : n8 = 0 := (nI_eq (a := n8) (b := 0) (by omega) (by omega)).mp q9
      refine g_goto X dX8_numberOf_22 (tgt := 44) (by decide) ?_
      refine g_iinc X dX8_numberOf_44 (j := 0) rfl (v := nI (i6_3 + 1)) (nI_1 i6_3) (by decide) (lv2 := [(3, .int (nI (i6_3 + 1))), (1, .int v6_1), (2, .int v6_2), (0, .ref (a 100))]) rfl ?_
      refine g_goto X dX8_numberOf_47 (tgt := 6) (by decide) ?_
      refine g_lv [0, 1, 2, 3] (lv2 := [(3, .int (nI (i6_3 + 1))), (1, .int v6_1), (2, .int v6_2), (0, .ref (a 100))]) rfl ?_
      exact ih6 ((i6_3 + 1), v6_1, v6_2) L M C D F I K ⟨by omega, by omega⟩ (by show _ < _; omega)
set_option maxHeartbeats 4000000 in
set_option maxRecDepth 100000 in
theorem s_X8_settingMany (l : Launch) (G : va_G) {cy : Nat → ClassId} {L : List Nat} {M : Nat → va_E} {a : Nat → Nat} {act : Nat → Bool} {C0 : Nat → Nat → Int32} {D0 : Nat → Nat → Int64} {R : Nat → Nat → Option Nat} (F : WI L M a act (ent cy a C0 D0 R)) (I : Inv C0)   : MI l G cy yX8_settingMany cX8_settingMany 3 (some .int) 1 0 0 [.ref (a 100)] L M (fun r L2 M2 => ∃ C2 D2, WI L2 M2 a act (ent cy a C2 D2 R) ∧ Inv C2 ∧ Kp [] C0 D0 C2 D2 ∧ True) := by
  refine MI.of (own := RX8) rfl (by decide) (Nat.le_of_ble_eq_true rfl) ?_
  intro p e s m below meth c A X hrt hnm
  obtain ⟨C, D, hC0, hD0, F, I, K⟩ : ∃ C D, C = C0 ∧ D = D0 ∧ WI L M a act (ent cy a C D R) ∧ Inv C ∧ Kp [] C0 D0 C D := ⟨C0, D0, rfl, rfl, F, I, Kp.rf⟩
  obtain ⟨n1, hn1, en1⟩ := rg_nat ((show okw 0 (C 101 0) from I 101 0).1 rfl) (by decide)
  rw [hC0] at en1
  obtain ⟨n2, hn2, en2⟩ := rg_nat ((show okw 4 (C 101 4) from I 101 4).2.2.2.1 rfl) (by decide)
  rw [hC0] at en2
  obtain ⟨n3, hn3, en3⟩ := rg_nat ((show okw 7 (C 101 7) from I 101 7).2.2.2.2.1 rfl) (by decide)
  rw [hC0] at en3
  refine g_iconst X dX8_settingMany_0 (v := 1) (by decide) ?_
  refine g_istore_n X dX8_settingMany_1 rfl (by decide) (lv2 := [(1, .int 1), (0, .ref (a 100))]) rfl ?_
  refine g_iconst X dX8_settingMany_2 (v := 0) (by decide) ?_
  refine g_istore_n X dX8_settingMany_3 rfl (by decide) (lv2 := [(2, .int 0), (1, .int 1), (0, .ref (a 100))]) rfl ?_
  refine g_lv [0, 1, 2] (lv2 := [(2, .int 0), (1, .int 1), (0, .ref (a 100))]) rfl ?_
  refine i_loop (mods := []) (fun x : Nat × Int32 => 7 - x.1) (fun x => [(2, .int (nI (x.1))), (1, .int (x.2)), (0, .ref (a 100))]) (fun x C => 0 ≤ x.1 ∧ x.1 ≤ 7) (fun x L M C D F I K hP ih4 => ?_) ((0, 1) : Nat × Int32) F I K ⟨by show _ ≤ _; omega, by show _ ≤ _; omega⟩
  rcases x with ⟨i4_2, v4_1⟩
  obtain ⟨hi4_2a, hi4_2b⟩ := hP
  refine g_lv [0, 1, 2] (lv2 := [(2, .int (nI i4_2)), (1, .int v4_1), (0, .ref (a 100))]) rfl ?_
  refine g_iload_n X dX8_settingMany_4 rfl (j := 0) rfl ?_
  refine g_aload_n X dX8_settingMany_5 rfl (j := 2) rfl ?_
  refine g_callVI X (s_X8_posts l G F I  ) lk_X8_98 (F.1 100 rfl).2 (F.1 100 rfl).1 rfl rfl dX8_settingMany_6 (Nat.le_of_ble_eq_true rfl) ⟨by decide, by decide⟩ ⟨by decide, by decide⟩ (fun r4 L M hp => ?_)
  obtain ⟨C, D, F, I, K1, hr⟩ := hp
  have K := K.step K1 (by decide)
  obtain ⟨n5, hn5, en5, rfl⟩ := hr
  obtain rfl : n2 = n5 := ((nI_eq (by omega) (by omega)).mp (en5.symm.trans ((congrFun (K 101 (by decide)).1 4).trans en2))).symm
  refine g_icmp_ge X dX8_settingMany_9 (tgt := 30) (by decide) (fun q6 => ?_) (fun q6 => ?_)
  · skip
    have q6 : n2 ≤ i4_2 := (nI_leI (a := n2) (b := i4_2) (by omega) (by omega)).mp q6
    refine g_iload_n X dX8_settingMany_30 rfl (j := 1) rfl ?_
    exact g_iret X hrt dX8_settingMany_31 (by decide) (by decide) ⟨C, D, F, I, K, trivial⟩
  · skip
    have q6 : ¬ n2 ≤ i4_2 := fun z => q6 ((nI_leI (a := n2) (b := i4_2) (by omega) (by omega)).mpr z)
    refine g_iload_n X dX8_settingMany_12 rfl (j := 1) rfl ?_
    refine g_iconst X dX8_settingMany_13 (v := 1) (by decide) ?_
    refine g_aload_n X dX8_settingMany_14 rfl (j := 2) rfl ?_
    refine g_iload_n X dX8_settingMany_15 rfl (j := 0) rfl ?_
    refine g_callVI X (s_X8_roadMany l G F I i4_2 (by omega) (by omega) ) lk_X8_245 (F.1 100 rfl).2 (F.1 100 rfl).1 rfl rfl dX8_settingMany_16 (Nat.le_of_ble_eq_true rfl) ⟨by decide, by decide⟩ ⟨by decide, by decide⟩ (fun r7 L M hp => ?_)
    obtain ⟨C, D, F, I, K1, hr⟩ := hp
    have K := K.step K1 (by decide)
    obtain ⟨n8, hn8, en8, rfl⟩ := hr
    have fn8 : C0 101 (14 + 6 * i4_2) = nI n8 := (congrFun (K 101 (by decide)).1 _).symm.trans en8
    refine g_mmax X wd800 wd79 wd80 wd81 (by decide) (Nat.le_of_ble_eq_true rfl) (by decide) (by decide) dX8_settingMany_19 (fun o9 => ?_)
    refine g_imul X dX8_settingMany_22 ?_
    refine Go.gen (fun o10 => ?_)
    refine g_istore_n X dX8_settingMany_23 rfl (by decide) (lv2 := [(1, .int o10), (2, .int (nI i4_2)), (0, .ref (a 100))]) rfl ?_
    refine g_iinc X dX8_settingMany_24 (j := 1) rfl (v := nI (i4_2 + 1)) (nI_1 i4_2) (by decide) (lv2 := [(2, .int (nI (i4_2 + 1))), (1, .int o10), (0, .ref (a 100))]) rfl ?_
    refine g_goto X dX8_settingMany_27 (tgt := 4) (by decide) ?_
    refine g_lv [0, 1, 2] (lv2 := [(2, .int (nI (i4_2 + 1))), (1, .int o10), (0, .ref (a 100))]) rfl ?_
    exact ih4 ((i4_2 + 1), o10) L M C D F I K ⟨by omega, by omega⟩ (by show _ < _; omega)
set_option maxHeartbeats 4000000 in
set_option maxRecDepth 100000 in
theorem s_X8_someAt (l : Launch) (G : va_G) {cy : Nat → ClassId} {L : List Nat} {M : Nat → va_E} {a : Nat → Nat} {act : Nat → Bool} {C0 : Nat → Nat → Int32} {D0 : Nat → Nat → Int64} {R : Nat → Nat → Option Nat} (F : WI L M a act (ent cy a C0 D0 R)) (I : Inv C0) (p0 : Nat) (hp0a : 0 ≤ p0) (hp0b : p0 ≤ 16)  : MV l G cy yX8_someAt cX8_someAt 3 none 0 0 0 [.ref (a 100), .int (nI p0)] L M (fun L2 M2 => ∃ C2 D2, WI L2 M2 a act (ent cy a C2 D2 R) ∧ Inv C2 ∧ Kp [129] C0 D0 C2 D2 ∧ True) := by
  refine MV.of (own := RX8) rfl (by decide) (Nat.le_of_ble_eq_true rfl) ?_
  intro p e s m below meth c A X hrt hnm
  obtain ⟨C, D, hC0, hD0, F, I, K⟩ : ∃ C D, C = C0 ∧ D = D0 ∧ WI L M a act (ent cy a C D R) ∧ Inv C ∧ Kp [129] C0 D0 C D := ⟨C0, D0, rfl, rfl, F, I, Kp.rf⟩
  obtain ⟨n1, hn1, en1⟩ := rg_nat ((show okw 0 (C 101 0) from I 101 0).1 rfl) (by decide)
  rw [hC0] at en1
  obtain ⟨n2, hn2, en2⟩ := rg_nat ((show okw 4 (C 101 4) from I 101 4).2.2.2.1 rfl) (by decide)
  rw [hC0] at en2
  obtain ⟨n3, hn3, en3⟩ := rg_nat ((show okw 7 (C 101 7) from I 101 7).2.2.2.2.1 rfl) (by decide)
  rw [hC0] at en3
  refine g_iconst X dX8_someAt_0 (v := 0) (by decide) ?_
  refine g_istore_n X dX8_someAt_1 rfl (by decide) (lv2 := [(2, .int 0), (0, .ref (a 100)), (1, .int (nI p0))]) rfl ?_
  refine g_lv [0, 1, 2] (lv2 := [(2, .int 0), (0, .ref (a 100)), (1, .int (nI p0))]) rfl ?_
  refine i_loop (mods := [129]) (fun x : Nat => 7 - x) (fun x => [(2, .int (nI (x))), (0, .ref (a 100)), (1, .int (nI p0))]) (fun x C => 0 ≤ x ∧ x ≤ 7) (fun x L M C D F I K hP ih2 => ?_) ((0) : Nat) F I K ⟨by show _ ≤ _; omega, by show _ ≤ _; omega⟩
  obtain ⟨i2_2, rfl⟩ : ∃ z, z = x := ⟨_, rfl⟩
  obtain ⟨hi2_2a, hi2_2b⟩ := hP
  refine g_lv [0, 1, 2] (lv2 := [(2, .int (nI i2_2)), (0, .ref (a 100)), (1, .int (nI p0))]) rfl ?_
  refine g_iload_n X dX8_someAt_2 rfl (j := 0) rfl ?_
  refine g_bipush X dX8_someAt_3 (v := 7) (by decide) ?_
  refine g_icmp_ge X dX8_someAt_5 (tgt := 31) (by decide) (fun q4 => ?_) (fun q4 => ?_)
  · skip
    have q4 : 7 ≤ i2_2 := (nI_leI (a := 7) (b := i2_2) (by omega) (by omega)).mp q4
    exact g_vret X hrt dX8_someAt_31 (by decide) (by decide) ⟨C, D, F, I, K, trivial⟩
  · skip
    have q4 : ¬ 7 ≤ i2_2 := fun z => q4 ((nI_leI (a := 7) (b := i2_2) (by omega) (by omega)).mpr z)
    refine g_aload_n X dX8_someAt_8 rfl (j := 1) rfl ?_
    refine i_get X F 100 rfl rfl fk_X8_67 dX8_someAt_9 rfl ?_
    refine g_iload_n X dX8_someAt_12 rfl (j := 0) rfl ?_
    refine g_aload_n X dX8_someAt_13 rfl (j := 1) rfl ?_
    refine i_get X F 100 rfl rfl fk_X8_49 dX8_someAt_14 rfl ?_
    refine g_bipush X dX8_someAt_17 (v := 7) (by decide) ?_
    refine g_iload_n X dX8_someAt_19 rfl (j := 2) rfl ?_
    refine g_imul X dX8_someAt_20 ?_
    refine Go.top (v := .int (nI (7 * p0))) (congrArg Value.int (pk_mul 7 p0)) ?_
    refine g_iload_n X dX8_someAt_21 rfl (j := 0) rfl ?_
    refine g_iadd X dX8_someAt_22 ?_
    refine Go.top (v := .int (nI ((7 * p0) + i2_2))) (congrArg Value.int (nI_add (7 * p0) i2_2)) ?_
    obtain ⟨n5, hn5, en5⟩ := rg_nat (I 123 ((7 * p0) + i2_2)) (by decide)
    refine i_iald X F 123 rfl rfl dX8_someAt_23 (vp_in_nI (by omega) (by decide)) (v := nI n5) (by rw [nI_clamp (by omega)]; exact en5) ?_
    refine i_iast X F I 129 rfl (fun _ => rfl) dX8_someAt_24 (vp_in_nI (by omega) (by decide)) (rg_of (n := n5) (by omega) (by omega) (by omega)) (fun M C F I K1 hC => ?_)
    have K := K.step K1 (by decide)
    refine g_iinc X dX8_someAt_25 (j := 0) rfl (v := nI (i2_2 + 1)) (nI_1 i2_2) (by decide) (lv2 := [(2, .int (nI (i2_2 + 1))), (0, .ref (a 100)), (1, .int (nI p0))]) rfl ?_
    refine g_goto X dX8_someAt_28 (tgt := 2) (by decide) ?_
    refine g_lv [0, 1, 2] (lv2 := [(2, .int (nI (i2_2 + 1))), (0, .ref (a 100)), (1, .int (nI p0))]) rfl ?_
    exact ih2 ((i2_2 + 1)) L M C D F I K ⟨by omega, by omega⟩ (by show _ < _; omega)
set_option maxHeartbeats 4000000 in
set_option maxRecDepth 100000 in
theorem s_X8_settingAt (l : Launch) (G : va_G) {cy : Nat → ClassId} {L : List Nat} {M : Nat → va_E} {a : Nat → Nat} {act : Nat → Bool} {C0 : Nat → Nat → Int32} {D0 : Nat → Nat → Int64} {R : Nat → Nat → Option Nat} (F : WI L M a act (ent cy a C0 D0 R)) (I : Inv C0) (p0 : Nat) (hp0a : 0 ≤ p0) (hp0b : p0 ≤ 16)  : MI l G cy yX8_settingAt cX8_settingAt 2 (some .int) 2 0 0 [.ref (a 100), .int (nI p0)] L M (fun r L2 M2 => ∃ C2 D2, WI L2 M2 a act (ent cy a C2 D2 R) ∧ Inv C2 ∧ Kp [129] C0 D0 C2 D2 ∧ True) := by
  refine MI.of (own := RX8) rfl (by decide) (Nat.le_of_ble_eq_true rfl) ?_
  intro p e s m below meth c A X hrt hnm
  obtain ⟨C, D, hC0, hD0, F, I, K⟩ : ∃ C D, C = C0 ∧ D = D0 ∧ WI L M a act (ent cy a C D R) ∧ Inv C ∧ Kp [129] C0 D0 C D := ⟨C0, D0, rfl, rfl, F, I, Kp.rf⟩
  obtain ⟨n1, hn1, en1⟩ := rg_nat ((show okw 0 (C 101 0) from I 101 0).1 rfl) (by decide)
  rw [hC0] at en1
  obtain ⟨n2, hn2, en2⟩ := rg_nat ((show okw 4 (C 101 4) from I 101 4).2.2.2.1 rfl) (by decide)
  rw [hC0] at en2
  obtain ⟨n3, hn3, en3⟩ := rg_nat ((show okw 7 (C 101 7) from I 101 7).2.2.2.2.1 rfl) (by decide)
  rw [hC0] at en3
  refine g_aload_n X dX8_settingAt_0 rfl (j := 0) rfl ?_
  refine g_iload_n X dX8_settingAt_1 rfl (j := 1) rfl ?_
  refine g_callVV X (s_X8_someAt l G F I p0 (by omega) (by omega) ) lk_X8_352 (F.1 100 rfl).2 (F.1 100 rfl).1 rfl rfl dX8_settingAt_2 (Nat.le_of_ble_eq_true rfl) ⟨by decide, by decide⟩ ⟨by decide, by decide⟩ (fun L M hp => ?_)
  obtain ⟨C, D, F, I, K1, hr⟩ := hp
  have K := K.step K1 (by decide)
  refine g_aload_n X dX8_settingAt_5 rfl (j := 0) rfl ?_
  refine g_callVI X (s_X8_numberOf l G F I  ) lk_X8_355 (F.1 100 rfl).2 (F.1 100 rfl).1 rfl rfl dX8_settingAt_6 (Nat.le_of_ble_eq_true rfl) ⟨by decide, by decide⟩ ⟨by decide, by decide⟩ (fun r4 L M hp => ?_)
  obtain ⟨C, D, F, I, K1, hr⟩ := hp
  have K := K.step K1 (by decide)
  exact g_iret X hrt dX8_settingAt_9 (by decide) (by decide) ⟨C, D, F, I, K, trivial⟩
set_option maxHeartbeats 4000000 in
set_option maxRecDepth 100000 in
theorem s_X8_setting (l : Launch) (G : va_G) {cy : Nat → ClassId} {L : List Nat} {M : Nat → va_E} {a : Nat → Nat} {act : Nat → Bool} {C0 : Nat → Nat → Int32} {D0 : Nat → Nat → Int64} {R : Nat → Nat → Option Nat} (F : WI L M a act (ent cy a C0 D0 R)) (I : Inv C0) (p0 : Int32)  : MI l G cy yX8_setting cX8_setting 2 (some .int) 8 0 0 [.ref (a 100), .int p0] L M (fun r L2 M2 => ∃ C2 D2, WI L2 M2 a act (ent cy a C2 D2 R) ∧ Inv C2 ∧ Kp [100, 115, 116, 120, 121, 122, 123, 124, 125, 126, 127, 128, 129] C0 D0 C2 D2 ∧ True) := by
  refine MI.of (own := RX8) rfl (by decide) (Nat.le_of_ble_eq_true rfl) ?_
  intro p e s m below meth c A X hrt hnm
  obtain ⟨C, D, hC0, hD0, F, I, K⟩ : ∃ C D, C = C0 ∧ D = D0 ∧ WI L M a act (ent cy a C D R) ∧ Inv C ∧ Kp [100, 115, 116, 120, 121, 122, 123, 124, 125, 126, 127, 128, 129] C0 D0 C D := ⟨C0, D0, rfl, rfl, F, I, Kp.rf⟩
  obtain ⟨n1, hn1, en1⟩ := rg_nat ((show okw 0 (C 101 0) from I 101 0).1 rfl) (by decide)
  rw [hC0] at en1
  obtain ⟨n2, hn2, en2⟩ := rg_nat ((show okw 4 (C 101 4) from I 101 4).2.2.2.1 rfl) (by decide)
  rw [hC0] at en2
  obtain ⟨n3, hn3, en3⟩ := rg_nat ((show okw 7 (C 101 7) from I 101 7).2.2.2.2.1 rfl) (by decide)
  rw [hC0] at en3
  refine g_aload_n X dX8_setting_0 rfl (j := 0) rfl ?_
  refine g_iload_n X dX8_setting_1 rfl (j := 1) rfl ?_
  refine g_callVI X (s_X8_asksHour l G F I p0 ) lk_X8_301 (F.1 100 rfl).2 (F.1 100 rfl).1 rfl rfl dX8_setting_2 (Nat.le_of_ble_eq_true rfl) ⟨by decide, by decide⟩ ⟨by decide, by decide⟩ (fun r4 L M hp => ?_)
  obtain ⟨C, D, F, I, K1, hr⟩ := hp
  have K := K.step K1 (by decide)
  rcases hr with rfl | ⟨rfl, n5, hn5, en5⟩
  · skip
    refine g_if_eq X dX8_setting_5 (tgt := 16) (by decide) (fun _ => ?_) (fun q => absurd (by decide) q)
    refine g_bipush X dX8_setting_16 (v := -2) (by decide) ?_
    exact g_iret X hrt dX8_setting_18 (by decide) (by decide) ⟨C, D, F, I, K, trivial⟩
  · skip
    subst en5
    refine g_if_eq X dX8_setting_5 (tgt := 16) (by decide) (fun q => absurd q (by decide)) (fun _ => ?_)
    refine g_aload_n X dX8_setting_8 rfl (j := 0) rfl ?_
    refine g_iload_n X dX8_setting_9 rfl (j := 1) rfl ?_
    refine g_callVI X (s_X8_settingAt l G F I n5 (by omega) (by omega) ) lk_X8_358 (F.1 100 rfl).2 (F.1 100 rfl).1 rfl rfl dX8_setting_10 (Nat.le_of_ble_eq_true rfl) ⟨by decide, by decide⟩ ⟨by decide, by decide⟩ (fun r6 L M hp => ?_)
    obtain ⟨C, D, F, I, K1, hr⟩ := hp
    have K := K.step K1 (by decide)
    refine g_goto X dX8_setting_13 (tgt := 18) (by decide) ?_
    exact g_iret X hrt dX8_setting_18 (by decide) (by decide) ⟨C, D, F, I, K, trivial⟩
set_option maxHeartbeats 4000000 in
set_option maxRecDepth 100000 in
theorem s_X8_settings (l : Launch) (G : va_G) {cy : Nat → ClassId} {L : List Nat} {M : Nat → va_E} {a : Nat → Nat} {act : Nat → Bool} {C0 : Nat → Nat → Int32} {D0 : Nat → Nat → Int64} {R : Nat → Nat → Option Nat} (F : WI L M a act (ent cy a C0 D0 R)) (I : Inv C0)   : MI l G cy yX8_settings cX8_settings 1 (some .int) 2 0 0 [.ref (a 100)] L M (fun r L2 M2 => ∃ C2 D2, WI L2 M2 a act (ent cy a C2 D2 R) ∧ Inv C2 ∧ Kp [] C0 D0 C2 D2 ∧ True) := by
  refine MI.of (own := RX8) rfl (by decide) (Nat.le_of_ble_eq_true rfl) ?_
  intro p e s m below meth c A X hrt hnm
  obtain ⟨C, D, hC0, hD0, F, I, K⟩ : ∃ C D, C = C0 ∧ D = D0 ∧ WI L M a act (ent cy a C D R) ∧ Inv C ∧ Kp [] C0 D0 C D := ⟨C0, D0, rfl, rfl, F, I, Kp.rf⟩
  obtain ⟨n1, hn1, en1⟩ := rg_nat ((show okw 0 (C 101 0) from I 101 0).1 rfl) (by decide)
  rw [hC0] at en1
  obtain ⟨n2, hn2, en2⟩ := rg_nat ((show okw 4 (C 101 4) from I 101 4).2.2.2.1 rfl) (by decide)
  rw [hC0] at en2
  obtain ⟨n3, hn3, en3⟩ := rg_nat ((show okw 7 (C 101 7) from I 101 7).2.2.2.2.1 rfl) (by decide)
  rw [hC0] at en3
  refine g_aload_n X dX8_settings_0 rfl (j := 0) rfl ?_
  refine g_callVI X (s_X8_isHeath l G F I  ) lk_X8_102 (F.1 100 rfl).2 (F.1 100 rfl).1 rfl rfl dX8_settings_1 (Nat.le_of_ble_eq_true rfl) ⟨by decide, by decide⟩ ⟨by decide, by decide⟩ (fun r4 L M hp => ?_)
  obtain ⟨C, D, F, I, K1, hr⟩ := hp
  have K := K.step K1 (by decide)
  rcases hr with rfl | rfl
  · skip
    refine g_if_eq X dX8_settings_4 (tgt := 14) (by decide) (fun _ => ?_) (fun q => absurd (by decide) q)
    refine g_bipush X dX8_settings_14 (v := -2) (by decide) ?_
    exact g_iret X hrt dX8_settings_16 (by decide) (by decide) ⟨C, D, F, I, K, trivial⟩
  · skip
    refine g_if_eq X dX8_settings_4 (tgt := 14) (by decide) (fun q => absurd q (by decide)) (fun _ => ?_)
    refine g_aload_n X dX8_settings_7 rfl (j := 0) rfl ?_
    refine g_callVI X (s_X8_settingMany l G F I  ) lk_X8_361 (F.1 100 rfl).2 (F.1 100 rfl).1 rfl rfl dX8_settings_8 (Nat.le_of_ble_eq_true rfl) ⟨by decide, by decide⟩ ⟨by decide, by decide⟩ (fun r5 L M hp => ?_)
    obtain ⟨C, D, F, I, K1, hr⟩ := hp
    have K := K.step K1 (by decide)
    refine g_goto X dX8_settings_11 (tgt := 16) (by decide) ?_
    exact g_iret X hrt dX8_settings_16 (by decide) (by decide) ⟨C, D, F, I, K, trivial⟩
set_option maxHeartbeats 4000000 in
set_option maxRecDepth 100000 in
theorem s_X8_same (l : Launch) (G : va_G) {cy : Nat → ClassId} {L : List Nat} {M : Nat → va_E} {a : Nat → Nat} {act : Nat → Bool} {C0 : Nat → Nat → Int32} {D0 : Nat → Nat → Int64} {R : Nat → Nat → Option Nat} (F : WI L M a act (ent cy a C0 D0 R)) (I : Inv C0)   : MI l G cy yX8_same cX8_same 2 (some .int) 7 0 0 [.ref (a 100)] L M (fun r L2 M2 => ∃ C2 D2, WI L2 M2 a act (ent cy a C2 D2 R) ∧ Inv C2 ∧ Kp [100, 115, 116, 120, 121, 122, 123, 124, 125, 126, 127, 128, 129] C0 D0 C2 D2 ∧ True) := by
  refine MI.of (own := RX8) rfl (by decide) (Nat.le_of_ble_eq_true rfl) ?_
  intro p e s m below meth c A X hrt hnm
  obtain ⟨C, D, hC0, hD0, F, I, K⟩ : ∃ C D, C = C0 ∧ D = D0 ∧ WI L M a act (ent cy a C D R) ∧ Inv C ∧ Kp [100, 115, 116, 120, 121, 122, 123, 124, 125, 126, 127, 128, 129] C0 D0 C D := ⟨C0, D0, rfl, rfl, F, I, Kp.rf⟩
  obtain ⟨n1, hn1, en1⟩ := rg_nat ((show okw 0 (C 101 0) from I 101 0).1 rfl) (by decide)
  rw [hC0] at en1
  obtain ⟨n2, hn2, en2⟩ := rg_nat ((show okw 4 (C 101 4) from I 101 4).2.2.2.1 rfl) (by decide)
  rw [hC0] at en2
  obtain ⟨n3, hn3, en3⟩ := rg_nat ((show okw 7 (C 101 7) from I 101 7).2.2.2.2.1 rfl) (by decide)
  rw [hC0] at en3
  refine g_aload_n X dX8_same_0 rfl (j := 0) rfl ?_
  refine g_callVI X (s_X8_asksHeath l G F I  ) lk_X8_292 (F.1 100 rfl).2 (F.1 100 rfl).1 rfl rfl dX8_same_1 (Nat.le_of_ble_eq_true rfl) ⟨by decide, by decide⟩ ⟨by decide, by decide⟩ (fun r4 L M hp => ?_)
  obtain ⟨C, D, F, I, K1, hr⟩ := hp
  have K := K.step K1 (by decide)
  rcases hr with rfl | rfl
  · skip
    refine g_if_ne X dX8_same_4 (tgt := 10) (by decide) (fun q => absurd (by decide) q) (fun _ => ?_)
    refine g_bipush X dX8_same_7 (v := -2) (by decide) ?_
    exact g_iret X hrt dX8_same_9 (by decide) (by decide) ⟨C, D, F, I, K, trivial⟩
  · skip
    refine g_if_ne X dX8_same_4 (tgt := 10) (by decide) (fun _ => ?_) (fun q => absurd q (by decide))
    refine g_iconst X dX8_same_10 (v := 1) (by decide) ?_
    refine g_istore_n X dX8_same_11 rfl (by decide) (lv2 := [(1, .int 1), (0, .ref (a 100))]) rfl ?_
    refine g_lv [0, 1] (lv2 := [(1, .int 1), (0, .ref (a 100))]) rfl ?_
    refine i_loop (mods := [100, 115, 116, 120, 121, 122, 123, 124, 125, 126, 127, 128, 129]) (fun x : Nat => 17 - x) (fun x => [(1, .int (nI (x))), (0, .ref (a 100))]) (fun x C => 1 ≤ x ∧ x ≤ 17) (fun x L M C D F I K hP ih12 => ?_) ((1) : Nat) F I K ⟨by show _ ≤ _; omega, by show _ ≤ _; omega⟩
    obtain ⟨i12_1, rfl⟩ : ∃ z, z = x := ⟨_, rfl⟩
    obtain ⟨hi12_1a, hi12_1b⟩ := hP
    refine g_lv [0, 1] (lv2 := [(1, .int (nI i12_1)), (0, .ref (a 100))]) rfl ?_
    refine g_iload_n X dX8_same_12 rfl (j := 0) rfl ?_
    refine g_aload_n X dX8_same_13 rfl (j := 1) rfl ?_
    refine g_callVI X (s_X8_hours l G F I  ) lk_X8_106 (F.1 100 rfl).2 (F.1 100 rfl).1 rfl rfl dX8_same_14 (Nat.le_of_ble_eq_true rfl) ⟨by decide, by decide⟩ ⟨by decide, by decide⟩ (fun r5 L M hp => ?_)
    obtain ⟨C, D, F, I, K1, hr⟩ := hp
    have K := K.step K1 (by decide)
    obtain ⟨n6, hn6, en6, rfl⟩ := hr
    obtain rfl : n1 = n6 := ((nI_eq (by omega) (by omega)).mp (en6.symm.trans ((congrFun (K 101 (by decide)).1 0).trans en1))).symm
    refine g_icmp_gt X dX8_same_17 (tgt := 41) (by decide) (fun q7 => ?_) (fun q7 => ?_)
    · skip
      have q7 : n1 < i12_1 := (nI_ltI (a := n1) (b := i12_1) (by omega) (by omega)).mp q7
      refine g_iconst X dX8_same_41 (v := -1) (by decide) ?_
      exact g_iret X hrt dX8_same_42 (by decide) (by decide) ⟨C, D, F, I, K, trivial⟩
    · skip
      have q7 : ¬ n1 < i12_1 := fun z => q7 ((nI_ltI (a := n1) (b := i12_1) (by omega) (by omega)).mpr z)
      refine g_aload_n X dX8_same_20 rfl (j := 1) rfl ?_
      refine g_iload_n X dX8_same_21 rfl (j := 0) rfl ?_
      refine g_callVI X (s_X8_settingAt l G F I i12_1 (by omega) (by omega) ) lk_X8_358 (F.1 100 rfl).2 (F.1 100 rfl).1 rfl rfl dX8_same_22 (Nat.le_of_ble_eq_true rfl) ⟨by decide, by decide⟩ ⟨by decide, by decide⟩ (fun r8 L M hp => ?_)
      obtain ⟨C, D, F, I, K1, hr⟩ := hp
      have K := K.step K1 (by decide)
      refine g_aload_n X dX8_same_25 rfl (j := 1) rfl ?_
      refine g_iconst X dX8_same_26 (v := 0) (by decide) ?_
      refine g_callVI X (s_X8_settingAt l G F I 0 (by omega) (by omega) ) lk_X8_358 (F.1 100 rfl).2 (F.1 100 rfl).1 rfl rfl dX8_same_27 (Nat.le_of_ble_eq_true rfl) ⟨by decide, by decide⟩ ⟨by decide, by decide⟩ (fun r9 L M hp => ?_)
      obtain ⟨C, D, F, I, K1, hr⟩ := hp
      have K := K.step K1 (by decide)
      refine g_icmp_ne X dX8_same_30 (tgt := 35) (by decide) (fun q10 => ?_) (fun q10 => ?_)
      · skip
        refine g_iinc X dX8_same_35 (j := 0) rfl (v := nI (i12_1 + 1)) (nI_1 i12_1) (by decide) (lv2 := [(1, .int (nI (i12_1 + 1))), (0, .ref (a 100))]) rfl ?_
        refine g_goto X dX8_same_38 (tgt := 12) (by decide) ?_
        refine g_lv [0, 1] (lv2 := [(1, .int (nI (i12_1 + 1))), (0, .ref (a 100))]) rfl ?_
        exact ih12 ((i12_1 + 1)) L M C D F I K ⟨by omega, by omega⟩ (by show _ < _; omega)
      · skip
        refine g_iload_n X dX8_same_33 rfl (j := 0) rfl ?_
        exact g_iret X hrt dX8_same_34 (by decide) (by decide) ⟨C, D, F, I, K, trivial⟩
set_option maxHeartbeats 4000000 in
set_option maxRecDepth 100000 in
theorem s_X8_armGoes (l : Launch) (G : va_G) {cy : Nat → ClassId} {L : List Nat} {M : Nat → va_E} {a : Nat → Nat} {act : Nat → Bool} {C0 : Nat → Nat → Int32} {D0 : Nat → Nat → Int64} {R : Nat → Nat → Option Nat} (F : WI L M a act (ent cy a C0 D0 R)) (I : Inv C0) (p0 : Nat) (hp0a : 0 ≤ p0) (hp0b : p0 ≤ 6)  : MI l G cy yX8_armGoes cX8_armGoes 2 (some .int) 1 0 0 [.ref (a 100), .int (nI p0)] L M (fun r L2 M2 => ∃ C2 D2, WI L2 M2 a act (ent cy a C2 D2 R) ∧ Inv C2 ∧ Kp [] C0 D0 C2 D2 ∧ okp r) := by
  refine MI.of (own := RX8) rfl (by decide) (Nat.le_of_ble_eq_true rfl) ?_
  intro p e s m below meth c A X hrt hnm
  obtain ⟨C, D, hC0, hD0, F, I, K⟩ : ∃ C D, C = C0 ∧ D = D0 ∧ WI L M a act (ent cy a C D R) ∧ Inv C ∧ Kp [] C0 D0 C D := ⟨C0, D0, rfl, rfl, F, I, Kp.rf⟩
  obtain ⟨n1, hn1, en1⟩ := rg_nat ((show okw 0 (C 101 0) from I 101 0).1 rfl) (by decide)
  rw [hC0] at en1
  obtain ⟨n2, hn2, en2⟩ := rg_nat ((show okw 4 (C 101 4) from I 101 4).2.2.2.1 rfl) (by decide)
  rw [hC0] at en2
  obtain ⟨n3, hn3, en3⟩ := rg_nat ((show okw 7 (C 101 7) from I 101 7).2.2.2.2.1 rfl) (by decide)
  rw [hC0] at en3
  refine g_aload_n X dX8_armGoes_0 rfl (j := 0) rfl ?_
  refine g_iload_n X dX8_armGoes_1 rfl (j := 1) rfl ?_
  refine g_callVI X (s_X8_roadMany l G F I p0 (by omega) (by omega) ) lk_X8_245 (F.1 100 rfl).2 (F.1 100 rfl).1 rfl rfl dX8_armGoes_2 (Nat.le_of_ble_eq_true rfl) ⟨by decide, by decide⟩ ⟨by decide, by decide⟩ (fun r4 L M hp => ?_)
  obtain ⟨C, D, F, I, K1, hr⟩ := hp
  have K := K.step K1 (by decide)
  obtain ⟨n5, hn5, en5, rfl⟩ := hr
  have fn5 : C0 101 (14 + 6 * p0) = nI n5 := (congrFun (K 101 (by decide)).1 _).symm.trans en5
  refine g_if_ne X dX8_armGoes_5 (tgt := 12) (by decide) (fun q6 => ?_) (fun q6 => ?_)
  · skip
    have q6 : ¬ n5 = 0 := fun z => q6 ((nI_eq (a := n5) (b := 0) (by omega) (by omega)).mpr z)
    refine g_aload_n X dX8_armGoes_12 rfl (j := 0) rfl ?_
    refine g_iload_n X dX8_armGoes_13 rfl (j := 1) rfl ?_
    refine g_aload_n X dX8_armGoes_14 rfl (j := 0) rfl ?_
    refine i_get X F 100 rfl rfl fk_X8_67 dX8_armGoes_15 rfl ?_
    refine g_iload_n X dX8_armGoes_18 rfl (j := 1) rfl ?_
    obtain ⟨n7, hn7, en7⟩ := rg_nat (I 129 p0) (by decide)
    refine i_iald X F 129 rfl rfl dX8_armGoes_19 (vp_in_nI (by omega) (by decide)) (v := nI n7) (by rw [nI_clamp (by omega)]; exact en7) ?_
    refine g_callVI X (s_X8_roadTo l G F I p0 (by omega) (by omega) n7 (by omega) (by omega) ) lk_X8_248 (F.1 100 rfl).2 (F.1 100 rfl).1 rfl rfl dX8_armGoes_20 (Nat.le_of_ble_eq_true rfl) ⟨by decide, by decide⟩ ⟨by decide, by decide⟩ (fun r8 L M hp => ?_)
    obtain ⟨C, D, F, I, K1, hr⟩ := hp
    have K := K.step K1 (by decide)
    obtain ⟨n9, hn9, rfl⟩ := hr
    exact g_iret X hrt dX8_armGoes_23 (by decide) (by decide) ⟨C, D, F, I, K, (okp_of (n := n9) (by omega))⟩
  · skip
    have q6 : n5 = 0 := (nI_eq (a := n5) (b := 0) (by omega) (by omega)).mp q6
    refine g_iconst X dX8_armGoes_8 (v := -1) (by decide) ?_
    refine g_goto X dX8_armGoes_9 (tgt := 23) (by decide) ?_
    exact g_iret X hrt dX8_armGoes_23 (by decide) (by decide) ⟨C, D, F, I, K, okp_m1⟩
set_option maxHeartbeats 4000000 in
set_option maxRecDepth 100000 in
theorem s_X8_isHomeBy (l : Launch) (G : va_G) {cy : Nat → ClassId} {L : List Nat} {M : Nat → va_E} {a : Nat → Nat} {act : Nat → Bool} {C0 : Nat → Nat → Int32} {D0 : Nat → Nat → Int64} {R : Nat → Nat → Option Nat} (F : WI L M a act (ent cy a C0 D0 R)) (I : Inv C0) (p0 : Nat) (hp0a : 0 ≤ p0) (hp0b : p0 ≤ 6)  : MI l G cy yX8_isHomeBy cX8_isHomeBy 4 (some .boolean) 2 0 0 [.ref (a 100), .int (nI p0)] L M (fun r L2 M2 => ∃ C2 D2, WI L2 M2 a act (ent cy a C2 D2 R) ∧ Inv C2 ∧ Kp [] C0 D0 C2 D2 ∧ (r = 0 ∨ r = 1)) := by
  refine MI.of (own := RX8) rfl (by decide) (Nat.le_of_ble_eq_true rfl) ?_
  intro p e s m below meth c A X hrt hnm
  obtain ⟨C, D, hC0, hD0, F, I, K⟩ : ∃ C D, C = C0 ∧ D = D0 ∧ WI L M a act (ent cy a C D R) ∧ Inv C ∧ Kp [] C0 D0 C D := ⟨C0, D0, rfl, rfl, F, I, Kp.rf⟩
  obtain ⟨n1, hn1, en1⟩ := rg_nat ((show okw 0 (C 101 0) from I 101 0).1 rfl) (by decide)
  rw [hC0] at en1
  obtain ⟨n2, hn2, en2⟩ := rg_nat ((show okw 4 (C 101 4) from I 101 4).2.2.2.1 rfl) (by decide)
  rw [hC0] at en2
  obtain ⟨n3, hn3, en3⟩ := rg_nat ((show okw 7 (C 101 7) from I 101 7).2.2.2.2.1 rfl) (by decide)
  rw [hC0] at en3
  refine g_iload_n X dX8_isHomeBy_0 rfl (j := 1) rfl ?_
  refine g_istore_n X dX8_isHomeBy_1 rfl (by decide) (lv2 := [(2, .int (nI p0)), (0, .ref (a 100)), (1, .int (nI p0))]) rfl ?_
  refine g_iconst X dX8_isHomeBy_2 (v := 0) (by decide) ?_
  refine g_istore_n X dX8_isHomeBy_3 rfl (by decide) (lv2 := [(3, .int 0), (2, .int (nI p0)), (0, .ref (a 100)), (1, .int (nI p0))]) rfl ?_
  refine g_lv [0, 1, 2, 3] (lv2 := [(3, .int 0), (2, .int (nI p0)), (0, .ref (a 100)), (1, .int (nI p0))]) rfl ?_
  refine i_loop (mods := []) (fun x : Nat × Int32 => 8 - x.1) (fun x => [(3, .int (nI (x.1))), (2, .int (x.2)), (0, .ref (a 100)), (1, .int (nI p0))]) (fun x C => 0 ≤ x.1 ∧ x.1 ≤ 8) (fun x L M C D F I K hP ih4 => ?_) ((0, nI p0) : Nat × Int32) F I K ⟨by show _ ≤ _; omega, by show _ ≤ _; omega⟩
  rcases x with ⟨i4_3, v4_2⟩
  obtain ⟨hi4_3a, hi4_3b⟩ := hP
  refine g_lv [0, 1, 2, 3] (lv2 := [(3, .int (nI i4_3)), (2, .int v4_2), (0, .ref (a 100)), (1, .int (nI p0))]) rfl ?_
  refine g_iload_n X dX8_isHomeBy_4 rfl (j := 0) rfl ?_
  refine g_bipush X dX8_isHomeBy_5 (v := 7) (by decide) ?_
  refine g_icmp_gt X dX8_isHomeBy_7 (tgt := 34) (by decide) (fun q4 => ?_) (fun q4 => ?_)
  · skip
    have q4 : 7 < i4_3 := (nI_ltI (a := 7) (b := i4_3) (by omega) (by omega)).mp q4
    refine g_iload_n X dX8_isHomeBy_34 rfl (j := 1) rfl ?_
    refine g_bipush X dX8_isHomeBy_35 (v := 10) (by decide) ?_
    refine g_icmp_lt X dX8_isHomeBy_37 (tgt := 44) (by decide) (fun q5 => ?_) (fun q5 => ?_)
    · skip
      have q5t : v4_2.toInt < (10 : Int32).toInt := Int32.lt_iff_toInt_lt.mp q5
      have q5k : (10 : Int32).toInt = 10 := (by decide)
      have q5b := Int32.toInt_lt v4_2
      refine g_iconst X dX8_isHomeBy_44 (v := 0) (by decide) ?_
      exact g_zret X hrt rfl dX8_isHomeBy_45 (by decide) (by decide) ⟨C, D, F, I, K, Or.inl rfl⟩
    · skip
      have q5t : ¬ v4_2.toInt < (10 : Int32).toInt := fun z => q5 (Int32.lt_iff_toInt_lt.mpr z)
      have q5k : (10 : Int32).toInt = 10 := (by decide)
      have q5b := Int32.toInt_lt v4_2
      obtain ⟨n6, hn6, rfl⟩ := nI_of (x := v4_2) (fun z => by have z2 := Int32.lt_iff_toInt_lt.mp z; have z3 : (0 : Int32).toInt = 0 := (by decide); omega)
      rw [nI_toInt (by omega)] at q5t
      have tn6 := nI_toInt (n := n6) (by omega)
      refine g_iconst X dX8_isHomeBy_40 (v := 1) (by decide) ?_
      refine g_goto X dX8_isHomeBy_41 (tgt := 45) (by decide) ?_
      exact g_zret X hrt rfl dX8_isHomeBy_45 (by decide) (by decide) ⟨C, D, F, I, K, Or.inr rfl⟩
  · skip
    have q4 : ¬ 7 < i4_3 := fun z => q4 ((nI_ltI (a := 7) (b := i4_3) (by omega) (by omega)).mpr z)
    refine g_iload_n X dX8_isHomeBy_10 rfl (j := 1) rfl ?_
    refine g_i2l X dX8_isHomeBy_11 rfl ?_
    refine g_lconst X dX8_isHomeBy_12 (v := 0) (by decide) ?_
    refine g_ldc2 X (v := 6) wd784 dX8_isHomeBy_13 ?_
    refine g_callSI X (s_X8_in l G F I ((Int32.toInt64 v4_2)) (0 : Int64) (6 : Int64) ) lk_X8_94 rfl rfl dX8_isHomeBy_16 (Nat.le_of_ble_eq_true rfl) ⟨by decide, by decide⟩ ⟨by decide, by decide⟩ (fun r7 L M hp => ?_)
    obtain ⟨C, D, F, I, K1, hr⟩ := hp
    have K := K.step K1 (by decide)
    rcases hr with ⟨rfl, hq8⟩ | ⟨rfl, hq8⟩
    · skip
      have hq8x := Jvm.Kit.i64_of_i32 v4_2
      have hq8l : (0 : Int64).toInt = 0 := (by decide)
      have hq8h : (6 : Int64).toInt = 6 := (by decide)
      refine g_if_eq X dX8_isHomeBy_19 (tgt := 34) (by decide) (fun _ => ?_) (fun q => absurd (by decide) q)
      refine g_iload_n X dX8_isHomeBy_34 rfl (j := 1) rfl ?_
      refine g_bipush X dX8_isHomeBy_35 (v := 10) (by decide) ?_
      refine g_icmp_lt X dX8_isHomeBy_37 (tgt := 44) (by decide) (fun q9 => ?_) (fun q9 => ?_)
      · skip
        have q9t : v4_2.toInt < (10 : Int32).toInt := Int32.lt_iff_toInt_lt.mp q9
        have q9k : (10 : Int32).toInt = 10 := (by decide)
        have q9b := Int32.toInt_lt v4_2
        refine g_iconst X dX8_isHomeBy_44 (v := 0) (by decide) ?_
        exact g_zret X hrt rfl dX8_isHomeBy_45 (by decide) (by decide) ⟨C, D, F, I, K, Or.inl rfl⟩
      · skip
        have q9t : ¬ v4_2.toInt < (10 : Int32).toInt := fun z => q9 (Int32.lt_iff_toInt_lt.mpr z)
        have q9k : (10 : Int32).toInt = 10 := (by decide)
        have q9b := Int32.toInt_lt v4_2
        obtain ⟨n10, hn10, rfl⟩ := nI_of (x := v4_2) (fun z => by have z2 := Int32.lt_iff_toInt_lt.mp z; have z3 : (0 : Int32).toInt = 0 := (by decide); omega)
        rw [nI_toInt (by omega)] at q9t
        have tn10 := nI_toInt (n := n10) (by omega)
        refine g_iconst X dX8_isHomeBy_40 (v := 1) (by decide) ?_
        refine g_goto X dX8_isHomeBy_41 (tgt := 45) (by decide) ?_
        exact g_zret X hrt rfl dX8_isHomeBy_45 (by decide) (by decide) ⟨C, D, F, I, K, Or.inr rfl⟩
    · skip
      have hq8x := Jvm.Kit.i64_of_i32 v4_2
      have hq8l : (0 : Int64).toInt = 0 := (by decide)
      have hq8h : (6 : Int64).toInt = 6 := (by decide)
      obtain ⟨n11, hn11a, hn11b, en11⟩ := nI_ofInt (x := v4_2) (lo := 0) (hi := 6) (by omega) (by omega) (by decide)
      subst en11
      have tn11 := nI_toInt (n := n11) (by omega)
      refine g_if_eq X dX8_isHomeBy_19 (tgt := 34) (by decide) (fun q => absurd q (by decide)) (fun _ => ?_)
      refine g_aload_n X dX8_isHomeBy_22 rfl (j := 2) rfl ?_
      refine g_iload_n X dX8_isHomeBy_23 rfl (j := 1) rfl ?_
      refine g_callVI X (s_X8_armGoes l G F I n11 (by omega) (by omega) ) lk_X8_364 (F.1 100 rfl).2 (F.1 100 rfl).1 rfl rfl dX8_isHomeBy_24 (Nat.le_of_ble_eq_true rfl) ⟨by decide, by decide⟩ ⟨by decide, by decide⟩ (fun r12 L M hp => ?_)
      obtain ⟨C, D, F, I, K1, hr⟩ := hp
      have K := K.step K1 (by decide)
      rcases okp_nat hr with rfl | ⟨n13, hn13, rfl⟩
      · skip
        refine g_istore_n X dX8_isHomeBy_27 rfl (by decide) (lv2 := [(2, .int (-1)), (3, .int (nI i4_3)), (0, .ref (a 100)), (1, .int (nI p0))]) rfl ?_
        refine g_iinc X dX8_isHomeBy_28 (j := 1) rfl (v := nI (i4_3 + 1)) (nI_1 i4_3) (by decide) (lv2 := [(3, .int (nI (i4_3 + 1))), (2, .int (-1)), (0, .ref (a 100)), (1, .int (nI p0))]) rfl ?_
        refine g_goto X dX8_isHomeBy_31 (tgt := 4) (by decide) ?_
        refine g_lv [0, 1, 2, 3] (lv2 := [(3, .int (nI (i4_3 + 1))), (2, .int (-1)), (0, .ref (a 100)), (1, .int (nI p0))]) rfl ?_
        exact ih4 ((i4_3 + 1), -1) L M C D F I K ⟨by omega, by omega⟩ (by show _ < _; omega)
      · skip
        refine g_istore_n X dX8_isHomeBy_27 rfl (by decide) (lv2 := [(2, .int (nI n13)), (3, .int (nI i4_3)), (0, .ref (a 100)), (1, .int (nI p0))]) rfl ?_
        refine g_iinc X dX8_isHomeBy_28 (j := 1) rfl (v := nI (i4_3 + 1)) (nI_1 i4_3) (by decide) (lv2 := [(3, .int (nI (i4_3 + 1))), (2, .int (nI n13)), (0, .ref (a 100)), (1, .int (nI p0))]) rfl ?_
        refine g_goto X dX8_isHomeBy_31 (tgt := 4) (by decide) ?_
        refine g_lv [0, 1, 2, 3] (lv2 := [(3, .int (nI (i4_3 + 1))), (2, .int (nI n13)), (0, .ref (a 100)), (1, .int (nI p0))]) rfl ?_
        exact ih4 ((i4_3 + 1), nI n13) L M C D F I K ⟨by omega, by omega⟩ (by show _ < _; omega)
set_option maxHeartbeats 4000000 in
set_option maxRecDepth 100000 in
theorem s_X8_isTree (l : Launch) (G : va_G) {cy : Nat → ClassId} {L : List Nat} {M : Nat → va_E} {a : Nat → Nat} {act : Nat → Bool} {C0 : Nat → Nat → Int32} {D0 : Nat → Nat → Int64} {R : Nat → Nat → Option Nat} (F : WI L M a act (ent cy a C0 D0 R)) (I : Inv C0)   : MI l G cy yX8_isTree cX8_isTree 3 (some .boolean) 3 0 0 [.ref (a 100)] L M (fun r L2 M2 => ∃ C2 D2, WI L2 M2 a act (ent cy a C2 D2 R) ∧ Inv C2 ∧ Kp [] C0 D0 C2 D2 ∧ (r = 0 ∨ r = 1)) := by
  refine MI.of (own := RX8) rfl (by decide) (Nat.le_of_ble_eq_true rfl) ?_
  intro p e s m below meth c A X hrt hnm
  obtain ⟨C, D, hC0, hD0, F, I, K⟩ : ∃ C D, C = C0 ∧ D = D0 ∧ WI L M a act (ent cy a C D R) ∧ Inv C ∧ Kp [] C0 D0 C D := ⟨C0, D0, rfl, rfl, F, I, Kp.rf⟩
  obtain ⟨n1, hn1, en1⟩ := rg_nat ((show okw 0 (C 101 0) from I 101 0).1 rfl) (by decide)
  rw [hC0] at en1
  obtain ⟨n2, hn2, en2⟩ := rg_nat ((show okw 4 (C 101 4) from I 101 4).2.2.2.1 rfl) (by decide)
  rw [hC0] at en2
  obtain ⟨n3, hn3, en3⟩ := rg_nat ((show okw 7 (C 101 7) from I 101 7).2.2.2.2.1 rfl) (by decide)
  rw [hC0] at en3
  refine g_iconst X dX8_isTree_0 (v := 1) (by decide) ?_
  refine g_istore_n X dX8_isTree_1 rfl (by decide) (lv2 := [(1, .int 1), (0, .ref (a 100))]) rfl ?_
  refine g_iconst X dX8_isTree_2 (v := 0) (by decide) ?_
  refine g_istore_n X dX8_isTree_3 rfl (by decide) (lv2 := [(2, .int 0), (1, .int 1), (0, .ref (a 100))]) rfl ?_
  refine g_lv [0, 1, 2] (lv2 := [(2, .int 0), (1, .int 1), (0, .ref (a 100))]) rfl ?_
  refine i_loop (mods := []) (fun x : Nat × Int32 => 7 - x.1) (fun x => [(2, .int (nI (x.1))), (1, .int (x.2)), (0, .ref (a 100))]) (fun x C => 0 ≤ x.1 ∧ x.1 ≤ 7 ∧ (x.2 = 0 ∨ x.2 = 1)) (fun x L M C D F I K hP ih4 => ?_) ((0, 1) : Nat × Int32) F I K ⟨by show _ ≤ _; omega, by show _ ≤ _; omega, Or.inr rfl⟩
  rcases x with ⟨i4_2, v4_1⟩
  obtain ⟨hi4_2a, hi4_2b, hb4_1⟩ := hP
  try dsimp only at hb4_1
  refine g_lv [0, 1, 2] (lv2 := [(2, .int (nI i4_2)), (1, .int v4_1), (0, .ref (a 100))]) rfl ?_
  refine g_iload_n X dX8_isTree_4 rfl (j := 0) rfl ?_
  refine g_aload_n X dX8_isTree_5 rfl (j := 2) rfl ?_
  refine g_callVI X (s_X8_posts l G F I  ) lk_X8_98 (F.1 100 rfl).2 (F.1 100 rfl).1 rfl rfl dX8_isTree_6 (Nat.le_of_ble_eq_true rfl) ⟨by decide, by decide⟩ ⟨by decide, by decide⟩ (fun r4 L M hp => ?_)
  obtain ⟨C, D, F, I, K1, hr⟩ := hp
  have K := K.step K1 (by decide)
  obtain ⟨n5, hn5, en5, rfl⟩ := hr
  obtain rfl : n2 = n5 := ((nI_eq (by omega) (by omega)).mp (en5.symm.trans ((congrFun (K 101 (by decide)).1 4).trans en2))).symm
  refine g_icmp_ge X dX8_isTree_9 (tgt := 44) (by decide) (fun q6 => ?_) (fun q6 => ?_)
  · skip
    have q6 : n2 ≤ i4_2 := (nI_leI (a := n2) (b := i4_2) (by omega) (by omega)).mp q6
    rcases hb4_1 with rfl | rfl
    · skip
      refine g_iload_n X dX8_isTree_44 rfl (j := 1) rfl ?_
      exact g_zret X hrt rfl dX8_isTree_45 (by decide) (by decide) ⟨C, D, F, I, K, Or.inl rfl⟩
    · skip
      refine g_iload_n X dX8_isTree_44 rfl (j := 1) rfl ?_
      exact g_zret X hrt rfl dX8_isTree_45 (by decide) (by decide) ⟨C, D, F, I, K, Or.inr rfl⟩
  · skip
    have q6 : ¬ n2 ≤ i4_2 := fun z => q6 ((nI_leI (a := n2) (b := i4_2) (by omega) (by omega)).mpr z)
    refine g_iload_n X dX8_isTree_12 rfl (j := 1) rfl ?_
    refine g_if_eq X dX8_isTree_13 (tgt := 36) (by decide) (fun q7 => ?_) (fun q7 => ?_)
    · skip
      subst q7
      refine g_iconst X dX8_isTree_36 (v := 0) (by decide) ?_
      refine g_istore_n X dX8_isTree_37 rfl (by decide) (lv2 := [(1, .int 0), (2, .int (nI i4_2)), (0, .ref (a 100))]) rfl ?_
      refine g_iinc X dX8_isTree_38 (j := 1) rfl (v := nI (i4_2 + 1)) (nI_1 i4_2) (by decide) (lv2 := [(2, .int (nI (i4_2 + 1))), (1, .int 0), (0, .ref (a 100))]) rfl ?_
      refine g_goto X dX8_isTree_41 (tgt := 4) (by decide) ?_
      refine g_lv [0, 1, 2] (lv2 := [(2, .int (nI (i4_2 + 1))), (1, .int 0), (0, .ref (a 100))]) rfl ?_
      exact ih4 ((i4_2 + 1), 0) L M C D F I K ⟨by omega, by omega, Or.inl rfl⟩ (by show _ < _; omega)
    · skip
      refine g_aload_n X dX8_isTree_16 rfl (j := 2) rfl ?_
      refine g_iload_n X dX8_isTree_17 rfl (j := 0) rfl ?_
      refine g_callVI X (s_X8_roadMany l G F I i4_2 (by omega) (by omega) ) lk_X8_245 (F.1 100 rfl).2 (F.1 100 rfl).1 rfl rfl dX8_isTree_18 (Nat.le_of_ble_eq_true rfl) ⟨by decide, by decide⟩ ⟨by decide, by decide⟩ (fun r8 L M hp => ?_)
      obtain ⟨C, D, F, I, K1, hr⟩ := hp
      have K := K.step K1 (by decide)
      obtain ⟨n9, hn9, en9, rfl⟩ := hr
      have fn9 : C0 101 (14 + 6 * i4_2) = nI n9 := (congrFun (K 101 (by decide)).1 _).symm.trans en9
      refine g_if_eq X dX8_isTree_21 (tgt := 32) (by decide) (fun q10 => ?_) (fun q10 => ?_)
      · skip
        have q10 : n9 = 0 := (nI_eq (a := n9) (b := 0) (by omega) (by omega)).mp q10
        refine g_iconst X dX8_isTree_32 (v := 1) (by decide) ?_
        refine g_goto X dX8_isTree_33 (tgt := 37) (by decide) ?_
        refine g_istore_n X dX8_isTree_37 rfl (by decide) (lv2 := [(1, .int 1), (2, .int (nI i4_2)), (0, .ref (a 100))]) rfl ?_
        refine g_iinc X dX8_isTree_38 (j := 1) rfl (v := nI (i4_2 + 1)) (nI_1 i4_2) (by decide) (lv2 := [(2, .int (nI (i4_2 + 1))), (1, .int 1), (0, .ref (a 100))]) rfl ?_
        refine g_goto X dX8_isTree_41 (tgt := 4) (by decide) ?_
        refine g_lv [0, 1, 2] (lv2 := [(2, .int (nI (i4_2 + 1))), (1, .int 1), (0, .ref (a 100))]) rfl ?_
        exact ih4 ((i4_2 + 1), 1) L M C D F I K ⟨by omega, by omega, Or.inr rfl⟩ (by show _ < _; omega)
      · skip
        have q10 : ¬ n9 = 0 := fun z => q10 ((nI_eq (a := n9) (b := 0) (by omega) (by omega)).mpr z)
        refine g_aload_n X dX8_isTree_24 rfl (j := 2) rfl ?_
        refine g_iload_n X dX8_isTree_25 rfl (j := 0) rfl ?_
        refine g_callVI X (s_X8_isHomeBy l G F I i4_2 (by omega) (by omega) ) lk_X8_367 (F.1 100 rfl).2 (F.1 100 rfl).1 rfl rfl dX8_isTree_26 (Nat.le_of_ble_eq_true rfl) ⟨by decide, by decide⟩ ⟨by decide, by decide⟩ (fun r11 L M hp => ?_)
        obtain ⟨C, D, F, I, K1, hr⟩ := hp
        have K := K.step K1 (by decide)
        rcases hr with rfl | rfl
        · skip
          refine g_if_eq X dX8_isTree_29 (tgt := 36) (by decide) (fun _ => ?_) (fun q => absurd (by decide) q)
          refine g_iconst X dX8_isTree_36 (v := 0) (by decide) ?_
          refine g_istore_n X dX8_isTree_37 rfl (by decide) (lv2 := [(1, .int 0), (2, .int (nI i4_2)), (0, .ref (a 100))]) rfl ?_
          refine g_iinc X dX8_isTree_38 (j := 1) rfl (v := nI (i4_2 + 1)) (nI_1 i4_2) (by decide) (lv2 := [(2, .int (nI (i4_2 + 1))), (1, .int 0), (0, .ref (a 100))]) rfl ?_
          refine g_goto X dX8_isTree_41 (tgt := 4) (by decide) ?_
          refine g_lv [0, 1, 2] (lv2 := [(2, .int (nI (i4_2 + 1))), (1, .int 0), (0, .ref (a 100))]) rfl ?_
          exact ih4 ((i4_2 + 1), 0) L M C D F I K ⟨by omega, by omega, Or.inl rfl⟩ (by show _ < _; omega)
        · skip
          refine g_if_eq X dX8_isTree_29 (tgt := 36) (by decide) (fun q => absurd q (by decide)) (fun _ => ?_)
          refine g_iconst X dX8_isTree_32 (v := 1) (by decide) ?_
          refine g_goto X dX8_isTree_33 (tgt := 37) (by decide) ?_
          refine g_istore_n X dX8_isTree_37 rfl (by decide) (lv2 := [(1, .int 1), (2, .int (nI i4_2)), (0, .ref (a 100))]) rfl ?_
          refine g_iinc X dX8_isTree_38 (j := 1) rfl (v := nI (i4_2 + 1)) (nI_1 i4_2) (by decide) (lv2 := [(2, .int (nI (i4_2 + 1))), (1, .int 1), (0, .ref (a 100))]) rfl ?_
          refine g_goto X dX8_isTree_41 (tgt := 4) (by decide) ?_
          refine g_lv [0, 1, 2] (lv2 := [(2, .int (nI (i4_2 + 1))), (1, .int 1), (0, .ref (a 100))]) rfl ?_
          exact ih4 ((i4_2 + 1), 1) L M C D F I K ⟨by omega, by omega, Or.inr rfl⟩ (by show _ < _; omega)
set_option maxHeartbeats 4000000 in
set_option maxRecDepth 100000 in
theorem s_X8_tree (l : Launch) (G : va_G) {cy : Nat → ClassId} {L : List Nat} {M : Nat → va_E} {a : Nat → Nat} {act : Nat → Bool} {C0 : Nat → Nat → Int32} {D0 : Nat → Nat → Int64} {R : Nat → Nat → Option Nat} (F : WI L M a act (ent cy a C0 D0 R)) (I : Inv C0) (p0 : Int32)  : MI l G cy yX8_tree cX8_tree 2 (some .int) 8 0 0 [.ref (a 100), .int p0] L M (fun r L2 M2 => ∃ C2 D2, WI L2 M2 a act (ent cy a C2 D2 R) ∧ Inv C2 ∧ Kp [100, 115, 116, 120, 121, 122, 123, 124, 125, 126, 127, 128, 129] C0 D0 C2 D2 ∧ True) := by
  refine MI.of (own := RX8) rfl (by decide) (Nat.le_of_ble_eq_true rfl) ?_
  intro p e s m below meth c A X hrt hnm
  obtain ⟨C, D, hC0, hD0, F, I, K⟩ : ∃ C D, C = C0 ∧ D = D0 ∧ WI L M a act (ent cy a C D R) ∧ Inv C ∧ Kp [100, 115, 116, 120, 121, 122, 123, 124, 125, 126, 127, 128, 129] C0 D0 C D := ⟨C0, D0, rfl, rfl, F, I, Kp.rf⟩
  obtain ⟨n1, hn1, en1⟩ := rg_nat ((show okw 0 (C 101 0) from I 101 0).1 rfl) (by decide)
  rw [hC0] at en1
  obtain ⟨n2, hn2, en2⟩ := rg_nat ((show okw 4 (C 101 4) from I 101 4).2.2.2.1 rfl) (by decide)
  rw [hC0] at en2
  obtain ⟨n3, hn3, en3⟩ := rg_nat ((show okw 7 (C 101 7) from I 101 7).2.2.2.2.1 rfl) (by decide)
  rw [hC0] at en3
  refine g_aload_n X dX8_tree_0 rfl (j := 0) rfl ?_
  refine g_iload_n X dX8_tree_1 rfl (j := 1) rfl ?_
  refine g_callVI X (s_X8_asksHour l G F I p0 ) lk_X8_301 (F.1 100 rfl).2 (F.1 100 rfl).1 rfl rfl dX8_tree_2 (Nat.le_of_ble_eq_true rfl) ⟨by decide, by decide⟩ ⟨by decide, by decide⟩ (fun r4 L M hp => ?_)
  obtain ⟨C, D, F, I, K1, hr⟩ := hp
  have K := K.step K1 (by decide)
  rcases hr with rfl | ⟨rfl, n5, hn5, en5⟩
  · skip
    refine g_if_ne X dX8_tree_5 (tgt := 11) (by decide) (fun q => absurd (by decide) q) (fun _ => ?_)
    refine g_bipush X dX8_tree_8 (v := -2) (by decide) ?_
    exact g_iret X hrt dX8_tree_10 (by decide) (by decide) ⟨C, D, F, I, K, trivial⟩
  · skip
    subst en5
    refine g_if_ne X dX8_tree_5 (tgt := 11) (by decide) (fun _ => ?_) (fun q => absurd q (by decide))
    refine g_aload_n X dX8_tree_11 rfl (j := 0) rfl ?_
    refine g_iload_n X dX8_tree_12 rfl (j := 1) rfl ?_
    refine g_callVV X (s_X8_someAt l G F I n5 (by omega) (by omega) ) lk_X8_352 (F.1 100 rfl).2 (F.1 100 rfl).1 rfl rfl dX8_tree_13 (Nat.le_of_ble_eq_true rfl) ⟨by decide, by decide⟩ ⟨by decide, by decide⟩ (fun L M hp => ?_)
    obtain ⟨C, D, F, I, K1, hr⟩ := hp
    have K := K.step K1 (by decide)
    refine g_aload_n X dX8_tree_16 rfl (j := 0) rfl ?_
    refine g_callVI X (s_X8_isTree l G F I  ) lk_X8_370 (F.1 100 rfl).2 (F.1 100 rfl).1 rfl rfl dX8_tree_17 (Nat.le_of_ble_eq_true rfl) ⟨by decide, by decide⟩ ⟨by decide, by decide⟩ (fun r6 L M hp => ?_)
    obtain ⟨C, D, F, I, K1, hr⟩ := hp
    have K := K.step K1 (by decide)
    rcases hr with rfl | rfl
    · skip
      refine g_if_eq X dX8_tree_20 (tgt := 27) (by decide) (fun _ => ?_) (fun q => absurd (by decide) q)
      refine g_iconst X dX8_tree_27 (v := 0) (by decide) ?_
      exact g_iret X hrt dX8_tree_28 (by decide) (by decide) ⟨C, D, F, I, K, trivial⟩
    · skip
      refine g_if_eq X dX8_tree_20 (tgt := 27) (by decide) (fun q => absurd q (by decide)) (fun _ => ?_)
      refine g_iconst X dX8_tree_23 (v := 1) (by decide) ?_
      refine g_goto X dX8_tree_24 (tgt := 28) (by decide) ?_
      exact g_iret X hrt dX8_tree_28 (by decide) (by decide) ⟨C, D, F, I, K, trivial⟩
set_option maxHeartbeats 4000000 in
set_option maxRecDepth 100000 in
theorem s_X8_ring (l : Launch) (G : va_G) {cy : Nat → ClassId} {L : List Nat} {M : Nat → va_E} {a : Nat → Nat} {act : Nat → Bool} {C0 : Nat → Nat → Int32} {D0 : Nat → Nat → Int64} {R : Nat → Nat → Option Nat} (F : WI L M a act (ent cy a C0 D0 R)) (I : Inv C0) (p0 : Int32)  : MI l G cy yX8_ring cX8_ring 6 (some .int) 8 0 0 [.ref (a 100), .int p0] L M (fun r L2 M2 => ∃ C2 D2, WI L2 M2 a act (ent cy a C2 D2 R) ∧ Inv C2 ∧ Kp [100, 115, 116, 120, 121, 122, 123, 124, 125, 126, 127, 128, 129] C0 D0 C2 D2 ∧ True) := by
  refine MI.of (own := RX8) rfl (by decide) (Nat.le_of_ble_eq_true rfl) ?_
  intro p e s m below meth c A X hrt hnm
  obtain ⟨C, D, hC0, hD0, F, I, K⟩ : ∃ C D, C = C0 ∧ D = D0 ∧ WI L M a act (ent cy a C D R) ∧ Inv C ∧ Kp [100, 115, 116, 120, 121, 122, 123, 124, 125, 126, 127, 128, 129] C0 D0 C D := ⟨C0, D0, rfl, rfl, F, I, Kp.rf⟩
  obtain ⟨n1, hn1, en1⟩ := rg_nat ((show okw 0 (C 101 0) from I 101 0).1 rfl) (by decide)
  rw [hC0] at en1
  obtain ⟨n2, hn2, en2⟩ := rg_nat ((show okw 4 (C 101 4) from I 101 4).2.2.2.1 rfl) (by decide)
  rw [hC0] at en2
  obtain ⟨n3, hn3, en3⟩ := rg_nat ((show okw 7 (C 101 7) from I 101 7).2.2.2.2.1 rfl) (by decide)
  rw [hC0] at en3
  refine g_aload_n X dX8_ring_0 rfl (j := 0) rfl ?_
  refine g_iload_n X dX8_ring_1 rfl (j := 1) rfl ?_
  refine g_callVI X (s_X8_asksHour l G F I p0 ) lk_X8_301 (F.1 100 rfl).2 (F.1 100 rfl).1 rfl rfl dX8_ring_2 (Nat.le_of_ble_eq_true rfl) ⟨by decide, by decide⟩ ⟨by decide, by decide⟩ (fun r4 L M hp => ?_)
  obtain ⟨C, D, F, I, K1, hr⟩ := hp
  have K := K.step K1 (by decide)
  rcases hr with rfl | ⟨rfl, n5, hn5, en5⟩
  · skip
    refine g_if_ne X dX8_ring_5 (tgt := 11) (by decide) (fun q => absurd (by decide) q) (fun _ => ?_)
    refine g_bipush X dX8_ring_8 (v := -2) (by decide) ?_
    exact g_iret X hrt dX8_ring_10 (by decide) (by decide) ⟨C, D, F, I, K, trivial⟩
  · skip
    subst en5
    refine g_if_ne X dX8_ring_5 (tgt := 11) (by decide) (fun _ => ?_) (fun q => absurd q (by decide))
    refine g_aload_n X dX8_ring_11 rfl (j := 0) rfl ?_
    refine g_iload_n X dX8_ring_12 rfl (j := 1) rfl ?_
    refine g_callVV X (s_X8_someAt l G F I n5 (by omega) (by omega) ) lk_X8_352 (F.1 100 rfl).2 (F.1 100 rfl).1 rfl rfl dX8_ring_13 (Nat.le_of_ble_eq_true rfl) ⟨by decide, by decide⟩ ⟨by decide, by decide⟩ (fun L M hp => ?_)
    obtain ⟨C, D, F, I, K1, hr⟩ := hp
    have K := K.step K1 (by decide)
    refine g_iconst X dX8_ring_16 (v := 0) (by decide) ?_
    refine g_istore_n X dX8_ring_17 rfl (by decide) (lv2 := [(2, .int 0), (0, .ref (a 100)), (1, .int (nI n5))]) rfl ?_
    refine g_iconst X dX8_ring_18 (v := 0) (by decide) ?_
    refine g_istore_n X dX8_ring_19 rfl (by decide) (lv2 := [(3, .int 0), (2, .int 0), (0, .ref (a 100)), (1, .int (nI n5))]) rfl ?_
    refine g_lv [0, 1, 2, 3] (lv2 := [(3, .int 0), (2, .int 0), (0, .ref (a 100)), (1, .int (nI n5))]) rfl ?_
    refine i_loop (mods := [100, 115, 116, 120, 121, 122, 123, 124, 125, 126, 127, 128, 129]) (fun x : Nat × Int32 => 7 - x.1) (fun x => [(3, .int (nI (x.1))), (2, .int (x.2)), (0, .ref (a 100)), (1, .int (nI n5))]) (fun x C => 0 ≤ x.1 ∧ x.1 ≤ 7) (fun x L M C D F I K hP ih20 => ?_) ((0, 0) : Nat × Int32) F I K ⟨by show _ ≤ _; omega, by show _ ≤ _; omega⟩
    rcases x with ⟨i20_3, v20_2⟩
    obtain ⟨hi20_3a, hi20_3b⟩ := hP
    refine g_lv [0, 1, 2, 3] (lv2 := [(3, .int (nI i20_3)), (2, .int v20_2), (0, .ref (a 100)), (1, .int (nI n5))]) rfl ?_
    refine g_iload_n X dX8_ring_20 rfl (j := 0) rfl ?_
    refine g_aload_n X dX8_ring_21 rfl (j := 2) rfl ?_
    refine g_callVI X (s_X8_posts l G F I  ) lk_X8_98 (F.1 100 rfl).2 (F.1 100 rfl).1 rfl rfl dX8_ring_22 (Nat.le_of_ble_eq_true rfl) ⟨by decide, by decide⟩ ⟨by decide, by decide⟩ (fun r6 L M hp => ?_)
    obtain ⟨C, D, F, I, K1, hr⟩ := hp
    have K := K.step K1 (by decide)
    obtain ⟨n7, hn7, en7, rfl⟩ := hr
    obtain rfl : n2 = n7 := ((nI_eq (by omega) (by omega)).mp (en7.symm.trans ((congrFun (K 101 (by decide)).1 4).trans en2))).symm
    refine g_icmp_ge X dX8_ring_25 (tgt := 90) (by decide) (fun q8 => ?_) (fun q8 => ?_)
    · skip
      have q8 : n2 ≤ i20_3 := (nI_leI (a := n2) (b := i20_3) (by omega) (by omega)).mp q8
      refine g_iload_n X dX8_ring_90 rfl (j := 1) rfl ?_
      exact g_iret X hrt dX8_ring_91 (by decide) (by decide) ⟨C, D, F, I, K, trivial⟩
    · skip
      have q8 : ¬ n2 ≤ i20_3 := fun z => q8 ((nI_leI (a := n2) (b := i20_3) (by omega) (by omega)).mpr z)
      refine g_iload_n X dX8_ring_28 rfl (j := 0) rfl ?_
      refine g_istore X dX8_ring_29 (by decide) (lv2 := [(4, .int (nI i20_3)), (3, .int (nI i20_3)), (2, .int v20_2), (0, .ref (a 100)), (1, .int (nI n5))]) rfl ?_
      refine g_iconst X dX8_ring_31 (v := 0) (by decide) ?_
      refine g_istore X dX8_ring_32 (by decide) (lv2 := [(5, .int 0), (4, .int (nI i20_3)), (3, .int (nI i20_3)), (2, .int v20_2), (0, .ref (a 100)), (1, .int (nI n5))]) rfl ?_
      refine g_lv [0, 3, 1, 2, 4, 5] (lv2 := [(5, .int 0), (2, .int v20_2), (4, .int (nI i20_3)), (3, .int (nI i20_3)), (0, .ref (a 100)), (1, .int (nI n5))]) rfl ?_
      refine i_loop (mods := [100, 115, 116, 120, 121, 122, 123, 124, 125, 126, 127, 128, 129]) (fun x : Nat × Int32 × Int32 => 7 - x.1) (fun x => [(5, .int (nI (x.1))), (2, .int (x.2.1)), (4, .int (x.2.2)), (3, .int (nI i20_3)), (0, .ref (a 100)), (1, .int (nI n5))]) (fun x C => 0 ≤ x.1 ∧ x.1 ≤ 7) (fun x L M C D F I K hP ih34 => ?_) ((0, v20_2, nI i20_3) : Nat × Int32 × Int32) F I K ⟨by show _ ≤ _; omega, by show _ ≤ _; omega⟩
      rcases x with ⟨i34_5, v34_2, v34_4⟩
      obtain ⟨hi34_5a, hi34_5b⟩ := hP
      refine g_lv [0, 1, 2, 3, 4, 5] (lv2 := [(5, .int (nI i34_5)), (2, .int v34_2), (4, .int v34_4), (3, .int (nI i20_3)), (0, .ref (a 100)), (1, .int (nI n5))]) rfl ?_
      refine g_iload X dX8_ring_34 (j := 0) rfl ?_
      refine g_bipush X dX8_ring_36 (v := 7) (by decide) ?_
      refine g_icmp_ge X dX8_ring_38 (tgt := 84) (by decide) (fun q9 => ?_) (fun q9 => ?_)
      · skip
        have q9 : 7 ≤ i34_5 := (nI_leI (a := 7) (b := i34_5) (by omega) (by omega)).mp q9
        refine g_iinc X dX8_ring_84 (j := 3) rfl (v := nI (i20_3 + 1)) (nI_1 i20_3) (by decide) (lv2 := [(3, .int (nI (i20_3 + 1))), (5, .int (nI i34_5)), (2, .int v34_2), (4, .int v34_4), (0, .ref (a 100)), (1, .int (nI n5))]) rfl ?_
        refine g_goto X dX8_ring_87 (tgt := 20) (by decide) ?_
        refine g_lv [0, 2, 4, 5] (lv2 := [(3, .int (nI (i20_3 + 1))), (2, .int v34_2), (0, .ref (a 100)), (1, .int (nI n5))]) rfl ?_
        exact ih20 ((i20_3 + 1), v34_2) L M C D F I K ⟨by omega, by omega⟩ (by show _ < _; omega)
      · skip
        have q9 : ¬ 7 ≤ i34_5 := fun z => q9 ((nI_leI (a := 7) (b := i34_5) (by omega) (by omega)).mpr z)
        refine g_iload X dX8_ring_41 (j := 2) rfl ?_
        refine g_i2l X dX8_ring_43 rfl ?_
        refine g_lconst X dX8_ring_44 (v := 0) (by decide) ?_
        refine g_ldc2 X (v := 6) wd784 dX8_ring_45 ?_
        refine g_callSI X (s_X8_in l G F I ((Int32.toInt64 v34_4)) (0 : Int64) (6 : Int64) ) lk_X8_94 rfl rfl dX8_ring_48 (Nat.le_of_ble_eq_true rfl) ⟨by decide, by decide⟩ ⟨by decide, by decide⟩ (fun r10 L M hp => ?_)
        obtain ⟨C, D, F, I, K1, hr⟩ := hp
        have K := K.step K1 (by decide)
        rcases hr with ⟨rfl, hq11⟩ | ⟨rfl, hq11⟩
        · skip
          have hq11x := Jvm.Kit.i64_of_i32 v34_4
          have hq11l : (0 : Int64).toInt = 0 := (by decide)
          have hq11h : (6 : Int64).toInt = 6 := (by decide)
          refine g_if_eq X dX8_ring_51 (tgt := 84) (by decide) (fun _ => ?_) (fun q => absurd (by decide) q)
          refine g_iinc X dX8_ring_84 (j := 3) rfl (v := nI (i20_3 + 1)) (nI_1 i20_3) (by decide) (lv2 := [(3, .int (nI (i20_3 + 1))), (5, .int (nI i34_5)), (2, .int v34_2), (4, .int v34_4), (0, .ref (a 100)), (1, .int (nI n5))]) rfl ?_
          refine g_goto X dX8_ring_87 (tgt := 20) (by decide) ?_
          refine g_lv [0, 2, 4, 5] (lv2 := [(3, .int (nI (i20_3 + 1))), (2, .int v34_2), (0, .ref (a 100)), (1, .int (nI n5))]) rfl ?_
          exact ih20 ((i20_3 + 1), v34_2) L M C D F I K ⟨by omega, by omega⟩ (by show _ < _; omega)
        · skip
          have hq11x := Jvm.Kit.i64_of_i32 v34_4
          have hq11l : (0 : Int64).toInt = 0 := (by decide)
          have hq11h : (6 : Int64).toInt = 6 := (by decide)
          obtain ⟨n12, hn12a, hn12b, en12⟩ := nI_ofInt (x := v34_4) (lo := 0) (hi := 6) (by omega) (by omega) (by decide)
          subst en12
          have tn12 := nI_toInt (n := n12) (by omega)
          refine g_if_eq X dX8_ring_51 (tgt := 84) (by decide) (fun q => absurd q (by decide)) (fun _ => ?_)
          refine g_aload_n X dX8_ring_54 rfl (j := 4) rfl ?_
          refine g_iload X dX8_ring_55 (j := 2) rfl ?_
          refine g_callVI X (s_X8_armGoes l G F I n12 (by omega) (by omega) ) lk_X8_364 (F.1 100 rfl).2 (F.1 100 rfl).1 rfl rfl dX8_ring_57 (Nat.le_of_ble_eq_true rfl) ⟨by decide, by decide⟩ ⟨by decide, by decide⟩ (fun r13 L M hp => ?_)
          obtain ⟨C, D, F, I, K1, hr⟩ := hp
          have K := K.step K1 (by decide)
          rcases okp_nat hr with rfl | ⟨n14, hn14, rfl⟩
          · skip
            refine g_istore X dX8_ring_60 (by decide) (lv2 := [(4, .int (-1)), (5, .int (nI i34_5)), (2, .int v34_2), (3, .int (nI i20_3)), (0, .ref (a 100)), (1, .int (nI n5))]) rfl ?_
            refine g_iload_n X dX8_ring_62 rfl (j := 2) rfl ?_
            refine g_iload X dX8_ring_63 (j := 0) rfl ?_
            refine g_iload_n X dX8_ring_65 rfl (j := 3) rfl ?_
            refine g_icmp_ne X dX8_ring_66 (tgt := 75) (by decide) (fun q15 => ?_) (fun q15 => ?_)
            · skip
              refine g_iconst X dX8_ring_75 (v := 0) (by decide) ?_
              refine g_ior X dX8_ring_76 ?_
              refine Go.gen (fun o16 => ?_)
              refine g_istore_n X dX8_ring_77 rfl (by decide) (lv2 := [(2, .int o16), (4, .int (-1)), (5, .int (nI i34_5)), (3, .int (nI i20_3)), (0, .ref (a 100)), (1, .int (nI n5))]) rfl ?_
              refine g_iinc X dX8_ring_78 (j := 2) rfl (v := nI (i34_5 + 1)) (nI_1 i34_5) (by decide) (lv2 := [(5, .int (nI (i34_5 + 1))), (2, .int o16), (4, .int (-1)), (3, .int (nI i20_3)), (0, .ref (a 100)), (1, .int (nI n5))]) rfl ?_
              refine g_goto X dX8_ring_81 (tgt := 34) (by decide) ?_
              refine g_lv [0, 1, 2, 3, 4, 5] (lv2 := [(5, .int (nI (i34_5 + 1))), (2, .int o16), (4, .int (-1)), (3, .int (nI i20_3)), (0, .ref (a 100)), (1, .int (nI n5))]) rfl ?_
              exact ih34 ((i34_5 + 1), o16, -1) L M C D F I K ⟨by omega, by omega⟩ (by show _ < _; omega)
            · skip
              refine g_iconst X dX8_ring_69 (v := 1) (by decide) ?_
              refine g_iload_n X dX8_ring_70 rfl (j := 3) rfl ?_
              refine g_ishl X dX8_ring_71 ?_
              refine Go.gen (fun o17 => ?_)
              refine g_goto X dX8_ring_72 (tgt := 76) (by decide) ?_
              refine g_ior X dX8_ring_76 ?_
              refine Go.gen (fun o18 => ?_)
              refine g_istore_n X dX8_ring_77 rfl (by decide) (lv2 := [(2, .int o18), (4, .int (-1)), (5, .int (nI i34_5)), (3, .int (nI i20_3)), (0, .ref (a 100)), (1, .int (nI n5))]) rfl ?_
              refine g_iinc X dX8_ring_78 (j := 2) rfl (v := nI (i34_5 + 1)) (nI_1 i34_5) (by decide) (lv2 := [(5, .int (nI (i34_5 + 1))), (2, .int o18), (4, .int (-1)), (3, .int (nI i20_3)), (0, .ref (a 100)), (1, .int (nI n5))]) rfl ?_
              refine g_goto X dX8_ring_81 (tgt := 34) (by decide) ?_
              refine g_lv [0, 1, 2, 3, 4, 5] (lv2 := [(5, .int (nI (i34_5 + 1))), (2, .int o18), (4, .int (-1)), (3, .int (nI i20_3)), (0, .ref (a 100)), (1, .int (nI n5))]) rfl ?_
              exact ih34 ((i34_5 + 1), o18, -1) L M C D F I K ⟨by omega, by omega⟩ (by show _ < _; omega)
          · skip
            refine g_istore X dX8_ring_60 (by decide) (lv2 := [(4, .int (nI n14)), (5, .int (nI i34_5)), (2, .int v34_2), (3, .int (nI i20_3)), (0, .ref (a 100)), (1, .int (nI n5))]) rfl ?_
            refine g_iload_n X dX8_ring_62 rfl (j := 2) rfl ?_
            refine g_iload X dX8_ring_63 (j := 0) rfl ?_
            refine g_iload_n X dX8_ring_65 rfl (j := 3) rfl ?_
            refine g_icmp_ne X dX8_ring_66 (tgt := 75) (by decide) (fun q19 => ?_) (fun q19 => ?_)
            · skip
              have q19 : ¬ n14 = i20_3 := fun z => q19 ((nI_eq (a := n14) (b := i20_3) (by omega) (by omega)).mpr z)
              refine g_iconst X dX8_ring_75 (v := 0) (by decide) ?_
              refine g_ior X dX8_ring_76 ?_
              refine Go.gen (fun o20 => ?_)
              refine g_istore_n X dX8_ring_77 rfl (by decide) (lv2 := [(2, .int o20), (4, .int (nI n14)), (5, .int (nI i34_5)), (3, .int (nI i20_3)), (0, .ref (a 100)), (1, .int (nI n5))]) rfl ?_
              refine g_iinc X dX8_ring_78 (j := 2) rfl (v := nI (i34_5 + 1)) (nI_1 i34_5) (by decide) (lv2 := [(5, .int (nI (i34_5 + 1))), (2, .int o20), (4, .int (nI n14)), (3, .int (nI i20_3)), (0, .ref (a 100)), (1, .int (nI n5))]) rfl ?_
              refine g_goto X dX8_ring_81 (tgt := 34) (by decide) ?_
              refine g_lv [0, 1, 2, 3, 4, 5] (lv2 := [(5, .int (nI (i34_5 + 1))), (2, .int o20), (4, .int (nI n14)), (3, .int (nI i20_3)), (0, .ref (a 100)), (1, .int (nI n5))]) rfl ?_
              exact ih34 ((i34_5 + 1), o20, nI n14) L M C D F I K ⟨by omega, by omega⟩ (by show _ < _; omega)
            · skip
              have q19 : n14 = i20_3 := (nI_eq (a := n14) (b := i20_3) (by omega) (by omega)).mp q19
              refine g_iconst X dX8_ring_69 (v := 1) (by decide) ?_
              refine g_iload_n X dX8_ring_70 rfl (j := 3) rfl ?_
              refine g_ishl X dX8_ring_71 ?_
              refine Go.gen (fun o21 => ?_)
              refine g_goto X dX8_ring_72 (tgt := 76) (by decide) ?_
              refine g_ior X dX8_ring_76 ?_
              refine Go.gen (fun o22 => ?_)
              refine g_istore_n X dX8_ring_77 rfl (by decide) (lv2 := [(2, .int o22), (4, .int (nI n14)), (5, .int (nI i34_5)), (3, .int (nI i20_3)), (0, .ref (a 100)), (1, .int (nI n5))]) rfl ?_
              refine g_iinc X dX8_ring_78 (j := 2) rfl (v := nI (i34_5 + 1)) (nI_1 i34_5) (by decide) (lv2 := [(5, .int (nI (i34_5 + 1))), (2, .int o22), (4, .int (nI n14)), (3, .int (nI i20_3)), (0, .ref (a 100)), (1, .int (nI n5))]) rfl ?_
              refine g_goto X dX8_ring_81 (tgt := 34) (by decide) ?_
              refine g_lv [0, 1, 2, 3, 4, 5] (lv2 := [(5, .int (nI (i34_5 + 1))), (2, .int o22), (4, .int (nI n14)), (3, .int (nI i20_3)), (0, .ref (a 100)), (1, .int (nI n5))]) rfl ?_
              exact ih34 ((i34_5 + 1), o22, nI n14) L M C D F I K ⟨by omega, by omega⟩ (by show _ < _; omega)
set_option maxHeartbeats 4000000 in
set_option maxRecDepth 100000 in
theorem s_X8_trees (l : Launch) (G : va_G) {cy : Nat → ClassId} {L : List Nat} {M : Nat → va_E} {a : Nat → Nat} {act : Nat → Bool} {C0 : Nat → Nat → Int32} {D0 : Nat → Nat → Int64} {R : Nat → Nat → Option Nat} (F : WI L M a act (ent cy a C0 D0 R)) (I : Inv C0)   : MI l G cy yX8_trees cX8_trees 7 (some .int) 4 0 0 [.ref (a 100)] L M (fun r L2 M2 => ∃ C2 D2, WI L2 M2 a act (ent cy a C2 D2 R) ∧ Inv C2 ∧ Kp [129] C0 D0 C2 D2 ∧ True) := by
  refine MI.of (own := RX8) rfl (by decide) (Nat.le_of_ble_eq_true rfl) ?_
  intro p e s m below meth c A X hrt hnm
  obtain ⟨C, D, hC0, hD0, F, I, K⟩ : ∃ C D, C = C0 ∧ D = D0 ∧ WI L M a act (ent cy a C D R) ∧ Inv C ∧ Kp [129] C0 D0 C D := ⟨C0, D0, rfl, rfl, F, I, Kp.rf⟩
  obtain ⟨n1, hn1, en1⟩ := rg_nat ((show okw 0 (C 101 0) from I 101 0).1 rfl) (by decide)
  rw [hC0] at en1
  obtain ⟨n2, hn2, en2⟩ := rg_nat ((show okw 4 (C 101 4) from I 101 4).2.2.2.1 rfl) (by decide)
  rw [hC0] at en2
  obtain ⟨n3, hn3, en3⟩ := rg_nat ((show okw 7 (C 101 7) from I 101 7).2.2.2.2.1 rfl) (by decide)
  rw [hC0] at en3
  refine g_aload_n X dX8_trees_0 rfl (j := 0) rfl ?_
  refine g_callVI X (s_X8_isHeath l G F I  ) lk_X8_102 (F.1 100 rfl).2 (F.1 100 rfl).1 rfl rfl dX8_trees_1 (Nat.le_of_ble_eq_true rfl) ⟨by decide, by decide⟩ ⟨by decide, by decide⟩ (fun r4 L M hp => ?_)
  obtain ⟨C, D, F, I, K1, hr⟩ := hp
  have K := K.step K1 (by decide)
  rcases hr with rfl | rfl
  · skip
    refine g_if_ne X dX8_trees_4 (tgt := 10) (by decide) (fun q => absurd (by decide) q) (fun _ => ?_)
    refine g_bipush X dX8_trees_7 (v := -2) (by decide) ?_
    exact g_iret X hrt dX8_trees_9 (by decide) (by decide) ⟨C, D, F, I, K, trivial⟩
  · skip
    refine g_if_ne X dX8_trees_4 (tgt := 10) (by decide) (fun _ => ?_) (fun q => absurd q (by decide))
    refine g_aload_n X dX8_trees_10 rfl (j := 0) rfl ?_
    refine g_callVI X (s_X8_settingMany l G F I  ) lk_X8_361 (F.1 100 rfl).2 (F.1 100 rfl).1 rfl rfl dX8_trees_11 (Nat.le_of_ble_eq_true rfl) ⟨by decide, by decide⟩ ⟨by decide, by decide⟩ (fun r5 L M hp => ?_)
    obtain ⟨C, D, F, I, K1, hr⟩ := hp
    have K := K.step K1 (by decide)
    refine g_istore_n X dX8_trees_14 rfl (by decide) (lv2 := [(1, .int r5), (0, .ref (a 100))]) rfl ?_
    refine g_iload_n X dX8_trees_15 rfl (j := 0) rfl ?_
    refine g_sipush X dX8_trees_16 (v := 4096) (by decide) ?_
    refine g_icmp_le X dX8_trees_19 (tgt := 25) (by decide) (fun q6 => ?_) (fun q6 => ?_)
    · skip
      have q6t : r5.toInt ≤ (4096 : Int32).toInt := Int32.le_iff_toInt_le.mp q6
      have q6k : (4096 : Int32).toInt = 4096 := (by decide)
      have q6b := Int32.toInt_lt r5
      refine g_iconst X dX8_trees_25 (v := 0) (by decide) ?_
      refine g_istore_n X dX8_trees_26 rfl (by decide) (lv2 := [(2, .int 0), (1, .int r5), (0, .ref (a 100))]) rfl ?_
      refine g_iconst X dX8_trees_27 (v := 0) (by decide) ?_
      refine g_istore_n X dX8_trees_28 rfl (by decide) (lv2 := [(3, .int 0), (2, .int 0), (1, .int r5), (0, .ref (a 100))]) rfl ?_
      refine g_lv [0, 1, 2, 3] (lv2 := [(3, .int 0), (2, .int 0), (1, .int r5), (0, .ref (a 100))]) rfl ?_
      refine i_loop (mods := [129]) (fun x : Nat × Int32 => 4096 - x.1) (fun x => [(3, .int (nI (x.1))), (2, .int (x.2)), (1, .int r5), (0, .ref (a 100))]) (fun x C => 0 ≤ x.1 ∧ x.1 ≤ 4096) (fun x L M C D F I K hP ih29 => ?_) ((0, 0) : Nat × Int32) F I K ⟨by show _ ≤ _; omega, by show _ ≤ _; omega⟩
      rcases x with ⟨i29_3, v29_2⟩
      obtain ⟨hi29_3a, hi29_3b⟩ := hP
      refine g_lv [0, 1, 2, 3] (lv2 := [(3, .int (nI i29_3)), (2, .int v29_2), (1, .int r5), (0, .ref (a 100))]) rfl ?_
      refine g_iload_n X dX8_trees_29 rfl (j := 0) rfl ?_
      refine g_iload_n X dX8_trees_30 rfl (j := 2) rfl ?_
      refine g_icmp_ge X dX8_trees_31 (tgt := 107) (by decide) (fun q7 => ?_) (fun q7 => ?_)
      · skip
        have q7t : r5.toInt ≤ (nI i29_3).toInt := Int32.le_iff_toInt_le.mp q7
        rw [nI_toInt (by omega)] at q7t
        have q7b := Int32.toInt_lt r5
        refine g_iload_n X dX8_trees_107 rfl (j := 1) rfl ?_
        exact g_iret X hrt dX8_trees_108 (by decide) (by decide) ⟨C, D, F, I, K, trivial⟩
      · skip
        have q7t : ¬ r5.toInt ≤ (nI i29_3).toInt := fun z => q7 (Int32.le_iff_toInt_le.mpr z)
        rw [nI_toInt (by omega)] at q7t
        have q7b := Int32.toInt_lt r5
        refine g_iload_n X dX8_trees_34 rfl (j := 0) rfl ?_
        refine g_istore X dX8_trees_35 (by decide) (lv2 := [(4, .int (nI i29_3)), (3, .int (nI i29_3)), (2, .int v29_2), (1, .int r5), (0, .ref (a 100))]) rfl ?_
        refine g_iconst X dX8_trees_37 (v := 0) (by decide) ?_
        refine g_istore X dX8_trees_38 (by decide) (lv2 := [(5, .int 0), (4, .int (nI i29_3)), (3, .int (nI i29_3)), (2, .int v29_2), (1, .int r5), (0, .ref (a 100))]) rfl ?_
        refine g_lv [0, 1, 2, 3, 4, 5] (lv2 := [(5, .int 0), (4, .int (nI i29_3)), (3, .int (nI i29_3)), (2, .int v29_2), (1, .int r5), (0, .ref (a 100))]) rfl ?_
        refine i_loop (mods := [129]) (fun x : Nat × Nat => 7 - x.1) (fun x => [(5, .int (nI (x.1))), (4, .int (nI (x.2))), (3, .int (nI i29_3)), (2, .int v29_2), (1, .int r5), (0, .ref (a 100))]) (fun x C => 0 ≤ x.1 ∧ x.1 ≤ 7 ∧ 0 ≤ x.2 ∧ x.2 ≤ 4096) (fun x L M C D F I K hP ih40 => ?_) ((0, i29_3) : Nat × Nat) F I K ⟨by show _ ≤ _; omega, by show _ ≤ _; omega, by show _ ≤ _; omega, by show _ ≤ _; omega⟩
        rcases x with ⟨i40_5, i40_4⟩
        obtain ⟨hi40_5a, hi40_5b, hi40_4a, hi40_4b⟩ := hP
        refine g_lv [0, 1, 2, 3, 4, 5] (lv2 := [(5, .int (nI i40_5)), (4, .int (nI i40_4)), (3, .int (nI i29_3)), (2, .int v29_2), (1, .int r5), (0, .ref (a 100))]) rfl ?_
        refine g_iload X dX8_trees_40 (j := 0) rfl ?_
        refine g_aload_n X dX8_trees_42 rfl (j := 5) rfl ?_
        refine g_callVI X (s_X8_posts l G F I  ) lk_X8_98 (F.1 100 rfl).2 (F.1 100 rfl).1 rfl rfl dX8_trees_43 (Nat.le_of_ble_eq_true rfl) ⟨by decide, by decide⟩ ⟨by decide, by decide⟩ (fun r8 L M hp => ?_)
        obtain ⟨C, D, F, I, K1, hr⟩ := hp
        have K := K.step K1 (by decide)
        obtain ⟨n9, hn9, en9, rfl⟩ := hr
        obtain rfl : n2 = n9 := ((nI_eq (by omega) (by omega)).mp (en9.symm.trans ((congrFun (K 101 (by decide)).1 4).trans en2))).symm
        refine g_icmp_ge X dX8_trees_46 (tgt := 86) (by decide) (fun q10 => ?_) (fun q10 => ?_)
        · skip
          have q10 : n2 ≤ i40_5 := (nI_leI (a := n2) (b := i40_5) (by omega) (by omega)).mp q10
          refine g_iload_n X dX8_trees_86 rfl (j := 3) rfl ?_
          refine g_aload_n X dX8_trees_87 rfl (j := 5) rfl ?_
          refine g_callVI X (s_X8_isTree l G F I  ) lk_X8_370 (F.1 100 rfl).2 (F.1 100 rfl).1 rfl rfl dX8_trees_88 (Nat.le_of_ble_eq_true rfl) ⟨by decide, by decide⟩ ⟨by decide, by decide⟩ (fun r11 L M hp => ?_)
          obtain ⟨C, D, F, I, K1, hr⟩ := hp
          have K := K.step K1 (by decide)
          rcases hr with rfl | rfl
          · skip
            refine g_if_eq X dX8_trees_91 (tgt := 98) (by decide) (fun _ => ?_) (fun q => absurd (by decide) q)
            refine g_iconst X dX8_trees_98 (v := 0) (by decide) ?_
            refine g_iadd X dX8_trees_99 ?_
            refine Go.gen (fun o12 => ?_)
            refine g_istore_n X dX8_trees_100 rfl (by decide) (lv2 := [(2, .int o12), (5, .int (nI i40_5)), (4, .int (nI i40_4)), (3, .int (nI i29_3)), (1, .int r5), (0, .ref (a 100))]) rfl ?_
            refine g_iinc X dX8_trees_101 (j := 3) rfl (v := nI (i29_3 + 1)) (nI_1 i29_3) (by decide) (lv2 := [(3, .int (nI (i29_3 + 1))), (2, .int o12), (5, .int (nI i40_5)), (4, .int (nI i40_4)), (1, .int r5), (0, .ref (a 100))]) rfl ?_
            refine g_goto X dX8_trees_104 (tgt := 29) (by decide) ?_
            refine g_lv [0, 1, 4, 5] (lv2 := [(3, .int (nI (i29_3 + 1))), (2, .int o12), (1, .int r5), (0, .ref (a 100))]) rfl ?_
            exact ih29 ((i29_3 + 1), o12) L M C D F I K ⟨by omega, by omega⟩ (by show _ < _; omega)
          · skip
            refine g_if_eq X dX8_trees_91 (tgt := 98) (by decide) (fun q => absurd q (by decide)) (fun _ => ?_)
            refine g_iconst X dX8_trees_94 (v := 1) (by decide) ?_
            refine g_goto X dX8_trees_95 (tgt := 99) (by decide) ?_
            refine g_iadd X dX8_trees_99 ?_
            refine Go.gen (fun o13 => ?_)
            refine g_istore_n X dX8_trees_100 rfl (by decide) (lv2 := [(2, .int o13), (5, .int (nI i40_5)), (4, .int (nI i40_4)), (3, .int (nI i29_3)), (1, .int r5), (0, .ref (a 100))]) rfl ?_
            refine g_iinc X dX8_trees_101 (j := 3) rfl (v := nI (i29_3 + 1)) (nI_1 i29_3) (by decide) (lv2 := [(3, .int (nI (i29_3 + 1))), (2, .int o13), (5, .int (nI i40_5)), (4, .int (nI i40_4)), (1, .int r5), (0, .ref (a 100))]) rfl ?_
            refine g_goto X dX8_trees_104 (tgt := 29) (by decide) ?_
            refine g_lv [0, 1, 4, 5] (lv2 := [(3, .int (nI (i29_3 + 1))), (2, .int o13), (1, .int r5), (0, .ref (a 100))]) rfl ?_
            exact ih29 ((i29_3 + 1), o13) L M C D F I K ⟨by omega, by omega⟩ (by show _ < _; omega)
        · skip
          have q10 : ¬ n2 ≤ i40_5 := fun z => q10 ((nI_leI (a := n2) (b := i40_5) (by omega) (by omega)).mpr z)
          refine g_iconst X dX8_trees_49 (v := 1) (by decide) ?_
          refine g_aload_n X dX8_trees_50 rfl (j := 5) rfl ?_
          refine g_iload X dX8_trees_51 (j := 0) rfl ?_
          refine g_callVI X (s_X8_roadMany l G F I i40_5 (by omega) (by omega) ) lk_X8_245 (F.1 100 rfl).2 (F.1 100 rfl).1 rfl rfl dX8_trees_53 (Nat.le_of_ble_eq_true rfl) ⟨by decide, by decide⟩ ⟨by decide, by decide⟩ (fun r14 L M hp => ?_)
          obtain ⟨C, D, F, I, K1, hr⟩ := hp
          have K := K.step K1 (by decide)
          obtain ⟨n15, hn15, en15, rfl⟩ := hr
          have fn15 : C0 101 (14 + 6 * i40_5) = nI n15 := (congrFun (K 101 (by decide)).1 _).symm.trans en15
          obtain ⟨n16, hn16a, hn16b, en16⟩ := mx1 (n := n15) (by omega)
          refine g_mmaxV X wd800 wd79 wd80 wd81 (by decide) (Nat.le_of_ble_eq_true rfl) (by decide) (by decide) (v := nI n16) en16 dX8_trees_56 ?_
          refine g_istore X dX8_trees_59 (by decide) (lv2 := [(6, .int (nI n16)), (5, .int (nI i40_5)), (4, .int (nI i40_4)), (3, .int (nI i29_3)), (2, .int v29_2), (1, .int r5), (0, .ref (a 100))]) rfl ?_
          refine g_aload_n X dX8_trees_61 rfl (j := 6) rfl ?_
          refine i_get X F 100 rfl rfl fk_X8_67 dX8_trees_62 rfl ?_
          refine g_iload X dX8_trees_65 (j := 1) rfl ?_
          refine g_iload X dX8_trees_67 (j := 2) rfl ?_
          refine g_iload X dX8_trees_69 (j := 0) rfl ?_
          refine g_irem X dX8_trees_71 (nI_ne0 (by omega) (by omega)) ?_
          refine Go.top (v := .int (nI (i40_4 % n16))) (congrArg Value.int (pk_rem (a := i40_4) (d := n16) (by omega) (by omega) (by omega))) ?_
          obtain ⟨n17, en17⟩ : ∃ z : Nat, z = i40_4 % n16 := ⟨_, rfl⟩
          refine Go.top (v := .int (nI n17)) (by rw [en17]) ?_
          have hn17 : n17 < n16 := by rw [en17]; exact Nat.mod_lt _ (by omega)
          refine i_iast X F I 129 rfl (fun _ => rfl) dX8_trees_72 (vp_in_nI (by omega) (by decide)) (rg_of (n := n17) (by omega) (by omega) (by omega)) (fun M C F I K1 hC => ?_)
          have K := K.step K1 (by decide)
          refine g_iload X dX8_trees_73 (j := 2) rfl ?_
          refine g_iload X dX8_trees_75 (j := 0) rfl ?_
          refine g_idiv X dX8_trees_77 (nI_ne0 (by omega) (by omega)) ?_
          refine Go.top (v := .int (nI (i40_4 / n16))) (congrArg Value.int (pk_div (a := i40_4) (d := n16) (by omega) (by omega) (by omega))) ?_
          obtain ⟨n18, en18⟩ : ∃ z : Nat, z = i40_4 / n16 := ⟨_, rfl⟩
          refine Go.top (v := .int (nI n18)) (by rw [en18]) ?_
          have hn18 : n18 ≤ i40_4 := by rw [en18]; exact Nat.div_le_self _ _
          refine g_istore X dX8_trees_78 (by decide) (lv2 := [(4, .int (nI n18)), (6, .int (nI n16)), (5, .int (nI i40_5)), (3, .int (nI i29_3)), (2, .int v29_2), (1, .int r5), (0, .ref (a 100))]) rfl ?_
          refine g_iinc X dX8_trees_80 (j := 2) rfl (v := nI (i40_5 + 1)) (nI_1 i40_5) (by decide) (lv2 := [(5, .int (nI (i40_5 + 1))), (4, .int (nI n18)), (6, .int (nI n16)), (3, .int (nI i29_3)), (2, .int v29_2), (1, .int r5), (0, .ref (a 100))]) rfl ?_
          refine g_goto X dX8_trees_83 (tgt := 40) (by decide) ?_
          refine g_lv [0, 1, 3, 4, 5, 6] (lv2 := [(5, .int (nI (i40_5 + 1))), (4, .int (nI n18)), (3, .int (nI i29_3)), (2, .int v29_2), (1, .int r5), (0, .ref (a 100))]) rfl ?_
          exact ih40 ((i40_5 + 1), n18) L M C D F I K ⟨by omega, by omega, by omega, by omega⟩ (by show _ < _; omega)
    · skip
      have q6t : ¬ r5.toInt ≤ (4096 : Int32).toInt := fun z => q6 (Int32.le_iff_toInt_le.mpr z)
      have q6k : (4096 : Int32).toInt = 4096 := (by decide)
      have q6b := Int32.toInt_lt r5
      obtain ⟨n19, hn19, rfl⟩ := nI_of (x := r5) (fun z => by have z2 := Int32.lt_iff_toInt_lt.mp z; have z3 : (0 : Int32).toInt = 0 := (by decide); omega)
      rw [nI_toInt (by omega)] at q6t
      have tn19 := nI_toInt (n := n19) (by omega)
      refine g_bipush X dX8_trees_22 (v := -3) (by decide) ?_
      exact g_iret X hrt dX8_trees_24 (by decide) (by decide) ⟨C, D, F, I, K, trivial⟩
set_option maxHeartbeats 4000000 in
set_option maxRecDepth 100000 in
theorem s_X8_soloBegin (l : Launch) (G : va_G) {cy : Nat → ClassId} {L : List Nat} {M : Nat → va_E} {a : Nat → Nat} {act : Nat → Bool} {C0 : Nat → Nat → Int32} {D0 : Nat → Nat → Int64} {R : Nat → Nat → Option Nat} (F : WI L M a act (ent cy a C0 D0 R)) (I : Inv C0)   : MV l G cy yX8_soloBegin cX8_soloBegin 2 none 2 0 0 [.ref (a 100)] L M (fun L2 M2 => ∃ C2 D2, WI L2 M2 a act (ent cy a C2 D2 R) ∧ Inv C2 ∧ Kp [100, 115, 116, 120] C0 D0 C2 D2 ∧ True) := by
  refine MV.of (own := RX8) rfl (by decide) (Nat.le_of_ble_eq_true rfl) ?_
  intro p e s m below meth c A X hrt hnm
  obtain ⟨C, D, hC0, hD0, F, I, K⟩ : ∃ C D, C = C0 ∧ D = D0 ∧ WI L M a act (ent cy a C D R) ∧ Inv C ∧ Kp [100, 115, 116, 120] C0 D0 C D := ⟨C0, D0, rfl, rfl, F, I, Kp.rf⟩
  obtain ⟨n1, hn1, en1⟩ := rg_nat ((show okw 0 (C 101 0) from I 101 0).1 rfl) (by decide)
  rw [hC0] at en1
  obtain ⟨n2, hn2, en2⟩ := rg_nat ((show okw 4 (C 101 4) from I 101 4).2.2.2.1 rfl) (by decide)
  rw [hC0] at en2
  obtain ⟨n3, hn3, en3⟩ := rg_nat ((show okw 7 (C 101 7) from I 101 7).2.2.2.2.1 rfl) (by decide)
  rw [hC0] at en3
  refine g_aload_n X dX8_soloBegin_0 rfl (j := 0) rfl ?_
  refine g_callVV X (s_X8_asItIs l G F I  ) lk_X8_286 (F.1 100 rfl).2 (F.1 100 rfl).1 rfl rfl dX8_soloBegin_1 (Nat.le_of_ble_eq_true rfl) ⟨by decide, by decide⟩ ⟨by decide, by decide⟩ (fun L M hp => ?_)
  obtain ⟨C, D, F, I, K1, hr⟩ := hp
  have K := K.step K1 (by decide)
  refine g_iconst X dX8_soloBegin_4 (v := 0) (by decide) ?_
  refine g_istore_n X dX8_soloBegin_5 rfl (by decide) (lv2 := [(1, .int 0), (0, .ref (a 100))]) rfl ?_
  refine g_lv [0, 1] (lv2 := [(1, .int 0), (0, .ref (a 100))]) rfl ?_
  refine i_loop (mods := [100, 115, 116, 120]) (fun x : Nat => 7 - x) (fun x => [(1, .int (nI (x))), (0, .ref (a 100))]) (fun x C => 0 ≤ x ∧ x ≤ 7) (fun x L M C D F I K hP ih6 => ?_) ((0) : Nat) F I K ⟨by show _ ≤ _; omega, by show _ ≤ _; omega⟩
  obtain ⟨i6_1, rfl⟩ : ∃ z, z = x := ⟨_, rfl⟩
  obtain ⟨hi6_1a, hi6_1b⟩ := hP
  refine g_lv [0, 1] (lv2 := [(1, .int (nI i6_1)), (0, .ref (a 100))]) rfl ?_
  refine g_iload_n X dX8_soloBegin_6 rfl (j := 0) rfl ?_
  refine g_bipush X dX8_soloBegin_7 (v := 7) (by decide) ?_
  refine g_icmp_ge X dX8_soloBegin_9 (tgt := 29) (by decide) (fun q4 => ?_) (fun q4 => ?_)
  · skip
    have q4 : 7 ≤ i6_1 := (nI_leI (a := 7) (b := i6_1) (by omega) (by omega)).mp q4
    exact g_vret X hrt dX8_soloBegin_29 (by decide) (by decide) ⟨C, D, F, I, K, trivial⟩
  · skip
    have q4 : ¬ 7 ≤ i6_1 := fun z => q4 ((nI_leI (a := 7) (b := i6_1) (by omega) (by omega)).mpr z)
    refine g_aload_n X dX8_soloBegin_12 rfl (j := 1) rfl ?_
    refine i_get X F 100 rfl rfl fk_X8_40 dX8_soloBegin_13 rfl ?_
    refine g_iload_n X dX8_soloBegin_16 rfl (j := 0) rfl ?_
    refine g_aload_n X dX8_soloBegin_17 rfl (j := 1) rfl ?_
    refine g_iload_n X dX8_soloBegin_18 rfl (j := 0) rfl ?_
    refine g_callVI X (s_X8_armOf l G F I i6_1 (by omega) (by omega) ) lk_X8_251 (F.1 100 rfl).2 (F.1 100 rfl).1 rfl rfl dX8_soloBegin_19 (Nat.le_of_ble_eq_true rfl) ⟨by decide, by decide⟩ ⟨by decide, by decide⟩ (fun r5 L M hp => ?_)
    obtain ⟨C, D, F, I, K1, hr⟩ := hp
    have K := K.step K1 (by decide)
    obtain ⟨n6, hn6a, hn6b, rfl⟩ := hr
    refine i_iast X F I 120 rfl (fun _ => rfl) dX8_soloBegin_22 (vp_in_nI (by omega) (by decide)) (rg_of (n := n6) (by omega) (by omega) (by omega)) (fun M C F I K1 hC => ?_)
    have K := K.step K1 (by decide)
    refine g_iinc X dX8_soloBegin_23 (j := 0) rfl (v := nI (i6_1 + 1)) (nI_1 i6_1) (by decide) (lv2 := [(1, .int (nI (i6_1 + 1))), (0, .ref (a 100))]) rfl ?_
    refine g_goto X dX8_soloBegin_26 (tgt := 6) (by decide) ?_
    refine g_lv [0, 1] (lv2 := [(1, .int (nI (i6_1 + 1))), (0, .ref (a 100))]) rfl ?_
    exact ih6 ((i6_1 + 1)) L M C D F I K ⟨by omega, by omega⟩ (by show _ < _; omega)
set_option maxHeartbeats 4000000 in
set_option maxRecDepth 100000 in
theorem s_X8_solo (l : Launch) (G : va_G) {cy : Nat → ClassId} {L : List Nat} {M : Nat → va_E} {a : Nat → Nat} {act : Nat → Bool} {C0 : Nat → Nat → Int32} {D0 : Nat → Nat → Int64} {R : Nat → Nat → Option Nat} (F : WI L M a act (ent cy a C0 D0 R)) (I : Inv C0) (p0 : Nat) (hp0a : 0 ≤ p0) (hp0b : p0 ≤ 6)  : MI l G cy yX8_solo cX8_solo 4 (some .int) 3 0 0 [.ref (a 100), .int (nI p0)] L M (fun r L2 M2 => ∃ C2 D2, WI L2 M2 a act (ent cy a C2 D2 R) ∧ Inv C2 ∧ Kp [100, 120] C0 D0 C2 D2 ∧ True) := by
  refine MI.of (own := RX8) rfl (by decide) (Nat.le_of_ble_eq_true rfl) ?_
  intro p e s m below meth c A X hrt hnm
  obtain ⟨C, D, hC0, hD0, F, I, K⟩ : ∃ C D, C = C0 ∧ D = D0 ∧ WI L M a act (ent cy a C D R) ∧ Inv C ∧ Kp [100, 120] C0 D0 C D := ⟨C0, D0, rfl, rfl, F, I, Kp.rf⟩
  obtain ⟨n1, hn1, en1⟩ := rg_nat ((show okw 0 (C 101 0) from I 101 0).1 rfl) (by decide)
  rw [hC0] at en1
  obtain ⟨n2, hn2, en2⟩ := rg_nat ((show okw 4 (C 101 4) from I 101 4).2.2.2.1 rfl) (by decide)
  rw [hC0] at en2
  obtain ⟨n3, hn3, en3⟩ := rg_nat ((show okw 7 (C 101 7) from I 101 7).2.2.2.2.1 rfl) (by decide)
  rw [hC0] at en3
  refine g_iload_n X dX8_solo_0 rfl (j := 1) rfl ?_
  refine g_istore_n X dX8_solo_1 rfl (by decide) (lv2 := [(2, .int (nI p0)), (0, .ref (a 100)), (1, .int (nI p0))]) rfl ?_
  refine g_aload_n X dX8_solo_2 rfl (j := 1) rfl ?_
  refine g_iconst X dX8_solo_3 (v := 0) (by decide) ?_
  refine i_put X F I 100 rfl rfl rfl fk_X8_373 dX8_solo_4 rfl rfl (Nat.le_of_ble_eq_true rfl) (fun h => absurd h (by decide)) (fun M C F I K1 hC => ?_)
  have K := K.step K1 (by decide)
  have f4 : C 100 30 = 0 := by rw [hC]; exact pk_us
  refine g_lv [0, 1, 2] (lv2 := [(2, .int (nI p0)), (0, .ref (a 100)), (1, .int (nI p0))]) rfl ?_
  refine i_loop (mods := [100, 120]) (fun x : Nat × Nat => 600 - x.1) (fun x => [(2, .int (nI (x.2))), (0, .ref (a 100)), (1, .int (nI p0))]) (fun x C => C 100 30 = nI (x.1) ∧ 0 ≤ x.1 ∧ x.1 ≤ 600 ∧ 0 ≤ x.2 ∧ x.2 ≤ 6) (fun x L M C D F I K hP ih7 => ?_) ((0, p0) : Nat × Nat) F I K ⟨f4, by show _ ≤ _; omega, by show _ ≤ _; omega, by show _ ≤ _; omega, by show _ ≤ _; omega⟩
  rcases x with ⟨g7_100, i7_2⟩
  obtain ⟨eg7_100, hg7_100a, hg7_100b, hi7_2a, hi7_2b⟩ := hP
  have heg7_100 : C 100 30 = nI g7_100 := eg7_100
  refine g_lv [0, 1, 2] (lv2 := [(2, .int (nI i7_2)), (0, .ref (a 100)), (1, .int (nI p0))]) rfl ?_
  refine g_aload_n X dX8_solo_7 rfl (j := 1) rfl ?_
  refine i_get X F 100 rfl rfl fk_X8_373 dX8_solo_8 (v := .int (nI g7_100)) (congrArg (fun z => some (Value.int z)) heg7_100) ?_
  refine g_sipush X dX8_solo_11 (v := 600) (by decide) ?_
  refine g_icmp_ge X dX8_solo_14 (tgt := 64) (by decide) (fun q5 => ?_) (fun q5 => ?_)
  · skip
    have q5 : 600 ≤ g7_100 := (nI_leI (a := 600) (b := g7_100) (by omega) (by omega)).mp q5
    refine g_iconst X dX8_solo_64 (v := -1) (by decide) ?_
    exact g_iret X hrt dX8_solo_65 (by decide) (by decide) ⟨C, D, F, I, K, trivial⟩
  · skip
    have q5 : ¬ 600 ≤ g7_100 := fun z => q5 ((nI_leI (a := 600) (b := g7_100) (by omega) (by omega)).mpr z)
    refine g_aload_n X dX8_solo_17 rfl (j := 1) rfl ?_
    refine g_iload_n X dX8_solo_18 rfl (j := 0) rfl ?_
    refine g_callVI X (s_X8_roadMany l G F I i7_2 (by omega) (by omega) ) lk_X8_245 (F.1 100 rfl).2 (F.1 100 rfl).1 rfl rfl dX8_solo_19 (Nat.le_of_ble_eq_true rfl) ⟨by decide, by decide⟩ ⟨by decide, by decide⟩ (fun r6 L M hp => ?_)
    obtain ⟨C, D, F, I, K1, hr⟩ := hp
    have K := K.step K1 (by decide)
    have heg7_100 : C 100 30 = nI g7_100 := (congrFun (K1 100 (by decide)).1 30).trans heg7_100
    obtain ⟨n7, hn7, en7, rfl⟩ := hr
    have fn7 : C0 101 (14 + 6 * i7_2) = nI n7 := (congrFun (K 101 (by decide)).1 _).symm.trans en7
    refine g_if_ne X dX8_solo_22 (tgt := 27) (by decide) (fun q8 => ?_) (fun q8 => ?_)
    · skip
      have q8 : ¬ n7 = 0 := fun z => q8 ((nI_eq (a := n7) (b := 0) (by omega) (by omega)).mpr z)
      refine g_aload_n X dX8_solo_27 rfl (j := 1) rfl ?_
      refine g_iload_n X dX8_solo_28 rfl (j := 0) rfl ?_
      refine g_aload_n X dX8_solo_29 rfl (j := 1) rfl ?_
      refine g_iload_n X dX8_solo_30 rfl (j := 0) rfl ?_
      refine g_callVI X (s_X8_sendBy l G F I i7_2 (by omega) (by omega) (by rw [(K 101 (by decide)).1, fn7, nI_toInt (by omega)]; omega)) lk_X8_273 (F.1 100 rfl).2 (F.1 100 rfl).1 rfl rfl dX8_solo_31 (Nat.le_of_ble_eq_true rfl) ⟨by decide, by decide⟩ ⟨by decide, by decide⟩ (fun r9 L M hp => ?_)
      obtain ⟨C, D, F, I, K1, hr⟩ := hp
      have K := K.step K1 (by decide)
      have heg7_100 : C 100 30 = nI g7_100 := (congrFun (K1 100 (by decide)).1 30).trans heg7_100
      obtain ⟨n10, hn10a, hn10b, rfl⟩ := hr
      refine g_callVI X (s_X8_roadTo l G F I i7_2 (by omega) (by omega) n10 (by omega) (by omega) ) lk_X8_248 (F.1 100 rfl).2 (F.1 100 rfl).1 rfl rfl dX8_solo_34 (Nat.le_of_ble_eq_true rfl) ⟨by decide, by decide⟩ ⟨by decide, by decide⟩ (fun r11 L M hp => ?_)
      obtain ⟨C, D, F, I, K1, hr⟩ := hp
      have K := K.step K1 (by decide)
      have heg7_100 : C 100 30 = nI g7_100 := (congrFun (K1 100 (by decide)).1 30).trans heg7_100
      obtain ⟨n12, hn12, rfl⟩ := hr
      refine g_istore_n X dX8_solo_37 rfl (by decide) (lv2 := [(3, .int (nI n12)), (2, .int (nI i7_2)), (0, .ref (a 100)), (1, .int (nI p0))]) rfl ?_
      refine g_aload_n X dX8_solo_38 rfl (j := 2) rfl ?_
      refine g_dup X dX8_solo_39 rfl ?_
      refine i_get X F 100 rfl rfl fk_X8_373 dX8_solo_40 (v := .int (nI g7_100)) (congrArg (fun z => some (Value.int z)) heg7_100) ?_
      refine g_iconst X dX8_solo_43 (v := 1) (by decide) ?_
      refine g_iadd X dX8_solo_44 ?_
      refine Go.top (v := .int (nI (g7_100 + 1))) (congrArg Value.int (nI_add g7_100 1)) ?_
      refine i_put X F I 100 rfl rfl rfl fk_X8_373 dX8_solo_45 rfl rfl (Nat.le_of_ble_eq_true rfl) (fun h => absurd h (by decide)) (fun M C F I K1 hC => ?_)
      have K := K.step K1 (by decide)
      have f13 : C 100 30 = nI (g7_100 + 1) := by rw [hC]; exact pk_us
      refine g_iload_n X dX8_solo_48 rfl (j := 0) rfl ?_
      refine g_bipush X dX8_solo_49 (v := 10) (by decide) ?_
      refine g_icmp_lt X dX8_solo_51 (tgt := 59) (by decide) (fun q14 => ?_) (fun q14 => ?_)
      · skip
        have q14 : n12 < 10 := (nI_ltI (a := n12) (b := 10) (by omega) (by omega)).mp q14
        refine g_iload_n X dX8_solo_59 rfl (j := 0) rfl ?_
        refine g_istore_n X dX8_solo_60 rfl (by decide) (lv2 := [(2, .int (nI n12)), (3, .int (nI n12)), (0, .ref (a 100)), (1, .int (nI p0))]) rfl ?_
        refine g_goto X dX8_solo_61 (tgt := 7) (by decide) ?_
        refine g_lv [0, 2, 3] (lv2 := [(2, .int (nI n12)), (0, .ref (a 100)), (1, .int (nI p0))]) rfl ?_
        exact ih7 ((g7_100 + 1), n12) L M C D F I K ⟨f13, by omega, by omega, by omega, by omega⟩ (by show _ < _; omega)
      · skip
        have q14 : ¬ n12 < 10 := fun z => q14 ((nI_ltI (a := n12) (b := 10) (by omega) (by omega)).mpr z)
        refine g_iload_n X dX8_solo_54 rfl (j := 0) rfl ?_
        refine g_bipush X dX8_solo_55 (v := 10) (by decide) ?_
        refine g_isub X dX8_solo_57 ?_
        refine Go.top (v := .int (nI (n12 - 10))) (congrArg Value.int (pk_sub (a := n12) (b := 10) (by omega))) ?_
        exact g_iret X hrt dX8_solo_58 (by decide) (by decide) ⟨C, D, F, I, K, trivial⟩
    · skip
      have q8 : n7 = 0 := (nI_eq (a := n7) (b := 0) (by omega) (by omega)).mp q8
      refine g_iconst X dX8_solo_25 (v := -1) (by decide) ?_
      exact g_iret X hrt dX8_solo_26 (by decide) (by decide) ⟨C, D, F, I, K, trivial⟩
set_option maxHeartbeats 4000000 in
set_option maxRecDepth 100000 in
theorem s_X8_soloSetting (l : Launch) (G : va_G) {cy : Nat → ClassId} {L : List Nat} {M : Nat → va_E} {a : Nat → Nat} {act : Nat → Bool} {C0 : Nat → Nat → Int32} {D0 : Nat → Nat → Int64} {R : Nat → Nat → Option Nat} (F : WI L M a act (ent cy a C0 D0 R)) (I : Inv C0)   : MI l G cy yX8_soloSetting cX8_soloSetting 2 (some .int) 2 0 0 [.ref (a 100)] L M (fun r L2 M2 => ∃ C2 D2, WI L2 M2 a act (ent cy a C2 D2 R) ∧ Inv C2 ∧ Kp [129] C0 D0 C2 D2 ∧ True) := by
  refine MI.of (own := RX8) rfl (by decide) (Nat.le_of_ble_eq_true rfl) ?_
  intro p e s m below meth c A X hrt hnm
  obtain ⟨C, D, hC0, hD0, F, I, K⟩ : ∃ C D, C = C0 ∧ D = D0 ∧ WI L M a act (ent cy a C D R) ∧ Inv C ∧ Kp [129] C0 D0 C D := ⟨C0, D0, rfl, rfl, F, I, Kp.rf⟩
  obtain ⟨n1, hn1, en1⟩ := rg_nat ((show okw 0 (C 101 0) from I 101 0).1 rfl) (by decide)
  rw [hC0] at en1
  obtain ⟨n2, hn2, en2⟩ := rg_nat ((show okw 4 (C 101 4) from I 101 4).2.2.2.1 rfl) (by decide)
  rw [hC0] at en2
  obtain ⟨n3, hn3, en3⟩ := rg_nat ((show okw 7 (C 101 7) from I 101 7).2.2.2.2.1 rfl) (by decide)
  rw [hC0] at en3
  refine g_iconst X dX8_soloSetting_0 (v := 0) (by decide) ?_
  refine g_istore_n X dX8_soloSetting_1 rfl (by decide) (lv2 := [(1, .int 0), (0, .ref (a 100))]) rfl ?_
  refine g_lv [0, 1] (lv2 := [(1, .int 0), (0, .ref (a 100))]) rfl ?_
  refine i_loop (mods := [129]) (fun x : Nat => 7 - x) (fun x => [(1, .int (nI (x))), (0, .ref (a 100))]) (fun x C => 0 ≤ x ∧ x ≤ 7) (fun x L M C D F I K hP ih2 => ?_) ((0) : Nat) F I K ⟨by show _ ≤ _; omega, by show _ ≤ _; omega⟩
  obtain ⟨i2_1, rfl⟩ : ∃ z, z = x := ⟨_, rfl⟩
  obtain ⟨hi2_1a, hi2_1b⟩ := hP
  refine g_lv [0, 1] (lv2 := [(1, .int (nI i2_1)), (0, .ref (a 100))]) rfl ?_
  refine g_iload_n X dX8_soloSetting_2 rfl (j := 0) rfl ?_
  refine g_bipush X dX8_soloSetting_3 (v := 7) (by decide) ?_
  refine g_icmp_ge X dX8_soloSetting_5 (tgt := 26) (by decide) (fun q4 => ?_) (fun q4 => ?_)
  · skip
    have q4 : 7 ≤ i2_1 := (nI_leI (a := 7) (b := i2_1) (by omega) (by omega)).mp q4
    refine g_aload_n X dX8_soloSetting_26 rfl (j := 1) rfl ?_
    refine g_callVI X (s_X8_numberOf l G F I  ) lk_X8_355 (F.1 100 rfl).2 (F.1 100 rfl).1 rfl rfl dX8_soloSetting_27 (Nat.le_of_ble_eq_true rfl) ⟨by decide, by decide⟩ ⟨by decide, by decide⟩ (fun r5 L M hp => ?_)
    obtain ⟨C, D, F, I, K1, hr⟩ := hp
    have K := K.step K1 (by decide)
    exact g_iret X hrt dX8_soloSetting_30 (by decide) (by decide) ⟨C, D, F, I, K, trivial⟩
  · skip
    have q4 : ¬ 7 ≤ i2_1 := fun z => q4 ((nI_leI (a := 7) (b := i2_1) (by omega) (by omega)).mpr z)
    refine g_aload_n X dX8_soloSetting_8 rfl (j := 1) rfl ?_
    refine i_get X F 100 rfl rfl fk_X8_67 dX8_soloSetting_9 rfl ?_
    refine g_iload_n X dX8_soloSetting_12 rfl (j := 0) rfl ?_
    refine g_aload_n X dX8_soloSetting_13 rfl (j := 1) rfl ?_
    refine i_get X F 100 rfl rfl fk_X8_40 dX8_soloSetting_14 rfl ?_
    refine g_iload_n X dX8_soloSetting_17 rfl (j := 0) rfl ?_
    obtain ⟨n6, hn6, en6⟩ := rg_nat (I 120 i2_1) (by decide)
    refine i_iald X F 120 rfl rfl dX8_soloSetting_18 (vp_in_nI (by omega) (by decide)) (v := nI n6) (by rw [nI_clamp (by omega)]; exact en6) ?_
    refine i_iast X F I 129 rfl (fun _ => rfl) dX8_soloSetting_19 (vp_in_nI (by omega) (by decide)) (rg_of (n := n6) (by omega) (by omega) (by omega)) (fun M C F I K1 hC => ?_)
    have K := K.step K1 (by decide)
    refine g_iinc X dX8_soloSetting_20 (j := 0) rfl (v := nI (i2_1 + 1)) (nI_1 i2_1) (by decide) (lv2 := [(1, .int (nI (i2_1 + 1))), (0, .ref (a 100))]) rfl ?_
    refine g_goto X dX8_soloSetting_23 (tgt := 2) (by decide) ?_
    refine g_lv [0, 1] (lv2 := [(1, .int (nI (i2_1 + 1))), (0, .ref (a 100))]) rfl ?_
    exact ih2 ((i2_1 + 1)) L M C D F I K ⟨by omega, by omega⟩ (by show _ < _; omega)
set_option maxHeartbeats 4000000 in
set_option maxRecDepth 100000 in
theorem s_X8_alone (l : Launch) (G : va_G) {cy : Nat → ClassId} {L : List Nat} {M : Nat → va_E} {a : Nat → Nat} {act : Nat → Bool} {C0 : Nat → Nat → Int32} {D0 : Nat → Nat → Int64} {R : Nat → Nat → Option Nat} (F : WI L M a act (ent cy a C0 D0 R)) (I : Inv C0) (p0 : Int32)  : MI l G cy yX8_alone cX8_alone 2 (some .int) 4 0 0 [.ref (a 100), .int p0] L M (fun r L2 M2 => ∃ C2 D2, WI L2 M2 a act (ent cy a C2 D2 R) ∧ Inv C2 ∧ Kp [100, 115, 116, 120, 129] C0 D0 C2 D2 ∧ True) := by
  refine MI.of (own := RX8) rfl (by decide) (Nat.le_of_ble_eq_true rfl) ?_
  intro p e s m below meth c A X hrt hnm
  obtain ⟨C, D, hC0, hD0, F, I, K⟩ : ∃ C D, C = C0 ∧ D = D0 ∧ WI L M a act (ent cy a C D R) ∧ Inv C ∧ Kp [100, 115, 116, 120, 129] C0 D0 C D := ⟨C0, D0, rfl, rfl, F, I, Kp.rf⟩
  obtain ⟨n1, hn1, en1⟩ := rg_nat ((show okw 0 (C 101 0) from I 101 0).1 rfl) (by decide)
  rw [hC0] at en1
  obtain ⟨n2, hn2, en2⟩ := rg_nat ((show okw 4 (C 101 4) from I 101 4).2.2.2.1 rfl) (by decide)
  rw [hC0] at en2
  obtain ⟨n3, hn3, en3⟩ := rg_nat ((show okw 7 (C 101 7) from I 101 7).2.2.2.2.1 rfl) (by decide)
  rw [hC0] at en3
  refine g_aload_n X dX8_alone_0 rfl (j := 0) rfl ?_
  refine g_iload_n X dX8_alone_1 rfl (j := 1) rfl ?_
  refine g_i2l X dX8_alone_2 rfl ?_
  refine g_callVI X (s_X8_isPost l G F I ((Int32.toInt64 p0)) ) lk_X8_112 (F.1 100 rfl).2 (F.1 100 rfl).1 rfl rfl dX8_alone_3 (Nat.le_of_ble_eq_true rfl) ⟨by decide, by decide⟩ ⟨by decide, by decide⟩ (fun r4 L M hp => ?_)
  obtain ⟨C, D, F, I, K1, hr⟩ := hp
  have K := K.step K1 (by decide)
  rcases hr with rfl | ⟨rfl, hl5a, hl5b⟩
  · skip
    refine g_if_ne X dX8_alone_6 (tgt := 12) (by decide) (fun q => absurd (by decide) q) (fun _ => ?_)
    refine g_bipush X dX8_alone_9 (v := -2) (by decide) ?_
    exact g_iret X hrt dX8_alone_11 (by decide) (by decide) ⟨C, D, F, I, K, trivial⟩
  · skip
    rw [Jvm.Kit.i64_of_i32] at hl5a hl5b
    obtain ⟨n6, hn6a, hn6b, en6⟩ := nI_ofInt (x := p0) (lo := 0) (hi := 6) (by omega) (by omega) (by decide)
    subst en6
    refine g_if_ne X dX8_alone_6 (tgt := 12) (by decide) (fun _ => ?_) (fun q => absurd q (by decide))
    refine g_aload_n X dX8_alone_12 rfl (j := 0) rfl ?_
    refine g_callVV X (s_X8_soloBegin l G F I  ) lk_X8_376 (F.1 100 rfl).2 (F.1 100 rfl).1 rfl rfl dX8_alone_13 (Nat.le_of_ble_eq_true rfl) ⟨by decide, by decide⟩ ⟨by decide, by decide⟩ (fun L M hp => ?_)
    obtain ⟨C, D, F, I, K1, hr⟩ := hp
    have K := K.step K1 (by decide)
    refine g_aload_n X dX8_alone_16 rfl (j := 0) rfl ?_
    refine g_iload_n X dX8_alone_17 rfl (j := 1) rfl ?_
    refine g_callVI X (s_X8_solo l G F I n6 (by omega) (by omega) ) lk_X8_379 (F.1 100 rfl).2 (F.1 100 rfl).1 rfl rfl dX8_alone_18 (Nat.le_of_ble_eq_true rfl) ⟨by decide, by decide⟩ ⟨by decide, by decide⟩ (fun r7 L M hp => ?_)
    obtain ⟨C, D, F, I, K1, hr⟩ := hp
    have K := K.step K1 (by decide)
    exact g_iret X hrt dX8_alone_21 (by decide) (by decide) ⟨C, D, F, I, K, trivial⟩
set_option maxHeartbeats 4000000 in
set_option maxRecDepth 100000 in
theorem s_X8_steps (l : Launch) (G : va_G) {cy : Nat → ClassId} {L : List Nat} {M : Nat → va_E} {a : Nat → Nat} {act : Nat → Bool} {C0 : Nat → Nat → Int32} {D0 : Nat → Nat → Int64} {R : Nat → Nat → Option Nat} (F : WI L M a act (ent cy a C0 D0 R)) (I : Inv C0) (p0 : Int32)  : MI l G cy yX8_steps cX8_steps 2 (some .int) 4 0 0 [.ref (a 100), .int p0] L M (fun r L2 M2 => ∃ C2 D2, WI L2 M2 a act (ent cy a C2 D2 R) ∧ Inv C2 ∧ Kp [100, 115, 116, 120, 129] C0 D0 C2 D2 ∧ True) := by
  refine MI.of (own := RX8) rfl (by decide) (Nat.le_of_ble_eq_true rfl) ?_
  intro p e s m below meth c A X hrt hnm
  obtain ⟨C, D, hC0, hD0, F, I, K⟩ : ∃ C D, C = C0 ∧ D = D0 ∧ WI L M a act (ent cy a C D R) ∧ Inv C ∧ Kp [100, 115, 116, 120, 129] C0 D0 C D := ⟨C0, D0, rfl, rfl, F, I, Kp.rf⟩
  obtain ⟨n1, hn1, en1⟩ := rg_nat ((show okw 0 (C 101 0) from I 101 0).1 rfl) (by decide)
  rw [hC0] at en1
  obtain ⟨n2, hn2, en2⟩ := rg_nat ((show okw 4 (C 101 4) from I 101 4).2.2.2.1 rfl) (by decide)
  rw [hC0] at en2
  obtain ⟨n3, hn3, en3⟩ := rg_nat ((show okw 7 (C 101 7) from I 101 7).2.2.2.2.1 rfl) (by decide)
  rw [hC0] at en3
  refine g_aload_n X dX8_steps_0 rfl (j := 0) rfl ?_
  refine g_iload_n X dX8_steps_1 rfl (j := 1) rfl ?_
  refine g_i2l X dX8_steps_2 rfl ?_
  refine g_callVI X (s_X8_isPost l G F I ((Int32.toInt64 p0)) ) lk_X8_112 (F.1 100 rfl).2 (F.1 100 rfl).1 rfl rfl dX8_steps_3 (Nat.le_of_ble_eq_true rfl) ⟨by decide, by decide⟩ ⟨by decide, by decide⟩ (fun r4 L M hp => ?_)
  obtain ⟨C, D, F, I, K1, hr⟩ := hp
  have K := K.step K1 (by decide)
  rcases hr with rfl | ⟨rfl, hl5a, hl5b⟩
  · skip
    refine g_if_ne X dX8_steps_6 (tgt := 12) (by decide) (fun q => absurd (by decide) q) (fun _ => ?_)
    refine g_bipush X dX8_steps_9 (v := -2) (by decide) ?_
    exact g_iret X hrt dX8_steps_11 (by decide) (by decide) ⟨C, D, F, I, K, trivial⟩
  · skip
    rw [Jvm.Kit.i64_of_i32] at hl5a hl5b
    obtain ⟨n6, hn6a, hn6b, en6⟩ := nI_ofInt (x := p0) (lo := 0) (hi := 6) (by omega) (by omega) (by decide)
    subst en6
    refine g_if_ne X dX8_steps_6 (tgt := 12) (by decide) (fun _ => ?_) (fun q => absurd q (by decide))
    refine g_aload_n X dX8_steps_12 rfl (j := 0) rfl ?_
    refine g_callVV X (s_X8_soloBegin l G F I  ) lk_X8_376 (F.1 100 rfl).2 (F.1 100 rfl).1 rfl rfl dX8_steps_13 (Nat.le_of_ble_eq_true rfl) ⟨by decide, by decide⟩ ⟨by decide, by decide⟩ (fun L M hp => ?_)
    obtain ⟨C, D, F, I, K1, hr⟩ := hp
    have K := K.step K1 (by decide)
    refine g_aload_n X dX8_steps_16 rfl (j := 0) rfl ?_
    refine g_iload_n X dX8_steps_17 rfl (j := 1) rfl ?_
    refine g_callVI X (s_X8_solo l G F I n6 (by omega) (by omega) ) lk_X8_379 (F.1 100 rfl).2 (F.1 100 rfl).1 rfl rfl dX8_steps_18 (Nat.le_of_ble_eq_true rfl) ⟨by decide, by decide⟩ ⟨by decide, by decide⟩ (fun r7 L M hp => ?_)
    obtain ⟨C, D, F, I, K1, hr⟩ := hp
    have K := K.step K1 (by decide)
    refine g_iconst X dX8_steps_21 (v := -1) (by decide) ?_
    refine g_icmp_ne X dX8_steps_22 (tgt := 29) (by decide) (fun q8 => ?_) (fun q8 => ?_)
    · skip
      refine g_aload_n X dX8_steps_29 rfl (j := 0) rfl ?_
      refine i_get X F 100 rfl rfl fk_X8_373 dX8_steps_30 rfl ?_
      refine Go.gen (fun o9 => ?_)
      exact g_iret X hrt dX8_steps_33 (by decide) (by decide) ⟨C, D, F, I, K, trivial⟩
    · skip
      subst q8
      refine g_iconst X dX8_steps_25 (v := -1) (by decide) ?_
      refine g_goto X dX8_steps_26 (tgt := 33) (by decide) ?_
      exact g_iret X hrt dX8_steps_33 (by decide) (by decide) ⟨C, D, F, I, K, trivial⟩
set_option maxHeartbeats 4000000 in
set_option maxRecDepth 100000 in
theorem s_X8_behind (l : Launch) (G : va_G) {cy : Nat → ClassId} {L : List Nat} {M : Nat → va_E} {a : Nat → Nat} {act : Nat → Bool} {C0 : Nat → Nat → Int32} {D0 : Nat → Nat → Int64} {R : Nat → Nat → Option Nat} (F : WI L M a act (ent cy a C0 D0 R)) (I : Inv C0) (p0 : Int32)  : MI l G cy yX8_behind cX8_behind 2 (some .int) 4 0 0 [.ref (a 100), .int p0] L M (fun r L2 M2 => ∃ C2 D2, WI L2 M2 a act (ent cy a C2 D2 R) ∧ Inv C2 ∧ Kp [100, 115, 116, 120, 129] C0 D0 C2 D2 ∧ True) := by
  refine MI.of (own := RX8) rfl (by decide) (Nat.le_of_ble_eq_true rfl) ?_
  intro p e s m below meth c A X hrt hnm
  obtain ⟨C, D, hC0, hD0, F, I, K⟩ : ∃ C D, C = C0 ∧ D = D0 ∧ WI L M a act (ent cy a C D R) ∧ Inv C ∧ Kp [100, 115, 116, 120, 129] C0 D0 C D := ⟨C0, D0, rfl, rfl, F, I, Kp.rf⟩
  obtain ⟨n1, hn1, en1⟩ := rg_nat ((show okw 0 (C 101 0) from I 101 0).1 rfl) (by decide)
  rw [hC0] at en1
  obtain ⟨n2, hn2, en2⟩ := rg_nat ((show okw 4 (C 101 4) from I 101 4).2.2.2.1 rfl) (by decide)
  rw [hC0] at en2
  obtain ⟨n3, hn3, en3⟩ := rg_nat ((show okw 7 (C 101 7) from I 101 7).2.2.2.2.1 rfl) (by decide)
  rw [hC0] at en3
  refine g_aload_n X dX8_behind_0 rfl (j := 0) rfl ?_
  refine g_iload_n X dX8_behind_1 rfl (j := 1) rfl ?_
  refine g_i2l X dX8_behind_2 rfl ?_
  refine g_callVI X (s_X8_isPost l G F I ((Int32.toInt64 p0)) ) lk_X8_112 (F.1 100 rfl).2 (F.1 100 rfl).1 rfl rfl dX8_behind_3 (Nat.le_of_ble_eq_true rfl) ⟨by decide, by decide⟩ ⟨by decide, by decide⟩ (fun r4 L M hp => ?_)
  obtain ⟨C, D, F, I, K1, hr⟩ := hp
  have K := K.step K1 (by decide)
  rcases hr with rfl | ⟨rfl, hl5a, hl5b⟩
  · skip
    refine g_if_ne X dX8_behind_6 (tgt := 12) (by decide) (fun q => absurd (by decide) q) (fun _ => ?_)
    refine g_bipush X dX8_behind_9 (v := -2) (by decide) ?_
    exact g_iret X hrt dX8_behind_11 (by decide) (by decide) ⟨C, D, F, I, K, trivial⟩
  · skip
    rw [Jvm.Kit.i64_of_i32] at hl5a hl5b
    obtain ⟨n6, hn6a, hn6b, en6⟩ := nI_ofInt (x := p0) (lo := 0) (hi := 6) (by omega) (by omega) (by decide)
    subst en6
    refine g_if_ne X dX8_behind_6 (tgt := 12) (by decide) (fun _ => ?_) (fun q => absurd q (by decide))
    refine g_aload_n X dX8_behind_12 rfl (j := 0) rfl ?_
    refine g_callVV X (s_X8_soloBegin l G F I  ) lk_X8_376 (F.1 100 rfl).2 (F.1 100 rfl).1 rfl rfl dX8_behind_13 (Nat.le_of_ble_eq_true rfl) ⟨by decide, by decide⟩ ⟨by decide, by decide⟩ (fun L M hp => ?_)
    obtain ⟨C, D, F, I, K1, hr⟩ := hp
    have K := K.step K1 (by decide)
    refine g_aload_n X dX8_behind_16 rfl (j := 0) rfl ?_
    refine g_iload_n X dX8_behind_17 rfl (j := 1) rfl ?_
    refine g_callVI X (s_X8_solo l G F I n6 (by omega) (by omega) ) lk_X8_379 (F.1 100 rfl).2 (F.1 100 rfl).1 rfl rfl dX8_behind_18 (Nat.le_of_ble_eq_true rfl) ⟨by decide, by decide⟩ ⟨by decide, by decide⟩ (fun r7 L M hp => ?_)
    obtain ⟨C, D, F, I, K1, hr⟩ := hp
    have K := K.step K1 (by decide)
    refine g_iconst X dX8_behind_21 (v := -1) (by decide) ?_
    refine g_icmp_ne X dX8_behind_22 (tgt := 29) (by decide) (fun q8 => ?_) (fun q8 => ?_)
    · skip
      refine g_aload_n X dX8_behind_29 rfl (j := 0) rfl ?_
      refine g_callVI X (s_X8_soloSetting l G F I  ) lk_X8_382 (F.1 100 rfl).2 (F.1 100 rfl).1 rfl rfl dX8_behind_30 (Nat.le_of_ble_eq_true rfl) ⟨by decide, by decide⟩ ⟨by decide, by decide⟩ (fun r9 L M hp => ?_)
      obtain ⟨C, D, F, I, K1, hr⟩ := hp
      have K := K.step K1 (by decide)
      exact g_iret X hrt dX8_behind_33 (by decide) (by decide) ⟨C, D, F, I, K, trivial⟩
    · skip
      subst q8
      refine g_iconst X dX8_behind_25 (v := -1) (by decide) ?_
      refine g_goto X dX8_behind_26 (tgt := 33) (by decide) ?_
      exact g_iret X hrt dX8_behind_33 (by decide) (by decide) ⟨C, D, F, I, K, trivial⟩
set_option maxHeartbeats 4000000 in
set_option maxRecDepth 100000 in
theorem s_X8_nth (l : Launch) (G : va_G) {cy : Nat → ClassId} {L : List Nat} {M : Nat → va_E} {a : Nat → Nat} {act : Nat → Bool} {C0 : Nat → Nat → Int32} {D0 : Nat → Nat → Int64} {R : Nat → Nat → Option Nat} (F : WI L M a act (ent cy a C0 D0 R)) (I : Inv C0) (p0 : Int32) (p1 : Int32)  : MI l G cy yX8_nth cX8_nth 5 (some .int) 4 0 0 [.ref (a 100), .int p0, .int p1] L M (fun r L2 M2 => ∃ C2 D2, WI L2 M2 a act (ent cy a C2 D2 R) ∧ Inv C2 ∧ Kp [100, 115, 116, 120, 129] C0 D0 C2 D2 ∧ True) := by
  refine MI.of (own := RX8) rfl (by decide) (Nat.le_of_ble_eq_true rfl) ?_
  intro p e s m below meth c A X hrt hnm
  obtain ⟨C, D, hC0, hD0, F, I, K⟩ : ∃ C D, C = C0 ∧ D = D0 ∧ WI L M a act (ent cy a C D R) ∧ Inv C ∧ Kp [100, 115, 116, 120, 129] C0 D0 C D := ⟨C0, D0, rfl, rfl, F, I, Kp.rf⟩
  obtain ⟨n1, hn1, en1⟩ := rg_nat ((show okw 0 (C 101 0) from I 101 0).1 rfl) (by decide)
  rw [hC0] at en1
  obtain ⟨n2, hn2, en2⟩ := rg_nat ((show okw 4 (C 101 4) from I 101 4).2.2.2.1 rfl) (by decide)
  rw [hC0] at en2
  obtain ⟨n3, hn3, en3⟩ := rg_nat ((show okw 7 (C 101 7) from I 101 7).2.2.2.2.1 rfl) (by decide)
  rw [hC0] at en3
  refine g_aload_n X dX8_nth_0 rfl (j := 0) rfl ?_
  refine g_iload_n X dX8_nth_1 rfl (j := 1) rfl ?_
  refine g_i2l X dX8_nth_2 rfl ?_
  refine g_callVI X (s_X8_isPost l G F I ((Int32.toInt64 p0)) ) lk_X8_112 (F.1 100 rfl).2 (F.1 100 rfl).1 rfl rfl dX8_nth_3 (Nat.le_of_ble_eq_true rfl) ⟨by decide, by decide⟩ ⟨by decide, by decide⟩ (fun r4 L M hp => ?_)
  obtain ⟨C, D, F, I, K1, hr⟩ := hp
  have K := K.step K1 (by decide)
  rcases hr with rfl | ⟨rfl, hl5a, hl5b⟩
  · skip
    refine g_if_eq X dX8_nth_6 (tgt := 21) (by decide) (fun _ => ?_) (fun q => absurd (by decide) q)
    refine g_bipush X dX8_nth_21 (v := -2) (by decide) ?_
    exact g_iret X hrt dX8_nth_23 (by decide) (by decide) ⟨C, D, F, I, K, trivial⟩
  · skip
    rw [Jvm.Kit.i64_of_i32] at hl5a hl5b
    obtain ⟨n6, hn6a, hn6b, en6⟩ := nI_ofInt (x := p0) (lo := 0) (hi := 6) (by omega) (by omega) (by decide)
    subst en6
    refine g_if_eq X dX8_nth_6 (tgt := 21) (by decide) (fun q => absurd q (by decide)) (fun _ => ?_)
    refine g_iload_n X dX8_nth_9 rfl (j := 2) rfl ?_
    refine g_i2l X dX8_nth_10 rfl ?_
    refine g_lconst X dX8_nth_11 (v := 1) (by decide) ?_
    refine g_ldc2 X (v := 20) wd851 dX8_nth_12 ?_
    refine g_callSI X (s_X8_in l G F I ((Int32.toInt64 p1)) (1 : Int64) (20 : Int64) ) lk_X8_94 rfl rfl dX8_nth_15 (Nat.le_of_ble_eq_true rfl) ⟨by decide, by decide⟩ ⟨by decide, by decide⟩ (fun r7 L M hp => ?_)
    obtain ⟨C, D, F, I, K1, hr⟩ := hp
    have K := K.step K1 (by decide)
    rcases hr with ⟨rfl, hq8⟩ | ⟨rfl, hq8⟩
    · skip
      have hq8x := Jvm.Kit.i64_of_i32 p1
      have hq8l : (1 : Int64).toInt = 1 := (by decide)
      have hq8h : (20 : Int64).toInt = 20 := (by decide)
      refine g_if_ne X dX8_nth_18 (tgt := 24) (by decide) (fun q => absurd (by decide) q) (fun _ => ?_)
      refine g_bipush X dX8_nth_21 (v := -2) (by decide) ?_
      exact g_iret X hrt dX8_nth_23 (by decide) (by decide) ⟨C, D, F, I, K, trivial⟩
    · skip
      have hq8x := Jvm.Kit.i64_of_i32 p1
      have hq8l : (1 : Int64).toInt = 1 := (by decide)
      have hq8h : (20 : Int64).toInt = 20 := (by decide)
      obtain ⟨n9, hn9a, hn9b, en9⟩ := nI_ofInt (x := p1) (lo := 1) (hi := 20) (by omega) (by omega) (by decide)
      subst en9
      have tn9 := nI_toInt (n := n9) (by omega)
      refine g_if_ne X dX8_nth_18 (tgt := 24) (by decide) (fun _ => ?_) (fun q => absurd q (by decide))
      refine g_aload_n X dX8_nth_24 rfl (j := 0) rfl ?_
      refine g_callVV X (s_X8_soloBegin l G F I  ) lk_X8_376 (F.1 100 rfl).2 (F.1 100 rfl).1 rfl rfl dX8_nth_25 (Nat.le_of_ble_eq_true rfl) ⟨by decide, by decide⟩ ⟨by decide, by decide⟩ (fun L M hp => ?_)
      obtain ⟨C, D, F, I, K1, hr⟩ := hp
      have K := K.step K1 (by decide)
      refine g_iconst X dX8_nth_28 (v := 0) (by decide) ?_
      refine g_istore_n X dX8_nth_29 rfl (by decide) (lv2 := [(3, .int 0), (0, .ref (a 100)), (1, .int (nI n6)), (2, .int (nI n9))]) rfl ?_
      refine g_iconst X dX8_nth_30 (v := 0) (by decide) ?_
      refine g_istore X dX8_nth_31 (by decide) (lv2 := [(4, .int 0), (3, .int 0), (0, .ref (a 100)), (1, .int (nI n6)), (2, .int (nI n9))]) rfl ?_
      refine g_lv [0, 1, 2, 3, 4] (lv2 := [(4, .int 0), (3, .int 0), (0, .ref (a 100)), (1, .int (nI n6)), (2, .int (nI n9))]) rfl ?_
      refine i_loop (mods := [100, 115, 116, 120, 129]) (fun x : Nat × Int32 => 20 - x.1) (fun x => [(4, .int (nI (x.1))), (3, .int (x.2)), (0, .ref (a 100)), (1, .int (nI n6)), (2, .int (nI n9))]) (fun x C => 0 ≤ x.1 ∧ x.1 ≤ 20) (fun x L M C D F I K hP ih33 => ?_) ((0, 0) : Nat × Int32) F I K ⟨by show _ ≤ _; omega, by show _ ≤ _; omega⟩
      rcases x with ⟨i33_4, v33_3⟩
      obtain ⟨hi33_4a, hi33_4b⟩ := hP
      refine g_lv [0, 1, 2, 3, 4] (lv2 := [(4, .int (nI i33_4)), (3, .int v33_3), (0, .ref (a 100)), (1, .int (nI n6)), (2, .int (nI n9))]) rfl ?_
      refine g_iload X dX8_nth_33 (j := 0) rfl ?_
      refine g_iload_n X dX8_nth_35 rfl (j := 4) rfl ?_
      refine g_icmp_ge X dX8_nth_36 (tgt := 56) (by decide) (fun q10 => ?_) (fun q10 => ?_)
      · skip
        have q10 : n9 ≤ i33_4 := (nI_leI (a := n9) (b := i33_4) (by omega) (by omega)).mp q10
        refine g_iload_n X dX8_nth_56 rfl (j := 1) rfl ?_
        exact g_iret X hrt dX8_nth_57 (by decide) (by decide) ⟨C, D, F, I, K, trivial⟩
      · skip
        have q10 : ¬ n9 ≤ i33_4 := fun z => q10 ((nI_leI (a := n9) (b := i33_4) (by omega) (by omega)).mpr z)
        refine g_iload_n X dX8_nth_39 rfl (j := 1) rfl ?_
        refine g_iconst X dX8_nth_40 (v := -1) (by decide) ?_
        refine g_icmp_eq X dX8_nth_41 (tgt := 56) (by decide) (fun q11 => ?_) (fun q11 => ?_)
        · skip
          subst q11
          refine g_iload_n X dX8_nth_56 rfl (j := 1) rfl ?_
          exact g_iret X hrt dX8_nth_57 (by decide) (by decide) ⟨C, D, F, I, K, trivial⟩
        · skip
          refine g_aload_n X dX8_nth_44 rfl (j := 2) rfl ?_
          refine g_iload_n X dX8_nth_45 rfl (j := 3) rfl ?_
          refine g_callVI X (s_X8_solo l G F I n6 (by omega) (by omega) ) lk_X8_379 (F.1 100 rfl).2 (F.1 100 rfl).1 rfl rfl dX8_nth_46 (Nat.le_of_ble_eq_true rfl) ⟨by decide, by decide⟩ ⟨by decide, by decide⟩ (fun r12 L M hp => ?_)
          obtain ⟨C, D, F, I, K1, hr⟩ := hp
          have K := K.step K1 (by decide)
          refine g_istore_n X dX8_nth_49 rfl (by decide) (lv2 := [(3, .int r12), (4, .int (nI i33_4)), (0, .ref (a 100)), (1, .int (nI n6)), (2, .int (nI n9))]) rfl ?_
          refine g_iinc X dX8_nth_50 (j := 1) rfl (v := nI (i33_4 + 1)) (nI_1 i33_4) (by decide) (lv2 := [(4, .int (nI (i33_4 + 1))), (3, .int r12), (0, .ref (a 100)), (1, .int (nI n6)), (2, .int (nI n9))]) rfl ?_
          refine g_goto X dX8_nth_53 (tgt := 33) (by decide) ?_
          refine g_lv [0, 1, 2, 3, 4] (lv2 := [(4, .int (nI (i33_4 + 1))), (3, .int r12), (0, .ref (a 100)), (1, .int (nI n6)), (2, .int (nI n9))]) rfl ?_
          exact ih33 ((i33_4 + 1), r12) L M C D F I K ⟨by omega, by omega⟩ (by show _ < _; omega)
set_option maxHeartbeats 4000000 in
set_option maxRecDepth 100000 in
theorem s_X8_round (l : Launch) (G : va_G) {cy : Nat → ClassId} {L : List Nat} {M : Nat → va_E} {a : Nat → Nat} {act : Nat → Bool} {C0 : Nat → Nat → Int32} {D0 : Nat → Nat → Int64} {R : Nat → Nat → Option Nat} (F : WI L M a act (ent cy a C0 D0 R)) (I : Inv C0) (p0 : Int32)  : MI l G cy yX8_round cX8_round 4 (some .int) 4 0 0 [.ref (a 100), .int p0] L M (fun r L2 M2 => ∃ C2 D2, WI L2 M2 a act (ent cy a C2 D2 R) ∧ Inv C2 ∧ Kp [100, 115, 116, 120, 129] C0 D0 C2 D2 ∧ True) := by
  refine MI.of (own := RX8) rfl (by decide) (Nat.le_of_ble_eq_true rfl) ?_
  intro p e s m below meth c A X hrt hnm
  obtain ⟨C, D, hC0, hD0, F, I, K⟩ : ∃ C D, C = C0 ∧ D = D0 ∧ WI L M a act (ent cy a C D R) ∧ Inv C ∧ Kp [100, 115, 116, 120, 129] C0 D0 C D := ⟨C0, D0, rfl, rfl, F, I, Kp.rf⟩
  obtain ⟨n1, hn1, en1⟩ := rg_nat ((show okw 0 (C 101 0) from I 101 0).1 rfl) (by decide)
  rw [hC0] at en1
  obtain ⟨n2, hn2, en2⟩ := rg_nat ((show okw 4 (C 101 4) from I 101 4).2.2.2.1 rfl) (by decide)
  rw [hC0] at en2
  obtain ⟨n3, hn3, en3⟩ := rg_nat ((show okw 7 (C 101 7) from I 101 7).2.2.2.2.1 rfl) (by decide)
  rw [hC0] at en3
  refine g_aload_n X dX8_round_0 rfl (j := 0) rfl ?_
  refine g_iload_n X dX8_round_1 rfl (j := 1) rfl ?_
  refine g_i2l X dX8_round_2 rfl ?_
  refine g_callVI X (s_X8_isPost l G F I ((Int32.toInt64 p0)) ) lk_X8_112 (F.1 100 rfl).2 (F.1 100 rfl).1 rfl rfl dX8_round_3 (Nat.le_of_ble_eq_true rfl) ⟨by decide, by decide⟩ ⟨by decide, by decide⟩ (fun r4 L M hp => ?_)
  obtain ⟨C, D, F, I, K1, hr⟩ := hp
  have K := K.step K1 (by decide)
  rcases hr with rfl | ⟨rfl, hl5a, hl5b⟩
  · skip
    refine g_if_ne X dX8_round_6 (tgt := 12) (by decide) (fun q => absurd (by decide) q) (fun _ => ?_)
    refine g_bipush X dX8_round_9 (v := -2) (by decide) ?_
    exact g_iret X hrt dX8_round_11 (by decide) (by decide) ⟨C, D, F, I, K, trivial⟩
  · skip
    rw [Jvm.Kit.i64_of_i32] at hl5a hl5b
    obtain ⟨n6, hn6a, hn6b, en6⟩ := nI_ofInt (x := p0) (lo := 0) (hi := 6) (by omega) (by omega) (by decide)
    subst en6
    refine g_if_ne X dX8_round_6 (tgt := 12) (by decide) (fun _ => ?_) (fun q => absurd q (by decide))
    refine g_aload_n X dX8_round_12 rfl (j := 0) rfl ?_
    refine g_callVV X (s_X8_soloBegin l G F I  ) lk_X8_376 (F.1 100 rfl).2 (F.1 100 rfl).1 rfl rfl dX8_round_13 (Nat.le_of_ble_eq_true rfl) ⟨by decide, by decide⟩ ⟨by decide, by decide⟩ (fun L M hp => ?_)
    obtain ⟨C, D, F, I, K1, hr⟩ := hp
    have K := K.step K1 (by decide)
    refine g_aload_n X dX8_round_16 rfl (j := 0) rfl ?_
    refine g_callVI X (s_X8_soloSetting l G F I  ) lk_X8_382 (F.1 100 rfl).2 (F.1 100 rfl).1 rfl rfl dX8_round_17 (Nat.le_of_ble_eq_true rfl) ⟨by decide, by decide⟩ ⟨by decide, by decide⟩ (fun r7 L M hp => ?_)
    obtain ⟨C, D, F, I, K1, hr⟩ := hp
    have K := K.step K1 (by decide)
    refine g_istore_n X dX8_round_20 rfl (by decide) (lv2 := [(2, .int r7), (0, .ref (a 100)), (1, .int (nI n6))]) rfl ?_
    refine g_iconst X dX8_round_21 (v := 1) (by decide) ?_
    refine g_istore_n X dX8_round_22 rfl (by decide) (lv2 := [(3, .int 1), (2, .int r7), (0, .ref (a 100)), (1, .int (nI n6))]) rfl ?_
    refine g_lv [0, 1, 2, 3] (lv2 := [(3, .int 1), (2, .int r7), (0, .ref (a 100)), (1, .int (nI n6))]) rfl ?_
    refine i_loop (mods := [100, 115, 116, 120, 129]) (fun x : Nat => 61 - x) (fun x => [(3, .int (nI (x))), (2, .int r7), (0, .ref (a 100)), (1, .int (nI n6))]) (fun x C => 1 ≤ x ∧ x ≤ 61) (fun x L M C D F I K hP ih23 => ?_) ((1) : Nat) F I K ⟨by show _ ≤ _; omega, by show _ ≤ _; omega⟩
    obtain ⟨i23_3, rfl⟩ : ∃ z, z = x := ⟨_, rfl⟩
    obtain ⟨hi23_3a, hi23_3b⟩ := hP
    refine g_lv [0, 1, 2, 3] (lv2 := [(3, .int (nI i23_3)), (2, .int r7), (0, .ref (a 100)), (1, .int (nI n6))]) rfl ?_
    refine g_iload_n X dX8_round_23 rfl (j := 0) rfl ?_
    refine g_bipush X dX8_round_24 (v := 60) (by decide) ?_
    refine g_icmp_gt X dX8_round_26 (tgt := 56) (by decide) (fun q8 => ?_) (fun q8 => ?_)
    · skip
      have q8 : 60 < i23_3 := (nI_ltI (a := 60) (b := i23_3) (by omega) (by omega)).mp q8
      refine g_iconst X dX8_round_56 (v := -1) (by decide) ?_
      exact g_iret X hrt dX8_round_57 (by decide) (by decide) ⟨C, D, F, I, K, trivial⟩
    · skip
      have q8 : ¬ 60 < i23_3 := fun z => q8 ((nI_ltI (a := 60) (b := i23_3) (by omega) (by omega)).mpr z)
      refine g_aload_n X dX8_round_29 rfl (j := 2) rfl ?_
      refine g_iload_n X dX8_round_30 rfl (j := 3) rfl ?_
      refine g_callVI X (s_X8_solo l G F I n6 (by omega) (by omega) ) lk_X8_379 (F.1 100 rfl).2 (F.1 100 rfl).1 rfl rfl dX8_round_31 (Nat.le_of_ble_eq_true rfl) ⟨by decide, by decide⟩ ⟨by decide, by decide⟩ (fun r9 L M hp => ?_)
      obtain ⟨C, D, F, I, K1, hr⟩ := hp
      have K := K.step K1 (by decide)
      refine g_iconst X dX8_round_34 (v := -1) (by decide) ?_
      refine g_icmp_ne X dX8_round_35 (tgt := 40) (by decide) (fun q10 => ?_) (fun q10 => ?_)
      · skip
        refine g_aload_n X dX8_round_40 rfl (j := 2) rfl ?_
        refine g_callVI X (s_X8_soloSetting l G F I  ) lk_X8_382 (F.1 100 rfl).2 (F.1 100 rfl).1 rfl rfl dX8_round_41 (Nat.le_of_ble_eq_true rfl) ⟨by decide, by decide⟩ ⟨by decide, by decide⟩ (fun r11 L M hp => ?_)
        obtain ⟨C, D, F, I, K1, hr⟩ := hp
        have K := K.step K1 (by decide)
        refine g_iload_n X dX8_round_44 rfl (j := 1) rfl ?_
        refine g_icmp_ne X dX8_round_45 (tgt := 50) (by decide) (fun q12 => ?_) (fun q12 => ?_)
        · skip
          refine g_iinc X dX8_round_50 (j := 0) rfl (v := nI (i23_3 + 1)) (nI_1 i23_3) (by decide) (lv2 := [(3, .int (nI (i23_3 + 1))), (2, .int r7), (0, .ref (a 100)), (1, .int (nI n6))]) rfl ?_
          refine g_goto X dX8_round_53 (tgt := 23) (by decide) ?_
          refine g_lv [0, 1, 2, 3] (lv2 := [(3, .int (nI (i23_3 + 1))), (2, .int r7), (0, .ref (a 100)), (1, .int (nI n6))]) rfl ?_
          exact ih23 ((i23_3 + 1)) L M C D F I K ⟨by omega, by omega⟩ (by show _ < _; omega)
        · skip
          refine g_iload_n X dX8_round_48 rfl (j := 0) rfl ?_
          exact g_iret X hrt dX8_round_49 (by decide) (by decide) ⟨C, D, F, I, K, trivial⟩
      · skip
        subst q10
        refine g_iconst X dX8_round_38 (v := -1) (by decide) ?_
        exact g_iret X hrt dX8_round_39 (by decide) (by decide) ⟨C, D, F, I, K, trivial⟩
set_option maxHeartbeats 4000000 in
set_option maxRecDepth 100000 in
theorem s_X8_houses (l : Launch) (G : va_G) {cy : Nat → ClassId} {L : List Nat} {M : Nat → va_E} {a : Nat → Nat} {act : Nat → Bool} {C0 : Nat → Nat → Int32} {D0 : Nat → Nat → Int64} {R : Nat → Nat → Option Nat} (F : WI L M a act (ent cy a C0 D0 R)) (I : Inv C0) (p0 : Int32) (p1 : Int32) (p2 : Int32)  : MI l G cy yX8_houses cX8_houses 7 (some .int) 4 0 0 [.ref (a 100), .int p0, .int p1, .int p2] L M (fun r L2 M2 => ∃ C2 D2, WI L2 M2 a act (ent cy a C2 D2 R) ∧ Inv C2 ∧ Kp [100, 115, 116, 120, 129] C0 D0 C2 D2 ∧ True) := by
  refine MI.of (own := RX8) rfl (by decide) (Nat.le_of_ble_eq_true rfl) ?_
  intro p e s m below meth c A X hrt hnm
  obtain ⟨C, D, hC0, hD0, F, I, K⟩ : ∃ C D, C = C0 ∧ D = D0 ∧ WI L M a act (ent cy a C D R) ∧ Inv C ∧ Kp [100, 115, 116, 120, 129] C0 D0 C D := ⟨C0, D0, rfl, rfl, F, I, Kp.rf⟩
  obtain ⟨n1, hn1, en1⟩ := rg_nat ((show okw 0 (C 101 0) from I 101 0).1 rfl) (by decide)
  rw [hC0] at en1
  obtain ⟨n2, hn2, en2⟩ := rg_nat ((show okw 4 (C 101 4) from I 101 4).2.2.2.1 rfl) (by decide)
  rw [hC0] at en2
  obtain ⟨n3, hn3, en3⟩ := rg_nat ((show okw 7 (C 101 7) from I 101 7).2.2.2.2.1 rfl) (by decide)
  rw [hC0] at en3
  refine g_aload_n X dX8_houses_0 rfl (j := 0) rfl ?_
  refine g_iload_n X dX8_houses_1 rfl (j := 1) rfl ?_
  refine g_i2l X dX8_houses_2 rfl ?_
  refine g_callVI X (s_X8_isPost l G F I ((Int32.toInt64 p0)) ) lk_X8_112 (F.1 100 rfl).2 (F.1 100 rfl).1 rfl rfl dX8_houses_3 (Nat.le_of_ble_eq_true rfl) ⟨by decide, by decide⟩ ⟨by decide, by decide⟩ (fun r4 L M hp => ?_)
  obtain ⟨C, D, F, I, K1, hr⟩ := hp
  have K := K.step K1 (by decide)
  rcases hr with rfl | ⟨rfl, hl5a, hl5b⟩
  · skip
    refine g_if_eq X dX8_houses_6 (tgt := 30) (by decide) (fun _ => ?_) (fun q => absurd (by decide) q)
    refine g_bipush X dX8_houses_30 (v := -2) (by decide) ?_
    exact g_iret X hrt dX8_houses_32 (by decide) (by decide) ⟨C, D, F, I, K, trivial⟩
  · skip
    rw [Jvm.Kit.i64_of_i32] at hl5a hl5b
    obtain ⟨n6, hn6a, hn6b, en6⟩ := nI_ofInt (x := p0) (lo := 0) (hi := 6) (by omega) (by omega) (by decide)
    subst en6
    refine g_if_eq X dX8_houses_6 (tgt := 30) (by decide) (fun q => absurd q (by decide)) (fun _ => ?_)
    refine g_iload_n X dX8_houses_9 rfl (j := 2) rfl ?_
    refine g_i2l X dX8_houses_10 rfl ?_
    refine g_lconst X dX8_houses_11 (v := 1) (by decide) ?_
    refine g_ldc2 X (v := 20) wd851 dX8_houses_12 ?_
    refine g_callSI X (s_X8_in l G F I ((Int32.toInt64 p1)) (1 : Int64) (20 : Int64) ) lk_X8_94 rfl rfl dX8_houses_15 (Nat.le_of_ble_eq_true rfl) ⟨by decide, by decide⟩ ⟨by decide, by decide⟩ (fun r7 L M hp => ?_)
    obtain ⟨C, D, F, I, K1, hr⟩ := hp
    have K := K.step K1 (by decide)
    rcases hr with ⟨rfl, hq8⟩ | ⟨rfl, hq8⟩
    · skip
      have hq8x := Jvm.Kit.i64_of_i32 p1
      have hq8l : (1 : Int64).toInt = 1 := (by decide)
      have hq8h : (20 : Int64).toInt = 20 := (by decide)
      refine g_if_eq X dX8_houses_18 (tgt := 30) (by decide) (fun _ => ?_) (fun q => absurd (by decide) q)
      refine g_bipush X dX8_houses_30 (v := -2) (by decide) ?_
      exact g_iret X hrt dX8_houses_32 (by decide) (by decide) ⟨C, D, F, I, K, trivial⟩
    · skip
      have hq8x := Jvm.Kit.i64_of_i32 p1
      have hq8l : (1 : Int64).toInt = 1 := (by decide)
      have hq8h : (20 : Int64).toInt = 20 := (by decide)
      obtain ⟨n9, hn9a, hn9b, en9⟩ := nI_ofInt (x := p1) (lo := 1) (hi := 20) (by omega) (by omega) (by decide)
      subst en9
      have tn9 := nI_toInt (n := n9) (by omega)
      refine g_if_eq X dX8_houses_18 (tgt := 30) (by decide) (fun q => absurd q (by decide)) (fun _ => ?_)
      refine g_aload_n X dX8_houses_21 rfl (j := 0) rfl ?_
      refine g_iload_n X dX8_houses_22 rfl (j := 3) rfl ?_
      refine g_i2l X dX8_houses_23 rfl ?_
      refine g_callVI X (s_X8_isInn l G F I ((Int32.toInt64 p2)) ) lk_X8_118 (F.1 100 rfl).2 (F.1 100 rfl).1 rfl rfl dX8_houses_24 (Nat.le_of_ble_eq_true rfl) ⟨by decide, by decide⟩ ⟨by decide, by decide⟩ (fun r10 L M hp => ?_)
      obtain ⟨C, D, F, I, K1, hr⟩ := hp
      have K := K.step K1 (by decide)
      rcases hr with rfl | ⟨rfl, hl11a, hl11b⟩
      · skip
        refine g_if_ne X dX8_houses_27 (tgt := 33) (by decide) (fun q => absurd (by decide) q) (fun _ => ?_)
        refine g_bipush X dX8_houses_30 (v := -2) (by decide) ?_
        exact g_iret X hrt dX8_houses_32 (by decide) (by decide) ⟨C, D, F, I, K, trivial⟩
      · skip
        rw [Jvm.Kit.i64_of_i32] at hl11a hl11b
        obtain ⟨n12, hn12a, hn12b, en12⟩ := nI_ofInt (x := p2) (lo := 0) (hi := 3) (by omega) (by omega) (by decide)
        subst en12
        refine g_if_ne X dX8_houses_27 (tgt := 33) (by decide) (fun _ => ?_) (fun q => absurd q (by decide))
        refine g_aload_n X dX8_houses_33 rfl (j := 0) rfl ?_
        refine g_callVV X (s_X8_soloBegin l G F I  ) lk_X8_376 (F.1 100 rfl).2 (F.1 100 rfl).1 rfl rfl dX8_houses_34 (Nat.le_of_ble_eq_true rfl) ⟨by decide, by decide⟩ ⟨by decide, by decide⟩ (fun L M hp => ?_)
        obtain ⟨C, D, F, I, K1, hr⟩ := hp
        have K := K.step K1 (by decide)
        refine g_iconst X dX8_houses_37 (v := 0) (by decide) ?_
        refine g_istore X dX8_houses_38 (by decide) (lv2 := [(4, .int 0), (0, .ref (a 100)), (1, .int (nI n6)), (2, .int (nI n9)), (3, .int (nI n12))]) rfl ?_
        refine g_iconst X dX8_houses_40 (v := 0) (by decide) ?_
        refine g_istore X dX8_houses_41 (by decide) (lv2 := [(5, .int 0), (4, .int 0), (0, .ref (a 100)), (1, .int (nI n6)), (2, .int (nI n9)), (3, .int (nI n12))]) rfl ?_
        refine g_lv [0, 1, 2, 3, 4, 5] (lv2 := [(5, .int 0), (4, .int 0), (0, .ref (a 100)), (1, .int (nI n6)), (2, .int (nI n9)), (3, .int (nI n12))]) rfl ?_
        refine i_loop (mods := [100, 115, 116, 120, 129]) (fun x : Nat × Int32 => 20 - x.1) (fun x => [(5, .int (nI (x.1))), (4, .int (x.2)), (0, .ref (a 100)), (1, .int (nI n6)), (2, .int (nI n9)), (3, .int (nI n12))]) (fun x C => 0 ≤ x.1 ∧ x.1 ≤ 20) (fun x L M C D F I K hP ih43 => ?_) ((0, 0) : Nat × Int32) F I K ⟨by show _ ≤ _; omega, by show _ ≤ _; omega⟩
        rcases x with ⟨i43_5, v43_4⟩
        obtain ⟨hi43_5a, hi43_5b⟩ := hP
        refine g_lv [0, 1, 2, 3, 4, 5] (lv2 := [(5, .int (nI i43_5)), (4, .int v43_4), (0, .ref (a 100)), (1, .int (nI n6)), (2, .int (nI n9)), (3, .int (nI n12))]) rfl ?_
        refine g_iload X dX8_houses_43 (j := 0) rfl ?_
        refine g_iload_n X dX8_houses_45 rfl (j := 4) rfl ?_
        refine g_icmp_ge X dX8_houses_46 (tgt := 86) (by decide) (fun q13 => ?_) (fun q13 => ?_)
        · skip
          have q13 : n9 ≤ i43_5 := (nI_leI (a := n9) (b := i43_5) (by omega) (by omega)).mp q13
          refine g_iload X dX8_houses_86 (j := 1) rfl ?_
          exact g_iret X hrt dX8_houses_88 (by decide) (by decide) ⟨C, D, F, I, K, trivial⟩
        · skip
          have q13 : ¬ n9 ≤ i43_5 := fun z => q13 ((nI_leI (a := n9) (b := i43_5) (by omega) (by omega)).mpr z)
          refine g_aload_n X dX8_houses_49 rfl (j := 2) rfl ?_
          refine g_iload_n X dX8_houses_50 rfl (j := 3) rfl ?_
          refine g_callVI X (s_X8_solo l G F I n6 (by omega) (by omega) ) lk_X8_379 (F.1 100 rfl).2 (F.1 100 rfl).1 rfl rfl dX8_houses_51 (Nat.le_of_ble_eq_true rfl) ⟨by decide, by decide⟩ ⟨by decide, by decide⟩ (fun r14 L M hp => ?_)
          obtain ⟨C, D, F, I, K1, hr⟩ := hp
          have K := K.step K1 (by decide)
          refine g_istore X dX8_houses_54 (by decide) (lv2 := [(6, .int r14), (5, .int (nI i43_5)), (4, .int v43_4), (0, .ref (a 100)), (1, .int (nI n6)), (2, .int (nI n9)), (3, .int (nI n12))]) rfl ?_
          refine g_iload X dX8_houses_56 (j := 0) rfl ?_
          refine g_iconst X dX8_houses_58 (v := -1) (by decide) ?_
          refine g_icmp_ne X dX8_houses_59 (tgt := 64) (by decide) (fun q15 => ?_) (fun q15 => ?_)
          · skip
            refine g_iload X dX8_houses_64 (j := 2) rfl ?_
            refine g_iload X dX8_houses_66 (j := 0) rfl ?_
            refine g_iload_n X dX8_houses_68 rfl (j := 6) rfl ?_
            refine g_icmp_ne X dX8_houses_69 (tgt := 76) (by decide) (fun q16 => ?_) (fun q16 => ?_)
            · skip
              refine g_iconst X dX8_houses_76 (v := 0) (by decide) ?_
              refine g_iadd X dX8_houses_77 ?_
              refine Go.gen (fun o17 => ?_)
              refine g_istore X dX8_houses_78 (by decide) (lv2 := [(4, .int o17), (6, .int r14), (5, .int (nI i43_5)), (0, .ref (a 100)), (1, .int (nI n6)), (2, .int (nI n9)), (3, .int (nI n12))]) rfl ?_
              refine g_iinc X dX8_houses_80 (j := 2) rfl (v := nI (i43_5 + 1)) (nI_1 i43_5) (by decide) (lv2 := [(5, .int (nI (i43_5 + 1))), (4, .int o17), (6, .int r14), (0, .ref (a 100)), (1, .int (nI n6)), (2, .int (nI n9)), (3, .int (nI n12))]) rfl ?_
              refine g_goto X dX8_houses_83 (tgt := 43) (by decide) ?_
              refine g_lv [0, 1, 3, 4, 5, 6] (lv2 := [(5, .int (nI (i43_5 + 1))), (4, .int o17), (0, .ref (a 100)), (1, .int (nI n6)), (2, .int (nI n9)), (3, .int (nI n12))]) rfl ?_
              exact ih43 ((i43_5 + 1), o17) L M C D F I K ⟨by omega, by omega⟩ (by show _ < _; omega)
            · skip
              refine g_iconst X dX8_houses_72 (v := 1) (by decide) ?_
              refine g_goto X dX8_houses_73 (tgt := 77) (by decide) ?_
              refine g_iadd X dX8_houses_77 ?_
              refine Go.gen (fun o18 => ?_)
              refine g_istore X dX8_houses_78 (by decide) (lv2 := [(4, .int o18), (6, .int r14), (5, .int (nI i43_5)), (0, .ref (a 100)), (1, .int (nI n6)), (2, .int (nI n9)), (3, .int (nI n12))]) rfl ?_
              refine g_iinc X dX8_houses_80 (j := 2) rfl (v := nI (i43_5 + 1)) (nI_1 i43_5) (by decide) (lv2 := [(5, .int (nI (i43_5 + 1))), (4, .int o18), (6, .int r14), (0, .ref (a 100)), (1, .int (nI n6)), (2, .int (nI n9)), (3, .int (nI n12))]) rfl ?_
              refine g_goto X dX8_houses_83 (tgt := 43) (by decide) ?_
              refine g_lv [0, 1, 3, 4, 5, 6] (lv2 := [(5, .int (nI (i43_5 + 1))), (4, .int o18), (0, .ref (a 100)), (1, .int (nI n6)), (2, .int (nI n9)), (3, .int (nI n12))]) rfl ?_
              exact ih43 ((i43_5 + 1), o18) L M C D F I K ⟨by omega, by omega⟩ (by show _ < _; omega)
          · skip
            subst q15
            refine g_iconst X dX8_houses_62 (v := -1) (by decide) ?_
            exact g_iret X hrt dX8_houses_63 (by decide) (by decide) ⟨C, D, F, I, K, trivial⟩
set_option maxHeartbeats 4000000 in
set_option maxRecDepth 100000 in
theorem s_X8_cameTo (l : Launch) (G : va_G) {cy : Nat → ClassId} {L : List Nat} {M : Nat → va_E} {a : Nat → Nat} {act : Nat → Bool} {C0 : Nat → Nat → Int32} {D0 : Nat → Nat → Int64} {R : Nat → Nat → Option Nat} (F : WI L M a act (ent cy a C0 D0 R)) (I : Inv C0) (p0 : Nat) (hp0a : 0 ≤ p0) (hp0b : p0 ≤ 7) (p1 : Int32)  : MI l G cy yX8_cameTo cX8_cameTo 4 (some .int) 1 0 0 [.ref (a 100), .int (nI p0), .int p1] L M (fun r L2 M2 => ∃ C2 D2, WI L2 M2 a act (ent cy a C2 D2 R) ∧ Inv C2 ∧ Kp [] C0 D0 C2 D2 ∧ True) := by
  refine MI.of (own := RX8) rfl (by decide) (Nat.le_of_ble_eq_true rfl) ?_
  intro p e s m below meth c A X hrt hnm
  obtain ⟨C, D, hC0, hD0, F, I, K⟩ : ∃ C D, C = C0 ∧ D = D0 ∧ WI L M a act (ent cy a C D R) ∧ Inv C ∧ Kp [] C0 D0 C D := ⟨C0, D0, rfl, rfl, F, I, Kp.rf⟩
  obtain ⟨n1, hn1, en1⟩ := rg_nat ((show okw 0 (C 101 0) from I 101 0).1 rfl) (by decide)
  rw [hC0] at en1
  obtain ⟨n2, hn2, en2⟩ := rg_nat ((show okw 4 (C 101 4) from I 101 4).2.2.2.1 rfl) (by decide)
  rw [hC0] at en2
  obtain ⟨n3, hn3, en3⟩ := rg_nat ((show okw 7 (C 101 7) from I 101 7).2.2.2.2.1 rfl) (by decide)
  rw [hC0] at en3
  refine g_iconst X dX8_cameTo_0 (v := 0) (by decide) ?_
  refine g_istore_n X dX8_cameTo_1 rfl (by decide) (lv2 := [(3, .int 0), (0, .ref (a 100)), (1, .int (nI p0)), (2, .int p1)]) rfl ?_
  refine g_lv [0, 1, 2, 3] (lv2 := [(3, .int 0), (0, .ref (a 100)), (1, .int (nI p0)), (2, .int p1)]) rfl ?_
  refine i_loop (mods := []) (fun x : Nat => 17 - x) (fun x => [(3, .int (nI (x))), (0, .ref (a 100)), (1, .int (nI p0)), (2, .int p1)]) (fun x C => 0 ≤ x ∧ x ≤ 17) (fun x L M C D F I K hP ih2 => ?_) ((0) : Nat) F I K ⟨by show _ ≤ _; omega, by show _ ≤ _; omega⟩
  obtain ⟨i2_3, rfl⟩ : ∃ z, z = x := ⟨_, rfl⟩
  obtain ⟨hi2_3a, hi2_3b⟩ := hP
  refine g_lv [0, 1, 2, 3] (lv2 := [(3, .int (nI i2_3)), (0, .ref (a 100)), (1, .int (nI p0)), (2, .int p1)]) rfl ?_
  refine g_iload_n X dX8_cameTo_2 rfl (j := 0) rfl ?_
  refine g_aload_n X dX8_cameTo_3 rfl (j := 1) rfl ?_
  refine g_callVI X (s_X8_hours l G F I  ) lk_X8_106 (F.1 100 rfl).2 (F.1 100 rfl).1 rfl rfl dX8_cameTo_4 (Nat.le_of_ble_eq_true rfl) ⟨by decide, by decide⟩ ⟨by decide, by decide⟩ (fun r4 L M hp => ?_)
  obtain ⟨C, D, F, I, K1, hr⟩ := hp
  have K := K.step K1 (by decide)
  obtain ⟨n5, hn5, en5, rfl⟩ := hr
  obtain rfl : n1 = n5 := ((nI_eq (by omega) (by omega)).mp (en5.symm.trans ((congrFun (K 101 (by decide)).1 0).trans en1))).symm
  refine g_icmp_gt X dX8_cameTo_7 (tgt := 31) (by decide) (fun q6 => ?_) (fun q6 => ?_)
  · skip
    have q6 : n1 < i2_3 := (nI_ltI (a := n1) (b := i2_3) (by omega) (by omega)).mp q6
    refine g_ldcw X (v := 1000000000) wd852 dX8_cameTo_31 ?_
    exact g_iret X hrt dX8_cameTo_34 (by decide) (by decide) ⟨C, D, F, I, K, trivial⟩
  · skip
    have q6 : ¬ n1 < i2_3 := fun z => q6 ((nI_ltI (a := n1) (b := i2_3) (by omega) (by omega)).mpr z)
    refine g_aload_n X dX8_cameTo_10 rfl (j := 1) rfl ?_
    refine g_iload_n X dX8_cameTo_11 rfl (j := 2) rfl ?_
    refine g_iload_n X dX8_cameTo_12 rfl (j := 0) rfl ?_
    refine g_callVI X (s_X8_placeOf l G F I p0 (by omega) (by omega) i2_3 (by omega) (by omega) ) lk_X8_298 (F.1 100 rfl).2 (F.1 100 rfl).1 rfl rfl dX8_cameTo_13 (Nat.le_of_ble_eq_true rfl) ⟨by decide, by decide⟩ ⟨by decide, by decide⟩ (fun r7 L M hp => ?_)
    obtain ⟨C, D, F, I, K1, hr⟩ := hp
    have K := K.step K1 (by decide)
    rcases okp_nat hr with rfl | ⟨n8, hn8, rfl⟩
    · skip
      refine g_bipush X dX8_cameTo_16 (v := 10) (by decide) ?_
      refine g_iload_n X dX8_cameTo_18 rfl (j := 3) rfl ?_
      refine g_iadd X dX8_cameTo_19 ?_
      refine Go.gen (fun o9 => ?_)
      refine g_icmp_ne X dX8_cameTo_20 (tgt := 25) (by decide) (fun q10 => ?_) (fun q10 => ?_)
      · skip
        refine g_iinc X dX8_cameTo_25 (j := 0) rfl (v := nI (i2_3 + 1)) (nI_1 i2_3) (by decide) (lv2 := [(3, .int (nI (i2_3 + 1))), (0, .ref (a 100)), (1, .int (nI p0)), (2, .int p1)]) rfl ?_
        refine g_goto X dX8_cameTo_28 (tgt := 2) (by decide) ?_
        refine g_lv [0, 1, 2, 3] (lv2 := [(3, .int (nI (i2_3 + 1))), (0, .ref (a 100)), (1, .int (nI p0)), (2, .int p1)]) rfl ?_
        exact ih2 ((i2_3 + 1)) L M C D F I K ⟨by omega, by omega⟩ (by show _ < _; omega)
      · skip
        refine g_iload_n X dX8_cameTo_23 rfl (j := 0) rfl ?_
        exact g_iret X hrt dX8_cameTo_24 (by decide) (by decide) ⟨C, D, F, I, K, trivial⟩
    · skip
      refine g_bipush X dX8_cameTo_16 (v := 10) (by decide) ?_
      refine g_iload_n X dX8_cameTo_18 rfl (j := 3) rfl ?_
      refine g_iadd X dX8_cameTo_19 ?_
      refine Go.gen (fun o11 => ?_)
      refine g_icmp_ne X dX8_cameTo_20 (tgt := 25) (by decide) (fun q12 => ?_) (fun q12 => ?_)
      · skip
        refine g_iinc X dX8_cameTo_25 (j := 0) rfl (v := nI (i2_3 + 1)) (nI_1 i2_3) (by decide) (lv2 := [(3, .int (nI (i2_3 + 1))), (0, .ref (a 100)), (1, .int (nI p0)), (2, .int p1)]) rfl ?_
        refine g_goto X dX8_cameTo_28 (tgt := 2) (by decide) ?_
        refine g_lv [0, 1, 2, 3] (lv2 := [(3, .int (nI (i2_3 + 1))), (0, .ref (a 100)), (1, .int (nI p0)), (2, .int p1)]) rfl ?_
        exact ih2 ((i2_3 + 1)) L M C D F I K ⟨by omega, by omega⟩ (by show _ < _; omega)
      · skip
        refine g_iload_n X dX8_cameTo_23 rfl (j := 0) rfl ?_
        exact g_iret X hrt dX8_cameTo_24 (by decide) (by decide) ⟨C, D, F, I, K, trivial⟩
set_option maxHeartbeats 4000000 in
set_option maxRecDepth 100000 in
theorem s_X8_point (l : Launch) (G : va_G) {cy : Nat → ClassId} {L : List Nat} {M : Nat → va_E} {a : Nat → Nat} {act : Nat → Bool} {C0 : Nat → Nat → Int32} {D0 : Nat → Nat → Int64} {R : Nat → Nat → Option Nat} (F : WI L M a act (ent cy a C0 D0 R)) (I : Inv C0) (p0 : Int32) (p1 : Int32)  : MI l G cy yX8_point cX8_point 7 (some .int) 8 0 0 [.ref (a 100), .int p0, .int p1] L M (fun r L2 M2 => ∃ C2 D2, WI L2 M2 a act (ent cy a C2 D2 R) ∧ Inv C2 ∧ Kp [100, 115, 116, 120, 121, 122, 123, 124, 125, 126, 127, 128] C0 D0 C2 D2 ∧ True) := by
  refine MI.of (own := RX8) rfl (by decide) (Nat.le_of_ble_eq_true rfl) ?_
  intro p e s m below meth c A X hrt hnm
  obtain ⟨C, D, hC0, hD0, F, I, K⟩ : ∃ C D, C = C0 ∧ D = D0 ∧ WI L M a act (ent cy a C D R) ∧ Inv C ∧ Kp [100, 115, 116, 120, 121, 122, 123, 124, 125, 126, 127, 128] C0 D0 C D := ⟨C0, D0, rfl, rfl, F, I, Kp.rf⟩
  obtain ⟨n1, hn1, en1⟩ := rg_nat ((show okw 0 (C 101 0) from I 101 0).1 rfl) (by decide)
  rw [hC0] at en1
  obtain ⟨n2, hn2, en2⟩ := rg_nat ((show okw 4 (C 101 4) from I 101 4).2.2.2.1 rfl) (by decide)
  rw [hC0] at en2
  obtain ⟨n3, hn3, en3⟩ := rg_nat ((show okw 7 (C 101 7) from I 101 7).2.2.2.2.1 rfl) (by decide)
  rw [hC0] at en3
  refine g_aload_n X dX8_point_0 rfl (j := 0) rfl ?_
  refine g_iload_n X dX8_point_1 rfl (j := 1) rfl ?_
  refine g_callVI X (s_X8_asksWalker l G F I p0 ) lk_X8_320 (F.1 100 rfl).2 (F.1 100 rfl).1 rfl rfl dX8_point_2 (Nat.le_of_ble_eq_true rfl) ⟨by decide, by decide⟩ ⟨by decide, by decide⟩ (fun r4 L M hp => ?_)
  obtain ⟨C, D, F, I, K1, hr⟩ := hp
  have K := K.step K1 (by decide)
  rcases hr with rfl | ⟨rfl, n5, hn5, en5⟩
  · skip
    refine g_if_eq X dX8_point_5 (tgt := 17) (by decide) (fun _ => ?_) (fun q => absurd (by decide) q)
    refine g_bipush X dX8_point_17 (v := -2) (by decide) ?_
    exact g_iret X hrt dX8_point_19 (by decide) (by decide) ⟨C, D, F, I, K, trivial⟩
  · skip
    subst en5
    refine g_if_eq X dX8_point_5 (tgt := 17) (by decide) (fun q => absurd q (by decide)) (fun _ => ?_)
    refine g_aload_n X dX8_point_8 rfl (j := 0) rfl ?_
    refine g_iload_n X dX8_point_9 rfl (j := 2) rfl ?_
    refine g_i2l X dX8_point_10 rfl ?_
    refine g_callVI X (s_X8_isInn l G F I ((Int32.toInt64 p1)) ) lk_X8_118 (F.1 100 rfl).2 (F.1 100 rfl).1 rfl rfl dX8_point_11 (Nat.le_of_ble_eq_true rfl) ⟨by decide, by decide⟩ ⟨by decide, by decide⟩ (fun r6 L M hp => ?_)
    obtain ⟨C, D, F, I, K1, hr⟩ := hp
    have K := K.step K1 (by decide)
    rcases hr with rfl | ⟨rfl, hl7a, hl7b⟩
    · skip
      refine g_if_ne X dX8_point_14 (tgt := 20) (by decide) (fun q => absurd (by decide) q) (fun _ => ?_)
      refine g_bipush X dX8_point_17 (v := -2) (by decide) ?_
      exact g_iret X hrt dX8_point_19 (by decide) (by decide) ⟨C, D, F, I, K, trivial⟩
    · skip
      rw [Jvm.Kit.i64_of_i32] at hl7a hl7b
      obtain ⟨n8, hn8a, hn8b, en8⟩ := nI_ofInt (x := p1) (lo := 0) (hi := 3) (by omega) (by omega) (by decide)
      subst en8
      refine g_if_ne X dX8_point_14 (tgt := 20) (by decide) (fun _ => ?_) (fun q => absurd q (by decide))
      refine g_aload_n X dX8_point_20 rfl (j := 0) rfl ?_
      refine g_iload_n X dX8_point_21 rfl (j := 1) rfl ?_
      refine g_iload_n X dX8_point_22 rfl (j := 2) rfl ?_
      refine g_callVI X (s_X8_cameTo l G F I n5 (by omega) (by omega) (nI n8) ) lk_X8_388 (F.1 100 rfl).2 (F.1 100 rfl).1 rfl rfl dX8_point_23 (Nat.le_of_ble_eq_true rfl) ⟨by decide, by decide⟩ ⟨by decide, by decide⟩ (fun r9 L M hp => ?_)
      obtain ⟨C, D, F, I, K1, hr⟩ := hp
      have K := K.step K1 (by decide)
      refine g_istore_n X dX8_point_26 rfl (by decide) (lv2 := [(3, .int r9), (0, .ref (a 100)), (1, .int (nI n5)), (2, .int (nI n8))]) rfl ?_
      refine g_iconst X dX8_point_27 (v := -1) (by decide) ?_
      refine g_istore X dX8_point_28 (by decide) (lv2 := [(4, .int (-1)), (3, .int r9), (0, .ref (a 100)), (1, .int (nI n5)), (2, .int (nI n8))]) rfl ?_
      refine g_iconst X dX8_point_30 (v := 0) (by decide) ?_
      refine g_istore X dX8_point_31 (by decide) (lv2 := [(5, .int 0), (4, .int (-1)), (3, .int r9), (0, .ref (a 100)), (1, .int (nI n5)), (2, .int (nI n8))]) rfl ?_
      refine g_lv [0, 2, 1, 3, 4, 5] (lv2 := [(5, .int 0), (3, .int r9), (4, .int (-1)), (0, .ref (a 100)), (1, .int (nI n5)), (2, .int (nI n8))]) rfl ?_
      refine i_loop (mods := [100, 115, 116, 120, 121, 122, 123, 124, 125, 126, 127, 128]) (fun x : Nat × Int32 × Int32 => 7 - x.1) (fun x => [(5, .int (nI (x.1))), (3, .int (x.2.1)), (4, .int (x.2.2)), (0, .ref (a 100)), (1, .int (nI n5)), (2, .int (nI n8))]) (fun x C => 0 ≤ x.1 ∧ x.1 ≤ 7) (fun x L M C D F I K hP ih33 => ?_) ((0, r9, (-1)) : Nat × Int32 × Int32) F I K ⟨by show _ ≤ _; omega, by show _ ≤ _; omega⟩
      rcases x with ⟨i33_5, v33_3, v33_4⟩
      obtain ⟨hi33_5a, hi33_5b⟩ := hP
      refine g_lv [0, 1, 2, 3, 4, 5] (lv2 := [(5, .int (nI i33_5)), (3, .int v33_3), (4, .int v33_4), (0, .ref (a 100)), (1, .int (nI n5)), (2, .int (nI n8))]) rfl ?_
      refine g_iload X dX8_point_33 (j := 0) rfl ?_
      refine g_aload_n X dX8_point_35 rfl (j := 3) rfl ?_
      refine g_callVI X (s_X8_posts l G F I  ) lk_X8_98 (F.1 100 rfl).2 (F.1 100 rfl).1 rfl rfl dX8_point_36 (Nat.le_of_ble_eq_true rfl) ⟨by decide, by decide⟩ ⟨by decide, by decide⟩ (fun r10 L M hp => ?_)
      obtain ⟨C, D, F, I, K1, hr⟩ := hp
      have K := K.step K1 (by decide)
      obtain ⟨n11, hn11, en11, rfl⟩ := hr
      obtain rfl : n2 = n11 := ((nI_eq (by omega) (by omega)).mp (en11.symm.trans ((congrFun (K 101 (by decide)).1 4).trans en2))).symm
      refine g_icmp_ge X dX8_point_39 (tgt := 124) (by decide) (fun q12 => ?_) (fun q12 => ?_)
      · skip
        have q12 : n2 ≤ i33_5 := (nI_leI (a := n2) (b := i33_5) (by omega) (by omega)).mp q12
        refine g_iload X dX8_point_124 (j := 2) rfl ?_
        exact g_iret X hrt dX8_point_126 (by decide) (by decide) ⟨C, D, F, I, K, trivial⟩
      · skip
        have q12 : ¬ n2 ≤ i33_5 := fun z => q12 ((nI_leI (a := n2) (b := i33_5) (by omega) (by omega)).mpr z)
        refine g_iconst X dX8_point_42 (v := 0) (by decide) ?_
        refine g_istore X dX8_point_43 (by decide) (lv2 := [(6, .int 0), (5, .int (nI i33_5)), (3, .int v33_3), (4, .int v33_4), (0, .ref (a 100)), (1, .int (nI n5)), (2, .int (nI n8))]) rfl ?_
        refine g_lv [0, 2, 3, 1, 4, 5, 6] (lv2 := [(6, .int 0), (3, .int v33_3), (4, .int v33_4), (5, .int (nI i33_5)), (0, .ref (a 100)), (1, .int (nI n5)), (2, .int (nI n8))]) rfl ?_
        refine i_loop (mods := [100, 115, 116, 120, 121, 122, 123, 124, 125, 126, 127, 128]) (fun x : Nat × Int32 × Int32 => 4 - x.1) (fun x => [(6, .int (nI (x.1))), (3, .int (x.2.1)), (4, .int (x.2.2)), (5, .int (nI i33_5)), (0, .ref (a 100)), (1, .int (nI n5)), (2, .int (nI n8))]) (fun x C => 0 ≤ x.1 ∧ x.1 ≤ 4) (fun x L M C D F I K hP ih45 => ?_) ((0, v33_3, v33_4) : Nat × Int32 × Int32) F I K ⟨by show _ ≤ _; omega, by show _ ≤ _; omega⟩
        rcases x with ⟨i45_6, v45_3, v45_4⟩
        obtain ⟨hi45_6a, hi45_6b⟩ := hP
        refine g_lv [0, 1, 2, 3, 4, 5, 6] (lv2 := [(6, .int (nI i45_6)), (3, .int v45_3), (4, .int v45_4), (5, .int (nI i33_5)), (0, .ref (a 100)), (1, .int (nI n5)), (2, .int (nI n8))]) rfl ?_
        refine g_iload X dX8_point_45 (j := 0) rfl ?_
        refine g_aload_n X dX8_point_47 rfl (j := 4) rfl ?_
        refine g_iload X dX8_point_48 (j := 3) rfl ?_
        refine g_callVI X (s_X8_roadMany l G F I i33_5 (by omega) (by omega) ) lk_X8_245 (F.1 100 rfl).2 (F.1 100 rfl).1 rfl rfl dX8_point_50 (Nat.le_of_ble_eq_true rfl) ⟨by decide, by decide⟩ ⟨by decide, by decide⟩ (fun r13 L M hp => ?_)
        obtain ⟨C, D, F, I, K1, hr⟩ := hp
        have K := K.step K1 (by decide)
        obtain ⟨n14, hn14, en14, rfl⟩ := hr
        have fn14 : C0 101 (14 + 6 * i33_5) = nI n14 := (congrFun (K 101 (by decide)).1 _).symm.trans en14
        refine g_icmp_ge X dX8_point_53 (tgt := 105) (by decide) (fun q15 => ?_) (fun q15 => ?_)
        · skip
          have q15 : n14 ≤ i45_6 := (nI_leI (a := n14) (b := i45_6) (by omega) (by omega)).mp q15
          refine g_aload_n X dX8_point_105 rfl (j := 4) rfl ?_
          refine i_get X F 100 rfl rfl fk_X8_34 dX8_point_106 rfl ?_
          refine g_iload X dX8_point_109 (j := 3) rfl ?_
          refine g_aload_n X dX8_point_111 rfl (j := 4) rfl ?_
          refine g_iload X dX8_point_112 (j := 3) rfl ?_
          refine g_callVI X (s_X8_armOf l G F I i33_5 (by omega) (by omega) ) lk_X8_251 (F.1 100 rfl).2 (F.1 100 rfl).1 rfl rfl dX8_point_114 (Nat.le_of_ble_eq_true rfl) ⟨by decide, by decide⟩ ⟨by decide, by decide⟩ (fun r16 L M hp => ?_)
          obtain ⟨C, D, F, I, K1, hr⟩ := hp
          have K := K.step K1 (by decide)
          obtain ⟨n17, hn17a, hn17b, rfl⟩ := hr
          refine i_iast X F I 115 rfl (fun _ => rfl) dX8_point_117 (vp_in_nI (by omega) (by decide)) (rg_of (n := n17) (by omega) (by omega) (by omega)) (fun M C F I K1 hC => ?_)
          have K := K.step K1 (by decide)
          refine g_iinc X dX8_point_118 (j := 3) rfl (v := nI (i33_5 + 1)) (nI_1 i33_5) (by decide) (lv2 := [(5, .int (nI (i33_5 + 1))), (6, .int (nI i45_6)), (3, .int v45_3), (4, .int v45_4), (0, .ref (a 100)), (1, .int (nI n5)), (2, .int (nI n8))]) rfl ?_
          refine g_goto X dX8_point_121 (tgt := 33) (by decide) ?_
          refine g_lv [0, 2, 3, 4, 5, 6] (lv2 := [(5, .int (nI (i33_5 + 1))), (3, .int v45_3), (4, .int v45_4), (0, .ref (a 100)), (1, .int (nI n5)), (2, .int (nI n8))]) rfl ?_
          exact ih33 ((i33_5 + 1), v45_3, v45_4) L M C D F I K ⟨by omega, by omega⟩ (by show _ < _; omega)
        · skip
          have q15 : ¬ n14 ≤ i45_6 := fun z => q15 ((nI_leI (a := n14) (b := i45_6) (by omega) (by omega)).mpr z)
          refine g_aload_n X dX8_point_56 rfl (j := 4) rfl ?_
          refine i_get X F 100 rfl rfl fk_X8_34 dX8_point_57 rfl ?_
          refine g_iload X dX8_point_60 (j := 3) rfl ?_
          refine g_iload X dX8_point_62 (j := 0) rfl ?_
          refine i_iast X F I 115 rfl (fun _ => rfl) dX8_point_64 (vp_in_nI (by omega) (by decide)) (rg_of (n := i45_6) (by omega) (by omega) (by omega)) (fun M C F I K1 hC => ?_)
          have K := K.step K1 (by decide)
          refine g_aload_n X dX8_point_65 rfl (j := 4) rfl ?_
          refine g_callVV X (s_X8_goAll l G F I  ) lk_X8_289 (F.1 100 rfl).2 (F.1 100 rfl).1 rfl rfl dX8_point_66 (Nat.le_of_ble_eq_true rfl) ⟨by decide, by decide⟩ ⟨by decide, by decide⟩ (fun L M hp => ?_)
          obtain ⟨C, D, F, I, K1, hr⟩ := hp
          have K := K.step K1 (by decide)
          refine g_aload_n X dX8_point_69 rfl (j := 4) rfl ?_
          refine g_iload_n X dX8_point_70 rfl (j := 5) rfl ?_
          refine g_iload_n X dX8_point_71 rfl (j := 6) rfl ?_
          refine g_callVI X (s_X8_cameTo l G F I n5 (by omega) (by omega) (nI n8) ) lk_X8_388 (F.1 100 rfl).2 (F.1 100 rfl).1 rfl rfl dX8_point_72 (Nat.le_of_ble_eq_true rfl) ⟨by decide, by decide⟩ ⟨by decide, by decide⟩ (fun r18 L M hp => ?_)
          obtain ⟨C, D, F, I, K1, hr⟩ := hp
          have K := K.step K1 (by decide)
          refine g_iload_n X dX8_point_75 rfl (j := 1) rfl ?_
          refine g_icmp_lt X dX8_point_76 (tgt := 82) (by decide) (fun q19 => ?_) (fun q19 => ?_)
          · skip
            refine g_aload_n X dX8_point_82 rfl (j := 4) rfl ?_
            refine g_iload_n X dX8_point_83 rfl (j := 5) rfl ?_
            refine g_iload_n X dX8_point_84 rfl (j := 6) rfl ?_
            refine g_callVI X (s_X8_cameTo l G F I n5 (by omega) (by omega) (nI n8) ) lk_X8_388 (F.1 100 rfl).2 (F.1 100 rfl).1 rfl rfl dX8_point_85 (Nat.le_of_ble_eq_true rfl) ⟨by decide, by decide⟩ ⟨by decide, by decide⟩ (fun r20 L M hp => ?_)
            obtain ⟨C, D, F, I, K1, hr⟩ := hp
            have K := K.step K1 (by decide)
            refine g_istore_n X dX8_point_88 rfl (by decide) (lv2 := [(3, .int r20), (6, .int (nI i45_6)), (4, .int v45_4), (5, .int (nI i33_5)), (0, .ref (a 100)), (1, .int (nI n5)), (2, .int (nI n8))]) rfl ?_
            refine g_bipush X dX8_point_89 (v := 10) (by decide) ?_
            refine g_iload X dX8_point_91 (j := 3) rfl ?_
            refine g_imul X dX8_point_93 ?_
            refine Go.top (v := .int (nI (10 * i33_5))) (congrArg Value.int (pk_mul 10 i33_5)) ?_
            refine g_iload X dX8_point_94 (j := 1) rfl ?_
            refine g_iadd X dX8_point_96 ?_
            refine Go.top (v := .int (nI ((10 * i33_5) + i45_6))) (congrArg Value.int (nI_add (10 * i33_5) i45_6)) ?_
            refine g_istore X dX8_point_97 (by decide) (lv2 := [(4, .int (nI ((10 * i33_5) + i45_6))), (3, .int r20), (6, .int (nI i45_6)), (5, .int (nI i33_5)), (0, .ref (a 100)), (1, .int (nI n5)), (2, .int (nI n8))]) rfl ?_
            refine g_iinc X dX8_point_99 (j := 2) rfl (v := nI (i45_6 + 1)) (nI_1 i45_6) (by decide) (lv2 := [(6, .int (nI (i45_6 + 1))), (4, .int (nI ((10 * i33_5) + i45_6))), (3, .int r20), (5, .int (nI i33_5)), (0, .ref (a 100)), (1, .int (nI n5)), (2, .int (nI n8))]) rfl ?_
            refine g_goto X dX8_point_102 (tgt := 45) (by decide) ?_
            refine g_lv [0, 2, 1, 3, 4, 5, 6] (lv2 := [(6, .int (nI (i45_6 + 1))), (3, .int r20), (4, .int (nI ((10 * i33_5) + i45_6))), (5, .int (nI i33_5)), (0, .ref (a 100)), (1, .int (nI n5)), (2, .int (nI n8))]) rfl ?_
            exact ih45 ((i45_6 + 1), r20, nI ((10 * i33_5) + i45_6)) L M C D F I K ⟨by omega, by omega⟩ (by show _ < _; omega)
          · skip
            refine g_goto X dX8_point_79 (tgt := 99) (by decide) ?_
            refine g_iinc X dX8_point_99 (j := 0) rfl (v := nI (i45_6 + 1)) (nI_1 i45_6) (by decide) (lv2 := [(6, .int (nI (i45_6 + 1))), (3, .int v45_3), (4, .int v45_4), (5, .int (nI i33_5)), (0, .ref (a 100)), (1, .int (nI n5)), (2, .int (nI n8))]) rfl ?_
            refine g_goto X dX8_point_102 (tgt := 45) (by decide) ?_
            refine g_lv [0, 1, 2, 3, 4, 5, 6] (lv2 := [(6, .int (nI (i45_6 + 1))), (3, .int v45_3), (4, .int v45_4), (5, .int (nI i33_5)), (0, .ref (a 100)), (1, .int (nI n5)), (2, .int (nI n8))]) rfl ?_
            exact ih45 ((i45_6 + 1), v45_3, v45_4) L M C D F I K ⟨by omega, by omega⟩ (by show _ < _; omega)
set_option maxHeartbeats 4000000 in
set_option maxRecDepth 100000 in
theorem s_X8_best (l : Launch) (G : va_G) {cy : Nat → ClassId} {L : List Nat} {M : Nat → va_E} {a : Nat → Nat} {act : Nat → Bool} {C0 : Nat → Nat → Int32} {D0 : Nat → Nat → Int64} {R : Nat → Nat → Option Nat} (F : WI L M a act (ent cy a C0 D0 R)) (I : Inv C0)   : MI l G cy yX8_best cX8_best 5 (some .int) 7 0 0 [.ref (a 100)] L M (fun r L2 M2 => ∃ C2 D2, WI L2 M2 a act (ent cy a C2 D2 R) ∧ Inv C2 ∧ Kp [100, 115, 116, 120, 121, 122, 123, 124, 125, 126, 127, 128] C0 D0 C2 D2 ∧ True) := by
  refine MI.of (own := RX8) rfl (by decide) (Nat.le_of_ble_eq_true rfl) ?_
  intro p e s m below meth c A X hrt hnm
  obtain ⟨C, D, hC0, hD0, F, I, K⟩ : ∃ C D, C = C0 ∧ D = D0 ∧ WI L M a act (ent cy a C D R) ∧ Inv C ∧ Kp [100, 115, 116, 120, 121, 122, 123, 124, 125, 126, 127, 128] C0 D0 C D := ⟨C0, D0, rfl, rfl, F, I, Kp.rf⟩
  obtain ⟨n1, hn1, en1⟩ := rg_nat ((show okw 0 (C 101 0) from I 101 0).1 rfl) (by decide)
  rw [hC0] at en1
  obtain ⟨n2, hn2, en2⟩ := rg_nat ((show okw 4 (C 101 4) from I 101 4).2.2.2.1 rfl) (by decide)
  rw [hC0] at en2
  obtain ⟨n3, hn3, en3⟩ := rg_nat ((show okw 7 (C 101 7) from I 101 7).2.2.2.2.1 rfl) (by decide)
  rw [hC0] at en3
  refine g_aload_n X dX8_best_0 rfl (j := 0) rfl ?_
  refine g_callVI X (s_X8_asksHeath l G F I  ) lk_X8_292 (F.1 100 rfl).2 (F.1 100 rfl).1 rfl rfl dX8_best_1 (Nat.le_of_ble_eq_true rfl) ⟨by decide, by decide⟩ ⟨by decide, by decide⟩ (fun r4 L M hp => ?_)
  obtain ⟨C, D, F, I, K1, hr⟩ := hp
  have K := K.step K1 (by decide)
  rcases hr with rfl | rfl
  · skip
    refine g_if_ne X dX8_best_4 (tgt := 10) (by decide) (fun q => absurd (by decide) q) (fun _ => ?_)
    refine g_bipush X dX8_best_7 (v := -2) (by decide) ?_
    exact g_iret X hrt dX8_best_9 (by decide) (by decide) ⟨C, D, F, I, K, trivial⟩
  · skip
    refine g_if_ne X dX8_best_4 (tgt := 10) (by decide) (fun _ => ?_) (fun q => absurd q (by decide))
    refine g_aload_n X dX8_best_10 rfl (j := 0) rfl ?_
    refine g_callVI X (s_X8_insideLast l G F I  ) lk_X8_391 (F.1 100 rfl).2 (F.1 100 rfl).1 rfl rfl dX8_best_11 (Nat.le_of_ble_eq_true rfl) ⟨by decide, by decide⟩ ⟨by decide, by decide⟩ (fun r5 L M hp => ?_)
    obtain ⟨C, D, F, I, K1, hr⟩ := hp
    have K := K.step K1 (by decide)
    refine g_callSI X (s_X8_bits l G F I r5 ) lk_X8_334 rfl rfl dX8_best_14 (Nat.le_of_ble_eq_true rfl) ⟨by decide, by decide⟩ ⟨by decide, by decide⟩ (fun r6 L M hp => ?_)
    obtain ⟨C, D, F, I, K1, hr⟩ := hp
    have K := K.step K1 (by decide)
    obtain ⟨n7, hn7a, hn7b, rfl⟩ := hr
    refine g_istore_n X dX8_best_17 rfl (by decide) (lv2 := [(1, .int (nI n7)), (0, .ref (a 100))]) rfl ?_
    refine g_iconst X dX8_best_18 (v := -1) (by decide) ?_
    refine g_istore_n X dX8_best_19 rfl (by decide) (lv2 := [(2, .int (-1)), (1, .int (nI n7)), (0, .ref (a 100))]) rfl ?_
    refine g_iconst X dX8_best_20 (v := 0) (by decide) ?_
    refine g_istore_n X dX8_best_21 rfl (by decide) (lv2 := [(3, .int 0), (2, .int (-1)), (1, .int (nI n7)), (0, .ref (a 100))]) rfl ?_
    refine g_lv [0, 2, 1, 3] (lv2 := [(3, .int 0), (1, .int (nI n7)), (2, .int (-1)), (0, .ref (a 100))]) rfl ?_
    refine i_loop (mods := [100, 115, 116, 120, 121, 122, 123, 124, 125, 126, 127, 128]) (fun x : Nat × Int32 × Int32 => 7 - x.1) (fun x => [(3, .int (nI (x.1))), (1, .int (x.2.1)), (2, .int (x.2.2)), (0, .ref (a 100))]) (fun x C => 0 ≤ x.1 ∧ x.1 ≤ 7) (fun x L M C D F I K hP ih22 => ?_) ((0, nI n7, (-1)) : Nat × Int32 × Int32) F I K ⟨by show _ ≤ _; omega, by show _ ≤ _; omega⟩
    rcases x with ⟨i22_3, v22_1, v22_2⟩
    obtain ⟨hi22_3a, hi22_3b⟩ := hP
    refine g_lv [0, 1, 2, 3] (lv2 := [(3, .int (nI i22_3)), (1, .int v22_1), (2, .int v22_2), (0, .ref (a 100))]) rfl ?_
    refine g_iload_n X dX8_best_22 rfl (j := 0) rfl ?_
    refine g_aload_n X dX8_best_23 rfl (j := 3) rfl ?_
    refine g_callVI X (s_X8_posts l G F I  ) lk_X8_98 (F.1 100 rfl).2 (F.1 100 rfl).1 rfl rfl dX8_best_24 (Nat.le_of_ble_eq_true rfl) ⟨by decide, by decide⟩ ⟨by decide, by decide⟩ (fun r8 L M hp => ?_)
    obtain ⟨C, D, F, I, K1, hr⟩ := hp
    have K := K.step K1 (by decide)
    obtain ⟨n9, hn9, en9, rfl⟩ := hr
    obtain rfl : n2 = n9 := ((nI_eq (by omega) (by omega)).mp (en9.symm.trans ((congrFun (K 101 (by decide)).1 4).trans en2))).symm
    refine g_icmp_ge X dX8_best_27 (tgt := 108) (by decide) (fun q10 => ?_) (fun q10 => ?_)
    · skip
      have q10 : n2 ≤ i22_3 := (nI_leI (a := n2) (b := i22_3) (by omega) (by omega)).mp q10
      refine g_iload_n X dX8_best_108 rfl (j := 2) rfl ?_
      exact g_iret X hrt dX8_best_109 (by decide) (by decide) ⟨C, D, F, I, K, trivial⟩
    · skip
      have q10 : ¬ n2 ≤ i22_3 := fun z => q10 ((nI_leI (a := n2) (b := i22_3) (by omega) (by omega)).mpr z)
      refine g_iconst X dX8_best_30 (v := 0) (by decide) ?_
      refine g_istore X dX8_best_31 (by decide) (lv2 := [(4, .int 0), (3, .int (nI i22_3)), (1, .int v22_1), (2, .int v22_2), (0, .ref (a 100))]) rfl ?_
      refine g_lv [0, 2, 3, 1, 4] (lv2 := [(4, .int 0), (1, .int v22_1), (2, .int v22_2), (3, .int (nI i22_3)), (0, .ref (a 100))]) rfl ?_
      refine i_loop (mods := [100, 115, 116, 120, 121, 122, 123, 124, 125, 126, 127, 128]) (fun x : Nat × Int32 × Int32 => 4 - x.1) (fun x => [(4, .int (nI (x.1))), (1, .int (x.2.1)), (2, .int (x.2.2)), (3, .int (nI i22_3)), (0, .ref (a 100))]) (fun x C => 0 ≤ x.1 ∧ x.1 ≤ 4) (fun x L M C D F I K hP ih33 => ?_) ((0, v22_1, v22_2) : Nat × Int32 × Int32) F I K ⟨by show _ ≤ _; omega, by show _ ≤ _; omega⟩
      rcases x with ⟨i33_4, v33_1, v33_2⟩
      obtain ⟨hi33_4a, hi33_4b⟩ := hP
      refine g_lv [0, 1, 2, 3, 4] (lv2 := [(4, .int (nI i33_4)), (1, .int v33_1), (2, .int v33_2), (3, .int (nI i22_3)), (0, .ref (a 100))]) rfl ?_
      refine g_iload X dX8_best_33 (j := 0) rfl ?_
      refine g_aload_n X dX8_best_35 rfl (j := 4) rfl ?_
      refine g_iload_n X dX8_best_36 rfl (j := 3) rfl ?_
      refine g_callVI X (s_X8_roadMany l G F I i22_3 (by omega) (by omega) ) lk_X8_245 (F.1 100 rfl).2 (F.1 100 rfl).1 rfl rfl dX8_best_37 (Nat.le_of_ble_eq_true rfl) ⟨by decide, by decide⟩ ⟨by decide, by decide⟩ (fun r11 L M hp => ?_)
      obtain ⟨C, D, F, I, K1, hr⟩ := hp
      have K := K.step K1 (by decide)
      obtain ⟨n12, hn12, en12, rfl⟩ := hr
      have fn12 : C0 101 (14 + 6 * i22_3) = nI n12 := (congrFun (K 101 (by decide)).1 _).symm.trans en12
      refine g_icmp_ge X dX8_best_40 (tgt := 91) (by decide) (fun q13 => ?_) (fun q13 => ?_)
      · skip
        have q13 : n12 ≤ i33_4 := (nI_leI (a := n12) (b := i33_4) (by omega) (by omega)).mp q13
        refine g_aload_n X dX8_best_91 rfl (j := 4) rfl ?_
        refine i_get X F 100 rfl rfl fk_X8_34 dX8_best_92 rfl ?_
        refine g_iload_n X dX8_best_95 rfl (j := 3) rfl ?_
        refine g_aload_n X dX8_best_96 rfl (j := 4) rfl ?_
        refine g_iload_n X dX8_best_97 rfl (j := 3) rfl ?_
        refine g_callVI X (s_X8_armOf l G F I i22_3 (by omega) (by omega) ) lk_X8_251 (F.1 100 rfl).2 (F.1 100 rfl).1 rfl rfl dX8_best_98 (Nat.le_of_ble_eq_true rfl) ⟨by decide, by decide⟩ ⟨by decide, by decide⟩ (fun r14 L M hp => ?_)
        obtain ⟨C, D, F, I, K1, hr⟩ := hp
        have K := K.step K1 (by decide)
        obtain ⟨n15, hn15a, hn15b, rfl⟩ := hr
        refine i_iast X F I 115 rfl (fun _ => rfl) dX8_best_101 (vp_in_nI (by omega) (by decide)) (rg_of (n := n15) (by omega) (by omega) (by omega)) (fun M C F I K1 hC => ?_)
        have K := K.step K1 (by decide)
        refine g_iinc X dX8_best_102 (j := 3) rfl (v := nI (i22_3 + 1)) (nI_1 i22_3) (by decide) (lv2 := [(3, .int (nI (i22_3 + 1))), (4, .int (nI i33_4)), (1, .int v33_1), (2, .int v33_2), (0, .ref (a 100))]) rfl ?_
        refine g_goto X dX8_best_105 (tgt := 22) (by decide) ?_
        refine g_lv [0, 2, 3, 4] (lv2 := [(3, .int (nI (i22_3 + 1))), (1, .int v33_1), (2, .int v33_2), (0, .ref (a 100))]) rfl ?_
        exact ih22 ((i22_3 + 1), v33_1, v33_2) L M C D F I K ⟨by omega, by omega⟩ (by show _ < _; omega)
      · skip
        have q13 : ¬ n12 ≤ i33_4 := fun z => q13 ((nI_leI (a := n12) (b := i33_4) (by omega) (by omega)).mpr z)
        refine g_aload_n X dX8_best_43 rfl (j := 4) rfl ?_
        refine i_get X F 100 rfl rfl fk_X8_34 dX8_best_44 rfl ?_
        refine g_iload_n X dX8_best_47 rfl (j := 3) rfl ?_
        refine g_iload X dX8_best_48 (j := 0) rfl ?_
        refine i_iast X F I 115 rfl (fun _ => rfl) dX8_best_50 (vp_in_nI (by omega) (by decide)) (rg_of (n := i33_4) (by omega) (by omega) (by omega)) (fun M C F I K1 hC => ?_)
        have K := K.step K1 (by decide)
        refine g_aload_n X dX8_best_51 rfl (j := 4) rfl ?_
        refine g_callVV X (s_X8_goAll l G F I  ) lk_X8_289 (F.1 100 rfl).2 (F.1 100 rfl).1 rfl rfl dX8_best_52 (Nat.le_of_ble_eq_true rfl) ⟨by decide, by decide⟩ ⟨by decide, by decide⟩ (fun L M hp => ?_)
        obtain ⟨C, D, F, I, K1, hr⟩ := hp
        have K := K.step K1 (by decide)
        refine g_aload_n X dX8_best_55 rfl (j := 4) rfl ?_
        refine g_callVI X (s_X8_insideLast l G F I  ) lk_X8_391 (F.1 100 rfl).2 (F.1 100 rfl).1 rfl rfl dX8_best_56 (Nat.le_of_ble_eq_true rfl) ⟨by decide, by decide⟩ ⟨by decide, by decide⟩ (fun r16 L M hp => ?_)
        obtain ⟨C, D, F, I, K1, hr⟩ := hp
        have K := K.step K1 (by decide)
        refine g_callSI X (s_X8_bits l G F I r16 ) lk_X8_334 rfl rfl dX8_best_59 (Nat.le_of_ble_eq_true rfl) ⟨by decide, by decide⟩ ⟨by decide, by decide⟩ (fun r17 L M hp => ?_)
        obtain ⟨C, D, F, I, K1, hr⟩ := hp
        have K := K.step K1 (by decide)
        obtain ⟨n18, hn18a, hn18b, rfl⟩ := hr
        refine g_iload_n X dX8_best_62 rfl (j := 1) rfl ?_
        refine g_icmp_gt X dX8_best_63 (tgt := 69) (by decide) (fun q19 => ?_) (fun q19 => ?_)
        · skip
          have q19t : v33_1.toInt < (nI n18).toInt := Int32.lt_iff_toInt_lt.mp q19
          rw [nI_toInt (by omega)] at q19t
          have q19b := Int32.toInt_lt v33_1
          refine g_aload_n X dX8_best_69 rfl (j := 4) rfl ?_
          refine g_callVI X (s_X8_insideLast l G F I  ) lk_X8_391 (F.1 100 rfl).2 (F.1 100 rfl).1 rfl rfl dX8_best_70 (Nat.le_of_ble_eq_true rfl) ⟨by decide, by decide⟩ ⟨by decide, by decide⟩ (fun r20 L M hp => ?_)
          obtain ⟨C, D, F, I, K1, hr⟩ := hp
          have K := K.step K1 (by decide)
          refine g_callSI X (s_X8_bits l G F I r20 ) lk_X8_334 rfl rfl dX8_best_73 (Nat.le_of_ble_eq_true rfl) ⟨by decide, by decide⟩ ⟨by decide, by decide⟩ (fun r21 L M hp => ?_)
          obtain ⟨C, D, F, I, K1, hr⟩ := hp
          have K := K.step K1 (by decide)
          obtain ⟨n22, hn22a, hn22b, rfl⟩ := hr
          refine g_istore_n X dX8_best_76 rfl (by decide) (lv2 := [(1, .int (nI n22)), (4, .int (nI i33_4)), (2, .int v33_2), (3, .int (nI i22_3)), (0, .ref (a 100))]) rfl ?_
          refine g_bipush X dX8_best_77 (v := 10) (by decide) ?_
          refine g_iload_n X dX8_best_79 rfl (j := 3) rfl ?_
          refine g_imul X dX8_best_80 ?_
          refine Go.top (v := .int (nI (10 * i22_3))) (congrArg Value.int (pk_mul 10 i22_3)) ?_
          refine g_iload X dX8_best_81 (j := 1) rfl ?_
          refine g_iadd X dX8_best_83 ?_
          refine Go.top (v := .int (nI ((10 * i22_3) + i33_4))) (congrArg Value.int (nI_add (10 * i22_3) i33_4)) ?_
          refine g_istore_n X dX8_best_84 rfl (by decide) (lv2 := [(2, .int (nI ((10 * i22_3) + i33_4))), (1, .int (nI n22)), (4, .int (nI i33_4)), (3, .int (nI i22_3)), (0, .ref (a 100))]) rfl ?_
          refine g_iinc X dX8_best_85 (j := 2) rfl (v := nI (i33_4 + 1)) (nI_1 i33_4) (by decide) (lv2 := [(4, .int (nI (i33_4 + 1))), (2, .int (nI ((10 * i22_3) + i33_4))), (1, .int (nI n22)), (3, .int (nI i22_3)), (0, .ref (a 100))]) rfl ?_
          refine g_goto X dX8_best_88 (tgt := 33) (by decide) ?_
          refine g_lv [0, 2, 1, 3, 4] (lv2 := [(4, .int (nI (i33_4 + 1))), (1, .int (nI n22)), (2, .int (nI ((10 * i22_3) + i33_4))), (3, .int (nI i22_3)), (0, .ref (a 100))]) rfl ?_
          exact ih33 ((i33_4 + 1), nI n22, nI ((10 * i22_3) + i33_4)) L M C D F I K ⟨by omega, by omega⟩ (by show _ < _; omega)
        · skip
          have q19t : ¬ v33_1.toInt < (nI n18).toInt := fun z => q19 (Int32.lt_iff_toInt_lt.mpr z)
          rw [nI_toInt (by omega)] at q19t
          have q19b := Int32.toInt_lt v33_1
          refine g_goto X dX8_best_66 (tgt := 85) (by decide) ?_
          refine g_iinc X dX8_best_85 (j := 0) rfl (v := nI (i33_4 + 1)) (nI_1 i33_4) (by decide) (lv2 := [(4, .int (nI (i33_4 + 1))), (1, .int v33_1), (2, .int v33_2), (3, .int (nI i22_3)), (0, .ref (a 100))]) rfl ?_
          refine g_goto X dX8_best_88 (tgt := 33) (by decide) ?_
          refine g_lv [0, 1, 2, 3, 4] (lv2 := [(4, .int (nI (i33_4 + 1))), (1, .int v33_1), (2, .int v33_2), (3, .int (nI i22_3)), (0, .ref (a 100))]) rfl ?_
          exact ih33 ((i33_4 + 1), v33_1, v33_2) L M C D F I K ⟨by omega, by omega⟩ (by show _ < _; omega)
set_option maxHeartbeats 4000000 in
set_option maxRecDepth 100000 in
theorem s_X8_crowds (l : Launch) (G : va_G) {cy : Nat → ClassId} {L : List Nat} {M : Nat → va_E} {a : Nat → Nat} {act : Nat → Bool} {C0 : Nat → Nat → Int32} {D0 : Nat → Nat → Int64} {R : Nat → Nat → Option Nat} (F : WI L M a act (ent cy a C0 D0 R)) (I : Inv C0)   : MI l G cy yX8_crowds cX8_crowds 6 (some .int) 7 0 0 [.ref (a 100)] L M (fun r L2 M2 => ∃ C2 D2, WI L2 M2 a act (ent cy a C2 D2 R) ∧ Inv C2 ∧ Kp [100, 115, 116, 120, 121, 122, 123, 124, 125, 126, 127, 128] C0 D0 C2 D2 ∧ True) := by
  refine MI.of (own := RX8) rfl (by decide) (Nat.le_of_ble_eq_true rfl) ?_
  intro p e s m below meth c A X hrt hnm
  obtain ⟨C, D, hC0, hD0, F, I, K⟩ : ∃ C D, C = C0 ∧ D = D0 ∧ WI L M a act (ent cy a C D R) ∧ Inv C ∧ Kp [100, 115, 116, 120, 121, 122, 123, 124, 125, 126, 127, 128] C0 D0 C D := ⟨C0, D0, rfl, rfl, F, I, Kp.rf⟩
  obtain ⟨n1, hn1, en1⟩ := rg_nat ((show okw 0 (C 101 0) from I 101 0).1 rfl) (by decide)
  rw [hC0] at en1
  obtain ⟨n2, hn2, en2⟩ := rg_nat ((show okw 4 (C 101 4) from I 101 4).2.2.2.1 rfl) (by decide)
  rw [hC0] at en2
  obtain ⟨n3, hn3, en3⟩ := rg_nat ((show okw 7 (C 101 7) from I 101 7).2.2.2.2.1 rfl) (by decide)
  rw [hC0] at en3
  refine g_aload_n X dX8_crowds_0 rfl (j := 0) rfl ?_
  refine g_callVI X (s_X8_asksHeath l G F I  ) lk_X8_292 (F.1 100 rfl).2 (F.1 100 rfl).1 rfl rfl dX8_crowds_1 (Nat.le_of_ble_eq_true rfl) ⟨by decide, by decide⟩ ⟨by decide, by decide⟩ (fun r4 L M hp => ?_)
  obtain ⟨C, D, F, I, K1, hr⟩ := hp
  have K := K.step K1 (by decide)
  rcases hr with rfl | rfl
  · skip
    refine g_if_ne X dX8_crowds_4 (tgt := 10) (by decide) (fun q => absurd (by decide) q) (fun _ => ?_)
    refine g_bipush X dX8_crowds_7 (v := -2) (by decide) ?_
    exact g_iret X hrt dX8_crowds_9 (by decide) (by decide) ⟨C, D, F, I, K, trivial⟩
  · skip
    refine g_if_ne X dX8_crowds_4 (tgt := 10) (by decide) (fun _ => ?_) (fun q => absurd q (by decide))
    refine g_aload_n X dX8_crowds_10 rfl (j := 0) rfl ?_
    refine g_callVI X (s_X8_insideLast l G F I  ) lk_X8_391 (F.1 100 rfl).2 (F.1 100 rfl).1 rfl rfl dX8_crowds_11 (Nat.le_of_ble_eq_true rfl) ⟨by decide, by decide⟩ ⟨by decide, by decide⟩ (fun r5 L M hp => ?_)
    obtain ⟨C, D, F, I, K1, hr⟩ := hp
    have K := K.step K1 (by decide)
    refine g_istore_n X dX8_crowds_14 rfl (by decide) (lv2 := [(1, .int r5), (0, .ref (a 100))]) rfl ?_
    refine g_iconst X dX8_crowds_15 (v := -1) (by decide) ?_
    refine g_istore_n X dX8_crowds_16 rfl (by decide) (lv2 := [(2, .int (-1)), (1, .int r5), (0, .ref (a 100))]) rfl ?_
    refine g_iconst X dX8_crowds_17 (v := -1) (by decide) ?_
    refine g_istore_n X dX8_crowds_18 rfl (by decide) (lv2 := [(3, .int (-1)), (2, .int (-1)), (1, .int r5), (0, .ref (a 100))]) rfl ?_
    refine g_iconst X dX8_crowds_19 (v := 0) (by decide) ?_
    refine g_istore X dX8_crowds_20 (by decide) (lv2 := [(4, .int 0), (3, .int (-1)), (2, .int (-1)), (1, .int r5), (0, .ref (a 100))]) rfl ?_
    refine g_lv [0, 2, 1, 3, 4] (lv2 := [(4, .int 0), (2, .int (-1)), (3, .int (-1)), (1, .int r5), (0, .ref (a 100))]) rfl ?_
    refine i_loop (mods := [100, 115, 116, 120, 121, 122, 123, 124, 125, 126, 127, 128]) (fun x : Nat × Int32 × Int32 => 8 - x.1) (fun x => [(4, .int (nI (x.1))), (2, .int (x.2.1)), (3, .int (x.2.2)), (1, .int r5), (0, .ref (a 100))]) (fun x C => 0 ≤ x.1 ∧ x.1 ≤ 8) (fun x L M C D F I K hP ih22 => ?_) ((0, (-1), (-1)) : Nat × Int32 × Int32) F I K ⟨by show _ ≤ _; omega, by show _ ≤ _; omega⟩
    rcases x with ⟨i22_4, v22_2, v22_3⟩
    obtain ⟨hi22_4a, hi22_4b⟩ := hP
    refine g_lv [0, 1, 2, 3, 4] (lv2 := [(4, .int (nI i22_4)), (2, .int v22_2), (3, .int v22_3), (1, .int r5), (0, .ref (a 100))]) rfl ?_
    refine g_iload X dX8_crowds_22 (j := 0) rfl ?_
    refine g_aload_n X dX8_crowds_24 rfl (j := 4) rfl ?_
    refine g_callVI X (s_X8_walkers l G F I  ) lk_X8_109 (F.1 100 rfl).2 (F.1 100 rfl).1 rfl rfl dX8_crowds_25 (Nat.le_of_ble_eq_true rfl) ⟨by decide, by decide⟩ ⟨by decide, by decide⟩ (fun r6 L M hp => ?_)
    obtain ⟨C, D, F, I, K1, hr⟩ := hp
    have K := K.step K1 (by decide)
    obtain ⟨n7, hn7, en7, rfl⟩ := hr
    obtain rfl : n3 = n7 := ((nI_eq (by omega) (by omega)).mp (en7.symm.trans ((congrFun (K 101 (by decide)).1 7).trans en3))).symm
    refine g_icmp_ge X dX8_crowds_28 (tgt := 112) (by decide) (fun q8 => ?_) (fun q8 => ?_)
    · skip
      have q8 : n3 ≤ i22_4 := (nI_leI (a := n3) (b := i22_4) (by omega) (by omega)).mp q8
      refine g_iload_n X dX8_crowds_112 rfl (j := 2) rfl ?_
      exact g_iret X hrt dX8_crowds_113 (by decide) (by decide) ⟨C, D, F, I, K, trivial⟩
    · skip
      have q8 : ¬ n3 ≤ i22_4 := fun z => q8 ((nI_leI (a := n3) (b := i22_4) (by omega) (by omega)).mpr z)
      refine g_aload_n X dX8_crowds_31 rfl (j := 4) rfl ?_
      refine i_get X F 100 rfl rfl fk_X8_37 dX8_crowds_32 rfl ?_
      refine g_iload X dX8_crowds_35 (j := 0) rfl ?_
      refine g_ldcw X (v := 1000000000) wd852 dX8_crowds_37 ?_
      refine i_iast X F I 116 rfl (fun _ => rfl) dX8_crowds_40 (vp_in_nI (by omega) (by decide)) trivial (fun M C F I K1 hC => ?_)
      have K := K.step K1 (by decide)
      refine g_aload_n X dX8_crowds_41 rfl (j := 4) rfl ?_
      refine g_callVV X (s_X8_goAll l G F I  ) lk_X8_289 (F.1 100 rfl).2 (F.1 100 rfl).1 rfl rfl dX8_crowds_42 (Nat.le_of_ble_eq_true rfl) ⟨by decide, by decide⟩ ⟨by decide, by decide⟩ (fun L M hp => ?_)
      obtain ⟨C, D, F, I, K1, hr⟩ := hp
      have K := K.step K1 (by decide)
      refine g_aload_n X dX8_crowds_45 rfl (j := 4) rfl ?_
      refine i_get X F 100 rfl rfl fk_X8_37 dX8_crowds_46 rfl ?_
      refine g_iload X dX8_crowds_49 (j := 0) rfl ?_
      refine g_aload_n X dX8_crowds_51 rfl (j := 4) rfl ?_
      refine i_get X F 100 rfl rfl fk_X8_9 dX8_crowds_52 rfl ?_
      refine g_bipush X dX8_crowds_55 (v := 56) (by decide) ?_
      refine g_iconst X dX8_crowds_57 (v := 2) (by decide) ?_
      refine g_iload X dX8_crowds_58 (j := 0) rfl ?_
      refine g_imul X dX8_crowds_60 ?_
      refine Go.top (v := .int (nI (2 * i22_4))) (congrArg Value.int (pk_mul 2 i22_4)) ?_
      refine g_iadd X dX8_crowds_61 ?_
      refine Go.top (v := .int (nI (56 + (2 * i22_4)))) (congrArg Value.int (nI_add 56 (2 * i22_4))) ?_
      refine g_iconst X dX8_crowds_62 (v := 1) (by decide) ?_
      refine g_iadd X dX8_crowds_63 ?_
      refine Go.top (v := .int (nI ((56 + (2 * i22_4)) + 1))) (congrArg Value.int (nI_add (56 + (2 * i22_4)) 1)) ?_
      refine i_iald X F 101 rfl rfl dX8_crowds_64 (vp_in_nI (by omega) (by decide)) rfl ?_
      refine Go.gen (fun o9 => ?_)
      refine i_iast X F I 116 rfl (fun _ => rfl) dX8_crowds_65 (vp_in_nI (by omega) (by decide)) trivial (fun M C F I K1 hC => ?_)
      have K := K.step K1 (by decide)
      refine g_aload_n X dX8_crowds_66 rfl (j := 4) rfl ?_
      refine g_callVI X (s_X8_insideLast l G F I  ) lk_X8_391 (F.1 100 rfl).2 (F.1 100 rfl).1 rfl rfl dX8_crowds_67 (Nat.le_of_ble_eq_true rfl) ⟨by decide, by decide⟩ ⟨by decide, by decide⟩ (fun r10 L M hp => ?_)
      obtain ⟨C, D, F, I, K1, hr⟩ := hp
      have K := K.step K1 (by decide)
      refine g_callSI X (s_X8_bits l G F I r10 ) lk_X8_334 rfl rfl dX8_crowds_70 (Nat.le_of_ble_eq_true rfl) ⟨by decide, by decide⟩ ⟨by decide, by decide⟩ (fun r11 L M hp => ?_)
      obtain ⟨C, D, F, I, K1, hr⟩ := hp
      have K := K.step K1 (by decide)
      obtain ⟨n12, hn12a, hn12b, rfl⟩ := hr
      refine g_istore X dX8_crowds_73 (by decide) (lv2 := [(5, .int (nI n12)), (4, .int (nI i22_4)), (2, .int v22_2), (3, .int v22_3), (1, .int r5), (0, .ref (a 100))]) rfl ?_
      refine g_iload X dX8_crowds_75 (j := 0) rfl ?_
      refine g_iload_n X dX8_crowds_77 rfl (j := 4) rfl ?_
      refine g_iconst X dX8_crowds_78 (v := 1) (by decide) ?_
      refine g_iload X dX8_crowds_79 (j := 1) rfl ?_
      refine g_ishl X dX8_crowds_81 ?_
      refine Go.gen (fun o13 => ?_)
      refine g_iconst X dX8_crowds_82 (v := -1) (by decide) ?_
      refine g_ixor X dX8_crowds_83 ?_
      refine Go.gen (fun o14 => ?_)
      refine g_iand X dX8_crowds_84 ?_
      refine Go.gen (fun o15 => ?_)
      refine g_callSI X (s_X8_bits l G F I o15 ) lk_X8_334 rfl rfl dX8_crowds_85 (Nat.le_of_ble_eq_true rfl) ⟨by decide, by decide⟩ ⟨by decide, by decide⟩ (fun r16 L M hp => ?_)
      obtain ⟨C, D, F, I, K1, hr⟩ := hp
      have K := K.step K1 (by decide)
      obtain ⟨n17, hn17a, hn17b, rfl⟩ := hr
      refine g_icmp_le X dX8_crowds_88 (tgt := 106) (by decide) (fun q18 => ?_) (fun q18 => ?_)
      · skip
        have q18 : n12 ≤ n17 := (nI_leI (a := n12) (b := n17) (by omega) (by omega)).mp q18
        refine g_iinc X dX8_crowds_106 (j := 1) rfl (v := nI (i22_4 + 1)) (nI_1 i22_4) (by decide) (lv2 := [(4, .int (nI (i22_4 + 1))), (5, .int (nI n12)), (2, .int v22_2), (3, .int v22_3), (1, .int r5), (0, .ref (a 100))]) rfl ?_
        refine g_goto X dX8_crowds_109 (tgt := 22) (by decide) ?_
        refine g_lv [0, 2, 3, 4, 5] (lv2 := [(4, .int (nI (i22_4 + 1))), (2, .int v22_2), (3, .int v22_3), (1, .int r5), (0, .ref (a 100))]) rfl ?_
        exact ih22 ((i22_4 + 1), v22_2, v22_3) L M C D F I K ⟨by omega, by omega⟩ (by show _ < _; omega)
      · skip
        have q18 : ¬ n12 ≤ n17 := fun z => q18 ((nI_leI (a := n12) (b := n17) (by omega) (by omega)).mpr z)
        refine g_iload X dX8_crowds_91 (j := 0) rfl ?_
        refine g_iload_n X dX8_crowds_93 rfl (j := 2) rfl ?_
        refine g_icmp_gt X dX8_crowds_94 (tgt := 100) (by decide) (fun q19 => ?_) (fun q19 => ?_)
        · skip
          have q19t : v22_2.toInt < (nI n12).toInt := Int32.lt_iff_toInt_lt.mp q19
          rw [nI_toInt (by omega)] at q19t
          have q19b := Int32.toInt_lt v22_2
          refine g_iload X dX8_crowds_100 (j := 0) rfl ?_
          refine g_istore_n X dX8_crowds_102 rfl (by decide) (lv2 := [(2, .int (nI n12)), (5, .int (nI n12)), (4, .int (nI i22_4)), (3, .int v22_3), (1, .int r5), (0, .ref (a 100))]) rfl ?_
          refine g_iload X dX8_crowds_103 (j := 2) rfl ?_
          refine g_istore_n X dX8_crowds_105 rfl (by decide) (lv2 := [(3, .int (nI i22_4)), (2, .int (nI n12)), (5, .int (nI n12)), (4, .int (nI i22_4)), (1, .int r5), (0, .ref (a 100))]) rfl ?_
          refine g_iinc X dX8_crowds_106 (j := 3) rfl (v := nI (i22_4 + 1)) (nI_1 i22_4) (by decide) (lv2 := [(4, .int (nI (i22_4 + 1))), (3, .int (nI i22_4)), (2, .int (nI n12)), (5, .int (nI n12)), (1, .int r5), (0, .ref (a 100))]) rfl ?_
          refine g_goto X dX8_crowds_109 (tgt := 22) (by decide) ?_
          refine g_lv [0, 2, 1, 4, 5] (lv2 := [(4, .int (nI (i22_4 + 1))), (2, .int (nI n12)), (3, .int (nI i22_4)), (1, .int r5), (0, .ref (a 100))]) rfl ?_
          exact ih22 ((i22_4 + 1), nI n12, nI i22_4) L M C D F I K ⟨by omega, by omega⟩ (by show _ < _; omega)
        · skip
          have q19t : ¬ v22_2.toInt < (nI n12).toInt := fun z => q19 (Int32.lt_iff_toInt_lt.mpr z)
          rw [nI_toInt (by omega)] at q19t
          have q19b := Int32.toInt_lt v22_2
          refine g_goto X dX8_crowds_97 (tgt := 106) (by decide) ?_
          refine g_iinc X dX8_crowds_106 (j := 1) rfl (v := nI (i22_4 + 1)) (nI_1 i22_4) (by decide) (lv2 := [(4, .int (nI (i22_4 + 1))), (5, .int (nI n12)), (2, .int v22_2), (3, .int v22_3), (1, .int r5), (0, .ref (a 100))]) rfl ?_
          refine g_goto X dX8_crowds_109 (tgt := 22) (by decide) ?_
          refine g_lv [0, 2, 3, 4, 5] (lv2 := [(4, .int (nI (i22_4 + 1))), (2, .int v22_2), (3, .int v22_3), (1, .int r5), (0, .ref (a 100))]) rfl ?_
          exact ih22 ((i22_4 + 1), v22_2, v22_3) L M C D F I K ⟨by omega, by omega⟩ (by show _ < _; omega)
