set_option maxHeartbeats 4000000 in
set_option maxRecDepth 100000 in
theorem s_X8_insideBy (l : Launch) (G : va_G) {cy : Nat → ClassId} {L : List Nat} {M : Nat → va_E} {a : Nat → Nat} {act : Nat → Bool} {C0 : Nat → Nat → Int32} {D0 : Nat → Nat → Int64} {R : Nat → Nat → Option Nat} (F : WI L M a act (ent cy a C0 D0 R)) (I : Inv C0) (p0 : Int32)  : MI l G cy yX8_insideBy cX8_insideBy 2 (some .int) 6 0 0 [.ref (a 100), .int p0] L M (fun r L2 M2 => ∃ C2 D2, WI L2 M2 a act (ent cy a C2 D2 R) ∧ Inv C2 ∧ Kp [100, 120, 121, 122, 123, 124, 125, 126, 127, 128] C0 D0 C2 D2 ∧ True) := by
  refine MI.of (own := RX8) rfl (by decide) (Nat.le_of_ble_eq_true rfl) ?_
  intro p e s m below meth c A X hrt hnm
  obtain ⟨C, D, hC0, hD0, F, I, K⟩ : ∃ C D, C = C0 ∧ D = D0 ∧ WI L M a act (ent cy a C D R) ∧ Inv C ∧ Kp [100, 120, 121, 122, 123, 124, 125, 126, 127, 128] C0 D0 C D := ⟨C0, D0, rfl, rfl, F, I, Kp.rf⟩
  obtain ⟨n1, hn1, en1⟩ := rg_nat ((show okw 0 (C 101 0) from I 101 0).1 rfl) (by decide)
  rw [hC0] at en1
  obtain ⟨n2, hn2, en2⟩ := rg_nat ((show okw 4 (C 101 4) from I 101 4).2.2.2.1 rfl) (by decide)
  rw [hC0] at en2
  obtain ⟨n3, hn3, en3⟩ := rg_nat ((show okw 7 (C 101 7) from I 101 7).2.2.2.2.1 rfl) (by decide)
  rw [hC0] at en3
  refine g_aload_n X dX8_insideBy_0 rfl (j := 0) rfl ?_
  refine g_iload_n X dX8_insideBy_1 rfl (j := 1) rfl ?_
  refine i_put X F I 100 rfl rfl rfl fk_X8_257 dX8_insideBy_2 rfl rfl (Nat.le_of_ble_eq_true rfl) (fun h => absurd h (by decide)) (fun M C F I K1 hC => ?_)
  have K := K.step K1 (by decide)
  refine g_aload_n X dX8_insideBy_5 rfl (j := 0) rfl ?_
  refine g_callVV X (s_X8_goAll l G F I  ) lk_X8_289 (F.1 100 rfl).2 (F.1 100 rfl).1 rfl rfl dX8_insideBy_6 (Nat.le_of_ble_eq_true rfl) ⟨by decide, by decide⟩ ⟨by decide, by decide⟩ (fun L M hp => ?_)
  obtain ⟨C, D, F, I, K1, hr⟩ := hp
  have K := K.step K1 (by decide)
  refine g_aload_n X dX8_insideBy_9 rfl (j := 0) rfl ?_
  refine g_callVI X (s_X8_insideLast l G F I  ) lk_X8_391 (F.1 100 rfl).2 (F.1 100 rfl).1 rfl rfl dX8_insideBy_10 (Nat.le_of_ble_eq_true rfl) ⟨by decide, by decide⟩ ⟨by decide, by decide⟩ (fun r4 L M hp => ?_)
  obtain ⟨C, D, F, I, K1, hr⟩ := hp
  have K := K.step K1 (by decide)
  exact g_iret X hrt dX8_insideBy_13 (by decide) (by decide) ⟨C, D, F, I, K, trivial⟩
set_option maxHeartbeats 4000000 in
set_option maxRecDepth 100000 in
theorem s_X8_by (l : Launch) (G : va_G) {cy : Nat → ClassId} {L : List Nat} {M : Nat → va_E} {a : Nat → Nat} {act : Nat → Bool} {C0 : Nat → Nat → Int32} {D0 : Nat → Nat → Int64} {R : Nat → Nat → Option Nat} (F : WI L M a act (ent cy a C0 D0 R)) (I : Inv C0) (p0 : Int32)  : MI l G cy yX8_by cX8_by 2 (some .int) 7 0 0 [.ref (a 100), .int p0] L M (fun r L2 M2 => ∃ C2 D2, WI L2 M2 a act (ent cy a C2 D2 R) ∧ Inv C2 ∧ Kp [100, 115, 116, 120, 121, 122, 123, 124, 125, 126, 127, 128] C0 D0 C2 D2 ∧ True) := by
  refine MI.of (own := RX8) rfl (by decide) (Nat.le_of_ble_eq_true rfl) ?_
  intro p e s m below meth c A X hrt hnm
  obtain ⟨C, D, hC0, hD0, F, I, K⟩ : ∃ C D, C = C0 ∧ D = D0 ∧ WI L M a act (ent cy a C D R) ∧ Inv C ∧ Kp [100, 115, 116, 120, 121, 122, 123, 124, 125, 126, 127, 128] C0 D0 C D := ⟨C0, D0, rfl, rfl, F, I, Kp.rf⟩
  obtain ⟨n1, hn1, en1⟩ := rg_nat ((show okw 0 (C 101 0) from I 101 0).1 rfl) (by decide)
  rw [hC0] at en1
  obtain ⟨n2, hn2, en2⟩ := rg_nat ((show okw 4 (C 101 4) from I 101 4).2.2.2.1 rfl) (by decide)
  rw [hC0] at en2
  obtain ⟨n3, hn3, en3⟩ := rg_nat ((show okw 7 (C 101 7) from I 101 7).2.2.2.2.1 rfl) (by decide)
  rw [hC0] at en3
  refine g_aload_n X dX8_by_0 rfl (j := 0) rfl ?_
  refine g_callVI X (s_X8_asksHeath l G F I  ) lk_X8_292 (F.1 100 rfl).2 (F.1 100 rfl).1 rfl rfl dX8_by_1 (Nat.le_of_ble_eq_true rfl) ⟨by decide, by decide⟩ ⟨by decide, by decide⟩ (fun r4 L M hp => ?_)
  obtain ⟨C, D, F, I, K1, hr⟩ := hp
  have K := K.step K1 (by decide)
  rcases hr with rfl | rfl
  · skip
    refine g_if_eq X dX8_by_4 (tgt := 27) (by decide) (fun _ => ?_) (fun q => absurd (by decide) q)
    refine g_bipush X dX8_by_27 (v := -2) (by decide) ?_
    exact g_iret X hrt dX8_by_29 (by decide) (by decide) ⟨C, D, F, I, K, trivial⟩
  · skip
    refine g_if_eq X dX8_by_4 (tgt := 27) (by decide) (fun q => absurd q (by decide)) (fun _ => ?_)
    refine g_iload_n X dX8_by_7 rfl (j := 1) rfl ?_
    refine g_i2l X dX8_by_8 rfl ?_
    refine g_lconst X dX8_by_9 (v := 0) (by decide) ?_
    refine g_ldc2 X (v := 3) wd861 dX8_by_10 ?_
    refine g_callSI X (s_X8_in l G F I ((Int32.toInt64 p0)) (0 : Int64) (3 : Int64) ) lk_X8_94 rfl rfl dX8_by_13 (Nat.le_of_ble_eq_true rfl) ⟨by decide, by decide⟩ ⟨by decide, by decide⟩ (fun r5 L M hp => ?_)
    obtain ⟨C, D, F, I, K1, hr⟩ := hp
    have K := K.step K1 (by decide)
    rcases hr with ⟨rfl, hq6⟩ | ⟨rfl, hq6⟩
    · skip
      have hq6x := Jvm.Kit.i64_of_i32 p0
      have hq6l : (0 : Int64).toInt = 0 := (by decide)
      have hq6h : (3 : Int64).toInt = 3 := (by decide)
      refine g_if_eq X dX8_by_16 (tgt := 27) (by decide) (fun _ => ?_) (fun q => absurd (by decide) q)
      refine g_bipush X dX8_by_27 (v := -2) (by decide) ?_
      exact g_iret X hrt dX8_by_29 (by decide) (by decide) ⟨C, D, F, I, K, trivial⟩
    · skip
      have hq6x := Jvm.Kit.i64_of_i32 p0
      have hq6l : (0 : Int64).toInt = 0 := (by decide)
      have hq6h : (3 : Int64).toInt = 3 := (by decide)
      obtain ⟨n7, hn7a, hn7b, en7⟩ := nI_ofInt (x := p0) (lo := 0) (hi := 3) (by omega) (by omega) (by decide)
      subst en7
      have tn7 := nI_toInt (n := n7) (by omega)
      refine g_if_eq X dX8_by_16 (tgt := 27) (by decide) (fun q => absurd q (by decide)) (fun _ => ?_)
      refine g_aload_n X dX8_by_19 rfl (j := 0) rfl ?_
      refine g_iload_n X dX8_by_20 rfl (j := 1) rfl ?_
      refine g_callVI X (s_X8_insideBy l G F I (nI n7) ) lk_X8_430 (F.1 100 rfl).2 (F.1 100 rfl).1 rfl rfl dX8_by_21 (Nat.le_of_ble_eq_true rfl) ⟨by decide, by decide⟩ ⟨by decide, by decide⟩ (fun r8 L M hp => ?_)
      obtain ⟨C, D, F, I, K1, hr⟩ := hp
      have K := K.step K1 (by decide)
      refine g_goto X dX8_by_24 (tgt := 29) (by decide) ?_
      exact g_iret X hrt dX8_by_29 (by decide) (by decide) ⟨C, D, F, I, K, trivial⟩
set_option maxHeartbeats 4000000 in
set_option maxRecDepth 100000 in
theorem s_X8_law (l : Launch) (G : va_G) {cy : Nat → ClassId} {L : List Nat} {M : Nat → va_E} {a : Nat → Nat} {act : Nat → Bool} {C0 : Nat → Nat → Int32} {D0 : Nat → Nat → Int64} {R : Nat → Nat → Option Nat} (F : WI L M a act (ent cy a C0 D0 R)) (I : Inv C0)   : MI l G cy yX8_law cX8_law 3 (some .int) 7 0 0 [.ref (a 100)] L M (fun r L2 M2 => ∃ C2 D2, WI L2 M2 a act (ent cy a C2 D2 R) ∧ Inv C2 ∧ Kp [100, 115, 116, 120, 121, 122, 123, 124, 125, 126, 127, 128] C0 D0 C2 D2 ∧ True) := by
  refine MI.of (own := RX8) rfl (by decide) (Nat.le_of_ble_eq_true rfl) ?_
  intro p e s m below meth c A X hrt hnm
  obtain ⟨C, D, hC0, hD0, F, I, K⟩ : ∃ C D, C = C0 ∧ D = D0 ∧ WI L M a act (ent cy a C D R) ∧ Inv C ∧ Kp [100, 115, 116, 120, 121, 122, 123, 124, 125, 126, 127, 128] C0 D0 C D := ⟨C0, D0, rfl, rfl, F, I, Kp.rf⟩
  obtain ⟨n1, hn1, en1⟩ := rg_nat ((show okw 0 (C 101 0) from I 101 0).1 rfl) (by decide)
  rw [hC0] at en1
  obtain ⟨n2, hn2, en2⟩ := rg_nat ((show okw 4 (C 101 4) from I 101 4).2.2.2.1 rfl) (by decide)
  rw [hC0] at en2
  obtain ⟨n3, hn3, en3⟩ := rg_nat ((show okw 7 (C 101 7) from I 101 7).2.2.2.2.1 rfl) (by decide)
  rw [hC0] at en3
  refine g_aload_n X dX8_law_0 rfl (j := 0) rfl ?_
  refine g_callVI X (s_X8_asksHeath l G F I  ) lk_X8_292 (F.1 100 rfl).2 (F.1 100 rfl).1 rfl rfl dX8_law_1 (Nat.le_of_ble_eq_true rfl) ⟨by decide, by decide⟩ ⟨by decide, by decide⟩ (fun r4 L M hp => ?_)
  obtain ⟨C, D, F, I, K1, hr⟩ := hp
  have K := K.step K1 (by decide)
  rcases hr with rfl | rfl
  · skip
    refine g_if_ne X dX8_law_4 (tgt := 10) (by decide) (fun q => absurd (by decide) q) (fun _ => ?_)
    refine g_bipush X dX8_law_7 (v := -2) (by decide) ?_
    exact g_iret X hrt dX8_law_9 (by decide) (by decide) ⟨C, D, F, I, K, trivial⟩
  · skip
    refine g_if_ne X dX8_law_4 (tgt := 10) (by decide) (fun _ => ?_) (fun q => absurd q (by decide))
    refine g_iconst X dX8_law_10 (v := 0) (by decide) ?_
    refine g_istore_n X dX8_law_11 rfl (by decide) (lv2 := [(1, .int 0), (0, .ref (a 100))]) rfl ?_
    refine g_iconst X dX8_law_12 (v := 1) (by decide) ?_
    refine g_istore_n X dX8_law_13 rfl (by decide) (lv2 := [(2, .int 1), (1, .int 0), (0, .ref (a 100))]) rfl ?_
    refine g_lv [0, 1, 2] (lv2 := [(2, .int 1), (1, .int 0), (0, .ref (a 100))]) rfl ?_
    refine i_loop (mods := [100, 115, 116, 120, 121, 122, 123, 124, 125, 126, 127, 128]) (fun x : Nat × Int32 => 4 - x.1) (fun x => [(2, .int (nI (x.1))), (1, .int (x.2)), (0, .ref (a 100))]) (fun x C => 1 ≤ x.1 ∧ x.1 ≤ 4) (fun x L M C D F I K hP ih14 => ?_) ((1, 0) : Nat × Int32) F I K ⟨by show _ ≤ _; omega, by show _ ≤ _; omega⟩
    rcases x with ⟨i14_2, v14_1⟩
    obtain ⟨hi14_2a, hi14_2b⟩ := hP
    refine g_lv [0, 1, 2] (lv2 := [(2, .int (nI i14_2)), (1, .int v14_1), (0, .ref (a 100))]) rfl ?_
    refine g_iload_n X dX8_law_14 rfl (j := 0) rfl ?_
    refine g_iconst X dX8_law_15 (v := 4) (by decide) ?_
    refine g_icmp_ge X dX8_law_16 (tgt := 50) (by decide) (fun q5 => ?_) (fun q5 => ?_)
    · skip
      have q5 : 4 ≤ i14_2 := (nI_leI (a := 4) (b := i14_2) (by omega) (by omega)).mp q5
      refine g_iload_n X dX8_law_50 rfl (j := 1) rfl ?_
      exact g_iret X hrt dX8_law_51 (by decide) (by decide) ⟨C, D, F, I, K, trivial⟩
    · skip
      have q5 : ¬ 4 ≤ i14_2 := fun z => q5 ((nI_leI (a := 4) (b := i14_2) (by omega) (by omega)).mpr z)
      refine g_aload_n X dX8_law_19 rfl (j := 2) rfl ?_
      refine g_iload_n X dX8_law_20 rfl (j := 0) rfl ?_
      refine g_callVI X (s_X8_insideBy l G F I (nI i14_2) ) lk_X8_430 (F.1 100 rfl).2 (F.1 100 rfl).1 rfl rfl dX8_law_21 (Nat.le_of_ble_eq_true rfl) ⟨by decide, by decide⟩ ⟨by decide, by decide⟩ (fun r6 L M hp => ?_)
      obtain ⟨C, D, F, I, K1, hr⟩ := hp
      have K := K.step K1 (by decide)
      refine g_callSI X (s_X8_bits l G F I r6 ) lk_X8_334 rfl rfl dX8_law_24 (Nat.le_of_ble_eq_true rfl) ⟨by decide, by decide⟩ ⟨by decide, by decide⟩ (fun r7 L M hp => ?_)
      obtain ⟨C, D, F, I, K1, hr⟩ := hp
      have K := K.step K1 (by decide)
      obtain ⟨n8, hn8a, hn8b, rfl⟩ := hr
      refine g_aload_n X dX8_law_27 rfl (j := 2) rfl ?_
      refine g_iload_n X dX8_law_28 rfl (j := 1) rfl ?_
      refine g_callVI X (s_X8_insideBy l G F I v14_1 ) lk_X8_430 (F.1 100 rfl).2 (F.1 100 rfl).1 rfl rfl dX8_law_29 (Nat.le_of_ble_eq_true rfl) ⟨by decide, by decide⟩ ⟨by decide, by decide⟩ (fun r9 L M hp => ?_)
      obtain ⟨C, D, F, I, K1, hr⟩ := hp
      have K := K.step K1 (by decide)
      refine g_callSI X (s_X8_bits l G F I r9 ) lk_X8_334 rfl rfl dX8_law_32 (Nat.le_of_ble_eq_true rfl) ⟨by decide, by decide⟩ ⟨by decide, by decide⟩ (fun r10 L M hp => ?_)
      obtain ⟨C, D, F, I, K1, hr⟩ := hp
      have K := K.step K1 (by decide)
      obtain ⟨n11, hn11a, hn11b, rfl⟩ := hr
      refine g_icmp_le X dX8_law_35 (tgt := 42) (by decide) (fun q12 => ?_) (fun q12 => ?_)
      · skip
        have q12 : n8 ≤ n11 := (nI_leI (a := n8) (b := n11) (by omega) (by omega)).mp q12
        refine g_iload_n X dX8_law_42 rfl (j := 1) rfl ?_
        refine g_istore_n X dX8_law_43 rfl (by decide) (lv2 := [(1, .int v14_1), (2, .int (nI i14_2)), (0, .ref (a 100))]) rfl ?_
        refine g_iinc X dX8_law_44 (j := 1) rfl (v := nI (i14_2 + 1)) (nI_1 i14_2) (by decide) (lv2 := [(2, .int (nI (i14_2 + 1))), (1, .int v14_1), (0, .ref (a 100))]) rfl ?_
        refine g_goto X dX8_law_47 (tgt := 14) (by decide) ?_
        refine g_lv [0, 1, 2] (lv2 := [(2, .int (nI (i14_2 + 1))), (1, .int v14_1), (0, .ref (a 100))]) rfl ?_
        exact ih14 ((i14_2 + 1), v14_1) L M C D F I K ⟨by omega, by omega⟩ (by show _ < _; omega)
      · skip
        have q12 : ¬ n8 ≤ n11 := fun z => q12 ((nI_leI (a := n8) (b := n11) (by omega) (by omega)).mpr z)
        refine g_iload_n X dX8_law_38 rfl (j := 0) rfl ?_
        refine g_goto X dX8_law_39 (tgt := 43) (by decide) ?_
        refine g_istore_n X dX8_law_43 rfl (by decide) (lv2 := [(1, .int (nI i14_2)), (2, .int (nI i14_2)), (0, .ref (a 100))]) rfl ?_
        refine g_iinc X dX8_law_44 (j := 1) rfl (v := nI (i14_2 + 1)) (nI_1 i14_2) (by decide) (lv2 := [(2, .int (nI (i14_2 + 1))), (1, .int (nI i14_2)), (0, .ref (a 100))]) rfl ?_
        refine g_goto X dX8_law_47 (tgt := 14) (by decide) ?_
        refine g_lv [0, 1, 2] (lv2 := [(2, .int (nI (i14_2 + 1))), (1, .int (nI i14_2)), (0, .ref (a 100))]) rfl ?_
        exact ih14 ((i14_2 + 1), nI i14_2) L M C D F I K ⟨by omega, by omega⟩ (by show _ < _; omega)
set_option maxHeartbeats 4000000 in
set_option maxRecDepth 100000 in
theorem s_X8_worthOf (l : Launch) (G : va_G) {cy : Nat → ClassId} {L : List Nat} {M : Nat → va_E} {a : Nat → Nat} {act : Nat → Bool} {C0 : Nat → Nat → Int32} {D0 : Nat → Nat → Int64} {R : Nat → Nat → Option Nat} (F : WI L M a act (ent cy a C0 D0 R)) (I : Inv C0) (p0 : Int32)  : MI l G cy yX8_worthOf cX8_worthOf 2 (some .int) 6 0 0 [.ref (a 100), .int p0] L M (fun r L2 M2 => ∃ C2 D2, WI L2 M2 a act (ent cy a C2 D2 R) ∧ Inv C2 ∧ Kp [100, 120, 121, 122, 123, 124, 125, 126, 127, 128] C0 D0 C2 D2 ∧ True) := by
  refine MI.of (own := RX8) rfl (by decide) (Nat.le_of_ble_eq_true rfl) ?_
  intro p e s m below meth c A X hrt hnm
  obtain ⟨C, D, hC0, hD0, F, I, K⟩ : ∃ C D, C = C0 ∧ D = D0 ∧ WI L M a act (ent cy a C D R) ∧ Inv C ∧ Kp [100, 120, 121, 122, 123, 124, 125, 126, 127, 128] C0 D0 C D := ⟨C0, D0, rfl, rfl, F, I, Kp.rf⟩
  obtain ⟨n1, hn1, en1⟩ := rg_nat ((show okw 0 (C 101 0) from I 101 0).1 rfl) (by decide)
  rw [hC0] at en1
  obtain ⟨n2, hn2, en2⟩ := rg_nat ((show okw 4 (C 101 4) from I 101 4).2.2.2.1 rfl) (by decide)
  rw [hC0] at en2
  obtain ⟨n3, hn3, en3⟩ := rg_nat ((show okw 7 (C 101 7) from I 101 7).2.2.2.2.1 rfl) (by decide)
  rw [hC0] at en3
  refine g_aload_n X dX8_worthOf_0 rfl (j := 0) rfl ?_
  refine g_iload_n X dX8_worthOf_1 rfl (j := 1) rfl ?_
  refine i_put X F I 100 rfl rfl rfl fk_X8_263 dX8_worthOf_2 rfl rfl (Nat.le_of_ble_eq_true rfl) (fun h => absurd h (by decide)) (fun M C F I K1 hC => ?_)
  have K := K.step K1 (by decide)
  refine g_aload_n X dX8_worthOf_5 rfl (j := 0) rfl ?_
  refine g_callVV X (s_X8_goAll l G F I  ) lk_X8_289 (F.1 100 rfl).2 (F.1 100 rfl).1 rfl rfl dX8_worthOf_6 (Nat.le_of_ble_eq_true rfl) ⟨by decide, by decide⟩ ⟨by decide, by decide⟩ (fun L M hp => ?_)
  obtain ⟨C, D, F, I, K1, hr⟩ := hp
  have K := K.step K1 (by decide)
  refine g_aload_n X dX8_worthOf_9 rfl (j := 0) rfl ?_
  refine g_callVI X (s_X8_insideLast l G F I  ) lk_X8_391 (F.1 100 rfl).2 (F.1 100 rfl).1 rfl rfl dX8_worthOf_10 (Nat.le_of_ble_eq_true rfl) ⟨by decide, by decide⟩ ⟨by decide, by decide⟩ (fun r4 L M hp => ?_)
  obtain ⟨C, D, F, I, K1, hr⟩ := hp
  have K := K.step K1 (by decide)
  refine g_callSI X (s_X8_bits l G F I r4 ) lk_X8_334 rfl rfl dX8_worthOf_13 (Nat.le_of_ble_eq_true rfl) ⟨by decide, by decide⟩ ⟨by decide, by decide⟩ (fun r5 L M hp => ?_)
  obtain ⟨C, D, F, I, K1, hr⟩ := hp
  have K := K.step K1 (by decide)
  obtain ⟨n6, hn6a, hn6b, rfl⟩ := hr
  exact g_iret X hrt dX8_worthOf_16 (by decide) (by decide) ⟨C, D, F, I, K, trivial⟩
set_option maxHeartbeats 4000000 in
set_option maxRecDepth 100000 in
theorem s_X8_worth (l : Launch) (G : va_G) {cy : Nat → ClassId} {L : List Nat} {M : Nat → va_E} {a : Nat → Nat} {act : Nat → Bool} {C0 : Nat → Nat → Int32} {D0 : Nat → Nat → Int64} {R : Nat → Nat → Option Nat} (F : WI L M a act (ent cy a C0 D0 R)) (I : Inv C0) (p0 : Int32)  : MI l G cy yX8_worth cX8_worth 2 (some .int) 7 0 0 [.ref (a 100), .int p0] L M (fun r L2 M2 => ∃ C2 D2, WI L2 M2 a act (ent cy a C2 D2 R) ∧ Inv C2 ∧ Kp [100, 115, 116, 120, 121, 122, 123, 124, 125, 126, 127, 128] C0 D0 C2 D2 ∧ True) := by
  refine MI.of (own := RX8) rfl (by decide) (Nat.le_of_ble_eq_true rfl) ?_
  intro p e s m below meth c A X hrt hnm
  obtain ⟨C, D, hC0, hD0, F, I, K⟩ : ∃ C D, C = C0 ∧ D = D0 ∧ WI L M a act (ent cy a C D R) ∧ Inv C ∧ Kp [100, 115, 116, 120, 121, 122, 123, 124, 125, 126, 127, 128] C0 D0 C D := ⟨C0, D0, rfl, rfl, F, I, Kp.rf⟩
  obtain ⟨n1, hn1, en1⟩ := rg_nat ((show okw 0 (C 101 0) from I 101 0).1 rfl) (by decide)
  rw [hC0] at en1
  obtain ⟨n2, hn2, en2⟩ := rg_nat ((show okw 4 (C 101 4) from I 101 4).2.2.2.1 rfl) (by decide)
  rw [hC0] at en2
  obtain ⟨n3, hn3, en3⟩ := rg_nat ((show okw 7 (C 101 7) from I 101 7).2.2.2.2.1 rfl) (by decide)
  rw [hC0] at en3
  refine g_aload_n X dX8_worth_0 rfl (j := 0) rfl ?_
  refine g_callVV X (s_X8_asItIs l G F I  ) lk_X8_286 (F.1 100 rfl).2 (F.1 100 rfl).1 rfl rfl dX8_worth_1 (Nat.le_of_ble_eq_true rfl) ⟨by decide, by decide⟩ ⟨by decide, by decide⟩ (fun L M hp => ?_)
  obtain ⟨C, D, F, I, K1, hr⟩ := hp
  have K := K.step K1 (by decide)
  refine g_aload_n X dX8_worth_4 rfl (j := 0) rfl ?_
  refine g_callVI X (s_X8_isHeath l G F I  ) lk_X8_102 (F.1 100 rfl).2 (F.1 100 rfl).1 rfl rfl dX8_worth_5 (Nat.le_of_ble_eq_true rfl) ⟨by decide, by decide⟩ ⟨by decide, by decide⟩ (fun r4 L M hp => ?_)
  obtain ⟨C, D, F, I, K1, hr⟩ := hp
  have K := K.step K1 (by decide)
  rcases hr with rfl | rfl
  · skip
    refine g_if_eq X dX8_worth_8 (tgt := 33) (by decide) (fun _ => ?_) (fun q => absurd (by decide) q)
    refine g_bipush X dX8_worth_33 (v := -2) (by decide) ?_
    exact g_iret X hrt dX8_worth_35 (by decide) (by decide) ⟨C, D, F, I, K, trivial⟩
  · skip
    refine g_if_eq X dX8_worth_8 (tgt := 33) (by decide) (fun q => absurd q (by decide)) (fun _ => ?_)
    refine g_iload_n X dX8_worth_11 rfl (j := 1) rfl ?_
    refine g_i2l X dX8_worth_12 rfl ?_
    refine g_lconst X dX8_worth_13 (v := 0) (by decide) ?_
    refine g_aload_n X dX8_worth_14 rfl (j := 0) rfl ?_
    refine g_callVI X (s_X8_allPosts l G F I  ) lk_X8_433 (F.1 100 rfl).2 (F.1 100 rfl).1 rfl rfl dX8_worth_15 (Nat.le_of_ble_eq_true rfl) ⟨by decide, by decide⟩ ⟨by decide, by decide⟩ (fun r5 L M hp => ?_)
    obtain ⟨C, D, F, I, K1, hr⟩ := hp
    have K := K.step K1 (by decide)
    refine g_i2l X dX8_worth_18 rfl ?_
    refine g_callSI X (s_X8_in l G F I ((Int32.toInt64 p0)) (0 : Int64) ((Int32.toInt64 r5)) ) lk_X8_94 rfl rfl dX8_worth_19 (Nat.le_of_ble_eq_true rfl) ⟨by decide, by decide⟩ ⟨by decide, by decide⟩ (fun r6 L M hp => ?_)
    obtain ⟨C, D, F, I, K1, hr⟩ := hp
    have K := K.step K1 (by decide)
    rcases hr with ⟨rfl, hq7⟩ | ⟨rfl, hq7⟩
    · skip
      have hq7x := Jvm.Kit.i64_of_i32 p0
      have hq7l : (0 : Int64).toInt = 0 := (by decide)
      have hq7h := Jvm.Kit.i64_of_i32 r5
      refine g_if_eq X dX8_worth_22 (tgt := 33) (by decide) (fun _ => ?_) (fun q => absurd (by decide) q)
      refine g_bipush X dX8_worth_33 (v := -2) (by decide) ?_
      exact g_iret X hrt dX8_worth_35 (by decide) (by decide) ⟨C, D, F, I, K, trivial⟩
    · skip
      have hq7x := Jvm.Kit.i64_of_i32 p0
      have hq7l : (0 : Int64).toInt = 0 := (by decide)
      have hq7h := Jvm.Kit.i64_of_i32 r5
      refine g_if_eq X dX8_worth_22 (tgt := 33) (by decide) (fun q => absurd q (by decide)) (fun _ => ?_)
      refine g_aload_n X dX8_worth_25 rfl (j := 0) rfl ?_
      refine g_iload_n X dX8_worth_26 rfl (j := 1) rfl ?_
      refine g_callVI X (s_X8_worthOf l G F I p0 ) lk_X8_436 (F.1 100 rfl).2 (F.1 100 rfl).1 rfl rfl dX8_worth_27 (Nat.le_of_ble_eq_true rfl) ⟨by decide, by decide⟩ ⟨by decide, by decide⟩ (fun r8 L M hp => ?_)
      obtain ⟨C, D, F, I, K1, hr⟩ := hp
      have K := K.step K1 (by decide)
      refine g_goto X dX8_worth_30 (tgt := 35) (by decide) ?_
      exact g_iret X hrt dX8_worth_35 (by decide) (by decide) ⟨C, D, F, I, K, trivial⟩
set_option maxHeartbeats 4000000 in
set_option maxRecDepth 100000 in
theorem s_X8_factorial_0 (l : Launch) (G : va_G) {cy : Nat → ClassId} {L : List Nat} {M : Nat → va_E} {a : Nat → Nat} {act : Nat → Bool} {C0 : Nat → Nat → Int32} {D0 : Nat → Nat → Int64} {R : Nat → Nat → Option Nat} (F : WI L M a act (ent cy a C0 D0 R)) (I : Inv C0)   : MI l G cy yX8_factorial cX8_factorial 3 (some .int) 0 0 0 [.int 0] L M (fun r L2 M2 => ∃ C2 D2, WI L2 M2 a act (ent cy a C2 D2 R) ∧ Inv C2 ∧ Kp [] C0 D0 C2 D2 ∧ ∃ n : Nat, 1 ≤ n ∧ n ≤ 5040 ∧ r = nI n) := by
  refine MI.of (own := RX8) rfl (by decide) (Nat.le_of_ble_eq_true rfl) ?_
  intro p e s m below meth c A X hrt hnm
  obtain ⟨C, D, hC0, hD0, F, I, K⟩ : ∃ C D, C = C0 ∧ D = D0 ∧ WI L M a act (ent cy a C D R) ∧ Inv C ∧ Kp [] C0 D0 C D := ⟨C0, D0, rfl, rfl, F, I, Kp.rf⟩
  refine g_iconst X dX8_factorial_0 (v := 1) (by decide) ?_
  refine g_istore_n X dX8_factorial_1 rfl (by decide) (lv2 := [(1, .int 1), (0, .int 0)]) rfl ?_
  refine g_iconst X dX8_factorial_2 (v := 2) (by decide) ?_
  refine g_istore_n X dX8_factorial_3 rfl (by decide) (lv2 := [(2, .int 2), (1, .int 1), (0, .int 0)]) rfl ?_
  refine g_iload_n X dX8_factorial_4 rfl (j := 0) rfl ?_
  refine g_iload_n X dX8_factorial_5 rfl (j := 2) rfl ?_
  refine g_icmp_gt X dX8_factorial_6 (tgt := 19) (by decide) (fun _ => ?_) (fun q => absurd (by decide) q)
  refine g_iload_n X dX8_factorial_19 rfl (j := 1) rfl ?_
  exact g_iret X hrt dX8_factorial_20 (by decide) (by decide) ⟨C, D, F, I, K, ⟨1, by omega, by omega, rfl⟩⟩
set_option maxHeartbeats 4000000 in
set_option maxRecDepth 100000 in
theorem s_X8_factorial_1 (l : Launch) (G : va_G) {cy : Nat → ClassId} {L : List Nat} {M : Nat → va_E} {a : Nat → Nat} {act : Nat → Bool} {C0 : Nat → Nat → Int32} {D0 : Nat → Nat → Int64} {R : Nat → Nat → Option Nat} (F : WI L M a act (ent cy a C0 D0 R)) (I : Inv C0)   : MI l G cy yX8_factorial cX8_factorial 3 (some .int) 0 0 0 [.int 1] L M (fun r L2 M2 => ∃ C2 D2, WI L2 M2 a act (ent cy a C2 D2 R) ∧ Inv C2 ∧ Kp [] C0 D0 C2 D2 ∧ ∃ n : Nat, 1 ≤ n ∧ n ≤ 5040 ∧ r = nI n) := by
  refine MI.of (own := RX8) rfl (by decide) (Nat.le_of_ble_eq_true rfl) ?_
  intro p e s m below meth c A X hrt hnm
  obtain ⟨C, D, hC0, hD0, F, I, K⟩ : ∃ C D, C = C0 ∧ D = D0 ∧ WI L M a act (ent cy a C D R) ∧ Inv C ∧ Kp [] C0 D0 C D := ⟨C0, D0, rfl, rfl, F, I, Kp.rf⟩
  refine g_iconst X dX8_factorial_0 (v := 1) (by decide) ?_
  refine g_istore_n X dX8_factorial_1 rfl (by decide) (lv2 := [(1, .int 1), (0, .int 1)]) rfl ?_
  refine g_iconst X dX8_factorial_2 (v := 2) (by decide) ?_
  refine g_istore_n X dX8_factorial_3 rfl (by decide) (lv2 := [(2, .int 2), (1, .int 1), (0, .int 1)]) rfl ?_
  refine g_iload_n X dX8_factorial_4 rfl (j := 0) rfl ?_
  refine g_iload_n X dX8_factorial_5 rfl (j := 2) rfl ?_
  refine g_icmp_gt X dX8_factorial_6 (tgt := 19) (by decide) (fun _ => ?_) (fun q => absurd (by decide) q)
  refine g_iload_n X dX8_factorial_19 rfl (j := 1) rfl ?_
  exact g_iret X hrt dX8_factorial_20 (by decide) (by decide) ⟨C, D, F, I, K, ⟨1, by omega, by omega, rfl⟩⟩
set_option maxHeartbeats 4000000 in
set_option maxRecDepth 100000 in
theorem s_X8_factorial_2 (l : Launch) (G : va_G) {cy : Nat → ClassId} {L : List Nat} {M : Nat → va_E} {a : Nat → Nat} {act : Nat → Bool} {C0 : Nat → Nat → Int32} {D0 : Nat → Nat → Int64} {R : Nat → Nat → Option Nat} (F : WI L M a act (ent cy a C0 D0 R)) (I : Inv C0)   : MI l G cy yX8_factorial cX8_factorial 3 (some .int) 0 0 0 [.int 2] L M (fun r L2 M2 => ∃ C2 D2, WI L2 M2 a act (ent cy a C2 D2 R) ∧ Inv C2 ∧ Kp [] C0 D0 C2 D2 ∧ ∃ n : Nat, 1 ≤ n ∧ n ≤ 5040 ∧ r = nI n) := by
  refine MI.of (own := RX8) rfl (by decide) (Nat.le_of_ble_eq_true rfl) ?_
  intro p e s m below meth c A X hrt hnm
  obtain ⟨C, D, hC0, hD0, F, I, K⟩ : ∃ C D, C = C0 ∧ D = D0 ∧ WI L M a act (ent cy a C D R) ∧ Inv C ∧ Kp [] C0 D0 C D := ⟨C0, D0, rfl, rfl, F, I, Kp.rf⟩
  refine g_iconst X dX8_factorial_0 (v := 1) (by decide) ?_
  refine g_istore_n X dX8_factorial_1 rfl (by decide) (lv2 := [(1, .int 1), (0, .int 2)]) rfl ?_
  refine g_iconst X dX8_factorial_2 (v := 2) (by decide) ?_
  refine g_istore_n X dX8_factorial_3 rfl (by decide) (lv2 := [(2, .int 2), (1, .int 1), (0, .int 2)]) rfl ?_
  refine g_iload_n X dX8_factorial_4 rfl (j := 0) rfl ?_
  refine g_iload_n X dX8_factorial_5 rfl (j := 2) rfl ?_
  refine g_icmp_gt X dX8_factorial_6 (tgt := 19) (by decide) (fun q => absurd q (by decide)) (fun _ => ?_)
  refine g_iload_n X dX8_factorial_9 rfl (j := 1) rfl ?_
  refine g_iload_n X dX8_factorial_10 rfl (j := 0) rfl ?_
  refine g_imul X dX8_factorial_11 ?_
  refine Go.top (v := .int 2) (by decide) ?_
  refine g_istore_n X dX8_factorial_12 rfl (by decide) (lv2 := [(1, .int 2), (2, .int 2), (0, .int 2)]) rfl ?_
  refine g_iinc X dX8_factorial_13 (j := 1) rfl (v := 3) (by decide) (by decide) (lv2 := [(2, .int 3), (1, .int 2), (0, .int 2)]) rfl ?_
  refine g_goto X dX8_factorial_16 (tgt := 4) (by decide) ?_
  refine g_iload_n X dX8_factorial_4 rfl (j := 0) rfl ?_
  refine g_iload_n X dX8_factorial_5 rfl (j := 2) rfl ?_
  refine g_icmp_gt X dX8_factorial_6 (tgt := 19) (by decide) (fun _ => ?_) (fun q => absurd (by decide) q)
  refine g_iload_n X dX8_factorial_19 rfl (j := 1) rfl ?_
  exact g_iret X hrt dX8_factorial_20 (by decide) (by decide) ⟨C, D, F, I, K, ⟨2, by omega, by omega, rfl⟩⟩
set_option maxHeartbeats 4000000 in
set_option maxRecDepth 100000 in
theorem s_X8_factorial_3 (l : Launch) (G : va_G) {cy : Nat → ClassId} {L : List Nat} {M : Nat → va_E} {a : Nat → Nat} {act : Nat → Bool} {C0 : Nat → Nat → Int32} {D0 : Nat → Nat → Int64} {R : Nat → Nat → Option Nat} (F : WI L M a act (ent cy a C0 D0 R)) (I : Inv C0)   : MI l G cy yX8_factorial cX8_factorial 3 (some .int) 0 0 0 [.int 3] L M (fun r L2 M2 => ∃ C2 D2, WI L2 M2 a act (ent cy a C2 D2 R) ∧ Inv C2 ∧ Kp [] C0 D0 C2 D2 ∧ ∃ n : Nat, 1 ≤ n ∧ n ≤ 5040 ∧ r = nI n) := by
  refine MI.of (own := RX8) rfl (by decide) (Nat.le_of_ble_eq_true rfl) ?_
  intro p e s m below meth c A X hrt hnm
  obtain ⟨C, D, hC0, hD0, F, I, K⟩ : ∃ C D, C = C0 ∧ D = D0 ∧ WI L M a act (ent cy a C D R) ∧ Inv C ∧ Kp [] C0 D0 C D := ⟨C0, D0, rfl, rfl, F, I, Kp.rf⟩
  refine g_iconst X dX8_factorial_0 (v := 1) (by decide) ?_
  refine g_istore_n X dX8_factorial_1 rfl (by decide) (lv2 := [(1, .int 1), (0, .int 3)]) rfl ?_
  refine g_iconst X dX8_factorial_2 (v := 2) (by decide) ?_
  refine g_istore_n X dX8_factorial_3 rfl (by decide) (lv2 := [(2, .int 2), (1, .int 1), (0, .int 3)]) rfl ?_
  refine g_iload_n X dX8_factorial_4 rfl (j := 0) rfl ?_
  refine g_iload_n X dX8_factorial_5 rfl (j := 2) rfl ?_
  refine g_icmp_gt X dX8_factorial_6 (tgt := 19) (by decide) (fun q => absurd q (by decide)) (fun _ => ?_)
  refine g_iload_n X dX8_factorial_9 rfl (j := 1) rfl ?_
  refine g_iload_n X dX8_factorial_10 rfl (j := 0) rfl ?_
  refine g_imul X dX8_factorial_11 ?_
  refine Go.top (v := .int 2) (by decide) ?_
  refine g_istore_n X dX8_factorial_12 rfl (by decide) (lv2 := [(1, .int 2), (2, .int 2), (0, .int 3)]) rfl ?_
  refine g_iinc X dX8_factorial_13 (j := 1) rfl (v := 3) (by decide) (by decide) (lv2 := [(2, .int 3), (1, .int 2), (0, .int 3)]) rfl ?_
  refine g_goto X dX8_factorial_16 (tgt := 4) (by decide) ?_
  refine g_iload_n X dX8_factorial_4 rfl (j := 0) rfl ?_
  refine g_iload_n X dX8_factorial_5 rfl (j := 2) rfl ?_
  refine g_icmp_gt X dX8_factorial_6 (tgt := 19) (by decide) (fun q => absurd q (by decide)) (fun _ => ?_)
  refine g_iload_n X dX8_factorial_9 rfl (j := 1) rfl ?_
  refine g_iload_n X dX8_factorial_10 rfl (j := 0) rfl ?_
  refine g_imul X dX8_factorial_11 ?_
  refine Go.top (v := .int 6) (by decide) ?_
  refine g_istore_n X dX8_factorial_12 rfl (by decide) (lv2 := [(1, .int 6), (2, .int 3), (0, .int 3)]) rfl ?_
  refine g_iinc X dX8_factorial_13 (j := 1) rfl (v := 4) (by decide) (by decide) (lv2 := [(2, .int 4), (1, .int 6), (0, .int 3)]) rfl ?_
  refine g_goto X dX8_factorial_16 (tgt := 4) (by decide) ?_
  refine g_iload_n X dX8_factorial_4 rfl (j := 0) rfl ?_
  refine g_iload_n X dX8_factorial_5 rfl (j := 2) rfl ?_
  refine g_icmp_gt X dX8_factorial_6 (tgt := 19) (by decide) (fun _ => ?_) (fun q => absurd (by decide) q)
  refine g_iload_n X dX8_factorial_19 rfl (j := 1) rfl ?_
  exact g_iret X hrt dX8_factorial_20 (by decide) (by decide) ⟨C, D, F, I, K, ⟨6, by omega, by omega, rfl⟩⟩
set_option maxHeartbeats 4000000 in
set_option maxRecDepth 100000 in
theorem s_X8_factorial_4 (l : Launch) (G : va_G) {cy : Nat → ClassId} {L : List Nat} {M : Nat → va_E} {a : Nat → Nat} {act : Nat → Bool} {C0 : Nat → Nat → Int32} {D0 : Nat → Nat → Int64} {R : Nat → Nat → Option Nat} (F : WI L M a act (ent cy a C0 D0 R)) (I : Inv C0)   : MI l G cy yX8_factorial cX8_factorial 3 (some .int) 0 0 0 [.int 4] L M (fun r L2 M2 => ∃ C2 D2, WI L2 M2 a act (ent cy a C2 D2 R) ∧ Inv C2 ∧ Kp [] C0 D0 C2 D2 ∧ ∃ n : Nat, 1 ≤ n ∧ n ≤ 5040 ∧ r = nI n) := by
  refine MI.of (own := RX8) rfl (by decide) (Nat.le_of_ble_eq_true rfl) ?_
  intro p e s m below meth c A X hrt hnm
  obtain ⟨C, D, hC0, hD0, F, I, K⟩ : ∃ C D, C = C0 ∧ D = D0 ∧ WI L M a act (ent cy a C D R) ∧ Inv C ∧ Kp [] C0 D0 C D := ⟨C0, D0, rfl, rfl, F, I, Kp.rf⟩
  refine g_iconst X dX8_factorial_0 (v := 1) (by decide) ?_
  refine g_istore_n X dX8_factorial_1 rfl (by decide) (lv2 := [(1, .int 1), (0, .int 4)]) rfl ?_
  refine g_iconst X dX8_factorial_2 (v := 2) (by decide) ?_
  refine g_istore_n X dX8_factorial_3 rfl (by decide) (lv2 := [(2, .int 2), (1, .int 1), (0, .int 4)]) rfl ?_
  refine g_iload_n X dX8_factorial_4 rfl (j := 0) rfl ?_
  refine g_iload_n X dX8_factorial_5 rfl (j := 2) rfl ?_
  refine g_icmp_gt X dX8_factorial_6 (tgt := 19) (by decide) (fun q => absurd q (by decide)) (fun _ => ?_)
  refine g_iload_n X dX8_factorial_9 rfl (j := 1) rfl ?_
  refine g_iload_n X dX8_factorial_10 rfl (j := 0) rfl ?_
  refine g_imul X dX8_factorial_11 ?_
  refine Go.top (v := .int 2) (by decide) ?_
  refine g_istore_n X dX8_factorial_12 rfl (by decide) (lv2 := [(1, .int 2), (2, .int 2), (0, .int 4)]) rfl ?_
  refine g_iinc X dX8_factorial_13 (j := 1) rfl (v := 3) (by decide) (by decide) (lv2 := [(2, .int 3), (1, .int 2), (0, .int 4)]) rfl ?_
  refine g_goto X dX8_factorial_16 (tgt := 4) (by decide) ?_
  refine g_iload_n X dX8_factorial_4 rfl (j := 0) rfl ?_
  refine g_iload_n X dX8_factorial_5 rfl (j := 2) rfl ?_
  refine g_icmp_gt X dX8_factorial_6 (tgt := 19) (by decide) (fun q => absurd q (by decide)) (fun _ => ?_)
  refine g_iload_n X dX8_factorial_9 rfl (j := 1) rfl ?_
  refine g_iload_n X dX8_factorial_10 rfl (j := 0) rfl ?_
  refine g_imul X dX8_factorial_11 ?_
  refine Go.top (v := .int 6) (by decide) ?_
  refine g_istore_n X dX8_factorial_12 rfl (by decide) (lv2 := [(1, .int 6), (2, .int 3), (0, .int 4)]) rfl ?_
  refine g_iinc X dX8_factorial_13 (j := 1) rfl (v := 4) (by decide) (by decide) (lv2 := [(2, .int 4), (1, .int 6), (0, .int 4)]) rfl ?_
  refine g_goto X dX8_factorial_16 (tgt := 4) (by decide) ?_
  refine g_iload_n X dX8_factorial_4 rfl (j := 0) rfl ?_
  refine g_iload_n X dX8_factorial_5 rfl (j := 2) rfl ?_
  refine g_icmp_gt X dX8_factorial_6 (tgt := 19) (by decide) (fun q => absurd q (by decide)) (fun _ => ?_)
  refine g_iload_n X dX8_factorial_9 rfl (j := 1) rfl ?_
  refine g_iload_n X dX8_factorial_10 rfl (j := 0) rfl ?_
  refine g_imul X dX8_factorial_11 ?_
  refine Go.top (v := .int 24) (by decide) ?_
  refine g_istore_n X dX8_factorial_12 rfl (by decide) (lv2 := [(1, .int 24), (2, .int 4), (0, .int 4)]) rfl ?_
  refine g_iinc X dX8_factorial_13 (j := 1) rfl (v := 5) (by decide) (by decide) (lv2 := [(2, .int 5), (1, .int 24), (0, .int 4)]) rfl ?_
  refine g_goto X dX8_factorial_16 (tgt := 4) (by decide) ?_
  refine g_iload_n X dX8_factorial_4 rfl (j := 0) rfl ?_
  refine g_iload_n X dX8_factorial_5 rfl (j := 2) rfl ?_
  refine g_icmp_gt X dX8_factorial_6 (tgt := 19) (by decide) (fun _ => ?_) (fun q => absurd (by decide) q)
  refine g_iload_n X dX8_factorial_19 rfl (j := 1) rfl ?_
  exact g_iret X hrt dX8_factorial_20 (by decide) (by decide) ⟨C, D, F, I, K, ⟨24, by omega, by omega, rfl⟩⟩
set_option maxHeartbeats 4000000 in
set_option maxRecDepth 100000 in
theorem s_X8_factorial_5 (l : Launch) (G : va_G) {cy : Nat → ClassId} {L : List Nat} {M : Nat → va_E} {a : Nat → Nat} {act : Nat → Bool} {C0 : Nat → Nat → Int32} {D0 : Nat → Nat → Int64} {R : Nat → Nat → Option Nat} (F : WI L M a act (ent cy a C0 D0 R)) (I : Inv C0)   : MI l G cy yX8_factorial cX8_factorial 3 (some .int) 0 0 0 [.int 5] L M (fun r L2 M2 => ∃ C2 D2, WI L2 M2 a act (ent cy a C2 D2 R) ∧ Inv C2 ∧ Kp [] C0 D0 C2 D2 ∧ ∃ n : Nat, 1 ≤ n ∧ n ≤ 5040 ∧ r = nI n) := by
  refine MI.of (own := RX8) rfl (by decide) (Nat.le_of_ble_eq_true rfl) ?_
  intro p e s m below meth c A X hrt hnm
  obtain ⟨C, D, hC0, hD0, F, I, K⟩ : ∃ C D, C = C0 ∧ D = D0 ∧ WI L M a act (ent cy a C D R) ∧ Inv C ∧ Kp [] C0 D0 C D := ⟨C0, D0, rfl, rfl, F, I, Kp.rf⟩
  refine g_iconst X dX8_factorial_0 (v := 1) (by decide) ?_
  refine g_istore_n X dX8_factorial_1 rfl (by decide) (lv2 := [(1, .int 1), (0, .int 5)]) rfl ?_
  refine g_iconst X dX8_factorial_2 (v := 2) (by decide) ?_
  refine g_istore_n X dX8_factorial_3 rfl (by decide) (lv2 := [(2, .int 2), (1, .int 1), (0, .int 5)]) rfl ?_
  refine g_iload_n X dX8_factorial_4 rfl (j := 0) rfl ?_
  refine g_iload_n X dX8_factorial_5 rfl (j := 2) rfl ?_
  refine g_icmp_gt X dX8_factorial_6 (tgt := 19) (by decide) (fun q => absurd q (by decide)) (fun _ => ?_)
  refine g_iload_n X dX8_factorial_9 rfl (j := 1) rfl ?_
  refine g_iload_n X dX8_factorial_10 rfl (j := 0) rfl ?_
  refine g_imul X dX8_factorial_11 ?_
  refine Go.top (v := .int 2) (by decide) ?_
  refine g_istore_n X dX8_factorial_12 rfl (by decide) (lv2 := [(1, .int 2), (2, .int 2), (0, .int 5)]) rfl ?_
  refine g_iinc X dX8_factorial_13 (j := 1) rfl (v := 3) (by decide) (by decide) (lv2 := [(2, .int 3), (1, .int 2), (0, .int 5)]) rfl ?_
  refine g_goto X dX8_factorial_16 (tgt := 4) (by decide) ?_
  refine g_iload_n X dX8_factorial_4 rfl (j := 0) rfl ?_
  refine g_iload_n X dX8_factorial_5 rfl (j := 2) rfl ?_
  refine g_icmp_gt X dX8_factorial_6 (tgt := 19) (by decide) (fun q => absurd q (by decide)) (fun _ => ?_)
  refine g_iload_n X dX8_factorial_9 rfl (j := 1) rfl ?_
  refine g_iload_n X dX8_factorial_10 rfl (j := 0) rfl ?_
  refine g_imul X dX8_factorial_11 ?_
  refine Go.top (v := .int 6) (by decide) ?_
  refine g_istore_n X dX8_factorial_12 rfl (by decide) (lv2 := [(1, .int 6), (2, .int 3), (0, .int 5)]) rfl ?_
  refine g_iinc X dX8_factorial_13 (j := 1) rfl (v := 4) (by decide) (by decide) (lv2 := [(2, .int 4), (1, .int 6), (0, .int 5)]) rfl ?_
  refine g_goto X dX8_factorial_16 (tgt := 4) (by decide) ?_
  refine g_iload_n X dX8_factorial_4 rfl (j := 0) rfl ?_
  refine g_iload_n X dX8_factorial_5 rfl (j := 2) rfl ?_
  refine g_icmp_gt X dX8_factorial_6 (tgt := 19) (by decide) (fun q => absurd q (by decide)) (fun _ => ?_)
  refine g_iload_n X dX8_factorial_9 rfl (j := 1) rfl ?_
  refine g_iload_n X dX8_factorial_10 rfl (j := 0) rfl ?_
  refine g_imul X dX8_factorial_11 ?_
  refine Go.top (v := .int 24) (by decide) ?_
  refine g_istore_n X dX8_factorial_12 rfl (by decide) (lv2 := [(1, .int 24), (2, .int 4), (0, .int 5)]) rfl ?_
  refine g_iinc X dX8_factorial_13 (j := 1) rfl (v := 5) (by decide) (by decide) (lv2 := [(2, .int 5), (1, .int 24), (0, .int 5)]) rfl ?_
  refine g_goto X dX8_factorial_16 (tgt := 4) (by decide) ?_
  refine g_iload_n X dX8_factorial_4 rfl (j := 0) rfl ?_
  refine g_iload_n X dX8_factorial_5 rfl (j := 2) rfl ?_
  refine g_icmp_gt X dX8_factorial_6 (tgt := 19) (by decide) (fun q => absurd q (by decide)) (fun _ => ?_)
  refine g_iload_n X dX8_factorial_9 rfl (j := 1) rfl ?_
  refine g_iload_n X dX8_factorial_10 rfl (j := 0) rfl ?_
  refine g_imul X dX8_factorial_11 ?_
  refine Go.top (v := .int 120) (by decide) ?_
  refine g_istore_n X dX8_factorial_12 rfl (by decide) (lv2 := [(1, .int 120), (2, .int 5), (0, .int 5)]) rfl ?_
  refine g_iinc X dX8_factorial_13 (j := 1) rfl (v := 6) (by decide) (by decide) (lv2 := [(2, .int 6), (1, .int 120), (0, .int 5)]) rfl ?_
  refine g_goto X dX8_factorial_16 (tgt := 4) (by decide) ?_
  refine g_iload_n X dX8_factorial_4 rfl (j := 0) rfl ?_
  refine g_iload_n X dX8_factorial_5 rfl (j := 2) rfl ?_
  refine g_icmp_gt X dX8_factorial_6 (tgt := 19) (by decide) (fun _ => ?_) (fun q => absurd (by decide) q)
  refine g_iload_n X dX8_factorial_19 rfl (j := 1) rfl ?_
  exact g_iret X hrt dX8_factorial_20 (by decide) (by decide) ⟨C, D, F, I, K, ⟨120, by omega, by omega, rfl⟩⟩
set_option maxHeartbeats 4000000 in
set_option maxRecDepth 100000 in
theorem s_X8_factorial_6 (l : Launch) (G : va_G) {cy : Nat → ClassId} {L : List Nat} {M : Nat → va_E} {a : Nat → Nat} {act : Nat → Bool} {C0 : Nat → Nat → Int32} {D0 : Nat → Nat → Int64} {R : Nat → Nat → Option Nat} (F : WI L M a act (ent cy a C0 D0 R)) (I : Inv C0)   : MI l G cy yX8_factorial cX8_factorial 3 (some .int) 0 0 0 [.int 6] L M (fun r L2 M2 => ∃ C2 D2, WI L2 M2 a act (ent cy a C2 D2 R) ∧ Inv C2 ∧ Kp [] C0 D0 C2 D2 ∧ ∃ n : Nat, 1 ≤ n ∧ n ≤ 5040 ∧ r = nI n) := by
  refine MI.of (own := RX8) rfl (by decide) (Nat.le_of_ble_eq_true rfl) ?_
  intro p e s m below meth c A X hrt hnm
  obtain ⟨C, D, hC0, hD0, F, I, K⟩ : ∃ C D, C = C0 ∧ D = D0 ∧ WI L M a act (ent cy a C D R) ∧ Inv C ∧ Kp [] C0 D0 C D := ⟨C0, D0, rfl, rfl, F, I, Kp.rf⟩
  refine g_iconst X dX8_factorial_0 (v := 1) (by decide) ?_
  refine g_istore_n X dX8_factorial_1 rfl (by decide) (lv2 := [(1, .int 1), (0, .int 6)]) rfl ?_
  refine g_iconst X dX8_factorial_2 (v := 2) (by decide) ?_
  refine g_istore_n X dX8_factorial_3 rfl (by decide) (lv2 := [(2, .int 2), (1, .int 1), (0, .int 6)]) rfl ?_
  refine g_iload_n X dX8_factorial_4 rfl (j := 0) rfl ?_
  refine g_iload_n X dX8_factorial_5 rfl (j := 2) rfl ?_
  refine g_icmp_gt X dX8_factorial_6 (tgt := 19) (by decide) (fun q => absurd q (by decide)) (fun _ => ?_)
  refine g_iload_n X dX8_factorial_9 rfl (j := 1) rfl ?_
  refine g_iload_n X dX8_factorial_10 rfl (j := 0) rfl ?_
  refine g_imul X dX8_factorial_11 ?_
  refine Go.top (v := .int 2) (by decide) ?_
  refine g_istore_n X dX8_factorial_12 rfl (by decide) (lv2 := [(1, .int 2), (2, .int 2), (0, .int 6)]) rfl ?_
  refine g_iinc X dX8_factorial_13 (j := 1) rfl (v := 3) (by decide) (by decide) (lv2 := [(2, .int 3), (1, .int 2), (0, .int 6)]) rfl ?_
  refine g_goto X dX8_factorial_16 (tgt := 4) (by decide) ?_
  refine g_iload_n X dX8_factorial_4 rfl (j := 0) rfl ?_
  refine g_iload_n X dX8_factorial_5 rfl (j := 2) rfl ?_
  refine g_icmp_gt X dX8_factorial_6 (tgt := 19) (by decide) (fun q => absurd q (by decide)) (fun _ => ?_)
  refine g_iload_n X dX8_factorial_9 rfl (j := 1) rfl ?_
  refine g_iload_n X dX8_factorial_10 rfl (j := 0) rfl ?_
  refine g_imul X dX8_factorial_11 ?_
  refine Go.top (v := .int 6) (by decide) ?_
  refine g_istore_n X dX8_factorial_12 rfl (by decide) (lv2 := [(1, .int 6), (2, .int 3), (0, .int 6)]) rfl ?_
  refine g_iinc X dX8_factorial_13 (j := 1) rfl (v := 4) (by decide) (by decide) (lv2 := [(2, .int 4), (1, .int 6), (0, .int 6)]) rfl ?_
  refine g_goto X dX8_factorial_16 (tgt := 4) (by decide) ?_
  refine g_iload_n X dX8_factorial_4 rfl (j := 0) rfl ?_
  refine g_iload_n X dX8_factorial_5 rfl (j := 2) rfl ?_
  refine g_icmp_gt X dX8_factorial_6 (tgt := 19) (by decide) (fun q => absurd q (by decide)) (fun _ => ?_)
  refine g_iload_n X dX8_factorial_9 rfl (j := 1) rfl ?_
  refine g_iload_n X dX8_factorial_10 rfl (j := 0) rfl ?_
  refine g_imul X dX8_factorial_11 ?_
  refine Go.top (v := .int 24) (by decide) ?_
  refine g_istore_n X dX8_factorial_12 rfl (by decide) (lv2 := [(1, .int 24), (2, .int 4), (0, .int 6)]) rfl ?_
  refine g_iinc X dX8_factorial_13 (j := 1) rfl (v := 5) (by decide) (by decide) (lv2 := [(2, .int 5), (1, .int 24), (0, .int 6)]) rfl ?_
  refine g_goto X dX8_factorial_16 (tgt := 4) (by decide) ?_
  refine g_iload_n X dX8_factorial_4 rfl (j := 0) rfl ?_
  refine g_iload_n X dX8_factorial_5 rfl (j := 2) rfl ?_
  refine g_icmp_gt X dX8_factorial_6 (tgt := 19) (by decide) (fun q => absurd q (by decide)) (fun _ => ?_)
  refine g_iload_n X dX8_factorial_9 rfl (j := 1) rfl ?_
  refine g_iload_n X dX8_factorial_10 rfl (j := 0) rfl ?_
  refine g_imul X dX8_factorial_11 ?_
  refine Go.top (v := .int 120) (by decide) ?_
  refine g_istore_n X dX8_factorial_12 rfl (by decide) (lv2 := [(1, .int 120), (2, .int 5), (0, .int 6)]) rfl ?_
  refine g_iinc X dX8_factorial_13 (j := 1) rfl (v := 6) (by decide) (by decide) (lv2 := [(2, .int 6), (1, .int 120), (0, .int 6)]) rfl ?_
  refine g_goto X dX8_factorial_16 (tgt := 4) (by decide) ?_
  refine g_iload_n X dX8_factorial_4 rfl (j := 0) rfl ?_
  refine g_iload_n X dX8_factorial_5 rfl (j := 2) rfl ?_
  refine g_icmp_gt X dX8_factorial_6 (tgt := 19) (by decide) (fun q => absurd q (by decide)) (fun _ => ?_)
  refine g_iload_n X dX8_factorial_9 rfl (j := 1) rfl ?_
  refine g_iload_n X dX8_factorial_10 rfl (j := 0) rfl ?_
  refine g_imul X dX8_factorial_11 ?_
  refine Go.top (v := .int 720) (by decide) ?_
  refine g_istore_n X dX8_factorial_12 rfl (by decide) (lv2 := [(1, .int 720), (2, .int 6), (0, .int 6)]) rfl ?_
  refine g_iinc X dX8_factorial_13 (j := 1) rfl (v := 7) (by decide) (by decide) (lv2 := [(2, .int 7), (1, .int 720), (0, .int 6)]) rfl ?_
  refine g_goto X dX8_factorial_16 (tgt := 4) (by decide) ?_
  refine g_iload_n X dX8_factorial_4 rfl (j := 0) rfl ?_
  refine g_iload_n X dX8_factorial_5 rfl (j := 2) rfl ?_
  refine g_icmp_gt X dX8_factorial_6 (tgt := 19) (by decide) (fun _ => ?_) (fun q => absurd (by decide) q)
  refine g_iload_n X dX8_factorial_19 rfl (j := 1) rfl ?_
  exact g_iret X hrt dX8_factorial_20 (by decide) (by decide) ⟨C, D, F, I, K, ⟨720, by omega, by omega, rfl⟩⟩
set_option maxHeartbeats 4000000 in
set_option maxRecDepth 100000 in
theorem s_X8_factorial_7 (l : Launch) (G : va_G) {cy : Nat → ClassId} {L : List Nat} {M : Nat → va_E} {a : Nat → Nat} {act : Nat → Bool} {C0 : Nat → Nat → Int32} {D0 : Nat → Nat → Int64} {R : Nat → Nat → Option Nat} (F : WI L M a act (ent cy a C0 D0 R)) (I : Inv C0)   : MI l G cy yX8_factorial cX8_factorial 3 (some .int) 0 0 0 [.int 7] L M (fun r L2 M2 => ∃ C2 D2, WI L2 M2 a act (ent cy a C2 D2 R) ∧ Inv C2 ∧ Kp [] C0 D0 C2 D2 ∧ ∃ n : Nat, 1 ≤ n ∧ n ≤ 5040 ∧ r = nI n) := by
  refine MI.of (own := RX8) rfl (by decide) (Nat.le_of_ble_eq_true rfl) ?_
  intro p e s m below meth c A X hrt hnm
  obtain ⟨C, D, hC0, hD0, F, I, K⟩ : ∃ C D, C = C0 ∧ D = D0 ∧ WI L M a act (ent cy a C D R) ∧ Inv C ∧ Kp [] C0 D0 C D := ⟨C0, D0, rfl, rfl, F, I, Kp.rf⟩
  refine g_iconst X dX8_factorial_0 (v := 1) (by decide) ?_
  refine g_istore_n X dX8_factorial_1 rfl (by decide) (lv2 := [(1, .int 1), (0, .int 7)]) rfl ?_
  refine g_iconst X dX8_factorial_2 (v := 2) (by decide) ?_
  refine g_istore_n X dX8_factorial_3 rfl (by decide) (lv2 := [(2, .int 2), (1, .int 1), (0, .int 7)]) rfl ?_
  refine g_iload_n X dX8_factorial_4 rfl (j := 0) rfl ?_
  refine g_iload_n X dX8_factorial_5 rfl (j := 2) rfl ?_
  refine g_icmp_gt X dX8_factorial_6 (tgt := 19) (by decide) (fun q => absurd q (by decide)) (fun _ => ?_)
  refine g_iload_n X dX8_factorial_9 rfl (j := 1) rfl ?_
  refine g_iload_n X dX8_factorial_10 rfl (j := 0) rfl ?_
  refine g_imul X dX8_factorial_11 ?_
  refine Go.top (v := .int 2) (by decide) ?_
  refine g_istore_n X dX8_factorial_12 rfl (by decide) (lv2 := [(1, .int 2), (2, .int 2), (0, .int 7)]) rfl ?_
  refine g_iinc X dX8_factorial_13 (j := 1) rfl (v := 3) (by decide) (by decide) (lv2 := [(2, .int 3), (1, .int 2), (0, .int 7)]) rfl ?_
  refine g_goto X dX8_factorial_16 (tgt := 4) (by decide) ?_
  refine g_iload_n X dX8_factorial_4 rfl (j := 0) rfl ?_
  refine g_iload_n X dX8_factorial_5 rfl (j := 2) rfl ?_
  refine g_icmp_gt X dX8_factorial_6 (tgt := 19) (by decide) (fun q => absurd q (by decide)) (fun _ => ?_)
  refine g_iload_n X dX8_factorial_9 rfl (j := 1) rfl ?_
  refine g_iload_n X dX8_factorial_10 rfl (j := 0) rfl ?_
  refine g_imul X dX8_factorial_11 ?_
  refine Go.top (v := .int 6) (by decide) ?_
  refine g_istore_n X dX8_factorial_12 rfl (by decide) (lv2 := [(1, .int 6), (2, .int 3), (0, .int 7)]) rfl ?_
  refine g_iinc X dX8_factorial_13 (j := 1) rfl (v := 4) (by decide) (by decide) (lv2 := [(2, .int 4), (1, .int 6), (0, .int 7)]) rfl ?_
  refine g_goto X dX8_factorial_16 (tgt := 4) (by decide) ?_
  refine g_iload_n X dX8_factorial_4 rfl (j := 0) rfl ?_
  refine g_iload_n X dX8_factorial_5 rfl (j := 2) rfl ?_
  refine g_icmp_gt X dX8_factorial_6 (tgt := 19) (by decide) (fun q => absurd q (by decide)) (fun _ => ?_)
  refine g_iload_n X dX8_factorial_9 rfl (j := 1) rfl ?_
  refine g_iload_n X dX8_factorial_10 rfl (j := 0) rfl ?_
  refine g_imul X dX8_factorial_11 ?_
  refine Go.top (v := .int 24) (by decide) ?_
  refine g_istore_n X dX8_factorial_12 rfl (by decide) (lv2 := [(1, .int 24), (2, .int 4), (0, .int 7)]) rfl ?_
  refine g_iinc X dX8_factorial_13 (j := 1) rfl (v := 5) (by decide) (by decide) (lv2 := [(2, .int 5), (1, .int 24), (0, .int 7)]) rfl ?_
  refine g_goto X dX8_factorial_16 (tgt := 4) (by decide) ?_
  refine g_iload_n X dX8_factorial_4 rfl (j := 0) rfl ?_
  refine g_iload_n X dX8_factorial_5 rfl (j := 2) rfl ?_
  refine g_icmp_gt X dX8_factorial_6 (tgt := 19) (by decide) (fun q => absurd q (by decide)) (fun _ => ?_)
  refine g_iload_n X dX8_factorial_9 rfl (j := 1) rfl ?_
  refine g_iload_n X dX8_factorial_10 rfl (j := 0) rfl ?_
  refine g_imul X dX8_factorial_11 ?_
  refine Go.top (v := .int 120) (by decide) ?_
  refine g_istore_n X dX8_factorial_12 rfl (by decide) (lv2 := [(1, .int 120), (2, .int 5), (0, .int 7)]) rfl ?_
  refine g_iinc X dX8_factorial_13 (j := 1) rfl (v := 6) (by decide) (by decide) (lv2 := [(2, .int 6), (1, .int 120), (0, .int 7)]) rfl ?_
  refine g_goto X dX8_factorial_16 (tgt := 4) (by decide) ?_
  refine g_iload_n X dX8_factorial_4 rfl (j := 0) rfl ?_
  refine g_iload_n X dX8_factorial_5 rfl (j := 2) rfl ?_
  refine g_icmp_gt X dX8_factorial_6 (tgt := 19) (by decide) (fun q => absurd q (by decide)) (fun _ => ?_)
  refine g_iload_n X dX8_factorial_9 rfl (j := 1) rfl ?_
  refine g_iload_n X dX8_factorial_10 rfl (j := 0) rfl ?_
  refine g_imul X dX8_factorial_11 ?_
  refine Go.top (v := .int 720) (by decide) ?_
  refine g_istore_n X dX8_factorial_12 rfl (by decide) (lv2 := [(1, .int 720), (2, .int 6), (0, .int 7)]) rfl ?_
  refine g_iinc X dX8_factorial_13 (j := 1) rfl (v := 7) (by decide) (by decide) (lv2 := [(2, .int 7), (1, .int 720), (0, .int 7)]) rfl ?_
  refine g_goto X dX8_factorial_16 (tgt := 4) (by decide) ?_
  refine g_iload_n X dX8_factorial_4 rfl (j := 0) rfl ?_
  refine g_iload_n X dX8_factorial_5 rfl (j := 2) rfl ?_
  refine g_icmp_gt X dX8_factorial_6 (tgt := 19) (by decide) (fun q => absurd q (by decide)) (fun _ => ?_)
  refine g_iload_n X dX8_factorial_9 rfl (j := 1) rfl ?_
  refine g_iload_n X dX8_factorial_10 rfl (j := 0) rfl ?_
  refine g_imul X dX8_factorial_11 ?_
  refine Go.top (v := .int 5040) (by decide) ?_
  refine g_istore_n X dX8_factorial_12 rfl (by decide) (lv2 := [(1, .int 5040), (2, .int 7), (0, .int 7)]) rfl ?_
  refine g_iinc X dX8_factorial_13 (j := 1) rfl (v := 8) (by decide) (by decide) (lv2 := [(2, .int 8), (1, .int 5040), (0, .int 7)]) rfl ?_
  refine g_goto X dX8_factorial_16 (tgt := 4) (by decide) ?_
  refine g_iload_n X dX8_factorial_4 rfl (j := 0) rfl ?_
  refine g_iload_n X dX8_factorial_5 rfl (j := 2) rfl ?_
  refine g_icmp_gt X dX8_factorial_6 (tgt := 19) (by decide) (fun _ => ?_) (fun q => absurd (by decide) q)
  refine g_iload_n X dX8_factorial_19 rfl (j := 1) rfl ?_
  exact g_iret X hrt dX8_factorial_20 (by decide) (by decide) ⟨C, D, F, I, K, ⟨5040, by omega, by omega, rfl⟩⟩
theorem s_X8_factorial_n (l : Launch) (G : va_G) {cy : Nat → ClassId} {L : List Nat} {M : Nat → va_E} {a : Nat → Nat} {act : Nat → Bool} {C0 : Nat → Nat → Int32} {D0 : Nat → Nat → Int64} {R : Nat → Nat → Option Nat} (F : WI L M a act (ent cy a C0 D0 R)) (I : Inv C0) (p0 : Nat) (hp0a : 0 ≤ p0) (hp0b : p0 ≤ 7) : MI l G cy yX8_factorial cX8_factorial 3 (some .int) 0 0 0 [.int (nI p0)] L M (fun r L2 M2 => ∃ C2 D2, WI L2 M2 a act (ent cy a C2 D2 R) ∧ Inv C2 ∧ Kp [] C0 D0 C2 D2 ∧ ∃ n : Nat, 1 ≤ n ∧ n ≤ 5040 ∧ r = nI n) := by
  rcases (show p0 = 0 ∨ p0 = 1 ∨ p0 = 2 ∨ p0 = 3 ∨ p0 = 4 ∨ p0 = 5 ∨ p0 = 6 ∨ p0 = 7 by omega) with rfl | rfl | rfl | rfl | rfl | rfl | rfl | rfl
  · exact s_X8_factorial_0 l G F I
  · exact s_X8_factorial_1 l G F I
  · exact s_X8_factorial_2 l G F I
  · exact s_X8_factorial_3 l G F I
  · exact s_X8_factorial_4 l G F I
  · exact s_X8_factorial_5 l G F I
  · exact s_X8_factorial_6 l G F I
  · exact s_X8_factorial_7 l G F I
set_option maxHeartbeats 4000000 in
set_option maxRecDepth 100000 in
theorem s_X8_factorial_any (l : Launch) (G : va_G) {cy : Nat → ClassId} {L : List Nat} {M : Nat → va_E} {a : Nat → Nat} {act : Nat → Bool} {C0 : Nat → Nat → Int32} {D0 : Nat → Nat → Int64} {R : Nat → Nat → Option Nat} (F : WI L M a act (ent cy a C0 D0 R)) (I : Inv C0) (p0 : Int32) (hle : p0.toInt ≤ 16) : MI l G cy yX8_factorial cX8_factorial 3 (some .int) 0 0 0 [.int p0] L M (fun r L2 M2 => ∃ C2 D2, WI L2 M2 a act (ent cy a C2 D2 R) ∧ Inv C2 ∧ Kp [] C0 D0 C2 D2 ∧ True) := by
  refine MI.of (own := RX8) rfl (by decide) (Nat.le_of_ble_eq_true rfl) ?_
  intro p e s m below meth c A X hrt hnm
  obtain ⟨C, D, hC0, hD0, F, I, K⟩ : ∃ C D, C = C0 ∧ D = D0 ∧ WI L M a act (ent cy a C D R) ∧ Inv C ∧ Kp [] C0 D0 C D := ⟨C0, D0, rfl, rfl, F, I, Kp.rf⟩
  refine g_iconst X dX8_factorial_0 (v := 1) (by decide) ?_
  refine g_istore_n X dX8_factorial_1 rfl (by decide) (lv2 := [(1, .int 1), (0, .int p0)]) rfl ?_
  refine g_iconst X dX8_factorial_2 (v := 2) (by decide) ?_
  refine g_istore_n X dX8_factorial_3 rfl (by decide) (lv2 := [(2, .int 2), (1, .int 1), (0, .int p0)]) rfl ?_
  refine g_lv [0, 1, 2] (lv2 := [(2, .int 2), (1, .int 1), (0, .int p0)]) rfl ?_
  refine i_loop (mods := []) (fun x : Nat × Int32 => 17 - x.1) (fun x => [(2, .int (nI (x.1))), (1, .int (x.2)), (0, .int p0)]) (fun x C => 2 ≤ x.1 ∧ x.1 ≤ 17) (fun x L M C D F I K hP ih4 => ?_) ((2, 1) : Nat × Int32) F I K ⟨by show _ ≤ _; omega, by show _ ≤ _; omega⟩
  rcases x with ⟨i4_2, v4_1⟩
  obtain ⟨hi4_2a, hi4_2b⟩ := hP
  refine g_lv [0, 1, 2] (lv2 := [(2, .int (nI i4_2)), (1, .int v4_1), (0, .int p0)]) rfl ?_
  refine g_iload_n X dX8_factorial_4 rfl (j := 0) rfl ?_
  refine g_iload_n X dX8_factorial_5 rfl (j := 2) rfl ?_
  refine g_icmp_gt X dX8_factorial_6 (tgt := 19) (by decide) (fun q1 => ?_) (fun q1 => ?_)
  · skip
    have q1t : p0.toInt < (nI i4_2).toInt := Int32.lt_iff_toInt_lt.mp q1
    rw [nI_toInt (by omega)] at q1t
    have q1b := Int32.toInt_lt p0
    refine g_iload_n X dX8_factorial_19 rfl (j := 1) rfl ?_
    exact g_iret X hrt dX8_factorial_20 (by decide) (by decide) ⟨C, D, F, I, K, trivial⟩
  · skip
    have q1t : ¬ p0.toInt < (nI i4_2).toInt := fun z => q1 (Int32.lt_iff_toInt_lt.mpr z)
    rw [nI_toInt (by omega)] at q1t
    have q1b := Int32.toInt_lt p0
    refine g_iload_n X dX8_factorial_9 rfl (j := 1) rfl ?_
    refine g_iload_n X dX8_factorial_10 rfl (j := 0) rfl ?_
    refine g_imul X dX8_factorial_11 ?_
    refine Go.gen (fun o2 => ?_)
    refine g_istore_n X dX8_factorial_12 rfl (by decide) (lv2 := [(1, .int o2), (2, .int (nI i4_2)), (0, .int p0)]) rfl ?_
    refine g_iinc X dX8_factorial_13 (j := 1) rfl (v := nI (i4_2 + 1)) (nI_1 i4_2) (by decide) (lv2 := [(2, .int (nI (i4_2 + 1))), (1, .int o2), (0, .int p0)]) rfl ?_
    refine g_goto X dX8_factorial_16 (tgt := 4) (by decide) ?_
    refine g_lv [0, 1, 2] (lv2 := [(2, .int (nI (i4_2 + 1))), (1, .int o2), (0, .int p0)]) rfl ?_
    exact ih4 ((i4_2 + 1), o2) L M C D F I K ⟨by omega, by omega⟩ (by show _ < _; omega)
set_option maxHeartbeats 4000000 in
set_option maxRecDepth 100000 in
theorem s_X8_divisor (l : Launch) (G : va_G) {cy : Nat → ClassId} {L : List Nat} {M : Nat → va_E} {a : Nat → Nat} {act : Nat → Bool} {C0 : Nat → Nat → Int32} {D0 : Nat → Nat → Int64} {R : Nat → Nat → Option Nat} (F : WI L M a act (ent cy a C0 D0 R)) (I : Inv C0) (p0 : Int64) (p1 : Int64) (hb : ¬ p1 = 0) : MJ l G cy yX8_divisor cX8_divisor 10 (some .long) 1 0 0 [.long p0, .long p1] L M (fun r L2 M2 => ∃ C2 D2, WI L2 M2 a act (ent cy a C2 D2 R) ∧ Inv C2 ∧ Kp [] C0 D0 C2 D2 ∧ ¬ r = 0) := by
  refine MJ.of (own := RX8) rfl (by decide) (Nat.le_of_ble_eq_true rfl) ?_
  intro p e s m below meth c A X hrt hnm
  obtain ⟨C, D, hC0, hD0, F, I, K⟩ : ∃ C D, C = C0 ∧ D = D0 ∧ WI L M a act (ent cy a C D R) ∧ Inv C ∧ Kp [] C0 D0 C D := ⟨C0, D0, rfl, rfl, F, I, Kp.rf⟩
  refine g_lload_n X dX8_divisor_0 rfl (j := 0) rfl ?_
  refine g_mabsL X wd874 wd493 wd80 wd494 (by decide) (Nat.le_of_ble_eq_true rfl) (by decide) (by decide) dX8_divisor_1 (fun o1 => ?_)
  refine g_lstore X dX8_divisor_4 (by decide) (lv2 := [(4, .long o1), (0, .long p0), (2, .long p1)]) rfl ?_
  refine g_lload_n X dX8_divisor_6 rfl (j := 2) rfl ?_
  refine g_lstore X dX8_divisor_7 (by decide) (lv2 := [(6, .long p1), (4, .long o1), (0, .long p0), (2, .long p1)]) rfl ?_
  refine g_lv [1, 0, 2, 3] (lv2 := [(4, .long o1), (6, .long p1), (0, .long p0), (2, .long p1)]) rfl ?_
  refine i_loop (mods := []) (fun x : Int64 × Int64 => (x.2).toInt.natAbs) (fun x => [(4, .long (x.1)), (6, .long (x.2)), (0, .long p0), (2, .long p1)]) (fun x C => (¬ x.1 = 0 ∨ ¬ x.2 = 0)) (fun x L M C D F I K hP ih9 => ?_) ((o1, p1) : Int64 × Int64) F I K (Or.inr hb)
  rcases x with ⟨v9_4, v9_6⟩
  have hxy := hP
  try dsimp only at hxy
  refine g_lv [0, 1, 2, 3] (lv2 := [(4, .long v9_4), (6, .long v9_6), (0, .long p0), (2, .long p1)]) rfl ?_
  refine g_lload X dX8_divisor_9 (j := 1) rfl ?_
  refine g_lconst X dX8_divisor_11 (v := 0) (by decide) ?_
  refine g_lcmp X dX8_divisor_12 ?_
  refine g_if_eq X dX8_divisor_13 (tgt := 34) (by decide) (fun q2 => ?_) (fun q2 => ?_)
  · skip
    have q2t : v9_6 = (0 : Int64) := (lg_cmp_eq _ _).mp q2
    have q2k0 : (0 : Int64).toInt = 0 := (by decide)
    refine g_lload X dX8_divisor_34 (j := 0) rfl ?_
    exact g_lret X hrt dX8_divisor_36 (by decide) (by decide) ⟨C, D, F, I, K, (hxy.resolve_right (fun z => z q2t))⟩
  · skip
    have q2t : ¬ v9_6 = (0 : Int64) := fun z => q2 ((lg_cmp_eq _ _).mpr z)
    have q2k0 : (0 : Int64).toInt = 0 := (by decide)
    refine g_lload X dX8_divisor_16 (j := 0) rfl ?_
    refine g_lload X dX8_divisor_18 (j := 1) rfl ?_
    have hrl := rem_lt (x := v9_4) (y := v9_6) q2t
    refine g_lrem X dX8_divisor_20 q2t ?_
    refine g_lstore X dX8_divisor_21 (by decide) (lv2 := [(8, .long ((v9_4 - v9_4 / v9_6 * v9_6))), (4, .long v9_4), (6, .long v9_6), (0, .long p0), (2, .long p1)]) rfl ?_
    refine g_lload X dX8_divisor_23 (j := 2) rfl ?_
    refine g_lstore X dX8_divisor_25 (by decide) (lv2 := [(4, .long v9_6), (8, .long ((v9_4 - v9_4 / v9_6 * v9_6))), (6, .long v9_6), (0, .long p0), (2, .long p1)]) rfl ?_
    refine g_lload X dX8_divisor_27 (j := 1) rfl ?_
    refine g_lstore X dX8_divisor_29 (by decide) (lv2 := [(6, .long ((v9_4 - v9_4 / v9_6 * v9_6))), (4, .long v9_6), (8, .long ((v9_4 - v9_4 / v9_6 * v9_6))), (0, .long p0), (2, .long p1)]) rfl ?_
    refine g_goto X dX8_divisor_31 (tgt := 9) (by decide) ?_
    refine g_lv [1, 0, 3, 4] (lv2 := [(4, .long v9_6), (6, .long ((v9_4 - v9_4 / v9_6 * v9_6))), (0, .long p0), (2, .long p1)]) rfl ?_
    exact ih9 (v9_6, (v9_4 - v9_4 / v9_6 * v9_6)) L M C D F I K (Or.inl q2t) hrl
set_option maxHeartbeats 4000000 in
set_option maxRecDepth 100000 in
theorem s_X8_part (l : Launch) (G : va_G) {cy : Nat → ClassId} {L : List Nat} {M : Nat → va_E} {a : Nat → Nat} {act : Nat → Bool} {C0 : Nat → Nat → Int32} {D0 : Nat → Nat → Int64} {R : Nat → Nat → Option Nat} (F : WI L M a act (ent cy a C0 D0 R)) (I : Inv C0) (p0 : Int64) (p1 : Int64) (p2 : Int32) (hb : ¬ p1 = 0) : MJ l G cy yX8_part cX8_part 5 (some .long) 2 0 0 [.long p0, .long p1, .int p2] L M (fun r L2 M2 => ∃ C2 D2, WI L2 M2 a act (ent cy a C2 D2 R) ∧ Inv C2 ∧ Kp [] C0 D0 C2 D2 ∧ True) := by
  refine MJ.of (own := RX8) rfl (by decide) (Nat.le_of_ble_eq_true rfl) ?_
  intro p e s m below meth c A X hrt hnm
  obtain ⟨C, D, hC0, hD0, F, I, K⟩ : ∃ C D, C = C0 ∧ D = D0 ∧ WI L M a act (ent cy a C D R) ∧ Inv C ∧ Kp [] C0 D0 C D := ⟨C0, D0, rfl, rfl, F, I, Kp.rf⟩
  refine g_iload X dX8_part_0 (j := 2) rfl ?_
  refine g_if_ne X dX8_part_2 (tgt := 9) (by decide) (fun q1 => ?_) (fun q1 => ?_)
  · skip
    refine g_lload_n X dX8_part_9 rfl (j := 1) rfl ?_
    refine g_lload_n X dX8_part_10 rfl (j := 0) rfl ?_
    refine g_lload_n X dX8_part_11 rfl (j := 1) rfl ?_
    refine g_callSJ X (s_X8_divisor l G F I p0 p1 hb) lk_X8_443 rfl rfl dX8_part_12 (Nat.le_of_ble_eq_true rfl) ⟨by decide, by decide⟩ ⟨by decide, by decide⟩ (fun r2 L M hp => ?_)
    obtain ⟨C, D, F, I, K1, hr⟩ := hp
    have K := K.step K1 (by decide)
    have hdv := hr
    refine g_ldiv X dX8_part_15 hdv ?_
    refine Go.genL (fun o3 => ?_)
    exact g_lret X hrt dX8_part_16 (by decide) (by decide) ⟨C, D, F, I, K, trivial⟩
  · skip
    subst q1
    refine g_lload_n X dX8_part_5 rfl (j := 0) rfl ?_
    refine g_goto X dX8_part_6 (tgt := 10) (by decide) ?_
    refine g_lload_n X dX8_part_10 rfl (j := 0) rfl ?_
    refine g_lload_n X dX8_part_11 rfl (j := 1) rfl ?_
    refine g_callSJ X (s_X8_divisor l G F I p0 p1 hb) lk_X8_443 rfl rfl dX8_part_12 (Nat.le_of_ble_eq_true rfl) ⟨by decide, by decide⟩ ⟨by decide, by decide⟩ (fun r4 L M hp => ?_)
    obtain ⟨C, D, F, I, K1, hr⟩ := hp
    have K := K.step K1 (by decide)
    have hdv := hr
    refine g_ldiv X dX8_part_15 hdv ?_
    refine Go.genL (fun o5 => ?_)
    exact g_lret X hrt dX8_part_16 (by decide) (by decide) ⟨C, D, F, I, K, trivial⟩
