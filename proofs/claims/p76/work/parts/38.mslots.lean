set_option maxHeartbeats 4000000 in
set_option maxRecDepth 100000 in
theorem s_X8_isSlot_0 (l : Launch) (G : va_G) {cy : Nat → ClassId} {L : List Nat} {M : Nat → va_E} {a : Nat → Nat} {act : Nat → Bool} {C0 : Nat → Nat → Int32} {D0 : Nat → Nat → Int64} {R : Nat → Nat → Option Nat} (F : WI L M a act (ent cy a C0 D0 R)) (I : Inv C0)   : MI l G cy yX8_isSlot cX8_isSlot 1 (some .boolean) 1 0 0 [.int 0] L M (fun r L2 M2 => ∃ C2 D2, WI L2 M2 a act (ent cy a C2 D2 R) ∧ Inv C2 ∧ Kp [] C0 D0 C2 D2 ∧ r = 1) := by
  refine MI.of (own := RX8) rfl (by decide) (Nat.le_of_ble_eq_true rfl) ?_
  intro p e s m below meth c A X hrt hnm
  obtain ⟨C, D, hC0, hD0, F, I, K⟩ : ∃ C D, C = C0 ∧ D = D0 ∧ WI L M a act (ent cy a C D R) ∧ Inv C ∧ Kp [] C0 D0 C D := ⟨C0, D0, rfl, rfl, F, I, Kp.rf⟩
  refine g_iload_n X dX8_isSlot_0 rfl (j := 0) rfl ?_
  refine g_i2l X dX8_isSlot_1 rfl ?_
  refine Go.top (v := .long 0) (by decide) ?_
  refine g_lconst X dX8_isSlot_2 (v := 0) (by decide) ?_
  refine g_ldc2 X (v := 3) wd861 dX8_isSlot_3 ?_
  refine g_callSI X (s_X8_in l G F I (0 : Int64) (0 : Int64) (3 : Int64) ) lk_X8_94 rfl rfl dX8_isSlot_6 (Nat.le_of_ble_eq_true rfl) ⟨by decide, by decide⟩ ⟨by decide, by decide⟩ (fun r1 L M hp => ?_)
  obtain ⟨C, D, F, I, K1, hr⟩ := hp
  have K := K.step K1 (by decide)
  rcases hr with ⟨rfl, hq⟩ | ⟨rfl, hq⟩
  · skip
    exact absurd (by decide) hq
  · skip
    exact g_zret X hrt rfl dX8_isSlot_9 (by decide) (by decide) ⟨C, D, F, I, K, rfl⟩
set_option maxHeartbeats 4000000 in
set_option maxRecDepth 100000 in
theorem s_X8_isSlot_1 (l : Launch) (G : va_G) {cy : Nat → ClassId} {L : List Nat} {M : Nat → va_E} {a : Nat → Nat} {act : Nat → Bool} {C0 : Nat → Nat → Int32} {D0 : Nat → Nat → Int64} {R : Nat → Nat → Option Nat} (F : WI L M a act (ent cy a C0 D0 R)) (I : Inv C0)   : MI l G cy yX8_isSlot cX8_isSlot 1 (some .boolean) 1 0 0 [.int 1] L M (fun r L2 M2 => ∃ C2 D2, WI L2 M2 a act (ent cy a C2 D2 R) ∧ Inv C2 ∧ Kp [] C0 D0 C2 D2 ∧ r = 1) := by
  refine MI.of (own := RX8) rfl (by decide) (Nat.le_of_ble_eq_true rfl) ?_
  intro p e s m below meth c A X hrt hnm
  obtain ⟨C, D, hC0, hD0, F, I, K⟩ : ∃ C D, C = C0 ∧ D = D0 ∧ WI L M a act (ent cy a C D R) ∧ Inv C ∧ Kp [] C0 D0 C D := ⟨C0, D0, rfl, rfl, F, I, Kp.rf⟩
  refine g_iload_n X dX8_isSlot_0 rfl (j := 0) rfl ?_
  refine g_i2l X dX8_isSlot_1 rfl ?_
  refine Go.top (v := .long 1) (by decide) ?_
  refine g_lconst X dX8_isSlot_2 (v := 0) (by decide) ?_
  refine g_ldc2 X (v := 3) wd861 dX8_isSlot_3 ?_
  refine g_callSI X (s_X8_in l G F I (1 : Int64) (0 : Int64) (3 : Int64) ) lk_X8_94 rfl rfl dX8_isSlot_6 (Nat.le_of_ble_eq_true rfl) ⟨by decide, by decide⟩ ⟨by decide, by decide⟩ (fun r1 L M hp => ?_)
  obtain ⟨C, D, F, I, K1, hr⟩ := hp
  have K := K.step K1 (by decide)
  rcases hr with ⟨rfl, hq⟩ | ⟨rfl, hq⟩
  · skip
    exact absurd (by decide) hq
  · skip
    exact g_zret X hrt rfl dX8_isSlot_9 (by decide) (by decide) ⟨C, D, F, I, K, rfl⟩
set_option maxHeartbeats 4000000 in
set_option maxRecDepth 100000 in
theorem s_X8_isSlot_2 (l : Launch) (G : va_G) {cy : Nat → ClassId} {L : List Nat} {M : Nat → va_E} {a : Nat → Nat} {act : Nat → Bool} {C0 : Nat → Nat → Int32} {D0 : Nat → Nat → Int64} {R : Nat → Nat → Option Nat} (F : WI L M a act (ent cy a C0 D0 R)) (I : Inv C0)   : MI l G cy yX8_isSlot cX8_isSlot 1 (some .boolean) 1 0 0 [.int 2] L M (fun r L2 M2 => ∃ C2 D2, WI L2 M2 a act (ent cy a C2 D2 R) ∧ Inv C2 ∧ Kp [] C0 D0 C2 D2 ∧ r = 1) := by
  refine MI.of (own := RX8) rfl (by decide) (Nat.le_of_ble_eq_true rfl) ?_
  intro p e s m below meth c A X hrt hnm
  obtain ⟨C, D, hC0, hD0, F, I, K⟩ : ∃ C D, C = C0 ∧ D = D0 ∧ WI L M a act (ent cy a C D R) ∧ Inv C ∧ Kp [] C0 D0 C D := ⟨C0, D0, rfl, rfl, F, I, Kp.rf⟩
  refine g_iload_n X dX8_isSlot_0 rfl (j := 0) rfl ?_
  refine g_i2l X dX8_isSlot_1 rfl ?_
  refine Go.top (v := .long 2) (by decide) ?_
  refine g_lconst X dX8_isSlot_2 (v := 0) (by decide) ?_
  refine g_ldc2 X (v := 3) wd861 dX8_isSlot_3 ?_
  refine g_callSI X (s_X8_in l G F I (2 : Int64) (0 : Int64) (3 : Int64) ) lk_X8_94 rfl rfl dX8_isSlot_6 (Nat.le_of_ble_eq_true rfl) ⟨by decide, by decide⟩ ⟨by decide, by decide⟩ (fun r1 L M hp => ?_)
  obtain ⟨C, D, F, I, K1, hr⟩ := hp
  have K := K.step K1 (by decide)
  rcases hr with ⟨rfl, hq⟩ | ⟨rfl, hq⟩
  · skip
    exact absurd (by decide) hq
  · skip
    exact g_zret X hrt rfl dX8_isSlot_9 (by decide) (by decide) ⟨C, D, F, I, K, rfl⟩
set_option maxHeartbeats 4000000 in
set_option maxRecDepth 100000 in
theorem s_X8_isSlot_3 (l : Launch) (G : va_G) {cy : Nat → ClassId} {L : List Nat} {M : Nat → va_E} {a : Nat → Nat} {act : Nat → Bool} {C0 : Nat → Nat → Int32} {D0 : Nat → Nat → Int64} {R : Nat → Nat → Option Nat} (F : WI L M a act (ent cy a C0 D0 R)) (I : Inv C0)   : MI l G cy yX8_isSlot cX8_isSlot 1 (some .boolean) 1 0 0 [.int 3] L M (fun r L2 M2 => ∃ C2 D2, WI L2 M2 a act (ent cy a C2 D2 R) ∧ Inv C2 ∧ Kp [] C0 D0 C2 D2 ∧ r = 1) := by
  refine MI.of (own := RX8) rfl (by decide) (Nat.le_of_ble_eq_true rfl) ?_
  intro p e s m below meth c A X hrt hnm
  obtain ⟨C, D, hC0, hD0, F, I, K⟩ : ∃ C D, C = C0 ∧ D = D0 ∧ WI L M a act (ent cy a C D R) ∧ Inv C ∧ Kp [] C0 D0 C D := ⟨C0, D0, rfl, rfl, F, I, Kp.rf⟩
  refine g_iload_n X dX8_isSlot_0 rfl (j := 0) rfl ?_
  refine g_i2l X dX8_isSlot_1 rfl ?_
  refine Go.top (v := .long 3) (by decide) ?_
  refine g_lconst X dX8_isSlot_2 (v := 0) (by decide) ?_
  refine g_ldc2 X (v := 3) wd861 dX8_isSlot_3 ?_
  refine g_callSI X (s_X8_in l G F I (3 : Int64) (0 : Int64) (3 : Int64) ) lk_X8_94 rfl rfl dX8_isSlot_6 (Nat.le_of_ble_eq_true rfl) ⟨by decide, by decide⟩ ⟨by decide, by decide⟩ (fun r1 L M hp => ?_)
  obtain ⟨C, D, F, I, K1, hr⟩ := hp
  have K := K.step K1 (by decide)
  rcases hr with ⟨rfl, hq⟩ | ⟨rfl, hq⟩
  · skip
    exact absurd (by decide) hq
  · skip
    exact g_zret X hrt rfl dX8_isSlot_9 (by decide) (by decide) ⟨C, D, F, I, K, rfl⟩
set_option maxHeartbeats 4000000 in
set_option maxRecDepth 100000 in
theorem s_X8_isSlot (l : Launch) (G : va_G) {cy : Nat → ClassId} {L : List Nat} {M : Nat → va_E} {a : Nat → Nat} {act : Nat → Bool} {C0 : Nat → Nat → Int32} {D0 : Nat → Nat → Int64} {R : Nat → Nat → Option Nat} (F : WI L M a act (ent cy a C0 D0 R)) (I : Inv C0) (p0 : Int32)  : MI l G cy yX8_isSlot cX8_isSlot 1 (some .boolean) 1 0 0 [.int p0] L M (fun r L2 M2 => ∃ C2 D2, WI L2 M2 a act (ent cy a C2 D2 R) ∧ Inv C2 ∧ Kp [] C0 D0 C2 D2 ∧ ((r = 0 ∧ (p0 < 0 ∨ 4 ≤ p0)) ∨ (r = 1 ∧ ∃ n : Nat, n ≤ 3 ∧ p0 = nI n))) := by
  refine MI.of (own := RX8) rfl (by decide) (Nat.le_of_ble_eq_true rfl) ?_
  intro p e s m below meth c A X hrt hnm
  obtain ⟨C, D, hC0, hD0, F, I, K⟩ : ∃ C D, C = C0 ∧ D = D0 ∧ WI L M a act (ent cy a C D R) ∧ Inv C ∧ Kp [] C0 D0 C D := ⟨C0, D0, rfl, rfl, F, I, Kp.rf⟩
  refine g_iload_n X dX8_isSlot_0 rfl (j := 0) rfl ?_
  refine g_i2l X dX8_isSlot_1 rfl ?_
  refine g_lconst X dX8_isSlot_2 (v := 0) (by decide) ?_
  refine g_ldc2 X (v := 3) wd861 dX8_isSlot_3 ?_
  refine g_callSI X (s_X8_in l G F I ((Int32.toInt64 p0)) (0 : Int64) (3 : Int64) ) lk_X8_94 rfl rfl dX8_isSlot_6 (Nat.le_of_ble_eq_true rfl) ⟨by decide, by decide⟩ ⟨by decide, by decide⟩ (fun r1 L M hp => ?_)
  obtain ⟨C, D, F, I, K1, hr⟩ := hp
  have K := K.step K1 (by decide)
  rcases hr with ⟨rfl, hq2⟩ | ⟨rfl, hq2⟩
  · skip
    have hq2x := Jvm.Kit.i64_of_i32 p0
    have hq2l : (0 : Int64).toInt = 0 := (by decide)
    have hq2h : (3 : Int64).toInt = 3 := (by decide)
    exact g_zret X hrt rfl dX8_isSlot_9 (by decide) (by decide) ⟨C, D, F, I, K, Or.inl ⟨rfl, slot_out (by omega)⟩⟩
  · skip
    have hq2x := Jvm.Kit.i64_of_i32 p0
    have hq2l : (0 : Int64).toInt = 0 := (by decide)
    have hq2h : (3 : Int64).toInt = 3 := (by decide)
    obtain ⟨n3, hn3a, hn3b, en3⟩ := nI_ofInt (x := p0) (lo := 0) (hi := 3) (by omega) (by omega) (by decide)
    subst en3
    have tn3 := nI_toInt (n := n3) (by omega)
    exact g_zret X hrt rfl dX8_isSlot_9 (by decide) (by decide) ⟨C, D, F, I, K, Or.inr ⟨rfl, n3, by omega, rfl⟩⟩
set_option maxHeartbeats 4000000 in
set_option maxRecDepth 100000 in
theorem s_X8_cellOf (l : Launch) (G : va_G) {cy : Nat → ClassId} {L : List Nat} {M : Nat → va_E} {a : Nat → Nat} {act : Nat → Bool} {C0 : Nat → Nat → Int32} {D0 : Nat → Nat → Int64} {R : Nat → Nat → Option Nat} (F : WI L M a act (ent cy a C0 D0 R)) (I : Inv C0) (p0 : Nat) (hp0a : 0 ≤ p0) (hp0b : p0 ≤ 3) (p1 : Nat) (hp1a : 0 ≤ p1) (hp1b : p1 ≤ 7) (p2 : Nat) (hp2a : 0 ≤ p2) (hp2b : p2 ≤ 16)  : MI l G cy yX8_cellOf cX8_cellOf 3 (some .int) 0 0 0 [.int (nI p0), .int (nI p1), .int (nI p2)] L M (fun r L2 M2 => ∃ C2 D2, WI L2 M2 a act (ent cy a C2 D2 R) ∧ Inv C2 ∧ Kp [] C0 D0 C2 D2 ∧ ∃ n : Nat, 0 ≤ n ∧ n ≤ 543 ∧ r = nI n) := by
  refine MI.of (own := RX8) rfl (by decide) (Nat.le_of_ble_eq_true rfl) ?_
  intro p e s m below meth c A X hrt hnm
  obtain ⟨C, D, hC0, hD0, F, I, K⟩ : ∃ C D, C = C0 ∧ D = D0 ∧ WI L M a act (ent cy a C D R) ∧ Inv C ∧ Kp [] C0 D0 C D := ⟨C0, D0, rfl, rfl, F, I, Kp.rf⟩
  refine g_iload_n X dX8_cellOf_0 rfl (j := 0) rfl ?_
  refine g_bipush X dX8_cellOf_1 (v := 17) (by decide) ?_
  refine g_imul X dX8_cellOf_3 ?_
  refine Go.top (v := .int (nI (p0 * 17))) (congrArg Value.int (pk_mul p0 17)) ?_
  refine g_iload_n X dX8_cellOf_4 rfl (j := 2) rfl ?_
  refine g_iadd X dX8_cellOf_5 ?_
  refine Go.top (v := .int (nI ((p0 * 17) + p2))) (congrArg Value.int (nI_add (p0 * 17) p2)) ?_
  refine g_bipush X dX8_cellOf_6 (v := 8) (by decide) ?_
  refine g_imul X dX8_cellOf_8 ?_
  refine Go.top (v := .int (nI (((p0 * 17) + p2) * 8))) (congrArg Value.int (pk_mul ((p0 * 17) + p2) 8)) ?_
  refine g_iload_n X dX8_cellOf_9 rfl (j := 1) rfl ?_
  refine g_iadd X dX8_cellOf_10 ?_
  refine Go.top (v := .int (nI ((((p0 * 17) + p2) * 8) + p1))) (congrArg Value.int (nI_add (((p0 * 17) + p2) * 8) p1)) ?_
  exact g_iret X hrt dX8_cellOf_11 (by decide) (by decide) ⟨C, D, F, I, K, ⟨((((p0 * 17) + p2) * 8) + p1), by omega, by omega, rfl⟩⟩
set_option maxHeartbeats 4000000 in
set_option maxRecDepth 100000 in
theorem s_X8_numberAt_0 (l : Launch) (G : va_G) {cy : Nat → ClassId} {L : List Nat} {M : Nat → va_E} {a : Nat → Nat} {act : Nat → Bool} {C0 : Nat → Nat → Int32} {D0 : Nat → Nat → Int64} {R : Nat → Nat → Option Nat} (F : WI L M a act (ent cy a C0 D0 R)) (I : Inv C0) (p1 : Nat) (hp1a : 0 ≤ p1) (hp1b : p1 ≤ 59)  : MJ l G cy yX8_numberAt cX8_numberAt 3 (some .long) 0 0 0 [.ref (a 100), .int 0, .int (nI p1)] L M (fun r L2 M2 => ∃ C2 D2, WI L2 M2 a act (ent cy a C2 D2 R) ∧ Inv C2 ∧ Kp [] C0 D0 C2 D2 ∧ r = D2 139 (0 + p1)) := by
  refine MJ.of (own := RX8) rfl (by decide) (Nat.le_of_ble_eq_true rfl) ?_
  intro p e s m below meth c A X hrt hnm
  obtain ⟨C, D, hC0, hD0, F, I, K⟩ : ∃ C D, C = C0 ∧ D = D0 ∧ WI L M a act (ent cy a C D R) ∧ Inv C ∧ Kp [] C0 D0 C D := ⟨C0, D0, rfl, rfl, F, I, Kp.rf⟩
  refine g_aload_n X dX8_numberAt_0 rfl (j := 0) rfl ?_
  refine i_get X F 100 rfl rfl fk_X8_82 dX8_numberAt_1 rfl ?_
  refine g_bipush X dX8_numberAt_4 (v := 60) (by decide) ?_
  refine g_iload_n X dX8_numberAt_6 rfl (j := 1) rfl ?_
  refine g_imul X dX8_numberAt_7 ?_
  refine Go.top (v := .int 0) (by decide) ?_
  refine g_iload_n X dX8_numberAt_8 rfl (j := 2) rfl ?_
  refine g_iadd X dX8_numberAt_9 ?_
  refine Go.top (v := .int (nI (0 + p1))) (congrArg Value.int (nI_add 0 p1)) ?_
  refine i_lald X F 139 rfl rfl dX8_numberAt_10 (vp_in_nI (by omega) (by decide)) (v := D 139 (0 + p1)) (by rw [nI_clamp (by omega)]) ?_
  exact g_lret X hrt dX8_numberAt_11 (by decide) (by decide) ⟨C, D, F, I, K, rfl⟩
set_option maxHeartbeats 4000000 in
set_option maxRecDepth 100000 in
theorem s_X8_askSeen_0 (l : Launch) (G : va_G) {cy : Nat → ClassId} {L : List Nat} {M : Nat → va_E} {a : Nat → Nat} {act : Nat → Bool} {C0 : Nat → Nat → Int32} {D0 : Nat → Nat → Int64} {R : Nat → Nat → Option Nat} (F : WI L M a act (ent cy a C0 D0 R)) (I : Inv C0)   : MI l G cy yX8_askSeen cX8_askSeen 3 (some .int) 3 0 0 [.ref (a 100), .int 0] L M (fun r L2 M2 => ∃ C2 D2, WI L2 M2 a act (ent cy a C2 D2 R) ∧ Inv C2 ∧ Kp [100, 115, 116] C0 D0 C2 D2 ∧ (r.toInt < 0 ∨ (r = 0 ∧ ∃ k : Nat, k ≤ 60 ∧ k % 3 = 0 ∧ C2 137 0 = nI k ∧ seen (fun i => D2 139 (0 + i)) k))) := by
  refine MI.of (own := RX8) rfl (by decide) (Nat.le_of_ble_eq_true rfl) ?_
  intro p e s m below meth c A X hrt hnm
  obtain ⟨C, D, hC0, hD0, F, I, K⟩ : ∃ C D, C = C0 ∧ D = D0 ∧ WI L M a act (ent cy a C D R) ∧ Inv C ∧ Kp [100, 115, 116] C0 D0 C D := ⟨C0, D0, rfl, rfl, F, I, Kp.rf⟩
  obtain ⟨n1, hn1, en1⟩ := rg_nat ((show okw 0 (C 101 0) from I 101 0).1 rfl) (by decide)
  rw [hC0] at en1
  obtain ⟨n2, hn2, en2⟩ := rg_nat ((show okw 4 (C 101 4) from I 101 4).2.2.2.1 rfl) (by decide)
  rw [hC0] at en2
  obtain ⟨n3, hn3, en3⟩ := rg_nat ((show okw 7 (C 101 7) from I 101 7).2.2.2.2.1 rfl) (by decide)
  rw [hC0] at en3
  rcases rgm_nat (I 137 0) with em | ⟨mk, hmk, em⟩
  · skip
    rw [hC0] at em
    refine g_iload_n X dX8_askSeen_0 rfl (j := 1) rfl ?_
    refine g_callSI X (s_X8_isSlot_0 l G F I  ) lk_X8_394 rfl rfl dX8_askSeen_1 (Nat.le_of_ble_eq_true rfl) ⟨by decide, by decide⟩ ⟨by decide, by decide⟩ (fun r4 L M hp => ?_)
    obtain ⟨C, D, F, I, K1, hr⟩ := hp
    have K := K.step K1 (by decide)
    subst hr
    refine g_if_eq X dX8_askSeen_4 (tgt := 14) (by decide) (fun q => absurd q (by decide)) (fun _ => ?_)
    refine g_aload_n X dX8_askSeen_7 rfl (j := 0) rfl ?_
    refine g_callVI X (s_X8_isHeath l G F I  ) lk_X8_102 (F.1 100 rfl).2 (F.1 100 rfl).1 rfl rfl dX8_askSeen_8 (Nat.le_of_ble_eq_true rfl) ⟨by decide, by decide⟩ ⟨by decide, by decide⟩ (fun r5 L M hp => ?_)
    obtain ⟨C, D, F, I, K1, hr⟩ := hp
    have K := K.step K1 (by decide)
    rcases hr with rfl | rfl
    · skip
      refine g_if_ne X dX8_askSeen_11 (tgt := 17) (by decide) (fun q => absurd (by decide) q) (fun _ => ?_)
      refine g_bipush X dX8_askSeen_14 (v := -2) (by decide) ?_
      exact g_iret X hrt dX8_askSeen_16 (by decide) (by decide) ⟨C, D, F, I, K, Or.inl (by decide)⟩
    · skip
      refine g_if_ne X dX8_askSeen_11 (tgt := 17) (by decide) (fun _ => ?_) (fun q => absurd q (by decide))
      refine g_aload_n X dX8_askSeen_17 rfl (j := 0) rfl ?_
      refine i_get X F 100 rfl rfl fk_X8_76 dX8_askSeen_18 rfl ?_
      refine g_iload_n X dX8_askSeen_21 rfl (j := 1) rfl ?_
      refine i_iald X F 137 rfl rfl dX8_askSeen_22 (vp_in_iff.mpr (by decide)) (v := -1) (by exact (congrFun (K 137 (by decide)).1 (0)).trans em) ?_
      refine g_iconst X dX8_askSeen_23 (v := -1) (by decide) ?_
      refine g_icmp_ne X dX8_askSeen_24 (tgt := 30) (by decide) (fun q => absurd (by decide) q) (fun _ => ?_)
      refine g_bipush X dX8_askSeen_27 (v := -6) (by decide) ?_
      exact g_iret X hrt dX8_askSeen_29 (by decide) (by decide) ⟨C, D, F, I, K, Or.inl (by decide)⟩
  · skip
    rw [hC0] at em
    refine g_iload_n X dX8_askSeen_0 rfl (j := 1) rfl ?_
    refine g_callSI X (s_X8_isSlot_0 l G F I  ) lk_X8_394 rfl rfl dX8_askSeen_1 (Nat.le_of_ble_eq_true rfl) ⟨by decide, by decide⟩ ⟨by decide, by decide⟩ (fun r6 L M hp => ?_)
    obtain ⟨C, D, F, I, K1, hr⟩ := hp
    have K := K.step K1 (by decide)
    subst hr
    refine g_if_eq X dX8_askSeen_4 (tgt := 14) (by decide) (fun q => absurd q (by decide)) (fun _ => ?_)
    refine g_aload_n X dX8_askSeen_7 rfl (j := 0) rfl ?_
    refine g_callVI X (s_X8_isHeath l G F I  ) lk_X8_102 (F.1 100 rfl).2 (F.1 100 rfl).1 rfl rfl dX8_askSeen_8 (Nat.le_of_ble_eq_true rfl) ⟨by decide, by decide⟩ ⟨by decide, by decide⟩ (fun r7 L M hp => ?_)
    obtain ⟨C, D, F, I, K1, hr⟩ := hp
    have K := K.step K1 (by decide)
    rcases hr with rfl | rfl
    · skip
      refine g_if_ne X dX8_askSeen_11 (tgt := 17) (by decide) (fun q => absurd (by decide) q) (fun _ => ?_)
      refine g_bipush X dX8_askSeen_14 (v := -2) (by decide) ?_
      exact g_iret X hrt dX8_askSeen_16 (by decide) (by decide) ⟨C, D, F, I, K, Or.inl (by decide)⟩
    · skip
      refine g_if_ne X dX8_askSeen_11 (tgt := 17) (by decide) (fun _ => ?_) (fun q => absurd q (by decide))
      refine g_aload_n X dX8_askSeen_17 rfl (j := 0) rfl ?_
      refine i_get X F 100 rfl rfl fk_X8_76 dX8_askSeen_18 rfl ?_
      refine g_iload_n X dX8_askSeen_21 rfl (j := 1) rfl ?_
      refine i_iald X F 137 rfl rfl dX8_askSeen_22 (vp_in_iff.mpr (by decide)) (v := nI mk) (by exact (congrFun (K 137 (by decide)).1 (0)).trans em) ?_
      refine g_iconst X dX8_askSeen_23 (v := -1) (by decide) ?_
      refine g_icmp_ne X dX8_askSeen_24 (tgt := 30) (by decide) (fun _ => ?_) (fun q => absurd q (nI_nm1 (by omega)))
      refine g_aload_n X dX8_askSeen_30 rfl (j := 0) rfl ?_
      refine i_get X F 100 rfl rfl fk_X8_76 dX8_askSeen_31 rfl ?_
      refine g_iload_n X dX8_askSeen_34 rfl (j := 1) rfl ?_
      refine i_iald X F 137 rfl rfl dX8_askSeen_35 (vp_in_iff.mpr (by decide)) (v := nI mk) (by exact (congrFun (K 137 (by decide)).1 (0)).trans em) ?_
      refine g_iconst X dX8_askSeen_36 (v := 3) (by decide) ?_
      refine g_irem X dX8_askSeen_37 (by decide) ?_
      refine Go.top (v := .int (nI (mk % 3))) (congrArg Value.int (pk_rem (a := mk) (d := 3) (by omega) (by omega) (by omega))) ?_
      obtain ⟨n9, en9⟩ : ∃ z : Nat, z = mk % 3 := ⟨_, rfl⟩
      refine Go.top (v := .int (nI n9)) (by rw [en9]) ?_
      have hn9 : n9 < 3 := by rw [en9]; exact Nat.mod_lt _ (by omega)
      refine g_if_eq X dX8_askSeen_38 (tgt := 44) (by decide) (fun q10 => ?_) (fun q10 => ?_)
      · skip
        have q10 : n9 = 0 := (nI_eq (a := n9) (b := 0) (by omega) (by omega)).mp q10
        refine g_iconst X dX8_askSeen_44 (v := 0) (by decide) ?_
        refine g_istore_n X dX8_askSeen_45 rfl (by decide) (lv2 := [(2, .int 0), (0, .ref (a 100)), (1, .int 0)]) rfl ?_
        refine g_lv [0, 1, 2] (lv2 := [(2, .int 0), (0, .ref (a 100)), (1, .int 0)]) rfl ?_
        refine i_loop (mods := [100, 115, 116]) (fun x : Nat => 60 - x) (fun x => [(2, .int (nI (x))), (0, .ref (a 100)), (1, .int 0)]) (fun x C => 0 ≤ x ∧ x ≤ 60 ∧ (x % 3 = 0) ∧ (seen (fun i => D0 139 (0 + i)) (x)) ∧ (x ≤ mk)) (fun x L M C D F I K hP ih46 => ?_) ((0) : Nat) F I K ⟨by show _ ≤ _; omega, by show _ ≤ _; omega, (by decide), seen_0, (Nat.zero_le _)⟩
        obtain ⟨i46_2, rfl⟩ : ∃ z, z = x := ⟨_, rfl⟩
        obtain ⟨hi46_2a, hi46_2b, hm3, hsee, hisz⟩ := hP
        refine g_lv [0, 1, 2] (lv2 := [(2, .int (nI i46_2)), (0, .ref (a 100)), (1, .int 0)]) rfl ?_
        refine g_iload_n X dX8_askSeen_46 rfl (j := 0) rfl ?_
        refine g_aload_n X dX8_askSeen_47 rfl (j := 1) rfl ?_
        refine i_get X F 100 rfl rfl fk_X8_76 dX8_askSeen_48 rfl ?_
        refine g_iload_n X dX8_askSeen_51 rfl (j := 2) rfl ?_
        refine i_iald X F 137 rfl rfl dX8_askSeen_52 (vp_in_iff.mpr (by decide)) (v := nI mk) (by exact (congrFun (K 137 (by decide)).1 (0)).trans em) ?_
        refine g_icmp_ge X dX8_askSeen_53 (tgt := 123) (by decide) (fun q11 => ?_) (fun q11 => ?_)
        · skip
          have q11 : mk ≤ i46_2 := (nI_leI (a := mk) (b := i46_2) (by omega) (by omega)).mp q11
          refine g_aload_n X dX8_askSeen_123 rfl (j := 1) rfl ?_
          refine g_callVV X (s_X8_asItIs l G F I  ) lk_X8_286 (F.1 100 rfl).2 (F.1 100 rfl).1 rfl rfl dX8_askSeen_124 (Nat.le_of_ble_eq_true rfl) ⟨by decide, by decide⟩ ⟨by decide, by decide⟩ (fun L M hp => ?_)
          obtain ⟨C, D, F, I, K1, hr⟩ := hp
          have K := K.step K1 (by decide)
          refine g_iconst X dX8_askSeen_127 (v := 0) (by decide) ?_
          exact g_iret X hrt dX8_askSeen_128 (by decide) (by decide) ⟨C, D, F, I, K, Or.inr ⟨rfl, mk, by omega, by omega, (congrFun (K 137 (by decide)).1 0).trans em, by rw [(K 139 (by decide)).2, show mk = i46_2 by omega]; exact hsee⟩⟩
        · skip
          have q11 : ¬ mk ≤ i46_2 := fun z => q11 ((nI_leI (a := mk) (b := i46_2) (by omega) (by omega)).mpr z)
          refine g_aload_n X dX8_askSeen_56 rfl (j := 1) rfl ?_
          refine g_aload_n X dX8_askSeen_57 rfl (j := 1) rfl ?_
          refine g_iload_n X dX8_askSeen_58 rfl (j := 2) rfl ?_
          refine g_iload_n X dX8_askSeen_59 rfl (j := 0) rfl ?_
          refine g_callVJ X (s_X8_numberAt_0 l G F I i46_2 (by omega) (by omega) ) lk_X8_397 (F.1 100 rfl).2 (F.1 100 rfl).1 rfl rfl dX8_askSeen_60 (Nat.le_of_ble_eq_true rfl) ⟨by decide, by decide⟩ ⟨by decide, by decide⟩ (fun r12 L M hp => ?_)
          obtain ⟨C, D, F, I, K1, hr⟩ := hp
          have K := K.step K1 (by decide)
          obtain rfl : r12 = (D0 139 (0 + i46_2)) := hr.trans (by rw [(K 139 (by decide)).2])
          refine g_callVI X (s_X8_isWalker l G F I ((D0 139 (0 + i46_2))) ) lk_X8_254 (F.1 100 rfl).2 (F.1 100 rfl).1 rfl rfl dX8_askSeen_63 (Nat.le_of_ble_eq_true rfl) ⟨by decide, by decide⟩ ⟨by decide, by decide⟩ (fun r13 L M hp => ?_)
          obtain ⟨C, D, F, I, K1, hr⟩ := hp
          have K := K.step K1 (by decide)
          rcases hr with rfl | ⟨rfl, hl14a, hl14b⟩
          · skip
            refine g_if_eq X dX8_askSeen_66 (tgt := 114) (by decide) (fun _ => ?_) (fun q => absurd (by decide) q)
            refine g_bipush X dX8_askSeen_114 (v := -2) (by decide) ?_
            exact g_iret X hrt dX8_askSeen_116 (by decide) (by decide) ⟨C, D, F, I, K, Or.inl (by decide)⟩
          · skip
            refine g_if_eq X dX8_askSeen_66 (tgt := 114) (by decide) (fun q => absurd q (by decide)) (fun _ => ?_)
            refine g_aload_n X dX8_askSeen_69 rfl (j := 1) rfl ?_
            refine g_aload_n X dX8_askSeen_70 rfl (j := 1) rfl ?_
            refine g_iload_n X dX8_askSeen_71 rfl (j := 2) rfl ?_
            refine g_iload_n X dX8_askSeen_72 rfl (j := 0) rfl ?_
            refine g_iconst X dX8_askSeen_73 (v := 1) (by decide) ?_
            refine g_iadd X dX8_askSeen_74 ?_
            refine Go.top (v := .int (nI (i46_2 + 1))) (congrArg Value.int (nI_add i46_2 1)) ?_
            refine g_callVJ X (s_X8_numberAt_0 l G F I (i46_2 + 1) (by omega) (by omega) ) lk_X8_397 (F.1 100 rfl).2 (F.1 100 rfl).1 rfl rfl dX8_askSeen_75 (Nat.le_of_ble_eq_true rfl) ⟨by decide, by decide⟩ ⟨by decide, by decide⟩ (fun r15 L M hp => ?_)
            obtain ⟨C, D, F, I, K1, hr⟩ := hp
            have K := K.step K1 (by decide)
            obtain rfl : r15 = (D0 139 (0 + (i46_2 + 1))) := hr.trans (by rw [(K 139 (by decide)).2])
            refine g_callVI X (s_X8_isHour l G F I ((D0 139 (0 + (i46_2 + 1)))) ) lk_X8_295 (F.1 100 rfl).2 (F.1 100 rfl).1 rfl rfl dX8_askSeen_78 (Nat.le_of_ble_eq_true rfl) ⟨by decide, by decide⟩ ⟨by decide, by decide⟩ (fun r16 L M hp => ?_)
            obtain ⟨C, D, F, I, K1, hr⟩ := hp
            have K := K.step K1 (by decide)
            rcases hr with rfl | ⟨rfl, hl17a, hl17b⟩
            · skip
              refine g_if_eq X dX8_askSeen_81 (tgt := 114) (by decide) (fun _ => ?_) (fun q => absurd (by decide) q)
              refine g_bipush X dX8_askSeen_114 (v := -2) (by decide) ?_
              exact g_iret X hrt dX8_askSeen_116 (by decide) (by decide) ⟨C, D, F, I, K, Or.inl (by decide)⟩
            · skip
              refine g_if_eq X dX8_askSeen_81 (tgt := 114) (by decide) (fun q => absurd q (by decide)) (fun _ => ?_)
              refine g_aload_n X dX8_askSeen_84 rfl (j := 1) rfl ?_
              refine g_iload_n X dX8_askSeen_85 rfl (j := 2) rfl ?_
              refine g_iload_n X dX8_askSeen_86 rfl (j := 0) rfl ?_
              refine g_iconst X dX8_askSeen_87 (v := 2) (by decide) ?_
              refine g_iadd X dX8_askSeen_88 ?_
              refine Go.top (v := .int (nI (i46_2 + 2))) (congrArg Value.int (nI_add i46_2 2)) ?_
              refine g_callVJ X (s_X8_numberAt_0 l G F I (i46_2 + 2) (by omega) (by omega) ) lk_X8_397 (F.1 100 rfl).2 (F.1 100 rfl).1 rfl rfl dX8_askSeen_89 (Nat.le_of_ble_eq_true rfl) ⟨by decide, by decide⟩ ⟨by decide, by decide⟩ (fun r18 L M hp => ?_)
              obtain ⟨C, D, F, I, K1, hr⟩ := hp
              have K := K.step K1 (by decide)
              obtain rfl : r18 = (D0 139 (0 + (i46_2 + 2))) := hr.trans (by rw [(K 139 (by decide)).2])
              refine g_ldc2 X (v := -1) wd928 dX8_askSeen_92 ?_
              refine g_lcmp X dX8_askSeen_95 ?_
              refine g_if_eq X dX8_askSeen_96 (tgt := 117) (by decide) (fun q19 => ?_) (fun q19 => ?_)
              · skip
                have q19t : ((D0 139 (0 + (i46_2 + 2)))) = (-1 : Int64) := (lg_cmp_eq _ _).mp q19
                have q19k1 : (-1 : Int64).toInt = -1 := (by decide)
                refine g_iinc X dX8_askSeen_117 (j := 0) rfl (v := nI (i46_2 + 3)) (nI_add i46_2 3) (by decide) (lv2 := [(2, .int (nI (i46_2 + 3))), (0, .ref (a 100)), (1, .int 0)]) rfl ?_
                refine g_goto X dX8_askSeen_120 (tgt := 46) (by decide) ?_
                refine g_lv [0, 1, 2] (lv2 := [(2, .int (nI (i46_2 + 3))), (0, .ref (a 100)), (1, .int 0)]) rfl ?_
                exact ih46 ((i46_2 + 3)) L M C D F I K ⟨by omega, by omega, (by show _ % 3 = 0; omega), (seen_st (d := fun i => D0 139 (0 + i)) (by omega) hsee (by show 0 ≤ (D0 139 (0 + i46_2)).toInt; omega) (by show (D0 139 (0 + i46_2)).toInt ≤ 7; omega) (by show 0 ≤ (D0 139 (0 + (i46_2 + 1))).toInt; omega) (by show (D0 139 (0 + (i46_2 + 1))).toInt ≤ 16; omega)), (by show _ ≤ mk; omega)⟩ (by show _ < _; omega)
              · skip
                have q19t : ¬ ((D0 139 (0 + (i46_2 + 2)))) = (-1 : Int64) := fun z => q19 ((lg_cmp_eq _ _).mpr z)
                have q19k1 : (-1 : Int64).toInt = -1 := (by decide)
                refine g_aload_n X dX8_askSeen_99 rfl (j := 1) rfl ?_
                refine g_aload_n X dX8_askSeen_100 rfl (j := 1) rfl ?_
                refine g_iload_n X dX8_askSeen_101 rfl (j := 2) rfl ?_
                refine g_iload_n X dX8_askSeen_102 rfl (j := 0) rfl ?_
                refine g_iconst X dX8_askSeen_103 (v := 2) (by decide) ?_
                refine g_iadd X dX8_askSeen_104 ?_
                refine Go.top (v := .int (nI (i46_2 + 2))) (congrArg Value.int (nI_add i46_2 2)) ?_
                refine g_callVJ X (s_X8_numberAt_0 l G F I (i46_2 + 2) (by omega) (by omega) ) lk_X8_397 (F.1 100 rfl).2 (F.1 100 rfl).1 rfl rfl dX8_askSeen_105 (Nat.le_of_ble_eq_true rfl) ⟨by decide, by decide⟩ ⟨by decide, by decide⟩ (fun r20 L M hp => ?_)
                obtain ⟨C, D, F, I, K1, hr⟩ := hp
                have K := K.step K1 (by decide)
                obtain rfl : r20 = (D0 139 (0 + (i46_2 + 2))) := hr.trans (by rw [(K 139 (by decide)).2])
                refine g_callVI X (s_X8_isPlace l G F I ((D0 139 (0 + (i46_2 + 2)))) ) lk_X8_305 (F.1 100 rfl).2 (F.1 100 rfl).1 rfl rfl dX8_askSeen_108 (Nat.le_of_ble_eq_true rfl) ⟨by decide, by decide⟩ ⟨by decide, by decide⟩ (fun r21 L M hp => ?_)
                obtain ⟨C, D, F, I, K1, hr⟩ := hp
                have K := K.step K1 (by decide)
                rcases hr with rfl | rfl
                · skip
                  refine g_if_ne X dX8_askSeen_111 (tgt := 117) (by decide) (fun q => absurd (by decide) q) (fun _ => ?_)
                  refine g_bipush X dX8_askSeen_114 (v := -2) (by decide) ?_
                  exact g_iret X hrt dX8_askSeen_116 (by decide) (by decide) ⟨C, D, F, I, K, Or.inl (by decide)⟩
                · skip
                  refine g_if_ne X dX8_askSeen_111 (tgt := 117) (by decide) (fun _ => ?_) (fun q => absurd q (by decide))
                  refine g_iinc X dX8_askSeen_117 (j := 0) rfl (v := nI (i46_2 + 3)) (nI_add i46_2 3) (by decide) (lv2 := [(2, .int (nI (i46_2 + 3))), (0, .ref (a 100)), (1, .int 0)]) rfl ?_
                  refine g_goto X dX8_askSeen_120 (tgt := 46) (by decide) ?_
                  refine g_lv [0, 1, 2] (lv2 := [(2, .int (nI (i46_2 + 3))), (0, .ref (a 100)), (1, .int 0)]) rfl ?_
                  exact ih46 ((i46_2 + 3)) L M C D F I K ⟨by omega, by omega, (by show _ % 3 = 0; omega), (seen_st (d := fun i => D0 139 (0 + i)) (by omega) hsee (by show 0 ≤ (D0 139 (0 + i46_2)).toInt; omega) (by show (D0 139 (0 + i46_2)).toInt ≤ 7; omega) (by show 0 ≤ (D0 139 (0 + (i46_2 + 1))).toInt; omega) (by show (D0 139 (0 + (i46_2 + 1))).toInt ≤ 16; omega)), (by show _ ≤ mk; omega)⟩ (by show _ < _; omega)
      · skip
        have q10 : ¬ n9 = 0 := fun z => q10 ((nI_eq (a := n9) (b := 0) (by omega) (by omega)).mpr z)
        refine g_bipush X dX8_askSeen_41 (v := -2) (by decide) ?_
        exact g_iret X hrt dX8_askSeen_43 (by decide) (by decide) ⟨C, D, F, I, K, Or.inl (by decide)⟩
set_option maxHeartbeats 4000000 in
set_option maxRecDepth 100000 in
theorem s_X8_isSeen_0 (l : Launch) (G : va_G) {cy : Nat → ClassId} {L : List Nat} {M : Nat → va_E} {a : Nat → Nat} {act : Nat → Bool} {C0 : Nat → Nat → Int32} {D0 : Nat → Nat → Int64} {R : Nat → Nat → Option Nat} (F : WI L M a act (ent cy a C0 D0 R)) (I : Inv C0)  (gsn : ∃ k : Nat, k ≤ 60 ∧ k % 3 = 0 ∧ C0 137 0 = nI k ∧ seen (fun i => D0 139 (0 + i)) k) : MI l G cy yX8_isSeen cX8_isSeen 3 (some .boolean) 6 0 0 [.ref (a 100), .int 0] L M (fun r L2 M2 => ∃ C2 D2, WI L2 M2 a act (ent cy a C2 D2 R) ∧ Inv C2 ∧ Kp [120, 121, 122, 123, 124, 125, 126, 127, 128] C0 D0 C2 D2 ∧ (r = 0 ∨ r = 1)) := by
  refine MI.of (own := RX8) rfl (by decide) (Nat.le_of_ble_eq_true rfl) ?_
  intro p e s m below meth c A X hrt hnm
  obtain ⟨C, D, hC0, hD0, F, I, K⟩ : ∃ C D, C = C0 ∧ D = D0 ∧ WI L M a act (ent cy a C D R) ∧ Inv C ∧ Kp [120, 121, 122, 123, 124, 125, 126, 127, 128] C0 D0 C D := ⟨C0, D0, rfl, rfl, F, I, Kp.rf⟩
  obtain ⟨n1, hn1, en1⟩ := rg_nat ((show okw 0 (C 101 0) from I 101 0).1 rfl) (by decide)
  rw [hC0] at en1
  obtain ⟨n2, hn2, en2⟩ := rg_nat ((show okw 4 (C 101 4) from I 101 4).2.2.2.1 rfl) (by decide)
  rw [hC0] at en2
  obtain ⟨n3, hn3, en3⟩ := rg_nat ((show okw 7 (C 101 7) from I 101 7).2.2.2.2.1 rfl) (by decide)
  rw [hC0] at en3
  obtain ⟨kz, hkz, hk3, ekz, hsn⟩ := gsn
  refine g_aload_n X dX8_isSeen_0 rfl (j := 0) rfl ?_
  refine g_callVV X (s_X8_goAll l G F I  ) lk_X8_289 (F.1 100 rfl).2 (F.1 100 rfl).1 rfl rfl dX8_isSeen_1 (Nat.le_of_ble_eq_true rfl) ⟨by decide, by decide⟩ ⟨by decide, by decide⟩ (fun L M hp => ?_)
  obtain ⟨C, D, F, I, K1, hr⟩ := hp
  have K := K.step K1 (by decide)
  refine g_iconst X dX8_isSeen_4 (v := 0) (by decide) ?_
  refine g_istore_n X dX8_isSeen_5 rfl (by decide) (lv2 := [(2, .int 0), (0, .ref (a 100)), (1, .int 0)]) rfl ?_
  refine g_lv [0, 1, 2] (lv2 := [(2, .int 0), (0, .ref (a 100)), (1, .int 0)]) rfl ?_
  refine i_loop (mods := [120, 121, 122, 123, 124, 125, 126, 127, 128]) (fun x : Nat => 60 - x) (fun x => [(2, .int (nI (x))), (0, .ref (a 100)), (1, .int 0)]) (fun x C => 0 ≤ x ∧ x ≤ 60 ∧ (x % 3 = 0)) (fun x L M C D F I K hP ih6 => ?_) ((0) : Nat) F I K ⟨by show _ ≤ _; omega, by show _ ≤ _; omega, (by decide)⟩
  obtain ⟨i6_2, rfl⟩ : ∃ z, z = x := ⟨_, rfl⟩
  obtain ⟨hi6_2a, hi6_2b, hm3⟩ := hP
  refine g_lv [0, 1, 2] (lv2 := [(2, .int (nI i6_2)), (0, .ref (a 100)), (1, .int 0)]) rfl ?_
  refine g_iload_n X dX8_isSeen_6 rfl (j := 0) rfl ?_
  refine g_aload_n X dX8_isSeen_7 rfl (j := 1) rfl ?_
  refine i_get X F 100 rfl rfl fk_X8_76 dX8_isSeen_8 rfl ?_
  refine g_iload_n X dX8_isSeen_11 rfl (j := 2) rfl ?_
  refine i_iald X F 137 rfl rfl dX8_isSeen_12 (vp_in_iff.mpr (by decide)) (v := nI kz) (by exact (congrFun (K 137 (by decide)).1 (0)).trans ekz) ?_
  refine g_icmp_ge X dX8_isSeen_13 (tgt := 57) (by decide) (fun q4 => ?_) (fun q4 => ?_)
  · skip
    have q4 : kz ≤ i6_2 := (nI_leI (a := kz) (b := i6_2) (by omega) (by omega)).mp q4
    refine g_iconst X dX8_isSeen_57 (v := 1) (by decide) ?_
    exact g_zret X hrt rfl dX8_isSeen_58 (by decide) (by decide) ⟨C, D, F, I, K, Or.inr rfl⟩
  · skip
    have q4 : ¬ kz ≤ i6_2 := fun z => q4 ((nI_leI (a := kz) (b := i6_2) (by omega) (by omega)).mpr z)
    refine g_aload_n X dX8_isSeen_16 rfl (j := 1) rfl ?_
    refine g_aload_n X dX8_isSeen_17 rfl (j := 1) rfl ?_
    refine g_iload_n X dX8_isSeen_18 rfl (j := 2) rfl ?_
    refine g_iload_n X dX8_isSeen_19 rfl (j := 0) rfl ?_
    refine g_callVJ X (s_X8_numberAt_0 l G F I i6_2 (by omega) (by omega) ) lk_X8_397 (F.1 100 rfl).2 (F.1 100 rfl).1 rfl rfl dX8_isSeen_20 (Nat.le_of_ble_eq_true rfl) ⟨by decide, by decide⟩ ⟨by decide, by decide⟩ (fun r5 L M hp => ?_)
    obtain ⟨C, D, F, I, K1, hr⟩ := hp
    have K := K.step K1 (by decide)
    obtain rfl : r5 = (D0 139 (0 + i6_2)) := hr.trans (by rw [(K 139 (by decide)).2])
    have hi3 := hsn (i6_2 / 3) (by omega)
    rw [show 3 * (i6_2 / 3) = i6_2 by omega] at hi3
    obtain ⟨n6, hn6, en6⟩ := l2i_nat (x := (D0 139 (0 + i6_2))) (hi := 7) hi3.1.1 (by have z := hi3.1.2; exact z) (by decide)
    refine g_l2i X dX8_isSeen_23 (v := nI n6) en6 ?_
    refine g_aload_n X dX8_isSeen_24 rfl (j := 1) rfl ?_
    refine g_iload_n X dX8_isSeen_25 rfl (j := 2) rfl ?_
    refine g_iload_n X dX8_isSeen_26 rfl (j := 0) rfl ?_
    refine g_iconst X dX8_isSeen_27 (v := 1) (by decide) ?_
    refine g_iadd X dX8_isSeen_28 ?_
    refine Go.top (v := .int (nI (i6_2 + 1))) (congrArg Value.int (nI_add i6_2 1)) ?_
    refine g_callVJ X (s_X8_numberAt_0 l G F I (i6_2 + 1) (by omega) (by omega) ) lk_X8_397 (F.1 100 rfl).2 (F.1 100 rfl).1 rfl rfl dX8_isSeen_29 (Nat.le_of_ble_eq_true rfl) ⟨by decide, by decide⟩ ⟨by decide, by decide⟩ (fun r7 L M hp => ?_)
    obtain ⟨C, D, F, I, K1, hr⟩ := hp
    have K := K.step K1 (by decide)
    obtain rfl : r7 = (D0 139 (0 + (i6_2 + 1))) := hr.trans (by rw [(K 139 (by decide)).2])
    have hi3 := hsn (i6_2 / 3) (by omega)
    rw [show 3 * (i6_2 / 3) = i6_2 by omega] at hi3
    obtain ⟨n8, hn8, en8⟩ := l2i_nat (x := (D0 139 (0 + (i6_2 + 1)))) (hi := 16) hi3.2.1 (by have z := hi3.2.2; exact z) (by decide)
    refine g_l2i X dX8_isSeen_32 (v := nI n8) en8 ?_
    refine g_callVI X (s_X8_placeOf l G F I n6 (by omega) (by omega) n8 (by omega) (by omega) ) lk_X8_298 (F.1 100 rfl).2 (F.1 100 rfl).1 rfl rfl dX8_isSeen_33 (Nat.le_of_ble_eq_true rfl) ⟨by decide, by decide⟩ ⟨by decide, by decide⟩ (fun r9 L M hp => ?_)
    obtain ⟨C, D, F, I, K1, hr⟩ := hp
    have K := K.step K1 (by decide)
    rcases okp_nat hr with rfl | ⟨n10, hn10, rfl⟩
    · skip
      refine g_i2l X dX8_isSeen_36 rfl ?_
      refine Go.top (v := .long (-1)) (by decide) ?_
      refine g_aload_n X dX8_isSeen_37 rfl (j := 1) rfl ?_
      refine g_iload_n X dX8_isSeen_38 rfl (j := 2) rfl ?_
      refine g_iload_n X dX8_isSeen_39 rfl (j := 0) rfl ?_
      refine g_iconst X dX8_isSeen_40 (v := 2) (by decide) ?_
      refine g_iadd X dX8_isSeen_41 ?_
      refine Go.top (v := .int (nI (i6_2 + 2))) (congrArg Value.int (nI_add i6_2 2)) ?_
      refine g_callVJ X (s_X8_numberAt_0 l G F I (i6_2 + 2) (by omega) (by omega) ) lk_X8_397 (F.1 100 rfl).2 (F.1 100 rfl).1 rfl rfl dX8_isSeen_42 (Nat.le_of_ble_eq_true rfl) ⟨by decide, by decide⟩ ⟨by decide, by decide⟩ (fun r11 L M hp => ?_)
      obtain ⟨C, D, F, I, K1, hr⟩ := hp
      have K := K.step K1 (by decide)
      obtain rfl : r11 = (D0 139 (0 + (i6_2 + 2))) := hr.trans (by rw [(K 139 (by decide)).2])
      refine g_lcmp X dX8_isSeen_45 ?_
      refine g_if_eq X dX8_isSeen_46 (tgt := 51) (by decide) (fun q12 => ?_) (fun q12 => ?_)
      · skip
        have q12t : (-1 : Int64) = ((D0 139 (0 + (i6_2 + 2)))) := (lg_cmp_eq _ _).mp q12
        have q12k1 : (-1 : Int64).toInt = -1 := (by decide)
        refine g_iinc X dX8_isSeen_51 (j := 0) rfl (v := nI (i6_2 + 3)) (nI_add i6_2 3) (by decide) (lv2 := [(2, .int (nI (i6_2 + 3))), (0, .ref (a 100)), (1, .int 0)]) rfl ?_
        refine g_goto X dX8_isSeen_54 (tgt := 6) (by decide) ?_
        refine g_lv [0, 1, 2] (lv2 := [(2, .int (nI (i6_2 + 3))), (0, .ref (a 100)), (1, .int 0)]) rfl ?_
        exact ih6 ((i6_2 + 3)) L M C D F I K ⟨by omega, by omega, (by show _ % 3 = 0; omega)⟩ (by show _ < _; omega)
      · skip
        have q12t : ¬ (-1 : Int64) = ((D0 139 (0 + (i6_2 + 2)))) := fun z => q12 ((lg_cmp_eq _ _).mpr z)
        have q12k1 : (-1 : Int64).toInt = -1 := (by decide)
        refine g_iconst X dX8_isSeen_49 (v := 0) (by decide) ?_
        exact g_zret X hrt rfl dX8_isSeen_50 (by decide) (by decide) ⟨C, D, F, I, K, Or.inl rfl⟩
    · skip
      refine g_i2l X dX8_isSeen_36 rfl ?_
      refine g_aload_n X dX8_isSeen_37 rfl (j := 1) rfl ?_
      refine g_iload_n X dX8_isSeen_38 rfl (j := 2) rfl ?_
      refine g_iload_n X dX8_isSeen_39 rfl (j := 0) rfl ?_
      refine g_iconst X dX8_isSeen_40 (v := 2) (by decide) ?_
      refine g_iadd X dX8_isSeen_41 ?_
      refine Go.top (v := .int (nI (i6_2 + 2))) (congrArg Value.int (nI_add i6_2 2)) ?_
      refine g_callVJ X (s_X8_numberAt_0 l G F I (i6_2 + 2) (by omega) (by omega) ) lk_X8_397 (F.1 100 rfl).2 (F.1 100 rfl).1 rfl rfl dX8_isSeen_42 (Nat.le_of_ble_eq_true rfl) ⟨by decide, by decide⟩ ⟨by decide, by decide⟩ (fun r13 L M hp => ?_)
      obtain ⟨C, D, F, I, K1, hr⟩ := hp
      have K := K.step K1 (by decide)
      obtain rfl : r13 = (D0 139 (0 + (i6_2 + 2))) := hr.trans (by rw [(K 139 (by decide)).2])
      refine g_lcmp X dX8_isSeen_45 ?_
      refine g_if_eq X dX8_isSeen_46 (tgt := 51) (by decide) (fun q14 => ?_) (fun q14 => ?_)
      · skip
        have q14t : ((Int32.toInt64 (nI n10))) = ((D0 139 (0 + (i6_2 + 2)))) := (lg_cmp_eq _ _).mp q14
        have q14wa := Jvm.Kit.i64_of_i32 (nI n10)
        rw [nI_toInt (by omega)] at q14wa
        refine g_iinc X dX8_isSeen_51 (j := 0) rfl (v := nI (i6_2 + 3)) (nI_add i6_2 3) (by decide) (lv2 := [(2, .int (nI (i6_2 + 3))), (0, .ref (a 100)), (1, .int 0)]) rfl ?_
        refine g_goto X dX8_isSeen_54 (tgt := 6) (by decide) ?_
        refine g_lv [0, 1, 2] (lv2 := [(2, .int (nI (i6_2 + 3))), (0, .ref (a 100)), (1, .int 0)]) rfl ?_
        exact ih6 ((i6_2 + 3)) L M C D F I K ⟨by omega, by omega, (by show _ % 3 = 0; omega)⟩ (by show _ < _; omega)
      · skip
        have q14t : ¬ ((Int32.toInt64 (nI n10))) = ((D0 139 (0 + (i6_2 + 2)))) := fun z => q14 ((lg_cmp_eq _ _).mpr z)
        have q14wa := Jvm.Kit.i64_of_i32 (nI n10)
        rw [nI_toInt (by omega)] at q14wa
        refine g_iconst X dX8_isSeen_49 (v := 0) (by decide) ?_
        exact g_zret X hrt rfl dX8_isSeen_50 (by decide) (by decide) ⟨C, D, F, I, K, Or.inl rfl⟩
set_option maxHeartbeats 4000000 in
set_option maxRecDepth 100000 in
theorem s_X8_mayOf_0 (l : Launch) (G : va_G) {cy : Nat → ClassId} {L : List Nat} {M : Nat → va_E} {a : Nat → Nat} {act : Nat → Bool} {C0 : Nat → Nat → Int32} {D0 : Nat → Nat → Int64} {R : Nat → Nat → Option Nat} (F : WI L M a act (ent cy a C0 D0 R)) (I : Inv C0) (p1 : Nat) (hp1a : 0 ≤ p1) (hp1b : p1 ≤ 6) (gsn : ∃ k : Nat, k ≤ 60 ∧ k % 3 = 0 ∧ C0 137 0 = nI k ∧ seen (fun i => D0 139 (0 + i)) k) : MI l G cy yX8_mayOf cX8_mayOf 7 (some .int) 7 0 0 [.ref (a 100), .int 0, .int (nI p1)] L M (fun r L2 M2 => ∃ C2 D2, WI L2 M2 a act (ent cy a C2 D2 R) ∧ Inv C2 ∧ Kp [115, 120, 121, 122, 123, 124, 125, 126, 127, 128, 131] C0 D0 C2 D2 ∧ True) := by
  refine MI.of (own := RX8) rfl (by decide) (Nat.le_of_ble_eq_true rfl) ?_
  intro p e s m below meth c A X hrt hnm
  obtain ⟨C, D, hC0, hD0, F, I, K⟩ : ∃ C D, C = C0 ∧ D = D0 ∧ WI L M a act (ent cy a C D R) ∧ Inv C ∧ Kp [115, 120, 121, 122, 123, 124, 125, 126, 127, 128, 131] C0 D0 C D := ⟨C0, D0, rfl, rfl, F, I, Kp.rf⟩
  obtain ⟨n1, hn1, en1⟩ := rg_nat ((show okw 0 (C 101 0) from I 101 0).1 rfl) (by decide)
  rw [hC0] at en1
  obtain ⟨n2, hn2, en2⟩ := rg_nat ((show okw 4 (C 101 4) from I 101 4).2.2.2.1 rfl) (by decide)
  rw [hC0] at en2
  obtain ⟨n3, hn3, en3⟩ := rg_nat ((show okw 7 (C 101 7) from I 101 7).2.2.2.2.1 rfl) (by decide)
  rw [hC0] at en3
  refine g_iconst X dX8_mayOf_0 (v := 0) (by decide) ?_
  refine g_istore_n X dX8_mayOf_1 rfl (by decide) (lv2 := [(3, .int 0), (0, .ref (a 100)), (1, .int 0), (2, .int (nI p1))]) rfl ?_
  refine g_iconst X dX8_mayOf_2 (v := 0) (by decide) ?_
  refine g_istore X dX8_mayOf_3 (by decide) (lv2 := [(4, .int 0), (3, .int 0), (0, .ref (a 100)), (1, .int 0), (2, .int (nI p1))]) rfl ?_
  refine g_lv [0, 1, 2, 3, 4] (lv2 := [(4, .int 0), (3, .int 0), (0, .ref (a 100)), (1, .int 0), (2, .int (nI p1))]) rfl ?_
  refine i_loop (mods := [115, 120, 121, 122, 123, 124, 125, 126, 127, 128, 131]) (fun x : Nat × Int32 => 4 - x.1) (fun x => [(4, .int (nI (x.1))), (3, .int (x.2)), (0, .ref (a 100)), (1, .int 0), (2, .int (nI p1))]) (fun x C => 0 ≤ x.1 ∧ x.1 ≤ 4) (fun x L M C D F I K hP ih5 => ?_) ((0, 0) : Nat × Int32) F I K ⟨by show _ ≤ _; omega, by show _ ≤ _; omega⟩
  rcases x with ⟨i5_4, v5_3⟩
  obtain ⟨hi5_4a, hi5_4b⟩ := hP
  refine g_lv [0, 1, 2, 3, 4] (lv2 := [(4, .int (nI i5_4)), (3, .int v5_3), (0, .ref (a 100)), (1, .int 0), (2, .int (nI p1))]) rfl ?_
  refine g_iload X dX8_mayOf_5 (j := 0) rfl ?_
  refine g_aload_n X dX8_mayOf_7 rfl (j := 2) rfl ?_
  refine g_iload_n X dX8_mayOf_8 rfl (j := 4) rfl ?_
  refine g_callVI X (s_X8_roadMany l G F I p1 (by omega) (by omega) ) lk_X8_245 (F.1 100 rfl).2 (F.1 100 rfl).1 rfl rfl dX8_mayOf_9 (Nat.le_of_ble_eq_true rfl) ⟨by decide, by decide⟩ ⟨by decide, by decide⟩ (fun r4 L M hp => ?_)
  obtain ⟨C, D, F, I, K1, hr⟩ := hp
  have K := K.step K1 (by decide)
  obtain ⟨n5, hn5, en5, rfl⟩ := hr
  have fn5 : C0 101 (14 + 6 * p1) = nI n5 := (congrFun (K 101 (by decide)).1 _).symm.trans en5
  refine g_icmp_ge X dX8_mayOf_12 (tgt := 106) (by decide) (fun q6 => ?_) (fun q6 => ?_)
  · skip
    have q6 : n5 ≤ i5_4 := (nI_leI (a := n5) (b := i5_4) (by omega) (by omega)).mp q6
    refine g_iload_n X dX8_mayOf_106 rfl (j := 1) rfl ?_
    exact g_iret X hrt dX8_mayOf_107 (by decide) (by decide) ⟨C, D, F, I, K, trivial⟩
  · skip
    have q6 : ¬ n5 ≤ i5_4 := fun z => q6 ((nI_leI (a := n5) (b := i5_4) (by omega) (by omega)).mpr z)
    refine g_aload_n X dX8_mayOf_15 rfl (j := 2) rfl ?_
    refine i_get X F 100 rfl rfl fk_X8_34 dX8_mayOf_16 rfl ?_
    refine g_iload_n X dX8_mayOf_19 rfl (j := 4) rfl ?_
    refine g_iload X dX8_mayOf_20 (j := 0) rfl ?_
    refine i_iast X F I 115 rfl (fun _ => rfl) dX8_mayOf_22 (vp_in_nI (by omega) (by decide)) (rg_of (n := i5_4) (by omega) (by omega) (by omega)) (fun M C F I K1 hC => ?_)
    have K := K.step K1 (by decide)
    refine g_iload_n X dX8_mayOf_23 rfl (j := 1) rfl ?_
    refine g_aload_n X dX8_mayOf_24 rfl (j := 2) rfl ?_
    refine g_iload_n X dX8_mayOf_25 rfl (j := 3) rfl ?_
    refine g_callVI X (s_X8_isSeen_0 l G F I  (by rw [(K 137 (by decide)).1, (K 139 (by decide)).2]; exact gsn)) lk_X8_403 (F.1 100 rfl).2 (F.1 100 rfl).1 rfl rfl dX8_mayOf_26 (Nat.le_of_ble_eq_true rfl) ⟨by decide, by decide⟩ ⟨by decide, by decide⟩ (fun r7 L M hp => ?_)
    obtain ⟨C, D, F, I, K1, hr⟩ := hp
    have K := K.step K1 (by decide)
    rcases hr with rfl | rfl
    · skip
      refine g_if_eq X dX8_mayOf_29 (tgt := 39) (by decide) (fun _ => ?_) (fun q => absurd (by decide) q)
      refine g_iconst X dX8_mayOf_39 (v := 0) (by decide) ?_
      refine g_ior X dX8_mayOf_40 ?_
      refine Go.gen (fun o8 => ?_)
      refine g_istore_n X dX8_mayOf_41 rfl (by decide) (lv2 := [(3, .int o8), (4, .int (nI i5_4)), (0, .ref (a 100)), (1, .int 0), (2, .int (nI p1))]) rfl ?_
      refine g_iconst X dX8_mayOf_42 (v := 0) (by decide) ?_
      refine g_istore X dX8_mayOf_43 (by decide) (lv2 := [(5, .int 0), (3, .int o8), (4, .int (nI i5_4)), (0, .ref (a 100)), (1, .int 0), (2, .int (nI p1))]) rfl ?_
      refine g_lv [0, 1, 2, 3, 4, 5] (lv2 := [(5, .int 0), (3, .int o8), (4, .int (nI i5_4)), (0, .ref (a 100)), (1, .int 0), (2, .int (nI p1))]) rfl ?_
      refine i_loop (mods := [115, 120, 121, 122, 123, 124, 125, 126, 127, 128, 131]) (fun x : Nat => 17 - x) (fun x => [(5, .int (nI (x))), (3, .int o8), (4, .int (nI i5_4)), (0, .ref (a 100)), (1, .int 0), (2, .int (nI p1))]) (fun x C => 0 ≤ x ∧ x ≤ 17) (fun x L M C D F I K hP ih45 => ?_) ((0) : Nat) F I K ⟨by show _ ≤ _; omega, by show _ ≤ _; omega⟩
      obtain ⟨i45_5, rfl⟩ : ∃ z, z = x := ⟨_, rfl⟩
      obtain ⟨hi45_5a, hi45_5b⟩ := hP
      refine g_lv [0, 1, 2, 3, 4, 5] (lv2 := [(5, .int (nI i45_5)), (3, .int o8), (4, .int (nI i5_4)), (0, .ref (a 100)), (1, .int 0), (2, .int (nI p1))]) rfl ?_
      refine g_iload X dX8_mayOf_45 (j := 0) rfl ?_
      refine g_aload_n X dX8_mayOf_47 rfl (j := 3) rfl ?_
      refine g_callVI X (s_X8_hours l G F I  ) lk_X8_106 (F.1 100 rfl).2 (F.1 100 rfl).1 rfl rfl dX8_mayOf_48 (Nat.le_of_ble_eq_true rfl) ⟨by decide, by decide⟩ ⟨by decide, by decide⟩ (fun r9 L M hp => ?_)
      obtain ⟨C, D, F, I, K1, hr⟩ := hp
      have K := K.step K1 (by decide)
      obtain ⟨n10, hn10, en10, rfl⟩ := hr
      obtain rfl : n1 = n10 := ((nI_eq (by omega) (by omega)).mp (en10.symm.trans ((congrFun (K 101 (by decide)).1 0).trans en1))).symm
      refine g_icmp_gt X dX8_mayOf_51 (tgt := 100) (by decide) (fun q11 => ?_) (fun q11 => ?_)
      · skip
        have q11 : n1 < i45_5 := (nI_ltI (a := n1) (b := i45_5) (by omega) (by omega)).mp q11
        refine g_iinc X dX8_mayOf_100 (j := 2) rfl (v := nI (i5_4 + 1)) (nI_1 i5_4) (by decide) (lv2 := [(4, .int (nI (i5_4 + 1))), (5, .int (nI i45_5)), (3, .int o8), (0, .ref (a 100)), (1, .int 0), (2, .int (nI p1))]) rfl ?_
        refine g_goto X dX8_mayOf_103 (tgt := 5) (by decide) ?_
        refine g_lv [0, 2, 3, 4, 5] (lv2 := [(4, .int (nI (i5_4 + 1))), (3, .int o8), (0, .ref (a 100)), (1, .int 0), (2, .int (nI p1))]) rfl ?_
        exact ih5 ((i5_4 + 1), o8) L M C D F I K ⟨by omega, by omega⟩ (by show _ < _; omega)
      · skip
        have q11 : ¬ n1 < i45_5 := fun z => q11 ((nI_ltI (a := n1) (b := i45_5) (by omega) (by omega)).mpr z)
        refine g_iconst X dX8_mayOf_54 (v := 0) (by decide) ?_
        refine g_istore X dX8_mayOf_55 (by decide) (lv2 := [(6, .int 0), (5, .int (nI i45_5)), (3, .int o8), (4, .int (nI i5_4)), (0, .ref (a 100)), (1, .int 0), (2, .int (nI p1))]) rfl ?_
        refine g_lv [0, 1, 2, 3, 4, 5, 6] (lv2 := [(6, .int 0), (5, .int (nI i45_5)), (3, .int o8), (4, .int (nI i5_4)), (0, .ref (a 100)), (1, .int 0), (2, .int (nI p1))]) rfl ?_
        refine i_loop (mods := [115, 120, 121, 122, 123, 124, 125, 126, 127, 128, 131]) (fun x : Nat => 8 - x) (fun x => [(6, .int (nI (x))), (5, .int (nI i45_5)), (3, .int o8), (4, .int (nI i5_4)), (0, .ref (a 100)), (1, .int 0), (2, .int (nI p1))]) (fun x C => 0 ≤ x ∧ x ≤ 8) (fun x L M C D F I K hP ih57 => ?_) ((0) : Nat) F I K ⟨by show _ ≤ _; omega, by show _ ≤ _; omega⟩
        obtain ⟨i57_6, rfl⟩ : ∃ z, z = x := ⟨_, rfl⟩
        obtain ⟨hi57_6a, hi57_6b⟩ := hP
        refine g_lv [0, 1, 2, 3, 4, 5, 6] (lv2 := [(6, .int (nI i57_6)), (5, .int (nI i45_5)), (3, .int o8), (4, .int (nI i5_4)), (0, .ref (a 100)), (1, .int 0), (2, .int (nI p1))]) rfl ?_
        refine g_iload X dX8_mayOf_57 (j := 0) rfl ?_
        refine g_aload_n X dX8_mayOf_59 rfl (j := 4) rfl ?_
        refine g_callVI X (s_X8_walkers l G F I  ) lk_X8_109 (F.1 100 rfl).2 (F.1 100 rfl).1 rfl rfl dX8_mayOf_60 (Nat.le_of_ble_eq_true rfl) ⟨by decide, by decide⟩ ⟨by decide, by decide⟩ (fun r12 L M hp => ?_)
        obtain ⟨C, D, F, I, K1, hr⟩ := hp
        have K := K.step K1 (by decide)
        obtain ⟨n13, hn13, en13, rfl⟩ := hr
        obtain rfl : n3 = n13 := ((nI_eq (by omega) (by omega)).mp (en13.symm.trans ((congrFun (K 101 (by decide)).1 7).trans en3))).symm
        refine g_icmp_ge X dX8_mayOf_63 (tgt := 94) (by decide) (fun q14 => ?_) (fun q14 => ?_)
        · skip
          have q14 : n3 ≤ i57_6 := (nI_leI (a := n3) (b := i57_6) (by omega) (by omega)).mp q14
          refine g_iinc X dX8_mayOf_94 (j := 1) rfl (v := nI (i45_5 + 1)) (nI_1 i45_5) (by decide) (lv2 := [(5, .int (nI (i45_5 + 1))), (6, .int (nI i57_6)), (3, .int o8), (4, .int (nI i5_4)), (0, .ref (a 100)), (1, .int 0), (2, .int (nI p1))]) rfl ?_
          refine g_goto X dX8_mayOf_97 (tgt := 45) (by decide) ?_
          refine g_lv [0, 2, 3, 4, 5, 6] (lv2 := [(5, .int (nI (i45_5 + 1))), (3, .int o8), (4, .int (nI i5_4)), (0, .ref (a 100)), (1, .int 0), (2, .int (nI p1))]) rfl ?_
          exact ih45 ((i45_5 + 1)) L M C D F I K ⟨by omega, by omega⟩ (by show _ < _; omega)
        · skip
          have q14 : ¬ n3 ≤ i57_6 := fun z => q14 ((nI_leI (a := n3) (b := i57_6) (by omega) (by omega)).mpr z)
          refine g_aload_n X dX8_mayOf_66 rfl (j := 4) rfl ?_
          refine i_get X F 100 rfl rfl fk_X8_70 dX8_mayOf_67 rfl ?_
          refine g_iload X dX8_mayOf_70 (j := 3) rfl ?_
          refine g_iload X dX8_mayOf_72 (j := 0) rfl ?_
          refine g_iload X dX8_mayOf_74 (j := 1) rfl ?_
          refine g_callSI X (s_X8_cellOf l G F I i5_4 (by omega) (by omega) i57_6 (by omega) (by omega) i45_5 (by omega) (by omega) ) lk_X8_406 rfl rfl dX8_mayOf_76 (Nat.le_of_ble_eq_true rfl) ⟨by decide, by decide⟩ ⟨by decide, by decide⟩ (fun r15 L M hp => ?_)
          obtain ⟨C, D, F, I, K1, hr⟩ := hp
          have K := K.step K1 (by decide)
          obtain ⟨n16, hn16a, hn16b, rfl⟩ := hr
          refine g_aload_n X dX8_mayOf_79 rfl (j := 4) rfl ?_
          refine g_iload X dX8_mayOf_80 (j := 0) rfl ?_
          refine g_iload X dX8_mayOf_82 (j := 1) rfl ?_
          refine g_callVI X (s_X8_placeOf l G F I i57_6 (by omega) (by omega) i45_5 (by omega) (by omega) ) lk_X8_298 (F.1 100 rfl).2 (F.1 100 rfl).1 rfl rfl dX8_mayOf_84 (Nat.le_of_ble_eq_true rfl) ⟨by decide, by decide⟩ ⟨by decide, by decide⟩ (fun r17 L M hp => ?_)
          obtain ⟨C, D, F, I, K1, hr⟩ := hp
          have K := K.step K1 (by decide)
          rcases okp_nat hr with rfl | ⟨n18, hn18, rfl⟩
          · skip
            refine i_iast X F I 131 rfl (fun _ => rfl) dX8_mayOf_87 (vp_in_nI (by omega) (by decide)) okp_m1 (fun M C F I K1 hC => ?_)
            have K := K.step K1 (by decide)
            refine g_iinc X dX8_mayOf_88 (j := 0) rfl (v := nI (i57_6 + 1)) (nI_1 i57_6) (by decide) (lv2 := [(6, .int (nI (i57_6 + 1))), (5, .int (nI i45_5)), (3, .int o8), (4, .int (nI i5_4)), (0, .ref (a 100)), (1, .int 0), (2, .int (nI p1))]) rfl ?_
            refine g_goto X dX8_mayOf_91 (tgt := 57) (by decide) ?_
            refine g_lv [0, 1, 2, 3, 4, 5, 6] (lv2 := [(6, .int (nI (i57_6 + 1))), (5, .int (nI i45_5)), (3, .int o8), (4, .int (nI i5_4)), (0, .ref (a 100)), (1, .int 0), (2, .int (nI p1))]) rfl ?_
            exact ih57 ((i57_6 + 1)) L M C D F I K ⟨by omega, by omega⟩ (by show _ < _; omega)
          · skip
            refine i_iast X F I 131 rfl (fun _ => rfl) dX8_mayOf_87 (vp_in_nI (by omega) (by decide)) (okp_of (n := n18) (by omega)) (fun M C F I K1 hC => ?_)
            have K := K.step K1 (by decide)
            refine g_iinc X dX8_mayOf_88 (j := 0) rfl (v := nI (i57_6 + 1)) (nI_1 i57_6) (by decide) (lv2 := [(6, .int (nI (i57_6 + 1))), (5, .int (nI i45_5)), (3, .int o8), (4, .int (nI i5_4)), (0, .ref (a 100)), (1, .int 0), (2, .int (nI p1))]) rfl ?_
            refine g_goto X dX8_mayOf_91 (tgt := 57) (by decide) ?_
            refine g_lv [0, 1, 2, 3, 4, 5, 6] (lv2 := [(6, .int (nI (i57_6 + 1))), (5, .int (nI i45_5)), (3, .int o8), (4, .int (nI i5_4)), (0, .ref (a 100)), (1, .int 0), (2, .int (nI p1))]) rfl ?_
            exact ih57 ((i57_6 + 1)) L M C D F I K ⟨by omega, by omega⟩ (by show _ < _; omega)
    · skip
      refine g_if_eq X dX8_mayOf_29 (tgt := 39) (by decide) (fun q => absurd q (by decide)) (fun _ => ?_)
      refine g_iconst X dX8_mayOf_32 (v := 1) (by decide) ?_
      refine g_iload X dX8_mayOf_33 (j := 0) rfl ?_
      refine g_ishl X dX8_mayOf_35 ?_
      refine Go.gen (fun o19 => ?_)
      refine g_goto X dX8_mayOf_36 (tgt := 40) (by decide) ?_
      refine g_ior X dX8_mayOf_40 ?_
      refine Go.gen (fun o20 => ?_)
      refine g_istore_n X dX8_mayOf_41 rfl (by decide) (lv2 := [(3, .int o20), (4, .int (nI i5_4)), (0, .ref (a 100)), (1, .int 0), (2, .int (nI p1))]) rfl ?_
      refine g_iconst X dX8_mayOf_42 (v := 0) (by decide) ?_
      refine g_istore X dX8_mayOf_43 (by decide) (lv2 := [(5, .int 0), (3, .int o20), (4, .int (nI i5_4)), (0, .ref (a 100)), (1, .int 0), (2, .int (nI p1))]) rfl ?_
      refine g_lv [0, 1, 2, 3, 4, 5] (lv2 := [(5, .int 0), (3, .int o20), (4, .int (nI i5_4)), (0, .ref (a 100)), (1, .int 0), (2, .int (nI p1))]) rfl ?_
      refine i_loop (mods := [115, 120, 121, 122, 123, 124, 125, 126, 127, 128, 131]) (fun x : Nat => 17 - x) (fun x => [(5, .int (nI (x))), (3, .int o20), (4, .int (nI i5_4)), (0, .ref (a 100)), (1, .int 0), (2, .int (nI p1))]) (fun x C => 0 ≤ x ∧ x ≤ 17) (fun x L M C D F I K hP ih45 => ?_) ((0) : Nat) F I K ⟨by show _ ≤ _; omega, by show _ ≤ _; omega⟩
      obtain ⟨i45_5, rfl⟩ : ∃ z, z = x := ⟨_, rfl⟩
      obtain ⟨hi45_5a, hi45_5b⟩ := hP
      refine g_lv [0, 1, 2, 3, 4, 5] (lv2 := [(5, .int (nI i45_5)), (3, .int o20), (4, .int (nI i5_4)), (0, .ref (a 100)), (1, .int 0), (2, .int (nI p1))]) rfl ?_
      refine g_iload X dX8_mayOf_45 (j := 0) rfl ?_
      refine g_aload_n X dX8_mayOf_47 rfl (j := 3) rfl ?_
      refine g_callVI X (s_X8_hours l G F I  ) lk_X8_106 (F.1 100 rfl).2 (F.1 100 rfl).1 rfl rfl dX8_mayOf_48 (Nat.le_of_ble_eq_true rfl) ⟨by decide, by decide⟩ ⟨by decide, by decide⟩ (fun r21 L M hp => ?_)
      obtain ⟨C, D, F, I, K1, hr⟩ := hp
      have K := K.step K1 (by decide)
      obtain ⟨n22, hn22, en22, rfl⟩ := hr
      obtain rfl : n1 = n22 := ((nI_eq (by omega) (by omega)).mp (en22.symm.trans ((congrFun (K 101 (by decide)).1 0).trans en1))).symm
      refine g_icmp_gt X dX8_mayOf_51 (tgt := 100) (by decide) (fun q23 => ?_) (fun q23 => ?_)
      · skip
        have q23 : n1 < i45_5 := (nI_ltI (a := n1) (b := i45_5) (by omega) (by omega)).mp q23
        refine g_iinc X dX8_mayOf_100 (j := 2) rfl (v := nI (i5_4 + 1)) (nI_1 i5_4) (by decide) (lv2 := [(4, .int (nI (i5_4 + 1))), (5, .int (nI i45_5)), (3, .int o20), (0, .ref (a 100)), (1, .int 0), (2, .int (nI p1))]) rfl ?_
        refine g_goto X dX8_mayOf_103 (tgt := 5) (by decide) ?_
        refine g_lv [0, 2, 3, 4, 5] (lv2 := [(4, .int (nI (i5_4 + 1))), (3, .int o20), (0, .ref (a 100)), (1, .int 0), (2, .int (nI p1))]) rfl ?_
        exact ih5 ((i5_4 + 1), o20) L M C D F I K ⟨by omega, by omega⟩ (by show _ < _; omega)
      · skip
        have q23 : ¬ n1 < i45_5 := fun z => q23 ((nI_ltI (a := n1) (b := i45_5) (by omega) (by omega)).mpr z)
        refine g_iconst X dX8_mayOf_54 (v := 0) (by decide) ?_
        refine g_istore X dX8_mayOf_55 (by decide) (lv2 := [(6, .int 0), (5, .int (nI i45_5)), (3, .int o20), (4, .int (nI i5_4)), (0, .ref (a 100)), (1, .int 0), (2, .int (nI p1))]) rfl ?_
        refine g_lv [0, 1, 2, 3, 4, 5, 6] (lv2 := [(6, .int 0), (5, .int (nI i45_5)), (3, .int o20), (4, .int (nI i5_4)), (0, .ref (a 100)), (1, .int 0), (2, .int (nI p1))]) rfl ?_
        refine i_loop (mods := [115, 120, 121, 122, 123, 124, 125, 126, 127, 128, 131]) (fun x : Nat => 8 - x) (fun x => [(6, .int (nI (x))), (5, .int (nI i45_5)), (3, .int o20), (4, .int (nI i5_4)), (0, .ref (a 100)), (1, .int 0), (2, .int (nI p1))]) (fun x C => 0 ≤ x ∧ x ≤ 8) (fun x L M C D F I K hP ih57 => ?_) ((0) : Nat) F I K ⟨by show _ ≤ _; omega, by show _ ≤ _; omega⟩
        obtain ⟨i57_6, rfl⟩ : ∃ z, z = x := ⟨_, rfl⟩
        obtain ⟨hi57_6a, hi57_6b⟩ := hP
        refine g_lv [0, 1, 2, 3, 4, 5, 6] (lv2 := [(6, .int (nI i57_6)), (5, .int (nI i45_5)), (3, .int o20), (4, .int (nI i5_4)), (0, .ref (a 100)), (1, .int 0), (2, .int (nI p1))]) rfl ?_
        refine g_iload X dX8_mayOf_57 (j := 0) rfl ?_
        refine g_aload_n X dX8_mayOf_59 rfl (j := 4) rfl ?_
        refine g_callVI X (s_X8_walkers l G F I  ) lk_X8_109 (F.1 100 rfl).2 (F.1 100 rfl).1 rfl rfl dX8_mayOf_60 (Nat.le_of_ble_eq_true rfl) ⟨by decide, by decide⟩ ⟨by decide, by decide⟩ (fun r24 L M hp => ?_)
        obtain ⟨C, D, F, I, K1, hr⟩ := hp
        have K := K.step K1 (by decide)
        obtain ⟨n25, hn25, en25, rfl⟩ := hr
        obtain rfl : n3 = n25 := ((nI_eq (by omega) (by omega)).mp (en25.symm.trans ((congrFun (K 101 (by decide)).1 7).trans en3))).symm
        refine g_icmp_ge X dX8_mayOf_63 (tgt := 94) (by decide) (fun q26 => ?_) (fun q26 => ?_)
        · skip
          have q26 : n3 ≤ i57_6 := (nI_leI (a := n3) (b := i57_6) (by omega) (by omega)).mp q26
          refine g_iinc X dX8_mayOf_94 (j := 1) rfl (v := nI (i45_5 + 1)) (nI_1 i45_5) (by decide) (lv2 := [(5, .int (nI (i45_5 + 1))), (6, .int (nI i57_6)), (3, .int o20), (4, .int (nI i5_4)), (0, .ref (a 100)), (1, .int 0), (2, .int (nI p1))]) rfl ?_
          refine g_goto X dX8_mayOf_97 (tgt := 45) (by decide) ?_
          refine g_lv [0, 2, 3, 4, 5, 6] (lv2 := [(5, .int (nI (i45_5 + 1))), (3, .int o20), (4, .int (nI i5_4)), (0, .ref (a 100)), (1, .int 0), (2, .int (nI p1))]) rfl ?_
          exact ih45 ((i45_5 + 1)) L M C D F I K ⟨by omega, by omega⟩ (by show _ < _; omega)
        · skip
          have q26 : ¬ n3 ≤ i57_6 := fun z => q26 ((nI_leI (a := n3) (b := i57_6) (by omega) (by omega)).mpr z)
          refine g_aload_n X dX8_mayOf_66 rfl (j := 4) rfl ?_
          refine i_get X F 100 rfl rfl fk_X8_70 dX8_mayOf_67 rfl ?_
          refine g_iload X dX8_mayOf_70 (j := 3) rfl ?_
          refine g_iload X dX8_mayOf_72 (j := 0) rfl ?_
          refine g_iload X dX8_mayOf_74 (j := 1) rfl ?_
          refine g_callSI X (s_X8_cellOf l G F I i5_4 (by omega) (by omega) i57_6 (by omega) (by omega) i45_5 (by omega) (by omega) ) lk_X8_406 rfl rfl dX8_mayOf_76 (Nat.le_of_ble_eq_true rfl) ⟨by decide, by decide⟩ ⟨by decide, by decide⟩ (fun r27 L M hp => ?_)
          obtain ⟨C, D, F, I, K1, hr⟩ := hp
          have K := K.step K1 (by decide)
          obtain ⟨n28, hn28a, hn28b, rfl⟩ := hr
          refine g_aload_n X dX8_mayOf_79 rfl (j := 4) rfl ?_
          refine g_iload X dX8_mayOf_80 (j := 0) rfl ?_
          refine g_iload X dX8_mayOf_82 (j := 1) rfl ?_
          refine g_callVI X (s_X8_placeOf l G F I i57_6 (by omega) (by omega) i45_5 (by omega) (by omega) ) lk_X8_298 (F.1 100 rfl).2 (F.1 100 rfl).1 rfl rfl dX8_mayOf_84 (Nat.le_of_ble_eq_true rfl) ⟨by decide, by decide⟩ ⟨by decide, by decide⟩ (fun r29 L M hp => ?_)
          obtain ⟨C, D, F, I, K1, hr⟩ := hp
          have K := K.step K1 (by decide)
          rcases okp_nat hr with rfl | ⟨n30, hn30, rfl⟩
          · skip
            refine i_iast X F I 131 rfl (fun _ => rfl) dX8_mayOf_87 (vp_in_nI (by omega) (by decide)) okp_m1 (fun M C F I K1 hC => ?_)
            have K := K.step K1 (by decide)
            refine g_iinc X dX8_mayOf_88 (j := 0) rfl (v := nI (i57_6 + 1)) (nI_1 i57_6) (by decide) (lv2 := [(6, .int (nI (i57_6 + 1))), (5, .int (nI i45_5)), (3, .int o20), (4, .int (nI i5_4)), (0, .ref (a 100)), (1, .int 0), (2, .int (nI p1))]) rfl ?_
            refine g_goto X dX8_mayOf_91 (tgt := 57) (by decide) ?_
            refine g_lv [0, 1, 2, 3, 4, 5, 6] (lv2 := [(6, .int (nI (i57_6 + 1))), (5, .int (nI i45_5)), (3, .int o20), (4, .int (nI i5_4)), (0, .ref (a 100)), (1, .int 0), (2, .int (nI p1))]) rfl ?_
            exact ih57 ((i57_6 + 1)) L M C D F I K ⟨by omega, by omega⟩ (by show _ < _; omega)
          · skip
            refine i_iast X F I 131 rfl (fun _ => rfl) dX8_mayOf_87 (vp_in_nI (by omega) (by decide)) (okp_of (n := n30) (by omega)) (fun M C F I K1 hC => ?_)
            have K := K.step K1 (by decide)
            refine g_iinc X dX8_mayOf_88 (j := 0) rfl (v := nI (i57_6 + 1)) (nI_1 i57_6) (by decide) (lv2 := [(6, .int (nI (i57_6 + 1))), (5, .int (nI i45_5)), (3, .int o20), (4, .int (nI i5_4)), (0, .ref (a 100)), (1, .int 0), (2, .int (nI p1))]) rfl ?_
            refine g_goto X dX8_mayOf_91 (tgt := 57) (by decide) ?_
            refine g_lv [0, 1, 2, 3, 4, 5, 6] (lv2 := [(6, .int (nI (i57_6 + 1))), (5, .int (nI i45_5)), (3, .int o20), (4, .int (nI i5_4)), (0, .ref (a 100)), (1, .int 0), (2, .int (nI p1))]) rfl ?_
            exact ih57 ((i57_6 + 1)) L M C D F I K ⟨by omega, by omega⟩ (by show _ < _; omega)
set_option maxHeartbeats 4000000 in
set_option maxRecDepth 100000 in
theorem s_X8_askMay_0 (l : Launch) (G : va_G) {cy : Nat → ClassId} {L : List Nat} {M : Nat → va_E} {a : Nat → Nat} {act : Nat → Bool} {C0 : Nat → Nat → Int32} {D0 : Nat → Nat → Int64} {R : Nat → Nat → Option Nat} (F : WI L M a act (ent cy a C0 D0 R)) (I : Inv C0) (p1 : Int32)  : MI l G cy yX8_askMay cX8_askMay 3 (some .int) 4 0 0 [.ref (a 100), .int 0, .int p1] L M (fun r L2 M2 => ∃ C2 D2, WI L2 M2 a act (ent cy a C2 D2 R) ∧ Inv C2 ∧ Kp [100, 115, 116] C0 D0 C2 D2 ∧ (r.toInt < 0 ∨ (r = 0 ∧ (∃ n : Nat, n ≤ 6 ∧ p1 = nI n) ∧ ∃ k : Nat, k ≤ 60 ∧ k % 3 = 0 ∧ C2 137 0 = nI k ∧ seen (fun i => D2 139 (0 + i)) k))) := by
  refine MI.of (own := RX8) rfl (by decide) (Nat.le_of_ble_eq_true rfl) ?_
  intro p e s m below meth c A X hrt hnm
  obtain ⟨C, D, hC0, hD0, F, I, K⟩ : ∃ C D, C = C0 ∧ D = D0 ∧ WI L M a act (ent cy a C D R) ∧ Inv C ∧ Kp [100, 115, 116] C0 D0 C D := ⟨C0, D0, rfl, rfl, F, I, Kp.rf⟩
  obtain ⟨n1, hn1, en1⟩ := rg_nat ((show okw 0 (C 101 0) from I 101 0).1 rfl) (by decide)
  rw [hC0] at en1
  obtain ⟨n2, hn2, en2⟩ := rg_nat ((show okw 4 (C 101 4) from I 101 4).2.2.2.1 rfl) (by decide)
  rw [hC0] at en2
  obtain ⟨n3, hn3, en3⟩ := rg_nat ((show okw 7 (C 101 7) from I 101 7).2.2.2.2.1 rfl) (by decide)
  rw [hC0] at en3
  refine g_aload_n X dX8_askMay_0 rfl (j := 0) rfl ?_
  refine g_iload_n X dX8_askMay_1 rfl (j := 2) rfl ?_
  refine g_i2l X dX8_askMay_2 rfl ?_
  refine g_callVI X (s_X8_isPost l G F I ((Int32.toInt64 p1)) ) lk_X8_112 (F.1 100 rfl).2 (F.1 100 rfl).1 rfl rfl dX8_askMay_3 (Nat.le_of_ble_eq_true rfl) ⟨by decide, by decide⟩ ⟨by decide, by decide⟩ (fun r4 L M hp => ?_)
  obtain ⟨C, D, F, I, K1, hr⟩ := hp
  have K := K.step K1 (by decide)
  rcases hr with rfl | ⟨rfl, hl5a, hl5b⟩
  · skip
    refine g_if_eq X dX8_askMay_6 (tgt := 17) (by decide) (fun _ => ?_) (fun q => absurd (by decide) q)
    refine g_bipush X dX8_askMay_17 (v := -2) (by decide) ?_
    exact g_iret X hrt dX8_askMay_19 (by decide) (by decide) ⟨C, D, F, I, K, Or.inl (by decide)⟩
  · skip
    rw [Jvm.Kit.i64_of_i32] at hl5a hl5b
    obtain ⟨n6, hn6a, hn6b, en6⟩ := nI_ofInt (x := p1) (lo := 0) (hi := 6) (by omega) (by omega) (by decide)
    subst en6
    refine g_if_eq X dX8_askMay_6 (tgt := 17) (by decide) (fun q => absurd q (by decide)) (fun _ => ?_)
    refine g_aload_n X dX8_askMay_9 rfl (j := 0) rfl ?_
    refine g_iload_n X dX8_askMay_10 rfl (j := 1) rfl ?_
    refine g_callVI X (s_X8_askSeen_0 l G F I  ) lk_X8_410 (F.1 100 rfl).2 (F.1 100 rfl).1 rfl rfl dX8_askMay_11 (Nat.le_of_ble_eq_true rfl) ⟨by decide, by decide⟩ ⟨by decide, by decide⟩ (fun r7 L M hp => ?_)
    obtain ⟨C, D, F, I, K1, hr⟩ := hp
    have K := K.step K1 (by decide)
    rcases hr with hz8 | ⟨rfl, gsn⟩
    · skip
      refine g_goto X dX8_askMay_14 (tgt := 19) (by decide) ?_
      exact g_iret X hrt dX8_askMay_19 (by decide) (by decide) ⟨C, D, F, I, K, Or.inl hz8⟩
    · skip
      rw [(K 137 (by decide)).1, (K 139 (by decide)).2] at gsn
      refine g_goto X dX8_askMay_14 (tgt := 19) (by decide) ?_
      exact g_iret X hrt dX8_askMay_19 (by decide) (by decide) ⟨C, D, F, I, K, Or.inr ⟨rfl, ⟨n6, by omega, rfl⟩, by rw [(K 137 (by decide)).1, (K 139 (by decide)).2]; exact gsn⟩⟩
set_option maxHeartbeats 4000000 in
set_option maxRecDepth 100000 in
theorem s_X8_numberAt_1 (l : Launch) (G : va_G) {cy : Nat → ClassId} {L : List Nat} {M : Nat → va_E} {a : Nat → Nat} {act : Nat → Bool} {C0 : Nat → Nat → Int32} {D0 : Nat → Nat → Int64} {R : Nat → Nat → Option Nat} (F : WI L M a act (ent cy a C0 D0 R)) (I : Inv C0) (p1 : Nat) (hp1a : 0 ≤ p1) (hp1b : p1 ≤ 59)  : MJ l G cy yX8_numberAt cX8_numberAt 3 (some .long) 0 0 0 [.ref (a 100), .int 1, .int (nI p1)] L M (fun r L2 M2 => ∃ C2 D2, WI L2 M2 a act (ent cy a C2 D2 R) ∧ Inv C2 ∧ Kp [] C0 D0 C2 D2 ∧ r = D2 139 (60 + p1)) := by
  refine MJ.of (own := RX8) rfl (by decide) (Nat.le_of_ble_eq_true rfl) ?_
  intro p e s m below meth c A X hrt hnm
  obtain ⟨C, D, hC0, hD0, F, I, K⟩ : ∃ C D, C = C0 ∧ D = D0 ∧ WI L M a act (ent cy a C D R) ∧ Inv C ∧ Kp [] C0 D0 C D := ⟨C0, D0, rfl, rfl, F, I, Kp.rf⟩
  refine g_aload_n X dX8_numberAt_0 rfl (j := 0) rfl ?_
  refine i_get X F 100 rfl rfl fk_X8_82 dX8_numberAt_1 rfl ?_
  refine g_bipush X dX8_numberAt_4 (v := 60) (by decide) ?_
  refine g_iload_n X dX8_numberAt_6 rfl (j := 1) rfl ?_
  refine g_imul X dX8_numberAt_7 ?_
  refine Go.top (v := .int 60) (by decide) ?_
  refine g_iload_n X dX8_numberAt_8 rfl (j := 2) rfl ?_
  refine g_iadd X dX8_numberAt_9 ?_
  refine Go.top (v := .int (nI (60 + p1))) (congrArg Value.int (nI_add 60 p1)) ?_
  refine i_lald X F 139 rfl rfl dX8_numberAt_10 (vp_in_nI (by omega) (by decide)) (v := D 139 (60 + p1)) (by rw [nI_clamp (by omega)]) ?_
  exact g_lret X hrt dX8_numberAt_11 (by decide) (by decide) ⟨C, D, F, I, K, rfl⟩
set_option maxHeartbeats 4000000 in
set_option maxRecDepth 100000 in
theorem s_X8_askSeen_1 (l : Launch) (G : va_G) {cy : Nat → ClassId} {L : List Nat} {M : Nat → va_E} {a : Nat → Nat} {act : Nat → Bool} {C0 : Nat → Nat → Int32} {D0 : Nat → Nat → Int64} {R : Nat → Nat → Option Nat} (F : WI L M a act (ent cy a C0 D0 R)) (I : Inv C0)   : MI l G cy yX8_askSeen cX8_askSeen 3 (some .int) 3 0 0 [.ref (a 100), .int 1] L M (fun r L2 M2 => ∃ C2 D2, WI L2 M2 a act (ent cy a C2 D2 R) ∧ Inv C2 ∧ Kp [100, 115, 116] C0 D0 C2 D2 ∧ (r.toInt < 0 ∨ (r = 0 ∧ ∃ k : Nat, k ≤ 60 ∧ k % 3 = 0 ∧ C2 137 1 = nI k ∧ seen (fun i => D2 139 (60 + i)) k))) := by
  refine MI.of (own := RX8) rfl (by decide) (Nat.le_of_ble_eq_true rfl) ?_
  intro p e s m below meth c A X hrt hnm
  obtain ⟨C, D, hC0, hD0, F, I, K⟩ : ∃ C D, C = C0 ∧ D = D0 ∧ WI L M a act (ent cy a C D R) ∧ Inv C ∧ Kp [100, 115, 116] C0 D0 C D := ⟨C0, D0, rfl, rfl, F, I, Kp.rf⟩
  obtain ⟨n1, hn1, en1⟩ := rg_nat ((show okw 0 (C 101 0) from I 101 0).1 rfl) (by decide)
  rw [hC0] at en1
  obtain ⟨n2, hn2, en2⟩ := rg_nat ((show okw 4 (C 101 4) from I 101 4).2.2.2.1 rfl) (by decide)
  rw [hC0] at en2
  obtain ⟨n3, hn3, en3⟩ := rg_nat ((show okw 7 (C 101 7) from I 101 7).2.2.2.2.1 rfl) (by decide)
  rw [hC0] at en3
  rcases rgm_nat (I 137 1) with em | ⟨mk, hmk, em⟩
  · skip
    rw [hC0] at em
    refine g_iload_n X dX8_askSeen_0 rfl (j := 1) rfl ?_
    refine g_callSI X (s_X8_isSlot_1 l G F I  ) lk_X8_394 rfl rfl dX8_askSeen_1 (Nat.le_of_ble_eq_true rfl) ⟨by decide, by decide⟩ ⟨by decide, by decide⟩ (fun r4 L M hp => ?_)
    obtain ⟨C, D, F, I, K1, hr⟩ := hp
    have K := K.step K1 (by decide)
    subst hr
    refine g_if_eq X dX8_askSeen_4 (tgt := 14) (by decide) (fun q => absurd q (by decide)) (fun _ => ?_)
    refine g_aload_n X dX8_askSeen_7 rfl (j := 0) rfl ?_
    refine g_callVI X (s_X8_isHeath l G F I  ) lk_X8_102 (F.1 100 rfl).2 (F.1 100 rfl).1 rfl rfl dX8_askSeen_8 (Nat.le_of_ble_eq_true rfl) ⟨by decide, by decide⟩ ⟨by decide, by decide⟩ (fun r5 L M hp => ?_)
    obtain ⟨C, D, F, I, K1, hr⟩ := hp
    have K := K.step K1 (by decide)
    rcases hr with rfl | rfl
    · skip
      refine g_if_ne X dX8_askSeen_11 (tgt := 17) (by decide) (fun q => absurd (by decide) q) (fun _ => ?_)
      refine g_bipush X dX8_askSeen_14 (v := -2) (by decide) ?_
      exact g_iret X hrt dX8_askSeen_16 (by decide) (by decide) ⟨C, D, F, I, K, Or.inl (by decide)⟩
    · skip
      refine g_if_ne X dX8_askSeen_11 (tgt := 17) (by decide) (fun _ => ?_) (fun q => absurd q (by decide))
      refine g_aload_n X dX8_askSeen_17 rfl (j := 0) rfl ?_
      refine i_get X F 100 rfl rfl fk_X8_76 dX8_askSeen_18 rfl ?_
      refine g_iload_n X dX8_askSeen_21 rfl (j := 1) rfl ?_
      refine i_iald X F 137 rfl rfl dX8_askSeen_22 (vp_in_iff.mpr (by decide)) (v := -1) (by exact (congrFun (K 137 (by decide)).1 (1)).trans em) ?_
      refine g_iconst X dX8_askSeen_23 (v := -1) (by decide) ?_
      refine g_icmp_ne X dX8_askSeen_24 (tgt := 30) (by decide) (fun q => absurd (by decide) q) (fun _ => ?_)
      refine g_bipush X dX8_askSeen_27 (v := -6) (by decide) ?_
      exact g_iret X hrt dX8_askSeen_29 (by decide) (by decide) ⟨C, D, F, I, K, Or.inl (by decide)⟩
  · skip
    rw [hC0] at em
    refine g_iload_n X dX8_askSeen_0 rfl (j := 1) rfl ?_
    refine g_callSI X (s_X8_isSlot_1 l G F I  ) lk_X8_394 rfl rfl dX8_askSeen_1 (Nat.le_of_ble_eq_true rfl) ⟨by decide, by decide⟩ ⟨by decide, by decide⟩ (fun r6 L M hp => ?_)
    obtain ⟨C, D, F, I, K1, hr⟩ := hp
    have K := K.step K1 (by decide)
    subst hr
    refine g_if_eq X dX8_askSeen_4 (tgt := 14) (by decide) (fun q => absurd q (by decide)) (fun _ => ?_)
    refine g_aload_n X dX8_askSeen_7 rfl (j := 0) rfl ?_
    refine g_callVI X (s_X8_isHeath l G F I  ) lk_X8_102 (F.1 100 rfl).2 (F.1 100 rfl).1 rfl rfl dX8_askSeen_8 (Nat.le_of_ble_eq_true rfl) ⟨by decide, by decide⟩ ⟨by decide, by decide⟩ (fun r7 L M hp => ?_)
    obtain ⟨C, D, F, I, K1, hr⟩ := hp
    have K := K.step K1 (by decide)
    rcases hr with rfl | rfl
    · skip
      refine g_if_ne X dX8_askSeen_11 (tgt := 17) (by decide) (fun q => absurd (by decide) q) (fun _ => ?_)
      refine g_bipush X dX8_askSeen_14 (v := -2) (by decide) ?_
      exact g_iret X hrt dX8_askSeen_16 (by decide) (by decide) ⟨C, D, F, I, K, Or.inl (by decide)⟩
    · skip
      refine g_if_ne X dX8_askSeen_11 (tgt := 17) (by decide) (fun _ => ?_) (fun q => absurd q (by decide))
      refine g_aload_n X dX8_askSeen_17 rfl (j := 0) rfl ?_
      refine i_get X F 100 rfl rfl fk_X8_76 dX8_askSeen_18 rfl ?_
      refine g_iload_n X dX8_askSeen_21 rfl (j := 1) rfl ?_
      refine i_iald X F 137 rfl rfl dX8_askSeen_22 (vp_in_iff.mpr (by decide)) (v := nI mk) (by exact (congrFun (K 137 (by decide)).1 (1)).trans em) ?_
      refine g_iconst X dX8_askSeen_23 (v := -1) (by decide) ?_
      refine g_icmp_ne X dX8_askSeen_24 (tgt := 30) (by decide) (fun _ => ?_) (fun q => absurd q (nI_nm1 (by omega)))
      refine g_aload_n X dX8_askSeen_30 rfl (j := 0) rfl ?_
      refine i_get X F 100 rfl rfl fk_X8_76 dX8_askSeen_31 rfl ?_
      refine g_iload_n X dX8_askSeen_34 rfl (j := 1) rfl ?_
      refine i_iald X F 137 rfl rfl dX8_askSeen_35 (vp_in_iff.mpr (by decide)) (v := nI mk) (by exact (congrFun (K 137 (by decide)).1 (1)).trans em) ?_
      refine g_iconst X dX8_askSeen_36 (v := 3) (by decide) ?_
      refine g_irem X dX8_askSeen_37 (by decide) ?_
      refine Go.top (v := .int (nI (mk % 3))) (congrArg Value.int (pk_rem (a := mk) (d := 3) (by omega) (by omega) (by omega))) ?_
      obtain ⟨n9, en9⟩ : ∃ z : Nat, z = mk % 3 := ⟨_, rfl⟩
      refine Go.top (v := .int (nI n9)) (by rw [en9]) ?_
      have hn9 : n9 < 3 := by rw [en9]; exact Nat.mod_lt _ (by omega)
      refine g_if_eq X dX8_askSeen_38 (tgt := 44) (by decide) (fun q10 => ?_) (fun q10 => ?_)
      · skip
        have q10 : n9 = 0 := (nI_eq (a := n9) (b := 0) (by omega) (by omega)).mp q10
        refine g_iconst X dX8_askSeen_44 (v := 0) (by decide) ?_
        refine g_istore_n X dX8_askSeen_45 rfl (by decide) (lv2 := [(2, .int 0), (0, .ref (a 100)), (1, .int 1)]) rfl ?_
        refine g_lv [0, 1, 2] (lv2 := [(2, .int 0), (0, .ref (a 100)), (1, .int 1)]) rfl ?_
        refine i_loop (mods := [100, 115, 116]) (fun x : Nat => 60 - x) (fun x => [(2, .int (nI (x))), (0, .ref (a 100)), (1, .int 1)]) (fun x C => 0 ≤ x ∧ x ≤ 60 ∧ (x % 3 = 0) ∧ (seen (fun i => D0 139 (60 + i)) (x)) ∧ (x ≤ mk)) (fun x L M C D F I K hP ih46 => ?_) ((0) : Nat) F I K ⟨by show _ ≤ _; omega, by show _ ≤ _; omega, (by decide), seen_0, (Nat.zero_le _)⟩
        obtain ⟨i46_2, rfl⟩ : ∃ z, z = x := ⟨_, rfl⟩
        obtain ⟨hi46_2a, hi46_2b, hm3, hsee, hisz⟩ := hP
        refine g_lv [0, 1, 2] (lv2 := [(2, .int (nI i46_2)), (0, .ref (a 100)), (1, .int 1)]) rfl ?_
        refine g_iload_n X dX8_askSeen_46 rfl (j := 0) rfl ?_
        refine g_aload_n X dX8_askSeen_47 rfl (j := 1) rfl ?_
        refine i_get X F 100 rfl rfl fk_X8_76 dX8_askSeen_48 rfl ?_
        refine g_iload_n X dX8_askSeen_51 rfl (j := 2) rfl ?_
        refine i_iald X F 137 rfl rfl dX8_askSeen_52 (vp_in_iff.mpr (by decide)) (v := nI mk) (by exact (congrFun (K 137 (by decide)).1 (1)).trans em) ?_
        refine g_icmp_ge X dX8_askSeen_53 (tgt := 123) (by decide) (fun q11 => ?_) (fun q11 => ?_)
        · skip
          have q11 : mk ≤ i46_2 := (nI_leI (a := mk) (b := i46_2) (by omega) (by omega)).mp q11
          refine g_aload_n X dX8_askSeen_123 rfl (j := 1) rfl ?_
          refine g_callVV X (s_X8_asItIs l G F I  ) lk_X8_286 (F.1 100 rfl).2 (F.1 100 rfl).1 rfl rfl dX8_askSeen_124 (Nat.le_of_ble_eq_true rfl) ⟨by decide, by decide⟩ ⟨by decide, by decide⟩ (fun L M hp => ?_)
          obtain ⟨C, D, F, I, K1, hr⟩ := hp
          have K := K.step K1 (by decide)
          refine g_iconst X dX8_askSeen_127 (v := 0) (by decide) ?_
          exact g_iret X hrt dX8_askSeen_128 (by decide) (by decide) ⟨C, D, F, I, K, Or.inr ⟨rfl, mk, by omega, by omega, (congrFun (K 137 (by decide)).1 1).trans em, by rw [(K 139 (by decide)).2, show mk = i46_2 by omega]; exact hsee⟩⟩
        · skip
          have q11 : ¬ mk ≤ i46_2 := fun z => q11 ((nI_leI (a := mk) (b := i46_2) (by omega) (by omega)).mpr z)
          refine g_aload_n X dX8_askSeen_56 rfl (j := 1) rfl ?_
          refine g_aload_n X dX8_askSeen_57 rfl (j := 1) rfl ?_
          refine g_iload_n X dX8_askSeen_58 rfl (j := 2) rfl ?_
          refine g_iload_n X dX8_askSeen_59 rfl (j := 0) rfl ?_
          refine g_callVJ X (s_X8_numberAt_1 l G F I i46_2 (by omega) (by omega) ) lk_X8_397 (F.1 100 rfl).2 (F.1 100 rfl).1 rfl rfl dX8_askSeen_60 (Nat.le_of_ble_eq_true rfl) ⟨by decide, by decide⟩ ⟨by decide, by decide⟩ (fun r12 L M hp => ?_)
          obtain ⟨C, D, F, I, K1, hr⟩ := hp
          have K := K.step K1 (by decide)
          obtain rfl : r12 = (D0 139 (60 + i46_2)) := hr.trans (by rw [(K 139 (by decide)).2])
          refine g_callVI X (s_X8_isWalker l G F I ((D0 139 (60 + i46_2))) ) lk_X8_254 (F.1 100 rfl).2 (F.1 100 rfl).1 rfl rfl dX8_askSeen_63 (Nat.le_of_ble_eq_true rfl) ⟨by decide, by decide⟩ ⟨by decide, by decide⟩ (fun r13 L M hp => ?_)
          obtain ⟨C, D, F, I, K1, hr⟩ := hp
          have K := K.step K1 (by decide)
          rcases hr with rfl | ⟨rfl, hl14a, hl14b⟩
          · skip
            refine g_if_eq X dX8_askSeen_66 (tgt := 114) (by decide) (fun _ => ?_) (fun q => absurd (by decide) q)
            refine g_bipush X dX8_askSeen_114 (v := -2) (by decide) ?_
            exact g_iret X hrt dX8_askSeen_116 (by decide) (by decide) ⟨C, D, F, I, K, Or.inl (by decide)⟩
          · skip
            refine g_if_eq X dX8_askSeen_66 (tgt := 114) (by decide) (fun q => absurd q (by decide)) (fun _ => ?_)
            refine g_aload_n X dX8_askSeen_69 rfl (j := 1) rfl ?_
            refine g_aload_n X dX8_askSeen_70 rfl (j := 1) rfl ?_
            refine g_iload_n X dX8_askSeen_71 rfl (j := 2) rfl ?_
            refine g_iload_n X dX8_askSeen_72 rfl (j := 0) rfl ?_
            refine g_iconst X dX8_askSeen_73 (v := 1) (by decide) ?_
            refine g_iadd X dX8_askSeen_74 ?_
            refine Go.top (v := .int (nI (i46_2 + 1))) (congrArg Value.int (nI_add i46_2 1)) ?_
            refine g_callVJ X (s_X8_numberAt_1 l G F I (i46_2 + 1) (by omega) (by omega) ) lk_X8_397 (F.1 100 rfl).2 (F.1 100 rfl).1 rfl rfl dX8_askSeen_75 (Nat.le_of_ble_eq_true rfl) ⟨by decide, by decide⟩ ⟨by decide, by decide⟩ (fun r15 L M hp => ?_)
            obtain ⟨C, D, F, I, K1, hr⟩ := hp
            have K := K.step K1 (by decide)
            obtain rfl : r15 = (D0 139 (60 + (i46_2 + 1))) := hr.trans (by rw [(K 139 (by decide)).2])
            refine g_callVI X (s_X8_isHour l G F I ((D0 139 (60 + (i46_2 + 1)))) ) lk_X8_295 (F.1 100 rfl).2 (F.1 100 rfl).1 rfl rfl dX8_askSeen_78 (Nat.le_of_ble_eq_true rfl) ⟨by decide, by decide⟩ ⟨by decide, by decide⟩ (fun r16 L M hp => ?_)
            obtain ⟨C, D, F, I, K1, hr⟩ := hp
            have K := K.step K1 (by decide)
            rcases hr with rfl | ⟨rfl, hl17a, hl17b⟩
            · skip
              refine g_if_eq X dX8_askSeen_81 (tgt := 114) (by decide) (fun _ => ?_) (fun q => absurd (by decide) q)
              refine g_bipush X dX8_askSeen_114 (v := -2) (by decide) ?_
              exact g_iret X hrt dX8_askSeen_116 (by decide) (by decide) ⟨C, D, F, I, K, Or.inl (by decide)⟩
            · skip
              refine g_if_eq X dX8_askSeen_81 (tgt := 114) (by decide) (fun q => absurd q (by decide)) (fun _ => ?_)
              refine g_aload_n X dX8_askSeen_84 rfl (j := 1) rfl ?_
              refine g_iload_n X dX8_askSeen_85 rfl (j := 2) rfl ?_
              refine g_iload_n X dX8_askSeen_86 rfl (j := 0) rfl ?_
              refine g_iconst X dX8_askSeen_87 (v := 2) (by decide) ?_
              refine g_iadd X dX8_askSeen_88 ?_
              refine Go.top (v := .int (nI (i46_2 + 2))) (congrArg Value.int (nI_add i46_2 2)) ?_
              refine g_callVJ X (s_X8_numberAt_1 l G F I (i46_2 + 2) (by omega) (by omega) ) lk_X8_397 (F.1 100 rfl).2 (F.1 100 rfl).1 rfl rfl dX8_askSeen_89 (Nat.le_of_ble_eq_true rfl) ⟨by decide, by decide⟩ ⟨by decide, by decide⟩ (fun r18 L M hp => ?_)
              obtain ⟨C, D, F, I, K1, hr⟩ := hp
              have K := K.step K1 (by decide)
              obtain rfl : r18 = (D0 139 (60 + (i46_2 + 2))) := hr.trans (by rw [(K 139 (by decide)).2])
              refine g_ldc2 X (v := -1) wd928 dX8_askSeen_92 ?_
              refine g_lcmp X dX8_askSeen_95 ?_
              refine g_if_eq X dX8_askSeen_96 (tgt := 117) (by decide) (fun q19 => ?_) (fun q19 => ?_)
              · skip
                have q19t : ((D0 139 (60 + (i46_2 + 2)))) = (-1 : Int64) := (lg_cmp_eq _ _).mp q19
                have q19k1 : (-1 : Int64).toInt = -1 := (by decide)
                refine g_iinc X dX8_askSeen_117 (j := 0) rfl (v := nI (i46_2 + 3)) (nI_add i46_2 3) (by decide) (lv2 := [(2, .int (nI (i46_2 + 3))), (0, .ref (a 100)), (1, .int 1)]) rfl ?_
                refine g_goto X dX8_askSeen_120 (tgt := 46) (by decide) ?_
                refine g_lv [0, 1, 2] (lv2 := [(2, .int (nI (i46_2 + 3))), (0, .ref (a 100)), (1, .int 1)]) rfl ?_
                exact ih46 ((i46_2 + 3)) L M C D F I K ⟨by omega, by omega, (by show _ % 3 = 0; omega), (seen_st (d := fun i => D0 139 (60 + i)) (by omega) hsee (by show 0 ≤ (D0 139 (60 + i46_2)).toInt; omega) (by show (D0 139 (60 + i46_2)).toInt ≤ 7; omega) (by show 0 ≤ (D0 139 (60 + (i46_2 + 1))).toInt; omega) (by show (D0 139 (60 + (i46_2 + 1))).toInt ≤ 16; omega)), (by show _ ≤ mk; omega)⟩ (by show _ < _; omega)
              · skip
                have q19t : ¬ ((D0 139 (60 + (i46_2 + 2)))) = (-1 : Int64) := fun z => q19 ((lg_cmp_eq _ _).mpr z)
                have q19k1 : (-1 : Int64).toInt = -1 := (by decide)
                refine g_aload_n X dX8_askSeen_99 rfl (j := 1) rfl ?_
                refine g_aload_n X dX8_askSeen_100 rfl (j := 1) rfl ?_
                refine g_iload_n X dX8_askSeen_101 rfl (j := 2) rfl ?_
                refine g_iload_n X dX8_askSeen_102 rfl (j := 0) rfl ?_
                refine g_iconst X dX8_askSeen_103 (v := 2) (by decide) ?_
                refine g_iadd X dX8_askSeen_104 ?_
                refine Go.top (v := .int (nI (i46_2 + 2))) (congrArg Value.int (nI_add i46_2 2)) ?_
                refine g_callVJ X (s_X8_numberAt_1 l G F I (i46_2 + 2) (by omega) (by omega) ) lk_X8_397 (F.1 100 rfl).2 (F.1 100 rfl).1 rfl rfl dX8_askSeen_105 (Nat.le_of_ble_eq_true rfl) ⟨by decide, by decide⟩ ⟨by decide, by decide⟩ (fun r20 L M hp => ?_)
                obtain ⟨C, D, F, I, K1, hr⟩ := hp
                have K := K.step K1 (by decide)
                obtain rfl : r20 = (D0 139 (60 + (i46_2 + 2))) := hr.trans (by rw [(K 139 (by decide)).2])
                refine g_callVI X (s_X8_isPlace l G F I ((D0 139 (60 + (i46_2 + 2)))) ) lk_X8_305 (F.1 100 rfl).2 (F.1 100 rfl).1 rfl rfl dX8_askSeen_108 (Nat.le_of_ble_eq_true rfl) ⟨by decide, by decide⟩ ⟨by decide, by decide⟩ (fun r21 L M hp => ?_)
                obtain ⟨C, D, F, I, K1, hr⟩ := hp
                have K := K.step K1 (by decide)
                rcases hr with rfl | rfl
                · skip
                  refine g_if_ne X dX8_askSeen_111 (tgt := 117) (by decide) (fun q => absurd (by decide) q) (fun _ => ?_)
                  refine g_bipush X dX8_askSeen_114 (v := -2) (by decide) ?_
                  exact g_iret X hrt dX8_askSeen_116 (by decide) (by decide) ⟨C, D, F, I, K, Or.inl (by decide)⟩
                · skip
                  refine g_if_ne X dX8_askSeen_111 (tgt := 117) (by decide) (fun _ => ?_) (fun q => absurd q (by decide))
                  refine g_iinc X dX8_askSeen_117 (j := 0) rfl (v := nI (i46_2 + 3)) (nI_add i46_2 3) (by decide) (lv2 := [(2, .int (nI (i46_2 + 3))), (0, .ref (a 100)), (1, .int 1)]) rfl ?_
                  refine g_goto X dX8_askSeen_120 (tgt := 46) (by decide) ?_
                  refine g_lv [0, 1, 2] (lv2 := [(2, .int (nI (i46_2 + 3))), (0, .ref (a 100)), (1, .int 1)]) rfl ?_
                  exact ih46 ((i46_2 + 3)) L M C D F I K ⟨by omega, by omega, (by show _ % 3 = 0; omega), (seen_st (d := fun i => D0 139 (60 + i)) (by omega) hsee (by show 0 ≤ (D0 139 (60 + i46_2)).toInt; omega) (by show (D0 139 (60 + i46_2)).toInt ≤ 7; omega) (by show 0 ≤ (D0 139 (60 + (i46_2 + 1))).toInt; omega) (by show (D0 139 (60 + (i46_2 + 1))).toInt ≤ 16; omega)), (by show _ ≤ mk; omega)⟩ (by show _ < _; omega)
      · skip
        have q10 : ¬ n9 = 0 := fun z => q10 ((nI_eq (a := n9) (b := 0) (by omega) (by omega)).mpr z)
        refine g_bipush X dX8_askSeen_41 (v := -2) (by decide) ?_
        exact g_iret X hrt dX8_askSeen_43 (by decide) (by decide) ⟨C, D, F, I, K, Or.inl (by decide)⟩
set_option maxHeartbeats 4000000 in
set_option maxRecDepth 100000 in
theorem s_X8_isSeen_1 (l : Launch) (G : va_G) {cy : Nat → ClassId} {L : List Nat} {M : Nat → va_E} {a : Nat → Nat} {act : Nat → Bool} {C0 : Nat → Nat → Int32} {D0 : Nat → Nat → Int64} {R : Nat → Nat → Option Nat} (F : WI L M a act (ent cy a C0 D0 R)) (I : Inv C0)  (gsn : ∃ k : Nat, k ≤ 60 ∧ k % 3 = 0 ∧ C0 137 1 = nI k ∧ seen (fun i => D0 139 (60 + i)) k) : MI l G cy yX8_isSeen cX8_isSeen 3 (some .boolean) 6 0 0 [.ref (a 100), .int 1] L M (fun r L2 M2 => ∃ C2 D2, WI L2 M2 a act (ent cy a C2 D2 R) ∧ Inv C2 ∧ Kp [120, 121, 122, 123, 124, 125, 126, 127, 128] C0 D0 C2 D2 ∧ (r = 0 ∨ r = 1)) := by
  refine MI.of (own := RX8) rfl (by decide) (Nat.le_of_ble_eq_true rfl) ?_
  intro p e s m below meth c A X hrt hnm
  obtain ⟨C, D, hC0, hD0, F, I, K⟩ : ∃ C D, C = C0 ∧ D = D0 ∧ WI L M a act (ent cy a C D R) ∧ Inv C ∧ Kp [120, 121, 122, 123, 124, 125, 126, 127, 128] C0 D0 C D := ⟨C0, D0, rfl, rfl, F, I, Kp.rf⟩
  obtain ⟨n1, hn1, en1⟩ := rg_nat ((show okw 0 (C 101 0) from I 101 0).1 rfl) (by decide)
  rw [hC0] at en1
  obtain ⟨n2, hn2, en2⟩ := rg_nat ((show okw 4 (C 101 4) from I 101 4).2.2.2.1 rfl) (by decide)
  rw [hC0] at en2
  obtain ⟨n3, hn3, en3⟩ := rg_nat ((show okw 7 (C 101 7) from I 101 7).2.2.2.2.1 rfl) (by decide)
  rw [hC0] at en3
  obtain ⟨kz, hkz, hk3, ekz, hsn⟩ := gsn
  refine g_aload_n X dX8_isSeen_0 rfl (j := 0) rfl ?_
  refine g_callVV X (s_X8_goAll l G F I  ) lk_X8_289 (F.1 100 rfl).2 (F.1 100 rfl).1 rfl rfl dX8_isSeen_1 (Nat.le_of_ble_eq_true rfl) ⟨by decide, by decide⟩ ⟨by decide, by decide⟩ (fun L M hp => ?_)
  obtain ⟨C, D, F, I, K1, hr⟩ := hp
  have K := K.step K1 (by decide)
  refine g_iconst X dX8_isSeen_4 (v := 0) (by decide) ?_
  refine g_istore_n X dX8_isSeen_5 rfl (by decide) (lv2 := [(2, .int 0), (0, .ref (a 100)), (1, .int 1)]) rfl ?_
  refine g_lv [0, 1, 2] (lv2 := [(2, .int 0), (0, .ref (a 100)), (1, .int 1)]) rfl ?_
  refine i_loop (mods := [120, 121, 122, 123, 124, 125, 126, 127, 128]) (fun x : Nat => 60 - x) (fun x => [(2, .int (nI (x))), (0, .ref (a 100)), (1, .int 1)]) (fun x C => 0 ≤ x ∧ x ≤ 60 ∧ (x % 3 = 0)) (fun x L M C D F I K hP ih6 => ?_) ((0) : Nat) F I K ⟨by show _ ≤ _; omega, by show _ ≤ _; omega, (by decide)⟩
  obtain ⟨i6_2, rfl⟩ : ∃ z, z = x := ⟨_, rfl⟩
  obtain ⟨hi6_2a, hi6_2b, hm3⟩ := hP
  refine g_lv [0, 1, 2] (lv2 := [(2, .int (nI i6_2)), (0, .ref (a 100)), (1, .int 1)]) rfl ?_
  refine g_iload_n X dX8_isSeen_6 rfl (j := 0) rfl ?_
  refine g_aload_n X dX8_isSeen_7 rfl (j := 1) rfl ?_
  refine i_get X F 100 rfl rfl fk_X8_76 dX8_isSeen_8 rfl ?_
  refine g_iload_n X dX8_isSeen_11 rfl (j := 2) rfl ?_
  refine i_iald X F 137 rfl rfl dX8_isSeen_12 (vp_in_iff.mpr (by decide)) (v := nI kz) (by exact (congrFun (K 137 (by decide)).1 (1)).trans ekz) ?_
  refine g_icmp_ge X dX8_isSeen_13 (tgt := 57) (by decide) (fun q4 => ?_) (fun q4 => ?_)
  · skip
    have q4 : kz ≤ i6_2 := (nI_leI (a := kz) (b := i6_2) (by omega) (by omega)).mp q4
    refine g_iconst X dX8_isSeen_57 (v := 1) (by decide) ?_
    exact g_zret X hrt rfl dX8_isSeen_58 (by decide) (by decide) ⟨C, D, F, I, K, Or.inr rfl⟩
  · skip
    have q4 : ¬ kz ≤ i6_2 := fun z => q4 ((nI_leI (a := kz) (b := i6_2) (by omega) (by omega)).mpr z)
    refine g_aload_n X dX8_isSeen_16 rfl (j := 1) rfl ?_
    refine g_aload_n X dX8_isSeen_17 rfl (j := 1) rfl ?_
    refine g_iload_n X dX8_isSeen_18 rfl (j := 2) rfl ?_
    refine g_iload_n X dX8_isSeen_19 rfl (j := 0) rfl ?_
    refine g_callVJ X (s_X8_numberAt_1 l G F I i6_2 (by omega) (by omega) ) lk_X8_397 (F.1 100 rfl).2 (F.1 100 rfl).1 rfl rfl dX8_isSeen_20 (Nat.le_of_ble_eq_true rfl) ⟨by decide, by decide⟩ ⟨by decide, by decide⟩ (fun r5 L M hp => ?_)
    obtain ⟨C, D, F, I, K1, hr⟩ := hp
    have K := K.step K1 (by decide)
    obtain rfl : r5 = (D0 139 (60 + i6_2)) := hr.trans (by rw [(K 139 (by decide)).2])
    have hi3 := hsn (i6_2 / 3) (by omega)
    rw [show 3 * (i6_2 / 3) = i6_2 by omega] at hi3
    obtain ⟨n6, hn6, en6⟩ := l2i_nat (x := (D0 139 (60 + i6_2))) (hi := 7) hi3.1.1 (by have z := hi3.1.2; exact z) (by decide)
    refine g_l2i X dX8_isSeen_23 (v := nI n6) en6 ?_
    refine g_aload_n X dX8_isSeen_24 rfl (j := 1) rfl ?_
    refine g_iload_n X dX8_isSeen_25 rfl (j := 2) rfl ?_
    refine g_iload_n X dX8_isSeen_26 rfl (j := 0) rfl ?_
    refine g_iconst X dX8_isSeen_27 (v := 1) (by decide) ?_
    refine g_iadd X dX8_isSeen_28 ?_
    refine Go.top (v := .int (nI (i6_2 + 1))) (congrArg Value.int (nI_add i6_2 1)) ?_
    refine g_callVJ X (s_X8_numberAt_1 l G F I (i6_2 + 1) (by omega) (by omega) ) lk_X8_397 (F.1 100 rfl).2 (F.1 100 rfl).1 rfl rfl dX8_isSeen_29 (Nat.le_of_ble_eq_true rfl) ⟨by decide, by decide⟩ ⟨by decide, by decide⟩ (fun r7 L M hp => ?_)
    obtain ⟨C, D, F, I, K1, hr⟩ := hp
    have K := K.step K1 (by decide)
    obtain rfl : r7 = (D0 139 (60 + (i6_2 + 1))) := hr.trans (by rw [(K 139 (by decide)).2])
    have hi3 := hsn (i6_2 / 3) (by omega)
    rw [show 3 * (i6_2 / 3) = i6_2 by omega] at hi3
    obtain ⟨n8, hn8, en8⟩ := l2i_nat (x := (D0 139 (60 + (i6_2 + 1)))) (hi := 16) hi3.2.1 (by have z := hi3.2.2; exact z) (by decide)
    refine g_l2i X dX8_isSeen_32 (v := nI n8) en8 ?_
    refine g_callVI X (s_X8_placeOf l G F I n6 (by omega) (by omega) n8 (by omega) (by omega) ) lk_X8_298 (F.1 100 rfl).2 (F.1 100 rfl).1 rfl rfl dX8_isSeen_33 (Nat.le_of_ble_eq_true rfl) ⟨by decide, by decide⟩ ⟨by decide, by decide⟩ (fun r9 L M hp => ?_)
    obtain ⟨C, D, F, I, K1, hr⟩ := hp
    have K := K.step K1 (by decide)
    rcases okp_nat hr with rfl | ⟨n10, hn10, rfl⟩
    · skip
      refine g_i2l X dX8_isSeen_36 rfl ?_
      refine Go.top (v := .long (-1)) (by decide) ?_
      refine g_aload_n X dX8_isSeen_37 rfl (j := 1) rfl ?_
      refine g_iload_n X dX8_isSeen_38 rfl (j := 2) rfl ?_
      refine g_iload_n X dX8_isSeen_39 rfl (j := 0) rfl ?_
      refine g_iconst X dX8_isSeen_40 (v := 2) (by decide) ?_
      refine g_iadd X dX8_isSeen_41 ?_
      refine Go.top (v := .int (nI (i6_2 + 2))) (congrArg Value.int (nI_add i6_2 2)) ?_
      refine g_callVJ X (s_X8_numberAt_1 l G F I (i6_2 + 2) (by omega) (by omega) ) lk_X8_397 (F.1 100 rfl).2 (F.1 100 rfl).1 rfl rfl dX8_isSeen_42 (Nat.le_of_ble_eq_true rfl) ⟨by decide, by decide⟩ ⟨by decide, by decide⟩ (fun r11 L M hp => ?_)
      obtain ⟨C, D, F, I, K1, hr⟩ := hp
      have K := K.step K1 (by decide)
      obtain rfl : r11 = (D0 139 (60 + (i6_2 + 2))) := hr.trans (by rw [(K 139 (by decide)).2])
      refine g_lcmp X dX8_isSeen_45 ?_
      refine g_if_eq X dX8_isSeen_46 (tgt := 51) (by decide) (fun q12 => ?_) (fun q12 => ?_)
      · skip
        have q12t : (-1 : Int64) = ((D0 139 (60 + (i6_2 + 2)))) := (lg_cmp_eq _ _).mp q12
        have q12k1 : (-1 : Int64).toInt = -1 := (by decide)
        refine g_iinc X dX8_isSeen_51 (j := 0) rfl (v := nI (i6_2 + 3)) (nI_add i6_2 3) (by decide) (lv2 := [(2, .int (nI (i6_2 + 3))), (0, .ref (a 100)), (1, .int 1)]) rfl ?_
        refine g_goto X dX8_isSeen_54 (tgt := 6) (by decide) ?_
        refine g_lv [0, 1, 2] (lv2 := [(2, .int (nI (i6_2 + 3))), (0, .ref (a 100)), (1, .int 1)]) rfl ?_
        exact ih6 ((i6_2 + 3)) L M C D F I K ⟨by omega, by omega, (by show _ % 3 = 0; omega)⟩ (by show _ < _; omega)
      · skip
        have q12t : ¬ (-1 : Int64) = ((D0 139 (60 + (i6_2 + 2)))) := fun z => q12 ((lg_cmp_eq _ _).mpr z)
        have q12k1 : (-1 : Int64).toInt = -1 := (by decide)
        refine g_iconst X dX8_isSeen_49 (v := 0) (by decide) ?_
        exact g_zret X hrt rfl dX8_isSeen_50 (by decide) (by decide) ⟨C, D, F, I, K, Or.inl rfl⟩
    · skip
      refine g_i2l X dX8_isSeen_36 rfl ?_
      refine g_aload_n X dX8_isSeen_37 rfl (j := 1) rfl ?_
      refine g_iload_n X dX8_isSeen_38 rfl (j := 2) rfl ?_
      refine g_iload_n X dX8_isSeen_39 rfl (j := 0) rfl ?_
      refine g_iconst X dX8_isSeen_40 (v := 2) (by decide) ?_
      refine g_iadd X dX8_isSeen_41 ?_
      refine Go.top (v := .int (nI (i6_2 + 2))) (congrArg Value.int (nI_add i6_2 2)) ?_
      refine g_callVJ X (s_X8_numberAt_1 l G F I (i6_2 + 2) (by omega) (by omega) ) lk_X8_397 (F.1 100 rfl).2 (F.1 100 rfl).1 rfl rfl dX8_isSeen_42 (Nat.le_of_ble_eq_true rfl) ⟨by decide, by decide⟩ ⟨by decide, by decide⟩ (fun r13 L M hp => ?_)
      obtain ⟨C, D, F, I, K1, hr⟩ := hp
      have K := K.step K1 (by decide)
      obtain rfl : r13 = (D0 139 (60 + (i6_2 + 2))) := hr.trans (by rw [(K 139 (by decide)).2])
      refine g_lcmp X dX8_isSeen_45 ?_
      refine g_if_eq X dX8_isSeen_46 (tgt := 51) (by decide) (fun q14 => ?_) (fun q14 => ?_)
      · skip
        have q14t : ((Int32.toInt64 (nI n10))) = ((D0 139 (60 + (i6_2 + 2)))) := (lg_cmp_eq _ _).mp q14
        have q14wa := Jvm.Kit.i64_of_i32 (nI n10)
        rw [nI_toInt (by omega)] at q14wa
        refine g_iinc X dX8_isSeen_51 (j := 0) rfl (v := nI (i6_2 + 3)) (nI_add i6_2 3) (by decide) (lv2 := [(2, .int (nI (i6_2 + 3))), (0, .ref (a 100)), (1, .int 1)]) rfl ?_
        refine g_goto X dX8_isSeen_54 (tgt := 6) (by decide) ?_
        refine g_lv [0, 1, 2] (lv2 := [(2, .int (nI (i6_2 + 3))), (0, .ref (a 100)), (1, .int 1)]) rfl ?_
        exact ih6 ((i6_2 + 3)) L M C D F I K ⟨by omega, by omega, (by show _ % 3 = 0; omega)⟩ (by show _ < _; omega)
      · skip
        have q14t : ¬ ((Int32.toInt64 (nI n10))) = ((D0 139 (60 + (i6_2 + 2)))) := fun z => q14 ((lg_cmp_eq _ _).mpr z)
        have q14wa := Jvm.Kit.i64_of_i32 (nI n10)
        rw [nI_toInt (by omega)] at q14wa
        refine g_iconst X dX8_isSeen_49 (v := 0) (by decide) ?_
        exact g_zret X hrt rfl dX8_isSeen_50 (by decide) (by decide) ⟨C, D, F, I, K, Or.inl rfl⟩
set_option maxHeartbeats 4000000 in
set_option maxRecDepth 100000 in
theorem s_X8_mayOf_1 (l : Launch) (G : va_G) {cy : Nat → ClassId} {L : List Nat} {M : Nat → va_E} {a : Nat → Nat} {act : Nat → Bool} {C0 : Nat → Nat → Int32} {D0 : Nat → Nat → Int64} {R : Nat → Nat → Option Nat} (F : WI L M a act (ent cy a C0 D0 R)) (I : Inv C0) (p1 : Nat) (hp1a : 0 ≤ p1) (hp1b : p1 ≤ 6) (gsn : ∃ k : Nat, k ≤ 60 ∧ k % 3 = 0 ∧ C0 137 1 = nI k ∧ seen (fun i => D0 139 (60 + i)) k) : MI l G cy yX8_mayOf cX8_mayOf 7 (some .int) 7 0 0 [.ref (a 100), .int 1, .int (nI p1)] L M (fun r L2 M2 => ∃ C2 D2, WI L2 M2 a act (ent cy a C2 D2 R) ∧ Inv C2 ∧ Kp [115, 120, 121, 122, 123, 124, 125, 126, 127, 128, 131] C0 D0 C2 D2 ∧ True) := by
  refine MI.of (own := RX8) rfl (by decide) (Nat.le_of_ble_eq_true rfl) ?_
  intro p e s m below meth c A X hrt hnm
  obtain ⟨C, D, hC0, hD0, F, I, K⟩ : ∃ C D, C = C0 ∧ D = D0 ∧ WI L M a act (ent cy a C D R) ∧ Inv C ∧ Kp [115, 120, 121, 122, 123, 124, 125, 126, 127, 128, 131] C0 D0 C D := ⟨C0, D0, rfl, rfl, F, I, Kp.rf⟩
  obtain ⟨n1, hn1, en1⟩ := rg_nat ((show okw 0 (C 101 0) from I 101 0).1 rfl) (by decide)
  rw [hC0] at en1
  obtain ⟨n2, hn2, en2⟩ := rg_nat ((show okw 4 (C 101 4) from I 101 4).2.2.2.1 rfl) (by decide)
  rw [hC0] at en2
  obtain ⟨n3, hn3, en3⟩ := rg_nat ((show okw 7 (C 101 7) from I 101 7).2.2.2.2.1 rfl) (by decide)
  rw [hC0] at en3
  refine g_iconst X dX8_mayOf_0 (v := 0) (by decide) ?_
  refine g_istore_n X dX8_mayOf_1 rfl (by decide) (lv2 := [(3, .int 0), (0, .ref (a 100)), (1, .int 1), (2, .int (nI p1))]) rfl ?_
  refine g_iconst X dX8_mayOf_2 (v := 0) (by decide) ?_
  refine g_istore X dX8_mayOf_3 (by decide) (lv2 := [(4, .int 0), (3, .int 0), (0, .ref (a 100)), (1, .int 1), (2, .int (nI p1))]) rfl ?_
  refine g_lv [0, 1, 2, 3, 4] (lv2 := [(4, .int 0), (3, .int 0), (0, .ref (a 100)), (1, .int 1), (2, .int (nI p1))]) rfl ?_
  refine i_loop (mods := [115, 120, 121, 122, 123, 124, 125, 126, 127, 128, 131]) (fun x : Nat × Int32 => 4 - x.1) (fun x => [(4, .int (nI (x.1))), (3, .int (x.2)), (0, .ref (a 100)), (1, .int 1), (2, .int (nI p1))]) (fun x C => 0 ≤ x.1 ∧ x.1 ≤ 4) (fun x L M C D F I K hP ih5 => ?_) ((0, 0) : Nat × Int32) F I K ⟨by show _ ≤ _; omega, by show _ ≤ _; omega⟩
  rcases x with ⟨i5_4, v5_3⟩
  obtain ⟨hi5_4a, hi5_4b⟩ := hP
  refine g_lv [0, 1, 2, 3, 4] (lv2 := [(4, .int (nI i5_4)), (3, .int v5_3), (0, .ref (a 100)), (1, .int 1), (2, .int (nI p1))]) rfl ?_
  refine g_iload X dX8_mayOf_5 (j := 0) rfl ?_
  refine g_aload_n X dX8_mayOf_7 rfl (j := 2) rfl ?_
  refine g_iload_n X dX8_mayOf_8 rfl (j := 4) rfl ?_
  refine g_callVI X (s_X8_roadMany l G F I p1 (by omega) (by omega) ) lk_X8_245 (F.1 100 rfl).2 (F.1 100 rfl).1 rfl rfl dX8_mayOf_9 (Nat.le_of_ble_eq_true rfl) ⟨by decide, by decide⟩ ⟨by decide, by decide⟩ (fun r4 L M hp => ?_)
  obtain ⟨C, D, F, I, K1, hr⟩ := hp
  have K := K.step K1 (by decide)
  obtain ⟨n5, hn5, en5, rfl⟩ := hr
  have fn5 : C0 101 (14 + 6 * p1) = nI n5 := (congrFun (K 101 (by decide)).1 _).symm.trans en5
  refine g_icmp_ge X dX8_mayOf_12 (tgt := 106) (by decide) (fun q6 => ?_) (fun q6 => ?_)
  · skip
    have q6 : n5 ≤ i5_4 := (nI_leI (a := n5) (b := i5_4) (by omega) (by omega)).mp q6
    refine g_iload_n X dX8_mayOf_106 rfl (j := 1) rfl ?_
    exact g_iret X hrt dX8_mayOf_107 (by decide) (by decide) ⟨C, D, F, I, K, trivial⟩
  · skip
    have q6 : ¬ n5 ≤ i5_4 := fun z => q6 ((nI_leI (a := n5) (b := i5_4) (by omega) (by omega)).mpr z)
    refine g_aload_n X dX8_mayOf_15 rfl (j := 2) rfl ?_
    refine i_get X F 100 rfl rfl fk_X8_34 dX8_mayOf_16 rfl ?_
    refine g_iload_n X dX8_mayOf_19 rfl (j := 4) rfl ?_
    refine g_iload X dX8_mayOf_20 (j := 0) rfl ?_
    refine i_iast X F I 115 rfl (fun _ => rfl) dX8_mayOf_22 (vp_in_nI (by omega) (by decide)) (rg_of (n := i5_4) (by omega) (by omega) (by omega)) (fun M C F I K1 hC => ?_)
    have K := K.step K1 (by decide)
    refine g_iload_n X dX8_mayOf_23 rfl (j := 1) rfl ?_
    refine g_aload_n X dX8_mayOf_24 rfl (j := 2) rfl ?_
    refine g_iload_n X dX8_mayOf_25 rfl (j := 3) rfl ?_
    refine g_callVI X (s_X8_isSeen_1 l G F I  (by rw [(K 137 (by decide)).1, (K 139 (by decide)).2]; exact gsn)) lk_X8_403 (F.1 100 rfl).2 (F.1 100 rfl).1 rfl rfl dX8_mayOf_26 (Nat.le_of_ble_eq_true rfl) ⟨by decide, by decide⟩ ⟨by decide, by decide⟩ (fun r7 L M hp => ?_)
    obtain ⟨C, D, F, I, K1, hr⟩ := hp
    have K := K.step K1 (by decide)
    rcases hr with rfl | rfl
    · skip
      refine g_if_eq X dX8_mayOf_29 (tgt := 39) (by decide) (fun _ => ?_) (fun q => absurd (by decide) q)
      refine g_iconst X dX8_mayOf_39 (v := 0) (by decide) ?_
      refine g_ior X dX8_mayOf_40 ?_
      refine Go.gen (fun o8 => ?_)
      refine g_istore_n X dX8_mayOf_41 rfl (by decide) (lv2 := [(3, .int o8), (4, .int (nI i5_4)), (0, .ref (a 100)), (1, .int 1), (2, .int (nI p1))]) rfl ?_
      refine g_iconst X dX8_mayOf_42 (v := 0) (by decide) ?_
      refine g_istore X dX8_mayOf_43 (by decide) (lv2 := [(5, .int 0), (3, .int o8), (4, .int (nI i5_4)), (0, .ref (a 100)), (1, .int 1), (2, .int (nI p1))]) rfl ?_
      refine g_lv [0, 1, 2, 3, 4, 5] (lv2 := [(5, .int 0), (3, .int o8), (4, .int (nI i5_4)), (0, .ref (a 100)), (1, .int 1), (2, .int (nI p1))]) rfl ?_
      refine i_loop (mods := [115, 120, 121, 122, 123, 124, 125, 126, 127, 128, 131]) (fun x : Nat => 17 - x) (fun x => [(5, .int (nI (x))), (3, .int o8), (4, .int (nI i5_4)), (0, .ref (a 100)), (1, .int 1), (2, .int (nI p1))]) (fun x C => 0 ≤ x ∧ x ≤ 17) (fun x L M C D F I K hP ih45 => ?_) ((0) : Nat) F I K ⟨by show _ ≤ _; omega, by show _ ≤ _; omega⟩
      obtain ⟨i45_5, rfl⟩ : ∃ z, z = x := ⟨_, rfl⟩
      obtain ⟨hi45_5a, hi45_5b⟩ := hP
      refine g_lv [0, 1, 2, 3, 4, 5] (lv2 := [(5, .int (nI i45_5)), (3, .int o8), (4, .int (nI i5_4)), (0, .ref (a 100)), (1, .int 1), (2, .int (nI p1))]) rfl ?_
      refine g_iload X dX8_mayOf_45 (j := 0) rfl ?_
      refine g_aload_n X dX8_mayOf_47 rfl (j := 3) rfl ?_
      refine g_callVI X (s_X8_hours l G F I  ) lk_X8_106 (F.1 100 rfl).2 (F.1 100 rfl).1 rfl rfl dX8_mayOf_48 (Nat.le_of_ble_eq_true rfl) ⟨by decide, by decide⟩ ⟨by decide, by decide⟩ (fun r9 L M hp => ?_)
      obtain ⟨C, D, F, I, K1, hr⟩ := hp
      have K := K.step K1 (by decide)
      obtain ⟨n10, hn10, en10, rfl⟩ := hr
      obtain rfl : n1 = n10 := ((nI_eq (by omega) (by omega)).mp (en10.symm.trans ((congrFun (K 101 (by decide)).1 0).trans en1))).symm
      refine g_icmp_gt X dX8_mayOf_51 (tgt := 100) (by decide) (fun q11 => ?_) (fun q11 => ?_)
      · skip
        have q11 : n1 < i45_5 := (nI_ltI (a := n1) (b := i45_5) (by omega) (by omega)).mp q11
        refine g_iinc X dX8_mayOf_100 (j := 2) rfl (v := nI (i5_4 + 1)) (nI_1 i5_4) (by decide) (lv2 := [(4, .int (nI (i5_4 + 1))), (5, .int (nI i45_5)), (3, .int o8), (0, .ref (a 100)), (1, .int 1), (2, .int (nI p1))]) rfl ?_
        refine g_goto X dX8_mayOf_103 (tgt := 5) (by decide) ?_
        refine g_lv [0, 2, 3, 4, 5] (lv2 := [(4, .int (nI (i5_4 + 1))), (3, .int o8), (0, .ref (a 100)), (1, .int 1), (2, .int (nI p1))]) rfl ?_
        exact ih5 ((i5_4 + 1), o8) L M C D F I K ⟨by omega, by omega⟩ (by show _ < _; omega)
      · skip
        have q11 : ¬ n1 < i45_5 := fun z => q11 ((nI_ltI (a := n1) (b := i45_5) (by omega) (by omega)).mpr z)
        refine g_iconst X dX8_mayOf_54 (v := 0) (by decide) ?_
        refine g_istore X dX8_mayOf_55 (by decide) (lv2 := [(6, .int 0), (5, .int (nI i45_5)), (3, .int o8), (4, .int (nI i5_4)), (0, .ref (a 100)), (1, .int 1), (2, .int (nI p1))]) rfl ?_
        refine g_lv [0, 1, 2, 3, 4, 5, 6] (lv2 := [(6, .int 0), (5, .int (nI i45_5)), (3, .int o8), (4, .int (nI i5_4)), (0, .ref (a 100)), (1, .int 1), (2, .int (nI p1))]) rfl ?_
        refine i_loop (mods := [115, 120, 121, 122, 123, 124, 125, 126, 127, 128, 131]) (fun x : Nat => 8 - x) (fun x => [(6, .int (nI (x))), (5, .int (nI i45_5)), (3, .int o8), (4, .int (nI i5_4)), (0, .ref (a 100)), (1, .int 1), (2, .int (nI p1))]) (fun x C => 0 ≤ x ∧ x ≤ 8) (fun x L M C D F I K hP ih57 => ?_) ((0) : Nat) F I K ⟨by show _ ≤ _; omega, by show _ ≤ _; omega⟩
        obtain ⟨i57_6, rfl⟩ : ∃ z, z = x := ⟨_, rfl⟩
        obtain ⟨hi57_6a, hi57_6b⟩ := hP
        refine g_lv [0, 1, 2, 3, 4, 5, 6] (lv2 := [(6, .int (nI i57_6)), (5, .int (nI i45_5)), (3, .int o8), (4, .int (nI i5_4)), (0, .ref (a 100)), (1, .int 1), (2, .int (nI p1))]) rfl ?_
        refine g_iload X dX8_mayOf_57 (j := 0) rfl ?_
        refine g_aload_n X dX8_mayOf_59 rfl (j := 4) rfl ?_
        refine g_callVI X (s_X8_walkers l G F I  ) lk_X8_109 (F.1 100 rfl).2 (F.1 100 rfl).1 rfl rfl dX8_mayOf_60 (Nat.le_of_ble_eq_true rfl) ⟨by decide, by decide⟩ ⟨by decide, by decide⟩ (fun r12 L M hp => ?_)
        obtain ⟨C, D, F, I, K1, hr⟩ := hp
        have K := K.step K1 (by decide)
        obtain ⟨n13, hn13, en13, rfl⟩ := hr
        obtain rfl : n3 = n13 := ((nI_eq (by omega) (by omega)).mp (en13.symm.trans ((congrFun (K 101 (by decide)).1 7).trans en3))).symm
        refine g_icmp_ge X dX8_mayOf_63 (tgt := 94) (by decide) (fun q14 => ?_) (fun q14 => ?_)
        · skip
          have q14 : n3 ≤ i57_6 := (nI_leI (a := n3) (b := i57_6) (by omega) (by omega)).mp q14
          refine g_iinc X dX8_mayOf_94 (j := 1) rfl (v := nI (i45_5 + 1)) (nI_1 i45_5) (by decide) (lv2 := [(5, .int (nI (i45_5 + 1))), (6, .int (nI i57_6)), (3, .int o8), (4, .int (nI i5_4)), (0, .ref (a 100)), (1, .int 1), (2, .int (nI p1))]) rfl ?_
          refine g_goto X dX8_mayOf_97 (tgt := 45) (by decide) ?_
          refine g_lv [0, 2, 3, 4, 5, 6] (lv2 := [(5, .int (nI (i45_5 + 1))), (3, .int o8), (4, .int (nI i5_4)), (0, .ref (a 100)), (1, .int 1), (2, .int (nI p1))]) rfl ?_
          exact ih45 ((i45_5 + 1)) L M C D F I K ⟨by omega, by omega⟩ (by show _ < _; omega)
        · skip
          have q14 : ¬ n3 ≤ i57_6 := fun z => q14 ((nI_leI (a := n3) (b := i57_6) (by omega) (by omega)).mpr z)
          refine g_aload_n X dX8_mayOf_66 rfl (j := 4) rfl ?_
          refine i_get X F 100 rfl rfl fk_X8_70 dX8_mayOf_67 rfl ?_
          refine g_iload X dX8_mayOf_70 (j := 3) rfl ?_
          refine g_iload X dX8_mayOf_72 (j := 0) rfl ?_
          refine g_iload X dX8_mayOf_74 (j := 1) rfl ?_
          refine g_callSI X (s_X8_cellOf l G F I i5_4 (by omega) (by omega) i57_6 (by omega) (by omega) i45_5 (by omega) (by omega) ) lk_X8_406 rfl rfl dX8_mayOf_76 (Nat.le_of_ble_eq_true rfl) ⟨by decide, by decide⟩ ⟨by decide, by decide⟩ (fun r15 L M hp => ?_)
          obtain ⟨C, D, F, I, K1, hr⟩ := hp
          have K := K.step K1 (by decide)
          obtain ⟨n16, hn16a, hn16b, rfl⟩ := hr
          refine g_aload_n X dX8_mayOf_79 rfl (j := 4) rfl ?_
          refine g_iload X dX8_mayOf_80 (j := 0) rfl ?_
          refine g_iload X dX8_mayOf_82 (j := 1) rfl ?_
          refine g_callVI X (s_X8_placeOf l G F I i57_6 (by omega) (by omega) i45_5 (by omega) (by omega) ) lk_X8_298 (F.1 100 rfl).2 (F.1 100 rfl).1 rfl rfl dX8_mayOf_84 (Nat.le_of_ble_eq_true rfl) ⟨by decide, by decide⟩ ⟨by decide, by decide⟩ (fun r17 L M hp => ?_)
          obtain ⟨C, D, F, I, K1, hr⟩ := hp
          have K := K.step K1 (by decide)
          rcases okp_nat hr with rfl | ⟨n18, hn18, rfl⟩
          · skip
            refine i_iast X F I 131 rfl (fun _ => rfl) dX8_mayOf_87 (vp_in_nI (by omega) (by decide)) okp_m1 (fun M C F I K1 hC => ?_)
            have K := K.step K1 (by decide)
            refine g_iinc X dX8_mayOf_88 (j := 0) rfl (v := nI (i57_6 + 1)) (nI_1 i57_6) (by decide) (lv2 := [(6, .int (nI (i57_6 + 1))), (5, .int (nI i45_5)), (3, .int o8), (4, .int (nI i5_4)), (0, .ref (a 100)), (1, .int 1), (2, .int (nI p1))]) rfl ?_
            refine g_goto X dX8_mayOf_91 (tgt := 57) (by decide) ?_
            refine g_lv [0, 1, 2, 3, 4, 5, 6] (lv2 := [(6, .int (nI (i57_6 + 1))), (5, .int (nI i45_5)), (3, .int o8), (4, .int (nI i5_4)), (0, .ref (a 100)), (1, .int 1), (2, .int (nI p1))]) rfl ?_
            exact ih57 ((i57_6 + 1)) L M C D F I K ⟨by omega, by omega⟩ (by show _ < _; omega)
          · skip
            refine i_iast X F I 131 rfl (fun _ => rfl) dX8_mayOf_87 (vp_in_nI (by omega) (by decide)) (okp_of (n := n18) (by omega)) (fun M C F I K1 hC => ?_)
            have K := K.step K1 (by decide)
            refine g_iinc X dX8_mayOf_88 (j := 0) rfl (v := nI (i57_6 + 1)) (nI_1 i57_6) (by decide) (lv2 := [(6, .int (nI (i57_6 + 1))), (5, .int (nI i45_5)), (3, .int o8), (4, .int (nI i5_4)), (0, .ref (a 100)), (1, .int 1), (2, .int (nI p1))]) rfl ?_
            refine g_goto X dX8_mayOf_91 (tgt := 57) (by decide) ?_
            refine g_lv [0, 1, 2, 3, 4, 5, 6] (lv2 := [(6, .int (nI (i57_6 + 1))), (5, .int (nI i45_5)), (3, .int o8), (4, .int (nI i5_4)), (0, .ref (a 100)), (1, .int 1), (2, .int (nI p1))]) rfl ?_
            exact ih57 ((i57_6 + 1)) L M C D F I K ⟨by omega, by omega⟩ (by show _ < _; omega)
    · skip
      refine g_if_eq X dX8_mayOf_29 (tgt := 39) (by decide) (fun q => absurd q (by decide)) (fun _ => ?_)
      refine g_iconst X dX8_mayOf_32 (v := 1) (by decide) ?_
      refine g_iload X dX8_mayOf_33 (j := 0) rfl ?_
      refine g_ishl X dX8_mayOf_35 ?_
      refine Go.gen (fun o19 => ?_)
      refine g_goto X dX8_mayOf_36 (tgt := 40) (by decide) ?_
      refine g_ior X dX8_mayOf_40 ?_
      refine Go.gen (fun o20 => ?_)
      refine g_istore_n X dX8_mayOf_41 rfl (by decide) (lv2 := [(3, .int o20), (4, .int (nI i5_4)), (0, .ref (a 100)), (1, .int 1), (2, .int (nI p1))]) rfl ?_
      refine g_iconst X dX8_mayOf_42 (v := 0) (by decide) ?_
      refine g_istore X dX8_mayOf_43 (by decide) (lv2 := [(5, .int 0), (3, .int o20), (4, .int (nI i5_4)), (0, .ref (a 100)), (1, .int 1), (2, .int (nI p1))]) rfl ?_
      refine g_lv [0, 1, 2, 3, 4, 5] (lv2 := [(5, .int 0), (3, .int o20), (4, .int (nI i5_4)), (0, .ref (a 100)), (1, .int 1), (2, .int (nI p1))]) rfl ?_
      refine i_loop (mods := [115, 120, 121, 122, 123, 124, 125, 126, 127, 128, 131]) (fun x : Nat => 17 - x) (fun x => [(5, .int (nI (x))), (3, .int o20), (4, .int (nI i5_4)), (0, .ref (a 100)), (1, .int 1), (2, .int (nI p1))]) (fun x C => 0 ≤ x ∧ x ≤ 17) (fun x L M C D F I K hP ih45 => ?_) ((0) : Nat) F I K ⟨by show _ ≤ _; omega, by show _ ≤ _; omega⟩
      obtain ⟨i45_5, rfl⟩ : ∃ z, z = x := ⟨_, rfl⟩
      obtain ⟨hi45_5a, hi45_5b⟩ := hP
      refine g_lv [0, 1, 2, 3, 4, 5] (lv2 := [(5, .int (nI i45_5)), (3, .int o20), (4, .int (nI i5_4)), (0, .ref (a 100)), (1, .int 1), (2, .int (nI p1))]) rfl ?_
      refine g_iload X dX8_mayOf_45 (j := 0) rfl ?_
      refine g_aload_n X dX8_mayOf_47 rfl (j := 3) rfl ?_
      refine g_callVI X (s_X8_hours l G F I  ) lk_X8_106 (F.1 100 rfl).2 (F.1 100 rfl).1 rfl rfl dX8_mayOf_48 (Nat.le_of_ble_eq_true rfl) ⟨by decide, by decide⟩ ⟨by decide, by decide⟩ (fun r21 L M hp => ?_)
      obtain ⟨C, D, F, I, K1, hr⟩ := hp
      have K := K.step K1 (by decide)
      obtain ⟨n22, hn22, en22, rfl⟩ := hr
      obtain rfl : n1 = n22 := ((nI_eq (by omega) (by omega)).mp (en22.symm.trans ((congrFun (K 101 (by decide)).1 0).trans en1))).symm
      refine g_icmp_gt X dX8_mayOf_51 (tgt := 100) (by decide) (fun q23 => ?_) (fun q23 => ?_)
      · skip
        have q23 : n1 < i45_5 := (nI_ltI (a := n1) (b := i45_5) (by omega) (by omega)).mp q23
        refine g_iinc X dX8_mayOf_100 (j := 2) rfl (v := nI (i5_4 + 1)) (nI_1 i5_4) (by decide) (lv2 := [(4, .int (nI (i5_4 + 1))), (5, .int (nI i45_5)), (3, .int o20), (0, .ref (a 100)), (1, .int 1), (2, .int (nI p1))]) rfl ?_
        refine g_goto X dX8_mayOf_103 (tgt := 5) (by decide) ?_
        refine g_lv [0, 2, 3, 4, 5] (lv2 := [(4, .int (nI (i5_4 + 1))), (3, .int o20), (0, .ref (a 100)), (1, .int 1), (2, .int (nI p1))]) rfl ?_
        exact ih5 ((i5_4 + 1), o20) L M C D F I K ⟨by omega, by omega⟩ (by show _ < _; omega)
      · skip
        have q23 : ¬ n1 < i45_5 := fun z => q23 ((nI_ltI (a := n1) (b := i45_5) (by omega) (by omega)).mpr z)
        refine g_iconst X dX8_mayOf_54 (v := 0) (by decide) ?_
        refine g_istore X dX8_mayOf_55 (by decide) (lv2 := [(6, .int 0), (5, .int (nI i45_5)), (3, .int o20), (4, .int (nI i5_4)), (0, .ref (a 100)), (1, .int 1), (2, .int (nI p1))]) rfl ?_
        refine g_lv [0, 1, 2, 3, 4, 5, 6] (lv2 := [(6, .int 0), (5, .int (nI i45_5)), (3, .int o20), (4, .int (nI i5_4)), (0, .ref (a 100)), (1, .int 1), (2, .int (nI p1))]) rfl ?_
        refine i_loop (mods := [115, 120, 121, 122, 123, 124, 125, 126, 127, 128, 131]) (fun x : Nat => 8 - x) (fun x => [(6, .int (nI (x))), (5, .int (nI i45_5)), (3, .int o20), (4, .int (nI i5_4)), (0, .ref (a 100)), (1, .int 1), (2, .int (nI p1))]) (fun x C => 0 ≤ x ∧ x ≤ 8) (fun x L M C D F I K hP ih57 => ?_) ((0) : Nat) F I K ⟨by show _ ≤ _; omega, by show _ ≤ _; omega⟩
        obtain ⟨i57_6, rfl⟩ : ∃ z, z = x := ⟨_, rfl⟩
        obtain ⟨hi57_6a, hi57_6b⟩ := hP
        refine g_lv [0, 1, 2, 3, 4, 5, 6] (lv2 := [(6, .int (nI i57_6)), (5, .int (nI i45_5)), (3, .int o20), (4, .int (nI i5_4)), (0, .ref (a 100)), (1, .int 1), (2, .int (nI p1))]) rfl ?_
        refine g_iload X dX8_mayOf_57 (j := 0) rfl ?_
        refine g_aload_n X dX8_mayOf_59 rfl (j := 4) rfl ?_
        refine g_callVI X (s_X8_walkers l G F I  ) lk_X8_109 (F.1 100 rfl).2 (F.1 100 rfl).1 rfl rfl dX8_mayOf_60 (Nat.le_of_ble_eq_true rfl) ⟨by decide, by decide⟩ ⟨by decide, by decide⟩ (fun r24 L M hp => ?_)
        obtain ⟨C, D, F, I, K1, hr⟩ := hp
        have K := K.step K1 (by decide)
        obtain ⟨n25, hn25, en25, rfl⟩ := hr
        obtain rfl : n3 = n25 := ((nI_eq (by omega) (by omega)).mp (en25.symm.trans ((congrFun (K 101 (by decide)).1 7).trans en3))).symm
        refine g_icmp_ge X dX8_mayOf_63 (tgt := 94) (by decide) (fun q26 => ?_) (fun q26 => ?_)
        · skip
          have q26 : n3 ≤ i57_6 := (nI_leI (a := n3) (b := i57_6) (by omega) (by omega)).mp q26
          refine g_iinc X dX8_mayOf_94 (j := 1) rfl (v := nI (i45_5 + 1)) (nI_1 i45_5) (by decide) (lv2 := [(5, .int (nI (i45_5 + 1))), (6, .int (nI i57_6)), (3, .int o20), (4, .int (nI i5_4)), (0, .ref (a 100)), (1, .int 1), (2, .int (nI p1))]) rfl ?_
          refine g_goto X dX8_mayOf_97 (tgt := 45) (by decide) ?_
          refine g_lv [0, 2, 3, 4, 5, 6] (lv2 := [(5, .int (nI (i45_5 + 1))), (3, .int o20), (4, .int (nI i5_4)), (0, .ref (a 100)), (1, .int 1), (2, .int (nI p1))]) rfl ?_
          exact ih45 ((i45_5 + 1)) L M C D F I K ⟨by omega, by omega⟩ (by show _ < _; omega)
        · skip
          have q26 : ¬ n3 ≤ i57_6 := fun z => q26 ((nI_leI (a := n3) (b := i57_6) (by omega) (by omega)).mpr z)
          refine g_aload_n X dX8_mayOf_66 rfl (j := 4) rfl ?_
          refine i_get X F 100 rfl rfl fk_X8_70 dX8_mayOf_67 rfl ?_
          refine g_iload X dX8_mayOf_70 (j := 3) rfl ?_
          refine g_iload X dX8_mayOf_72 (j := 0) rfl ?_
          refine g_iload X dX8_mayOf_74 (j := 1) rfl ?_
          refine g_callSI X (s_X8_cellOf l G F I i5_4 (by omega) (by omega) i57_6 (by omega) (by omega) i45_5 (by omega) (by omega) ) lk_X8_406 rfl rfl dX8_mayOf_76 (Nat.le_of_ble_eq_true rfl) ⟨by decide, by decide⟩ ⟨by decide, by decide⟩ (fun r27 L M hp => ?_)
          obtain ⟨C, D, F, I, K1, hr⟩ := hp
          have K := K.step K1 (by decide)
          obtain ⟨n28, hn28a, hn28b, rfl⟩ := hr
          refine g_aload_n X dX8_mayOf_79 rfl (j := 4) rfl ?_
          refine g_iload X dX8_mayOf_80 (j := 0) rfl ?_
          refine g_iload X dX8_mayOf_82 (j := 1) rfl ?_
          refine g_callVI X (s_X8_placeOf l G F I i57_6 (by omega) (by omega) i45_5 (by omega) (by omega) ) lk_X8_298 (F.1 100 rfl).2 (F.1 100 rfl).1 rfl rfl dX8_mayOf_84 (Nat.le_of_ble_eq_true rfl) ⟨by decide, by decide⟩ ⟨by decide, by decide⟩ (fun r29 L M hp => ?_)
          obtain ⟨C, D, F, I, K1, hr⟩ := hp
          have K := K.step K1 (by decide)
          rcases okp_nat hr with rfl | ⟨n30, hn30, rfl⟩
          · skip
            refine i_iast X F I 131 rfl (fun _ => rfl) dX8_mayOf_87 (vp_in_nI (by omega) (by decide)) okp_m1 (fun M C F I K1 hC => ?_)
            have K := K.step K1 (by decide)
            refine g_iinc X dX8_mayOf_88 (j := 0) rfl (v := nI (i57_6 + 1)) (nI_1 i57_6) (by decide) (lv2 := [(6, .int (nI (i57_6 + 1))), (5, .int (nI i45_5)), (3, .int o20), (4, .int (nI i5_4)), (0, .ref (a 100)), (1, .int 1), (2, .int (nI p1))]) rfl ?_
            refine g_goto X dX8_mayOf_91 (tgt := 57) (by decide) ?_
            refine g_lv [0, 1, 2, 3, 4, 5, 6] (lv2 := [(6, .int (nI (i57_6 + 1))), (5, .int (nI i45_5)), (3, .int o20), (4, .int (nI i5_4)), (0, .ref (a 100)), (1, .int 1), (2, .int (nI p1))]) rfl ?_
            exact ih57 ((i57_6 + 1)) L M C D F I K ⟨by omega, by omega⟩ (by show _ < _; omega)
          · skip
            refine i_iast X F I 131 rfl (fun _ => rfl) dX8_mayOf_87 (vp_in_nI (by omega) (by decide)) (okp_of (n := n30) (by omega)) (fun M C F I K1 hC => ?_)
            have K := K.step K1 (by decide)
            refine g_iinc X dX8_mayOf_88 (j := 0) rfl (v := nI (i57_6 + 1)) (nI_1 i57_6) (by decide) (lv2 := [(6, .int (nI (i57_6 + 1))), (5, .int (nI i45_5)), (3, .int o20), (4, .int (nI i5_4)), (0, .ref (a 100)), (1, .int 1), (2, .int (nI p1))]) rfl ?_
            refine g_goto X dX8_mayOf_91 (tgt := 57) (by decide) ?_
            refine g_lv [0, 1, 2, 3, 4, 5, 6] (lv2 := [(6, .int (nI (i57_6 + 1))), (5, .int (nI i45_5)), (3, .int o20), (4, .int (nI i5_4)), (0, .ref (a 100)), (1, .int 1), (2, .int (nI p1))]) rfl ?_
            exact ih57 ((i57_6 + 1)) L M C D F I K ⟨by omega, by omega⟩ (by show _ < _; omega)
set_option maxHeartbeats 4000000 in
set_option maxRecDepth 100000 in
theorem s_X8_askMay_1 (l : Launch) (G : va_G) {cy : Nat → ClassId} {L : List Nat} {M : Nat → va_E} {a : Nat → Nat} {act : Nat → Bool} {C0 : Nat → Nat → Int32} {D0 : Nat → Nat → Int64} {R : Nat → Nat → Option Nat} (F : WI L M a act (ent cy a C0 D0 R)) (I : Inv C0) (p1 : Int32)  : MI l G cy yX8_askMay cX8_askMay 3 (some .int) 4 0 0 [.ref (a 100), .int 1, .int p1] L M (fun r L2 M2 => ∃ C2 D2, WI L2 M2 a act (ent cy a C2 D2 R) ∧ Inv C2 ∧ Kp [100, 115, 116] C0 D0 C2 D2 ∧ (r.toInt < 0 ∨ (r = 0 ∧ (∃ n : Nat, n ≤ 6 ∧ p1 = nI n) ∧ ∃ k : Nat, k ≤ 60 ∧ k % 3 = 0 ∧ C2 137 1 = nI k ∧ seen (fun i => D2 139 (60 + i)) k))) := by
  refine MI.of (own := RX8) rfl (by decide) (Nat.le_of_ble_eq_true rfl) ?_
  intro p e s m below meth c A X hrt hnm
  obtain ⟨C, D, hC0, hD0, F, I, K⟩ : ∃ C D, C = C0 ∧ D = D0 ∧ WI L M a act (ent cy a C D R) ∧ Inv C ∧ Kp [100, 115, 116] C0 D0 C D := ⟨C0, D0, rfl, rfl, F, I, Kp.rf⟩
  obtain ⟨n1, hn1, en1⟩ := rg_nat ((show okw 0 (C 101 0) from I 101 0).1 rfl) (by decide)
  rw [hC0] at en1
  obtain ⟨n2, hn2, en2⟩ := rg_nat ((show okw 4 (C 101 4) from I 101 4).2.2.2.1 rfl) (by decide)
  rw [hC0] at en2
  obtain ⟨n3, hn3, en3⟩ := rg_nat ((show okw 7 (C 101 7) from I 101 7).2.2.2.2.1 rfl) (by decide)
  rw [hC0] at en3
  refine g_aload_n X dX8_askMay_0 rfl (j := 0) rfl ?_
  refine g_iload_n X dX8_askMay_1 rfl (j := 2) rfl ?_
  refine g_i2l X dX8_askMay_2 rfl ?_
  refine g_callVI X (s_X8_isPost l G F I ((Int32.toInt64 p1)) ) lk_X8_112 (F.1 100 rfl).2 (F.1 100 rfl).1 rfl rfl dX8_askMay_3 (Nat.le_of_ble_eq_true rfl) ⟨by decide, by decide⟩ ⟨by decide, by decide⟩ (fun r4 L M hp => ?_)
  obtain ⟨C, D, F, I, K1, hr⟩ := hp
  have K := K.step K1 (by decide)
  rcases hr with rfl | ⟨rfl, hl5a, hl5b⟩
  · skip
    refine g_if_eq X dX8_askMay_6 (tgt := 17) (by decide) (fun _ => ?_) (fun q => absurd (by decide) q)
    refine g_bipush X dX8_askMay_17 (v := -2) (by decide) ?_
    exact g_iret X hrt dX8_askMay_19 (by decide) (by decide) ⟨C, D, F, I, K, Or.inl (by decide)⟩
  · skip
    rw [Jvm.Kit.i64_of_i32] at hl5a hl5b
    obtain ⟨n6, hn6a, hn6b, en6⟩ := nI_ofInt (x := p1) (lo := 0) (hi := 6) (by omega) (by omega) (by decide)
    subst en6
    refine g_if_eq X dX8_askMay_6 (tgt := 17) (by decide) (fun q => absurd q (by decide)) (fun _ => ?_)
    refine g_aload_n X dX8_askMay_9 rfl (j := 0) rfl ?_
    refine g_iload_n X dX8_askMay_10 rfl (j := 1) rfl ?_
    refine g_callVI X (s_X8_askSeen_1 l G F I  ) lk_X8_410 (F.1 100 rfl).2 (F.1 100 rfl).1 rfl rfl dX8_askMay_11 (Nat.le_of_ble_eq_true rfl) ⟨by decide, by decide⟩ ⟨by decide, by decide⟩ (fun r7 L M hp => ?_)
    obtain ⟨C, D, F, I, K1, hr⟩ := hp
    have K := K.step K1 (by decide)
    rcases hr with hz8 | ⟨rfl, gsn⟩
    · skip
      refine g_goto X dX8_askMay_14 (tgt := 19) (by decide) ?_
      exact g_iret X hrt dX8_askMay_19 (by decide) (by decide) ⟨C, D, F, I, K, Or.inl hz8⟩
    · skip
      rw [(K 137 (by decide)).1, (K 139 (by decide)).2] at gsn
      refine g_goto X dX8_askMay_14 (tgt := 19) (by decide) ?_
      exact g_iret X hrt dX8_askMay_19 (by decide) (by decide) ⟨C, D, F, I, K, Or.inr ⟨rfl, ⟨n6, by omega, rfl⟩, by rw [(K 137 (by decide)).1, (K 139 (by decide)).2]; exact gsn⟩⟩
set_option maxHeartbeats 4000000 in
set_option maxRecDepth 100000 in
theorem s_X8_numberAt_2 (l : Launch) (G : va_G) {cy : Nat → ClassId} {L : List Nat} {M : Nat → va_E} {a : Nat → Nat} {act : Nat → Bool} {C0 : Nat → Nat → Int32} {D0 : Nat → Nat → Int64} {R : Nat → Nat → Option Nat} (F : WI L M a act (ent cy a C0 D0 R)) (I : Inv C0) (p1 : Nat) (hp1a : 0 ≤ p1) (hp1b : p1 ≤ 59)  : MJ l G cy yX8_numberAt cX8_numberAt 3 (some .long) 0 0 0 [.ref (a 100), .int 2, .int (nI p1)] L M (fun r L2 M2 => ∃ C2 D2, WI L2 M2 a act (ent cy a C2 D2 R) ∧ Inv C2 ∧ Kp [] C0 D0 C2 D2 ∧ r = D2 139 (120 + p1)) := by
  refine MJ.of (own := RX8) rfl (by decide) (Nat.le_of_ble_eq_true rfl) ?_
  intro p e s m below meth c A X hrt hnm
  obtain ⟨C, D, hC0, hD0, F, I, K⟩ : ∃ C D, C = C0 ∧ D = D0 ∧ WI L M a act (ent cy a C D R) ∧ Inv C ∧ Kp [] C0 D0 C D := ⟨C0, D0, rfl, rfl, F, I, Kp.rf⟩
  refine g_aload_n X dX8_numberAt_0 rfl (j := 0) rfl ?_
  refine i_get X F 100 rfl rfl fk_X8_82 dX8_numberAt_1 rfl ?_
  refine g_bipush X dX8_numberAt_4 (v := 60) (by decide) ?_
  refine g_iload_n X dX8_numberAt_6 rfl (j := 1) rfl ?_
  refine g_imul X dX8_numberAt_7 ?_
  refine Go.top (v := .int 120) (by decide) ?_
  refine g_iload_n X dX8_numberAt_8 rfl (j := 2) rfl ?_
  refine g_iadd X dX8_numberAt_9 ?_
  refine Go.top (v := .int (nI (120 + p1))) (congrArg Value.int (nI_add 120 p1)) ?_
  refine i_lald X F 139 rfl rfl dX8_numberAt_10 (vp_in_nI (by omega) (by decide)) (v := D 139 (120 + p1)) (by rw [nI_clamp (by omega)]) ?_
  exact g_lret X hrt dX8_numberAt_11 (by decide) (by decide) ⟨C, D, F, I, K, rfl⟩
set_option maxHeartbeats 4000000 in
set_option maxRecDepth 100000 in
theorem s_X8_askSeen_2 (l : Launch) (G : va_G) {cy : Nat → ClassId} {L : List Nat} {M : Nat → va_E} {a : Nat → Nat} {act : Nat → Bool} {C0 : Nat → Nat → Int32} {D0 : Nat → Nat → Int64} {R : Nat → Nat → Option Nat} (F : WI L M a act (ent cy a C0 D0 R)) (I : Inv C0)   : MI l G cy yX8_askSeen cX8_askSeen 3 (some .int) 3 0 0 [.ref (a 100), .int 2] L M (fun r L2 M2 => ∃ C2 D2, WI L2 M2 a act (ent cy a C2 D2 R) ∧ Inv C2 ∧ Kp [100, 115, 116] C0 D0 C2 D2 ∧ (r.toInt < 0 ∨ (r = 0 ∧ ∃ k : Nat, k ≤ 60 ∧ k % 3 = 0 ∧ C2 137 2 = nI k ∧ seen (fun i => D2 139 (120 + i)) k))) := by
  refine MI.of (own := RX8) rfl (by decide) (Nat.le_of_ble_eq_true rfl) ?_
  intro p e s m below meth c A X hrt hnm
  obtain ⟨C, D, hC0, hD0, F, I, K⟩ : ∃ C D, C = C0 ∧ D = D0 ∧ WI L M a act (ent cy a C D R) ∧ Inv C ∧ Kp [100, 115, 116] C0 D0 C D := ⟨C0, D0, rfl, rfl, F, I, Kp.rf⟩
  obtain ⟨n1, hn1, en1⟩ := rg_nat ((show okw 0 (C 101 0) from I 101 0).1 rfl) (by decide)
  rw [hC0] at en1
  obtain ⟨n2, hn2, en2⟩ := rg_nat ((show okw 4 (C 101 4) from I 101 4).2.2.2.1 rfl) (by decide)
  rw [hC0] at en2
  obtain ⟨n3, hn3, en3⟩ := rg_nat ((show okw 7 (C 101 7) from I 101 7).2.2.2.2.1 rfl) (by decide)
  rw [hC0] at en3
  rcases rgm_nat (I 137 2) with em | ⟨mk, hmk, em⟩
  · skip
    rw [hC0] at em
    refine g_iload_n X dX8_askSeen_0 rfl (j := 1) rfl ?_
    refine g_callSI X (s_X8_isSlot_2 l G F I  ) lk_X8_394 rfl rfl dX8_askSeen_1 (Nat.le_of_ble_eq_true rfl) ⟨by decide, by decide⟩ ⟨by decide, by decide⟩ (fun r4 L M hp => ?_)
    obtain ⟨C, D, F, I, K1, hr⟩ := hp
    have K := K.step K1 (by decide)
    subst hr
    refine g_if_eq X dX8_askSeen_4 (tgt := 14) (by decide) (fun q => absurd q (by decide)) (fun _ => ?_)
    refine g_aload_n X dX8_askSeen_7 rfl (j := 0) rfl ?_
    refine g_callVI X (s_X8_isHeath l G F I  ) lk_X8_102 (F.1 100 rfl).2 (F.1 100 rfl).1 rfl rfl dX8_askSeen_8 (Nat.le_of_ble_eq_true rfl) ⟨by decide, by decide⟩ ⟨by decide, by decide⟩ (fun r5 L M hp => ?_)
    obtain ⟨C, D, F, I, K1, hr⟩ := hp
    have K := K.step K1 (by decide)
    rcases hr with rfl | rfl
    · skip
      refine g_if_ne X dX8_askSeen_11 (tgt := 17) (by decide) (fun q => absurd (by decide) q) (fun _ => ?_)
      refine g_bipush X dX8_askSeen_14 (v := -2) (by decide) ?_
      exact g_iret X hrt dX8_askSeen_16 (by decide) (by decide) ⟨C, D, F, I, K, Or.inl (by decide)⟩
    · skip
      refine g_if_ne X dX8_askSeen_11 (tgt := 17) (by decide) (fun _ => ?_) (fun q => absurd q (by decide))
      refine g_aload_n X dX8_askSeen_17 rfl (j := 0) rfl ?_
      refine i_get X F 100 rfl rfl fk_X8_76 dX8_askSeen_18 rfl ?_
      refine g_iload_n X dX8_askSeen_21 rfl (j := 1) rfl ?_
      refine i_iald X F 137 rfl rfl dX8_askSeen_22 (vp_in_iff.mpr (by decide)) (v := -1) (by exact (congrFun (K 137 (by decide)).1 (2)).trans em) ?_
      refine g_iconst X dX8_askSeen_23 (v := -1) (by decide) ?_
      refine g_icmp_ne X dX8_askSeen_24 (tgt := 30) (by decide) (fun q => absurd (by decide) q) (fun _ => ?_)
      refine g_bipush X dX8_askSeen_27 (v := -6) (by decide) ?_
      exact g_iret X hrt dX8_askSeen_29 (by decide) (by decide) ⟨C, D, F, I, K, Or.inl (by decide)⟩
  · skip
    rw [hC0] at em
    refine g_iload_n X dX8_askSeen_0 rfl (j := 1) rfl ?_
    refine g_callSI X (s_X8_isSlot_2 l G F I  ) lk_X8_394 rfl rfl dX8_askSeen_1 (Nat.le_of_ble_eq_true rfl) ⟨by decide, by decide⟩ ⟨by decide, by decide⟩ (fun r6 L M hp => ?_)
    obtain ⟨C, D, F, I, K1, hr⟩ := hp
    have K := K.step K1 (by decide)
    subst hr
    refine g_if_eq X dX8_askSeen_4 (tgt := 14) (by decide) (fun q => absurd q (by decide)) (fun _ => ?_)
    refine g_aload_n X dX8_askSeen_7 rfl (j := 0) rfl ?_
    refine g_callVI X (s_X8_isHeath l G F I  ) lk_X8_102 (F.1 100 rfl).2 (F.1 100 rfl).1 rfl rfl dX8_askSeen_8 (Nat.le_of_ble_eq_true rfl) ⟨by decide, by decide⟩ ⟨by decide, by decide⟩ (fun r7 L M hp => ?_)
    obtain ⟨C, D, F, I, K1, hr⟩ := hp
    have K := K.step K1 (by decide)
    rcases hr with rfl | rfl
    · skip
      refine g_if_ne X dX8_askSeen_11 (tgt := 17) (by decide) (fun q => absurd (by decide) q) (fun _ => ?_)
      refine g_bipush X dX8_askSeen_14 (v := -2) (by decide) ?_
      exact g_iret X hrt dX8_askSeen_16 (by decide) (by decide) ⟨C, D, F, I, K, Or.inl (by decide)⟩
    · skip
      refine g_if_ne X dX8_askSeen_11 (tgt := 17) (by decide) (fun _ => ?_) (fun q => absurd q (by decide))
      refine g_aload_n X dX8_askSeen_17 rfl (j := 0) rfl ?_
      refine i_get X F 100 rfl rfl fk_X8_76 dX8_askSeen_18 rfl ?_
      refine g_iload_n X dX8_askSeen_21 rfl (j := 1) rfl ?_
      refine i_iald X F 137 rfl rfl dX8_askSeen_22 (vp_in_iff.mpr (by decide)) (v := nI mk) (by exact (congrFun (K 137 (by decide)).1 (2)).trans em) ?_
      refine g_iconst X dX8_askSeen_23 (v := -1) (by decide) ?_
      refine g_icmp_ne X dX8_askSeen_24 (tgt := 30) (by decide) (fun _ => ?_) (fun q => absurd q (nI_nm1 (by omega)))
      refine g_aload_n X dX8_askSeen_30 rfl (j := 0) rfl ?_
      refine i_get X F 100 rfl rfl fk_X8_76 dX8_askSeen_31 rfl ?_
      refine g_iload_n X dX8_askSeen_34 rfl (j := 1) rfl ?_
      refine i_iald X F 137 rfl rfl dX8_askSeen_35 (vp_in_iff.mpr (by decide)) (v := nI mk) (by exact (congrFun (K 137 (by decide)).1 (2)).trans em) ?_
      refine g_iconst X dX8_askSeen_36 (v := 3) (by decide) ?_
      refine g_irem X dX8_askSeen_37 (by decide) ?_
      refine Go.top (v := .int (nI (mk % 3))) (congrArg Value.int (pk_rem (a := mk) (d := 3) (by omega) (by omega) (by omega))) ?_
      obtain ⟨n9, en9⟩ : ∃ z : Nat, z = mk % 3 := ⟨_, rfl⟩
      refine Go.top (v := .int (nI n9)) (by rw [en9]) ?_
      have hn9 : n9 < 3 := by rw [en9]; exact Nat.mod_lt _ (by omega)
      refine g_if_eq X dX8_askSeen_38 (tgt := 44) (by decide) (fun q10 => ?_) (fun q10 => ?_)
      · skip
        have q10 : n9 = 0 := (nI_eq (a := n9) (b := 0) (by omega) (by omega)).mp q10
        refine g_iconst X dX8_askSeen_44 (v := 0) (by decide) ?_
        refine g_istore_n X dX8_askSeen_45 rfl (by decide) (lv2 := [(2, .int 0), (0, .ref (a 100)), (1, .int 2)]) rfl ?_
        refine g_lv [0, 1, 2] (lv2 := [(2, .int 0), (0, .ref (a 100)), (1, .int 2)]) rfl ?_
        refine i_loop (mods := [100, 115, 116]) (fun x : Nat => 60 - x) (fun x => [(2, .int (nI (x))), (0, .ref (a 100)), (1, .int 2)]) (fun x C => 0 ≤ x ∧ x ≤ 60 ∧ (x % 3 = 0) ∧ (seen (fun i => D0 139 (120 + i)) (x)) ∧ (x ≤ mk)) (fun x L M C D F I K hP ih46 => ?_) ((0) : Nat) F I K ⟨by show _ ≤ _; omega, by show _ ≤ _; omega, (by decide), seen_0, (Nat.zero_le _)⟩
        obtain ⟨i46_2, rfl⟩ : ∃ z, z = x := ⟨_, rfl⟩
        obtain ⟨hi46_2a, hi46_2b, hm3, hsee, hisz⟩ := hP
        refine g_lv [0, 1, 2] (lv2 := [(2, .int (nI i46_2)), (0, .ref (a 100)), (1, .int 2)]) rfl ?_
        refine g_iload_n X dX8_askSeen_46 rfl (j := 0) rfl ?_
        refine g_aload_n X dX8_askSeen_47 rfl (j := 1) rfl ?_
        refine i_get X F 100 rfl rfl fk_X8_76 dX8_askSeen_48 rfl ?_
        refine g_iload_n X dX8_askSeen_51 rfl (j := 2) rfl ?_
        refine i_iald X F 137 rfl rfl dX8_askSeen_52 (vp_in_iff.mpr (by decide)) (v := nI mk) (by exact (congrFun (K 137 (by decide)).1 (2)).trans em) ?_
        refine g_icmp_ge X dX8_askSeen_53 (tgt := 123) (by decide) (fun q11 => ?_) (fun q11 => ?_)
        · skip
          have q11 : mk ≤ i46_2 := (nI_leI (a := mk) (b := i46_2) (by omega) (by omega)).mp q11
          refine g_aload_n X dX8_askSeen_123 rfl (j := 1) rfl ?_
          refine g_callVV X (s_X8_asItIs l G F I  ) lk_X8_286 (F.1 100 rfl).2 (F.1 100 rfl).1 rfl rfl dX8_askSeen_124 (Nat.le_of_ble_eq_true rfl) ⟨by decide, by decide⟩ ⟨by decide, by decide⟩ (fun L M hp => ?_)
          obtain ⟨C, D, F, I, K1, hr⟩ := hp
          have K := K.step K1 (by decide)
          refine g_iconst X dX8_askSeen_127 (v := 0) (by decide) ?_
          exact g_iret X hrt dX8_askSeen_128 (by decide) (by decide) ⟨C, D, F, I, K, Or.inr ⟨rfl, mk, by omega, by omega, (congrFun (K 137 (by decide)).1 2).trans em, by rw [(K 139 (by decide)).2, show mk = i46_2 by omega]; exact hsee⟩⟩
        · skip
          have q11 : ¬ mk ≤ i46_2 := fun z => q11 ((nI_leI (a := mk) (b := i46_2) (by omega) (by omega)).mpr z)
          refine g_aload_n X dX8_askSeen_56 rfl (j := 1) rfl ?_
          refine g_aload_n X dX8_askSeen_57 rfl (j := 1) rfl ?_
          refine g_iload_n X dX8_askSeen_58 rfl (j := 2) rfl ?_
          refine g_iload_n X dX8_askSeen_59 rfl (j := 0) rfl ?_
          refine g_callVJ X (s_X8_numberAt_2 l G F I i46_2 (by omega) (by omega) ) lk_X8_397 (F.1 100 rfl).2 (F.1 100 rfl).1 rfl rfl dX8_askSeen_60 (Nat.le_of_ble_eq_true rfl) ⟨by decide, by decide⟩ ⟨by decide, by decide⟩ (fun r12 L M hp => ?_)
          obtain ⟨C, D, F, I, K1, hr⟩ := hp
          have K := K.step K1 (by decide)
          obtain rfl : r12 = (D0 139 (120 + i46_2)) := hr.trans (by rw [(K 139 (by decide)).2])
          refine g_callVI X (s_X8_isWalker l G F I ((D0 139 (120 + i46_2))) ) lk_X8_254 (F.1 100 rfl).2 (F.1 100 rfl).1 rfl rfl dX8_askSeen_63 (Nat.le_of_ble_eq_true rfl) ⟨by decide, by decide⟩ ⟨by decide, by decide⟩ (fun r13 L M hp => ?_)
          obtain ⟨C, D, F, I, K1, hr⟩ := hp
          have K := K.step K1 (by decide)
          rcases hr with rfl | ⟨rfl, hl14a, hl14b⟩
          · skip
            refine g_if_eq X dX8_askSeen_66 (tgt := 114) (by decide) (fun _ => ?_) (fun q => absurd (by decide) q)
            refine g_bipush X dX8_askSeen_114 (v := -2) (by decide) ?_
            exact g_iret X hrt dX8_askSeen_116 (by decide) (by decide) ⟨C, D, F, I, K, Or.inl (by decide)⟩
          · skip
            refine g_if_eq X dX8_askSeen_66 (tgt := 114) (by decide) (fun q => absurd q (by decide)) (fun _ => ?_)
            refine g_aload_n X dX8_askSeen_69 rfl (j := 1) rfl ?_
            refine g_aload_n X dX8_askSeen_70 rfl (j := 1) rfl ?_
            refine g_iload_n X dX8_askSeen_71 rfl (j := 2) rfl ?_
            refine g_iload_n X dX8_askSeen_72 rfl (j := 0) rfl ?_
            refine g_iconst X dX8_askSeen_73 (v := 1) (by decide) ?_
            refine g_iadd X dX8_askSeen_74 ?_
            refine Go.top (v := .int (nI (i46_2 + 1))) (congrArg Value.int (nI_add i46_2 1)) ?_
            refine g_callVJ X (s_X8_numberAt_2 l G F I (i46_2 + 1) (by omega) (by omega) ) lk_X8_397 (F.1 100 rfl).2 (F.1 100 rfl).1 rfl rfl dX8_askSeen_75 (Nat.le_of_ble_eq_true rfl) ⟨by decide, by decide⟩ ⟨by decide, by decide⟩ (fun r15 L M hp => ?_)
            obtain ⟨C, D, F, I, K1, hr⟩ := hp
            have K := K.step K1 (by decide)
            obtain rfl : r15 = (D0 139 (120 + (i46_2 + 1))) := hr.trans (by rw [(K 139 (by decide)).2])
            refine g_callVI X (s_X8_isHour l G F I ((D0 139 (120 + (i46_2 + 1)))) ) lk_X8_295 (F.1 100 rfl).2 (F.1 100 rfl).1 rfl rfl dX8_askSeen_78 (Nat.le_of_ble_eq_true rfl) ⟨by decide, by decide⟩ ⟨by decide, by decide⟩ (fun r16 L M hp => ?_)
            obtain ⟨C, D, F, I, K1, hr⟩ := hp
            have K := K.step K1 (by decide)
            rcases hr with rfl | ⟨rfl, hl17a, hl17b⟩
            · skip
              refine g_if_eq X dX8_askSeen_81 (tgt := 114) (by decide) (fun _ => ?_) (fun q => absurd (by decide) q)
              refine g_bipush X dX8_askSeen_114 (v := -2) (by decide) ?_
              exact g_iret X hrt dX8_askSeen_116 (by decide) (by decide) ⟨C, D, F, I, K, Or.inl (by decide)⟩
            · skip
              refine g_if_eq X dX8_askSeen_81 (tgt := 114) (by decide) (fun q => absurd q (by decide)) (fun _ => ?_)
              refine g_aload_n X dX8_askSeen_84 rfl (j := 1) rfl ?_
              refine g_iload_n X dX8_askSeen_85 rfl (j := 2) rfl ?_
              refine g_iload_n X dX8_askSeen_86 rfl (j := 0) rfl ?_
              refine g_iconst X dX8_askSeen_87 (v := 2) (by decide) ?_
              refine g_iadd X dX8_askSeen_88 ?_
              refine Go.top (v := .int (nI (i46_2 + 2))) (congrArg Value.int (nI_add i46_2 2)) ?_
              refine g_callVJ X (s_X8_numberAt_2 l G F I (i46_2 + 2) (by omega) (by omega) ) lk_X8_397 (F.1 100 rfl).2 (F.1 100 rfl).1 rfl rfl dX8_askSeen_89 (Nat.le_of_ble_eq_true rfl) ⟨by decide, by decide⟩ ⟨by decide, by decide⟩ (fun r18 L M hp => ?_)
              obtain ⟨C, D, F, I, K1, hr⟩ := hp
              have K := K.step K1 (by decide)
              obtain rfl : r18 = (D0 139 (120 + (i46_2 + 2))) := hr.trans (by rw [(K 139 (by decide)).2])
              refine g_ldc2 X (v := -1) wd928 dX8_askSeen_92 ?_
              refine g_lcmp X dX8_askSeen_95 ?_
              refine g_if_eq X dX8_askSeen_96 (tgt := 117) (by decide) (fun q19 => ?_) (fun q19 => ?_)
              · skip
                have q19t : ((D0 139 (120 + (i46_2 + 2)))) = (-1 : Int64) := (lg_cmp_eq _ _).mp q19
                have q19k1 : (-1 : Int64).toInt = -1 := (by decide)
                refine g_iinc X dX8_askSeen_117 (j := 0) rfl (v := nI (i46_2 + 3)) (nI_add i46_2 3) (by decide) (lv2 := [(2, .int (nI (i46_2 + 3))), (0, .ref (a 100)), (1, .int 2)]) rfl ?_
                refine g_goto X dX8_askSeen_120 (tgt := 46) (by decide) ?_
                refine g_lv [0, 1, 2] (lv2 := [(2, .int (nI (i46_2 + 3))), (0, .ref (a 100)), (1, .int 2)]) rfl ?_
                exact ih46 ((i46_2 + 3)) L M C D F I K ⟨by omega, by omega, (by show _ % 3 = 0; omega), (seen_st (d := fun i => D0 139 (120 + i)) (by omega) hsee (by show 0 ≤ (D0 139 (120 + i46_2)).toInt; omega) (by show (D0 139 (120 + i46_2)).toInt ≤ 7; omega) (by show 0 ≤ (D0 139 (120 + (i46_2 + 1))).toInt; omega) (by show (D0 139 (120 + (i46_2 + 1))).toInt ≤ 16; omega)), (by show _ ≤ mk; omega)⟩ (by show _ < _; omega)
              · skip
                have q19t : ¬ ((D0 139 (120 + (i46_2 + 2)))) = (-1 : Int64) := fun z => q19 ((lg_cmp_eq _ _).mpr z)
                have q19k1 : (-1 : Int64).toInt = -1 := (by decide)
                refine g_aload_n X dX8_askSeen_99 rfl (j := 1) rfl ?_
                refine g_aload_n X dX8_askSeen_100 rfl (j := 1) rfl ?_
                refine g_iload_n X dX8_askSeen_101 rfl (j := 2) rfl ?_
                refine g_iload_n X dX8_askSeen_102 rfl (j := 0) rfl ?_
                refine g_iconst X dX8_askSeen_103 (v := 2) (by decide) ?_
                refine g_iadd X dX8_askSeen_104 ?_
                refine Go.top (v := .int (nI (i46_2 + 2))) (congrArg Value.int (nI_add i46_2 2)) ?_
                refine g_callVJ X (s_X8_numberAt_2 l G F I (i46_2 + 2) (by omega) (by omega) ) lk_X8_397 (F.1 100 rfl).2 (F.1 100 rfl).1 rfl rfl dX8_askSeen_105 (Nat.le_of_ble_eq_true rfl) ⟨by decide, by decide⟩ ⟨by decide, by decide⟩ (fun r20 L M hp => ?_)
                obtain ⟨C, D, F, I, K1, hr⟩ := hp
                have K := K.step K1 (by decide)
                obtain rfl : r20 = (D0 139 (120 + (i46_2 + 2))) := hr.trans (by rw [(K 139 (by decide)).2])
                refine g_callVI X (s_X8_isPlace l G F I ((D0 139 (120 + (i46_2 + 2)))) ) lk_X8_305 (F.1 100 rfl).2 (F.1 100 rfl).1 rfl rfl dX8_askSeen_108 (Nat.le_of_ble_eq_true rfl) ⟨by decide, by decide⟩ ⟨by decide, by decide⟩ (fun r21 L M hp => ?_)
                obtain ⟨C, D, F, I, K1, hr⟩ := hp
                have K := K.step K1 (by decide)
                rcases hr with rfl | rfl
                · skip
                  refine g_if_ne X dX8_askSeen_111 (tgt := 117) (by decide) (fun q => absurd (by decide) q) (fun _ => ?_)
                  refine g_bipush X dX8_askSeen_114 (v := -2) (by decide) ?_
                  exact g_iret X hrt dX8_askSeen_116 (by decide) (by decide) ⟨C, D, F, I, K, Or.inl (by decide)⟩
                · skip
                  refine g_if_ne X dX8_askSeen_111 (tgt := 117) (by decide) (fun _ => ?_) (fun q => absurd q (by decide))
                  refine g_iinc X dX8_askSeen_117 (j := 0) rfl (v := nI (i46_2 + 3)) (nI_add i46_2 3) (by decide) (lv2 := [(2, .int (nI (i46_2 + 3))), (0, .ref (a 100)), (1, .int 2)]) rfl ?_
                  refine g_goto X dX8_askSeen_120 (tgt := 46) (by decide) ?_
                  refine g_lv [0, 1, 2] (lv2 := [(2, .int (nI (i46_2 + 3))), (0, .ref (a 100)), (1, .int 2)]) rfl ?_
                  exact ih46 ((i46_2 + 3)) L M C D F I K ⟨by omega, by omega, (by show _ % 3 = 0; omega), (seen_st (d := fun i => D0 139 (120 + i)) (by omega) hsee (by show 0 ≤ (D0 139 (120 + i46_2)).toInt; omega) (by show (D0 139 (120 + i46_2)).toInt ≤ 7; omega) (by show 0 ≤ (D0 139 (120 + (i46_2 + 1))).toInt; omega) (by show (D0 139 (120 + (i46_2 + 1))).toInt ≤ 16; omega)), (by show _ ≤ mk; omega)⟩ (by show _ < _; omega)
      · skip
        have q10 : ¬ n9 = 0 := fun z => q10 ((nI_eq (a := n9) (b := 0) (by omega) (by omega)).mpr z)
        refine g_bipush X dX8_askSeen_41 (v := -2) (by decide) ?_
        exact g_iret X hrt dX8_askSeen_43 (by decide) (by decide) ⟨C, D, F, I, K, Or.inl (by decide)⟩
set_option maxHeartbeats 4000000 in
set_option maxRecDepth 100000 in
theorem s_X8_isSeen_2 (l : Launch) (G : va_G) {cy : Nat → ClassId} {L : List Nat} {M : Nat → va_E} {a : Nat → Nat} {act : Nat → Bool} {C0 : Nat → Nat → Int32} {D0 : Nat → Nat → Int64} {R : Nat → Nat → Option Nat} (F : WI L M a act (ent cy a C0 D0 R)) (I : Inv C0)  (gsn : ∃ k : Nat, k ≤ 60 ∧ k % 3 = 0 ∧ C0 137 2 = nI k ∧ seen (fun i => D0 139 (120 + i)) k) : MI l G cy yX8_isSeen cX8_isSeen 3 (some .boolean) 6 0 0 [.ref (a 100), .int 2] L M (fun r L2 M2 => ∃ C2 D2, WI L2 M2 a act (ent cy a C2 D2 R) ∧ Inv C2 ∧ Kp [120, 121, 122, 123, 124, 125, 126, 127, 128] C0 D0 C2 D2 ∧ (r = 0 ∨ r = 1)) := by
  refine MI.of (own := RX8) rfl (by decide) (Nat.le_of_ble_eq_true rfl) ?_
  intro p e s m below meth c A X hrt hnm
  obtain ⟨C, D, hC0, hD0, F, I, K⟩ : ∃ C D, C = C0 ∧ D = D0 ∧ WI L M a act (ent cy a C D R) ∧ Inv C ∧ Kp [120, 121, 122, 123, 124, 125, 126, 127, 128] C0 D0 C D := ⟨C0, D0, rfl, rfl, F, I, Kp.rf⟩
  obtain ⟨n1, hn1, en1⟩ := rg_nat ((show okw 0 (C 101 0) from I 101 0).1 rfl) (by decide)
  rw [hC0] at en1
  obtain ⟨n2, hn2, en2⟩ := rg_nat ((show okw 4 (C 101 4) from I 101 4).2.2.2.1 rfl) (by decide)
  rw [hC0] at en2
  obtain ⟨n3, hn3, en3⟩ := rg_nat ((show okw 7 (C 101 7) from I 101 7).2.2.2.2.1 rfl) (by decide)
  rw [hC0] at en3
  obtain ⟨kz, hkz, hk3, ekz, hsn⟩ := gsn
  refine g_aload_n X dX8_isSeen_0 rfl (j := 0) rfl ?_
  refine g_callVV X (s_X8_goAll l G F I  ) lk_X8_289 (F.1 100 rfl).2 (F.1 100 rfl).1 rfl rfl dX8_isSeen_1 (Nat.le_of_ble_eq_true rfl) ⟨by decide, by decide⟩ ⟨by decide, by decide⟩ (fun L M hp => ?_)
  obtain ⟨C, D, F, I, K1, hr⟩ := hp
  have K := K.step K1 (by decide)
  refine g_iconst X dX8_isSeen_4 (v := 0) (by decide) ?_
  refine g_istore_n X dX8_isSeen_5 rfl (by decide) (lv2 := [(2, .int 0), (0, .ref (a 100)), (1, .int 2)]) rfl ?_
  refine g_lv [0, 1, 2] (lv2 := [(2, .int 0), (0, .ref (a 100)), (1, .int 2)]) rfl ?_
  refine i_loop (mods := [120, 121, 122, 123, 124, 125, 126, 127, 128]) (fun x : Nat => 60 - x) (fun x => [(2, .int (nI (x))), (0, .ref (a 100)), (1, .int 2)]) (fun x C => 0 ≤ x ∧ x ≤ 60 ∧ (x % 3 = 0)) (fun x L M C D F I K hP ih6 => ?_) ((0) : Nat) F I K ⟨by show _ ≤ _; omega, by show _ ≤ _; omega, (by decide)⟩
  obtain ⟨i6_2, rfl⟩ : ∃ z, z = x := ⟨_, rfl⟩
  obtain ⟨hi6_2a, hi6_2b, hm3⟩ := hP
  refine g_lv [0, 1, 2] (lv2 := [(2, .int (nI i6_2)), (0, .ref (a 100)), (1, .int 2)]) rfl ?_
  refine g_iload_n X dX8_isSeen_6 rfl (j := 0) rfl ?_
  refine g_aload_n X dX8_isSeen_7 rfl (j := 1) rfl ?_
  refine i_get X F 100 rfl rfl fk_X8_76 dX8_isSeen_8 rfl ?_
  refine g_iload_n X dX8_isSeen_11 rfl (j := 2) rfl ?_
  refine i_iald X F 137 rfl rfl dX8_isSeen_12 (vp_in_iff.mpr (by decide)) (v := nI kz) (by exact (congrFun (K 137 (by decide)).1 (2)).trans ekz) ?_
  refine g_icmp_ge X dX8_isSeen_13 (tgt := 57) (by decide) (fun q4 => ?_) (fun q4 => ?_)
  · skip
    have q4 : kz ≤ i6_2 := (nI_leI (a := kz) (b := i6_2) (by omega) (by omega)).mp q4
    refine g_iconst X dX8_isSeen_57 (v := 1) (by decide) ?_
    exact g_zret X hrt rfl dX8_isSeen_58 (by decide) (by decide) ⟨C, D, F, I, K, Or.inr rfl⟩
  · skip
    have q4 : ¬ kz ≤ i6_2 := fun z => q4 ((nI_leI (a := kz) (b := i6_2) (by omega) (by omega)).mpr z)
    refine g_aload_n X dX8_isSeen_16 rfl (j := 1) rfl ?_
    refine g_aload_n X dX8_isSeen_17 rfl (j := 1) rfl ?_
    refine g_iload_n X dX8_isSeen_18 rfl (j := 2) rfl ?_
    refine g_iload_n X dX8_isSeen_19 rfl (j := 0) rfl ?_
    refine g_callVJ X (s_X8_numberAt_2 l G F I i6_2 (by omega) (by omega) ) lk_X8_397 (F.1 100 rfl).2 (F.1 100 rfl).1 rfl rfl dX8_isSeen_20 (Nat.le_of_ble_eq_true rfl) ⟨by decide, by decide⟩ ⟨by decide, by decide⟩ (fun r5 L M hp => ?_)
    obtain ⟨C, D, F, I, K1, hr⟩ := hp
    have K := K.step K1 (by decide)
    obtain rfl : r5 = (D0 139 (120 + i6_2)) := hr.trans (by rw [(K 139 (by decide)).2])
    have hi3 := hsn (i6_2 / 3) (by omega)
    rw [show 3 * (i6_2 / 3) = i6_2 by omega] at hi3
    obtain ⟨n6, hn6, en6⟩ := l2i_nat (x := (D0 139 (120 + i6_2))) (hi := 7) hi3.1.1 (by have z := hi3.1.2; exact z) (by decide)
    refine g_l2i X dX8_isSeen_23 (v := nI n6) en6 ?_
    refine g_aload_n X dX8_isSeen_24 rfl (j := 1) rfl ?_
    refine g_iload_n X dX8_isSeen_25 rfl (j := 2) rfl ?_
    refine g_iload_n X dX8_isSeen_26 rfl (j := 0) rfl ?_
    refine g_iconst X dX8_isSeen_27 (v := 1) (by decide) ?_
    refine g_iadd X dX8_isSeen_28 ?_
    refine Go.top (v := .int (nI (i6_2 + 1))) (congrArg Value.int (nI_add i6_2 1)) ?_
    refine g_callVJ X (s_X8_numberAt_2 l G F I (i6_2 + 1) (by omega) (by omega) ) lk_X8_397 (F.1 100 rfl).2 (F.1 100 rfl).1 rfl rfl dX8_isSeen_29 (Nat.le_of_ble_eq_true rfl) ⟨by decide, by decide⟩ ⟨by decide, by decide⟩ (fun r7 L M hp => ?_)
    obtain ⟨C, D, F, I, K1, hr⟩ := hp
    have K := K.step K1 (by decide)
    obtain rfl : r7 = (D0 139 (120 + (i6_2 + 1))) := hr.trans (by rw [(K 139 (by decide)).2])
    have hi3 := hsn (i6_2 / 3) (by omega)
    rw [show 3 * (i6_2 / 3) = i6_2 by omega] at hi3
    obtain ⟨n8, hn8, en8⟩ := l2i_nat (x := (D0 139 (120 + (i6_2 + 1)))) (hi := 16) hi3.2.1 (by have z := hi3.2.2; exact z) (by decide)
    refine g_l2i X dX8_isSeen_32 (v := nI n8) en8 ?_
    refine g_callVI X (s_X8_placeOf l G F I n6 (by omega) (by omega) n8 (by omega) (by omega) ) lk_X8_298 (F.1 100 rfl).2 (F.1 100 rfl).1 rfl rfl dX8_isSeen_33 (Nat.le_of_ble_eq_true rfl) ⟨by decide, by decide⟩ ⟨by decide, by decide⟩ (fun r9 L M hp => ?_)
    obtain ⟨C, D, F, I, K1, hr⟩ := hp
    have K := K.step K1 (by decide)
    rcases okp_nat hr with rfl | ⟨n10, hn10, rfl⟩
    · skip
      refine g_i2l X dX8_isSeen_36 rfl ?_
      refine Go.top (v := .long (-1)) (by decide) ?_
      refine g_aload_n X dX8_isSeen_37 rfl (j := 1) rfl ?_
      refine g_iload_n X dX8_isSeen_38 rfl (j := 2) rfl ?_
      refine g_iload_n X dX8_isSeen_39 rfl (j := 0) rfl ?_
      refine g_iconst X dX8_isSeen_40 (v := 2) (by decide) ?_
      refine g_iadd X dX8_isSeen_41 ?_
      refine Go.top (v := .int (nI (i6_2 + 2))) (congrArg Value.int (nI_add i6_2 2)) ?_
      refine g_callVJ X (s_X8_numberAt_2 l G F I (i6_2 + 2) (by omega) (by omega) ) lk_X8_397 (F.1 100 rfl).2 (F.1 100 rfl).1 rfl rfl dX8_isSeen_42 (Nat.le_of_ble_eq_true rfl) ⟨by decide, by decide⟩ ⟨by decide, by decide⟩ (fun r11 L M hp => ?_)
      obtain ⟨C, D, F, I, K1, hr⟩ := hp
      have K := K.step K1 (by decide)
      obtain rfl : r11 = (D0 139 (120 + (i6_2 + 2))) := hr.trans (by rw [(K 139 (by decide)).2])
      refine g_lcmp X dX8_isSeen_45 ?_
      refine g_if_eq X dX8_isSeen_46 (tgt := 51) (by decide) (fun q12 => ?_) (fun q12 => ?_)
      · skip
        have q12t : (-1 : Int64) = ((D0 139 (120 + (i6_2 + 2)))) := (lg_cmp_eq _ _).mp q12
        have q12k1 : (-1 : Int64).toInt = -1 := (by decide)
        refine g_iinc X dX8_isSeen_51 (j := 0) rfl (v := nI (i6_2 + 3)) (nI_add i6_2 3) (by decide) (lv2 := [(2, .int (nI (i6_2 + 3))), (0, .ref (a 100)), (1, .int 2)]) rfl ?_
        refine g_goto X dX8_isSeen_54 (tgt := 6) (by decide) ?_
        refine g_lv [0, 1, 2] (lv2 := [(2, .int (nI (i6_2 + 3))), (0, .ref (a 100)), (1, .int 2)]) rfl ?_
        exact ih6 ((i6_2 + 3)) L M C D F I K ⟨by omega, by omega, (by show _ % 3 = 0; omega)⟩ (by show _ < _; omega)
      · skip
        have q12t : ¬ (-1 : Int64) = ((D0 139 (120 + (i6_2 + 2)))) := fun z => q12 ((lg_cmp_eq _ _).mpr z)
        have q12k1 : (-1 : Int64).toInt = -1 := (by decide)
        refine g_iconst X dX8_isSeen_49 (v := 0) (by decide) ?_
        exact g_zret X hrt rfl dX8_isSeen_50 (by decide) (by decide) ⟨C, D, F, I, K, Or.inl rfl⟩
    · skip
      refine g_i2l X dX8_isSeen_36 rfl ?_
      refine g_aload_n X dX8_isSeen_37 rfl (j := 1) rfl ?_
      refine g_iload_n X dX8_isSeen_38 rfl (j := 2) rfl ?_
      refine g_iload_n X dX8_isSeen_39 rfl (j := 0) rfl ?_
      refine g_iconst X dX8_isSeen_40 (v := 2) (by decide) ?_
      refine g_iadd X dX8_isSeen_41 ?_
      refine Go.top (v := .int (nI (i6_2 + 2))) (congrArg Value.int (nI_add i6_2 2)) ?_
      refine g_callVJ X (s_X8_numberAt_2 l G F I (i6_2 + 2) (by omega) (by omega) ) lk_X8_397 (F.1 100 rfl).2 (F.1 100 rfl).1 rfl rfl dX8_isSeen_42 (Nat.le_of_ble_eq_true rfl) ⟨by decide, by decide⟩ ⟨by decide, by decide⟩ (fun r13 L M hp => ?_)
      obtain ⟨C, D, F, I, K1, hr⟩ := hp
      have K := K.step K1 (by decide)
      obtain rfl : r13 = (D0 139 (120 + (i6_2 + 2))) := hr.trans (by rw [(K 139 (by decide)).2])
      refine g_lcmp X dX8_isSeen_45 ?_
      refine g_if_eq X dX8_isSeen_46 (tgt := 51) (by decide) (fun q14 => ?_) (fun q14 => ?_)
      · skip
        have q14t : ((Int32.toInt64 (nI n10))) = ((D0 139 (120 + (i6_2 + 2)))) := (lg_cmp_eq _ _).mp q14
        have q14wa := Jvm.Kit.i64_of_i32 (nI n10)
        rw [nI_toInt (by omega)] at q14wa
        refine g_iinc X dX8_isSeen_51 (j := 0) rfl (v := nI (i6_2 + 3)) (nI_add i6_2 3) (by decide) (lv2 := [(2, .int (nI (i6_2 + 3))), (0, .ref (a 100)), (1, .int 2)]) rfl ?_
        refine g_goto X dX8_isSeen_54 (tgt := 6) (by decide) ?_
        refine g_lv [0, 1, 2] (lv2 := [(2, .int (nI (i6_2 + 3))), (0, .ref (a 100)), (1, .int 2)]) rfl ?_
        exact ih6 ((i6_2 + 3)) L M C D F I K ⟨by omega, by omega, (by show _ % 3 = 0; omega)⟩ (by show _ < _; omega)
      · skip
        have q14t : ¬ ((Int32.toInt64 (nI n10))) = ((D0 139 (120 + (i6_2 + 2)))) := fun z => q14 ((lg_cmp_eq _ _).mpr z)
        have q14wa := Jvm.Kit.i64_of_i32 (nI n10)
        rw [nI_toInt (by omega)] at q14wa
        refine g_iconst X dX8_isSeen_49 (v := 0) (by decide) ?_
        exact g_zret X hrt rfl dX8_isSeen_50 (by decide) (by decide) ⟨C, D, F, I, K, Or.inl rfl⟩
set_option maxHeartbeats 4000000 in
set_option maxRecDepth 100000 in
theorem s_X8_mayOf_2 (l : Launch) (G : va_G) {cy : Nat → ClassId} {L : List Nat} {M : Nat → va_E} {a : Nat → Nat} {act : Nat → Bool} {C0 : Nat → Nat → Int32} {D0 : Nat → Nat → Int64} {R : Nat → Nat → Option Nat} (F : WI L M a act (ent cy a C0 D0 R)) (I : Inv C0) (p1 : Nat) (hp1a : 0 ≤ p1) (hp1b : p1 ≤ 6) (gsn : ∃ k : Nat, k ≤ 60 ∧ k % 3 = 0 ∧ C0 137 2 = nI k ∧ seen (fun i => D0 139 (120 + i)) k) : MI l G cy yX8_mayOf cX8_mayOf 7 (some .int) 7 0 0 [.ref (a 100), .int 2, .int (nI p1)] L M (fun r L2 M2 => ∃ C2 D2, WI L2 M2 a act (ent cy a C2 D2 R) ∧ Inv C2 ∧ Kp [115, 120, 121, 122, 123, 124, 125, 126, 127, 128, 131] C0 D0 C2 D2 ∧ True) := by
  refine MI.of (own := RX8) rfl (by decide) (Nat.le_of_ble_eq_true rfl) ?_
  intro p e s m below meth c A X hrt hnm
  obtain ⟨C, D, hC0, hD0, F, I, K⟩ : ∃ C D, C = C0 ∧ D = D0 ∧ WI L M a act (ent cy a C D R) ∧ Inv C ∧ Kp [115, 120, 121, 122, 123, 124, 125, 126, 127, 128, 131] C0 D0 C D := ⟨C0, D0, rfl, rfl, F, I, Kp.rf⟩
  obtain ⟨n1, hn1, en1⟩ := rg_nat ((show okw 0 (C 101 0) from I 101 0).1 rfl) (by decide)
  rw [hC0] at en1
  obtain ⟨n2, hn2, en2⟩ := rg_nat ((show okw 4 (C 101 4) from I 101 4).2.2.2.1 rfl) (by decide)
  rw [hC0] at en2
  obtain ⟨n3, hn3, en3⟩ := rg_nat ((show okw 7 (C 101 7) from I 101 7).2.2.2.2.1 rfl) (by decide)
  rw [hC0] at en3
  refine g_iconst X dX8_mayOf_0 (v := 0) (by decide) ?_
  refine g_istore_n X dX8_mayOf_1 rfl (by decide) (lv2 := [(3, .int 0), (0, .ref (a 100)), (1, .int 2), (2, .int (nI p1))]) rfl ?_
  refine g_iconst X dX8_mayOf_2 (v := 0) (by decide) ?_
  refine g_istore X dX8_mayOf_3 (by decide) (lv2 := [(4, .int 0), (3, .int 0), (0, .ref (a 100)), (1, .int 2), (2, .int (nI p1))]) rfl ?_
  refine g_lv [0, 1, 2, 3, 4] (lv2 := [(4, .int 0), (3, .int 0), (0, .ref (a 100)), (1, .int 2), (2, .int (nI p1))]) rfl ?_
  refine i_loop (mods := [115, 120, 121, 122, 123, 124, 125, 126, 127, 128, 131]) (fun x : Nat × Int32 => 4 - x.1) (fun x => [(4, .int (nI (x.1))), (3, .int (x.2)), (0, .ref (a 100)), (1, .int 2), (2, .int (nI p1))]) (fun x C => 0 ≤ x.1 ∧ x.1 ≤ 4) (fun x L M C D F I K hP ih5 => ?_) ((0, 0) : Nat × Int32) F I K ⟨by show _ ≤ _; omega, by show _ ≤ _; omega⟩
  rcases x with ⟨i5_4, v5_3⟩
  obtain ⟨hi5_4a, hi5_4b⟩ := hP
  refine g_lv [0, 1, 2, 3, 4] (lv2 := [(4, .int (nI i5_4)), (3, .int v5_3), (0, .ref (a 100)), (1, .int 2), (2, .int (nI p1))]) rfl ?_
  refine g_iload X dX8_mayOf_5 (j := 0) rfl ?_
  refine g_aload_n X dX8_mayOf_7 rfl (j := 2) rfl ?_
  refine g_iload_n X dX8_mayOf_8 rfl (j := 4) rfl ?_
  refine g_callVI X (s_X8_roadMany l G F I p1 (by omega) (by omega) ) lk_X8_245 (F.1 100 rfl).2 (F.1 100 rfl).1 rfl rfl dX8_mayOf_9 (Nat.le_of_ble_eq_true rfl) ⟨by decide, by decide⟩ ⟨by decide, by decide⟩ (fun r4 L M hp => ?_)
  obtain ⟨C, D, F, I, K1, hr⟩ := hp
  have K := K.step K1 (by decide)
  obtain ⟨n5, hn5, en5, rfl⟩ := hr
  have fn5 : C0 101 (14 + 6 * p1) = nI n5 := (congrFun (K 101 (by decide)).1 _).symm.trans en5
  refine g_icmp_ge X dX8_mayOf_12 (tgt := 106) (by decide) (fun q6 => ?_) (fun q6 => ?_)
  · skip
    have q6 : n5 ≤ i5_4 := (nI_leI (a := n5) (b := i5_4) (by omega) (by omega)).mp q6
    refine g_iload_n X dX8_mayOf_106 rfl (j := 1) rfl ?_
    exact g_iret X hrt dX8_mayOf_107 (by decide) (by decide) ⟨C, D, F, I, K, trivial⟩
  · skip
    have q6 : ¬ n5 ≤ i5_4 := fun z => q6 ((nI_leI (a := n5) (b := i5_4) (by omega) (by omega)).mpr z)
    refine g_aload_n X dX8_mayOf_15 rfl (j := 2) rfl ?_
    refine i_get X F 100 rfl rfl fk_X8_34 dX8_mayOf_16 rfl ?_
    refine g_iload_n X dX8_mayOf_19 rfl (j := 4) rfl ?_
    refine g_iload X dX8_mayOf_20 (j := 0) rfl ?_
    refine i_iast X F I 115 rfl (fun _ => rfl) dX8_mayOf_22 (vp_in_nI (by omega) (by decide)) (rg_of (n := i5_4) (by omega) (by omega) (by omega)) (fun M C F I K1 hC => ?_)
    have K := K.step K1 (by decide)
    refine g_iload_n X dX8_mayOf_23 rfl (j := 1) rfl ?_
    refine g_aload_n X dX8_mayOf_24 rfl (j := 2) rfl ?_
    refine g_iload_n X dX8_mayOf_25 rfl (j := 3) rfl ?_
    refine g_callVI X (s_X8_isSeen_2 l G F I  (by rw [(K 137 (by decide)).1, (K 139 (by decide)).2]; exact gsn)) lk_X8_403 (F.1 100 rfl).2 (F.1 100 rfl).1 rfl rfl dX8_mayOf_26 (Nat.le_of_ble_eq_true rfl) ⟨by decide, by decide⟩ ⟨by decide, by decide⟩ (fun r7 L M hp => ?_)
    obtain ⟨C, D, F, I, K1, hr⟩ := hp
    have K := K.step K1 (by decide)
    rcases hr with rfl | rfl
    · skip
      refine g_if_eq X dX8_mayOf_29 (tgt := 39) (by decide) (fun _ => ?_) (fun q => absurd (by decide) q)
      refine g_iconst X dX8_mayOf_39 (v := 0) (by decide) ?_
      refine g_ior X dX8_mayOf_40 ?_
      refine Go.gen (fun o8 => ?_)
      refine g_istore_n X dX8_mayOf_41 rfl (by decide) (lv2 := [(3, .int o8), (4, .int (nI i5_4)), (0, .ref (a 100)), (1, .int 2), (2, .int (nI p1))]) rfl ?_
      refine g_iconst X dX8_mayOf_42 (v := 0) (by decide) ?_
      refine g_istore X dX8_mayOf_43 (by decide) (lv2 := [(5, .int 0), (3, .int o8), (4, .int (nI i5_4)), (0, .ref (a 100)), (1, .int 2), (2, .int (nI p1))]) rfl ?_
      refine g_lv [0, 1, 2, 3, 4, 5] (lv2 := [(5, .int 0), (3, .int o8), (4, .int (nI i5_4)), (0, .ref (a 100)), (1, .int 2), (2, .int (nI p1))]) rfl ?_
      refine i_loop (mods := [115, 120, 121, 122, 123, 124, 125, 126, 127, 128, 131]) (fun x : Nat => 17 - x) (fun x => [(5, .int (nI (x))), (3, .int o8), (4, .int (nI i5_4)), (0, .ref (a 100)), (1, .int 2), (2, .int (nI p1))]) (fun x C => 0 ≤ x ∧ x ≤ 17) (fun x L M C D F I K hP ih45 => ?_) ((0) : Nat) F I K ⟨by show _ ≤ _; omega, by show _ ≤ _; omega⟩
      obtain ⟨i45_5, rfl⟩ : ∃ z, z = x := ⟨_, rfl⟩
      obtain ⟨hi45_5a, hi45_5b⟩ := hP
      refine g_lv [0, 1, 2, 3, 4, 5] (lv2 := [(5, .int (nI i45_5)), (3, .int o8), (4, .int (nI i5_4)), (0, .ref (a 100)), (1, .int 2), (2, .int (nI p1))]) rfl ?_
      refine g_iload X dX8_mayOf_45 (j := 0) rfl ?_
      refine g_aload_n X dX8_mayOf_47 rfl (j := 3) rfl ?_
      refine g_callVI X (s_X8_hours l G F I  ) lk_X8_106 (F.1 100 rfl).2 (F.1 100 rfl).1 rfl rfl dX8_mayOf_48 (Nat.le_of_ble_eq_true rfl) ⟨by decide, by decide⟩ ⟨by decide, by decide⟩ (fun r9 L M hp => ?_)
      obtain ⟨C, D, F, I, K1, hr⟩ := hp
      have K := K.step K1 (by decide)
      obtain ⟨n10, hn10, en10, rfl⟩ := hr
      obtain rfl : n1 = n10 := ((nI_eq (by omega) (by omega)).mp (en10.symm.trans ((congrFun (K 101 (by decide)).1 0).trans en1))).symm
      refine g_icmp_gt X dX8_mayOf_51 (tgt := 100) (by decide) (fun q11 => ?_) (fun q11 => ?_)
      · skip
        have q11 : n1 < i45_5 := (nI_ltI (a := n1) (b := i45_5) (by omega) (by omega)).mp q11
        refine g_iinc X dX8_mayOf_100 (j := 2) rfl (v := nI (i5_4 + 1)) (nI_1 i5_4) (by decide) (lv2 := [(4, .int (nI (i5_4 + 1))), (5, .int (nI i45_5)), (3, .int o8), (0, .ref (a 100)), (1, .int 2), (2, .int (nI p1))]) rfl ?_
        refine g_goto X dX8_mayOf_103 (tgt := 5) (by decide) ?_
        refine g_lv [0, 2, 3, 4, 5] (lv2 := [(4, .int (nI (i5_4 + 1))), (3, .int o8), (0, .ref (a 100)), (1, .int 2), (2, .int (nI p1))]) rfl ?_
        exact ih5 ((i5_4 + 1), o8) L M C D F I K ⟨by omega, by omega⟩ (by show _ < _; omega)
      · skip
        have q11 : ¬ n1 < i45_5 := fun z => q11 ((nI_ltI (a := n1) (b := i45_5) (by omega) (by omega)).mpr z)
        refine g_iconst X dX8_mayOf_54 (v := 0) (by decide) ?_
        refine g_istore X dX8_mayOf_55 (by decide) (lv2 := [(6, .int 0), (5, .int (nI i45_5)), (3, .int o8), (4, .int (nI i5_4)), (0, .ref (a 100)), (1, .int 2), (2, .int (nI p1))]) rfl ?_
        refine g_lv [0, 1, 2, 3, 4, 5, 6] (lv2 := [(6, .int 0), (5, .int (nI i45_5)), (3, .int o8), (4, .int (nI i5_4)), (0, .ref (a 100)), (1, .int 2), (2, .int (nI p1))]) rfl ?_
        refine i_loop (mods := [115, 120, 121, 122, 123, 124, 125, 126, 127, 128, 131]) (fun x : Nat => 8 - x) (fun x => [(6, .int (nI (x))), (5, .int (nI i45_5)), (3, .int o8), (4, .int (nI i5_4)), (0, .ref (a 100)), (1, .int 2), (2, .int (nI p1))]) (fun x C => 0 ≤ x ∧ x ≤ 8) (fun x L M C D F I K hP ih57 => ?_) ((0) : Nat) F I K ⟨by show _ ≤ _; omega, by show _ ≤ _; omega⟩
        obtain ⟨i57_6, rfl⟩ : ∃ z, z = x := ⟨_, rfl⟩
        obtain ⟨hi57_6a, hi57_6b⟩ := hP
        refine g_lv [0, 1, 2, 3, 4, 5, 6] (lv2 := [(6, .int (nI i57_6)), (5, .int (nI i45_5)), (3, .int o8), (4, .int (nI i5_4)), (0, .ref (a 100)), (1, .int 2), (2, .int (nI p1))]) rfl ?_
        refine g_iload X dX8_mayOf_57 (j := 0) rfl ?_
        refine g_aload_n X dX8_mayOf_59 rfl (j := 4) rfl ?_
        refine g_callVI X (s_X8_walkers l G F I  ) lk_X8_109 (F.1 100 rfl).2 (F.1 100 rfl).1 rfl rfl dX8_mayOf_60 (Nat.le_of_ble_eq_true rfl) ⟨by decide, by decide⟩ ⟨by decide, by decide⟩ (fun r12 L M hp => ?_)
        obtain ⟨C, D, F, I, K1, hr⟩ := hp
        have K := K.step K1 (by decide)
        obtain ⟨n13, hn13, en13, rfl⟩ := hr
        obtain rfl : n3 = n13 := ((nI_eq (by omega) (by omega)).mp (en13.symm.trans ((congrFun (K 101 (by decide)).1 7).trans en3))).symm
        refine g_icmp_ge X dX8_mayOf_63 (tgt := 94) (by decide) (fun q14 => ?_) (fun q14 => ?_)
        · skip
          have q14 : n3 ≤ i57_6 := (nI_leI (a := n3) (b := i57_6) (by omega) (by omega)).mp q14
          refine g_iinc X dX8_mayOf_94 (j := 1) rfl (v := nI (i45_5 + 1)) (nI_1 i45_5) (by decide) (lv2 := [(5, .int (nI (i45_5 + 1))), (6, .int (nI i57_6)), (3, .int o8), (4, .int (nI i5_4)), (0, .ref (a 100)), (1, .int 2), (2, .int (nI p1))]) rfl ?_
          refine g_goto X dX8_mayOf_97 (tgt := 45) (by decide) ?_
          refine g_lv [0, 2, 3, 4, 5, 6] (lv2 := [(5, .int (nI (i45_5 + 1))), (3, .int o8), (4, .int (nI i5_4)), (0, .ref (a 100)), (1, .int 2), (2, .int (nI p1))]) rfl ?_
          exact ih45 ((i45_5 + 1)) L M C D F I K ⟨by omega, by omega⟩ (by show _ < _; omega)
        · skip
          have q14 : ¬ n3 ≤ i57_6 := fun z => q14 ((nI_leI (a := n3) (b := i57_6) (by omega) (by omega)).mpr z)
          refine g_aload_n X dX8_mayOf_66 rfl (j := 4) rfl ?_
          refine i_get X F 100 rfl rfl fk_X8_70 dX8_mayOf_67 rfl ?_
          refine g_iload X dX8_mayOf_70 (j := 3) rfl ?_
          refine g_iload X dX8_mayOf_72 (j := 0) rfl ?_
          refine g_iload X dX8_mayOf_74 (j := 1) rfl ?_
          refine g_callSI X (s_X8_cellOf l G F I i5_4 (by omega) (by omega) i57_6 (by omega) (by omega) i45_5 (by omega) (by omega) ) lk_X8_406 rfl rfl dX8_mayOf_76 (Nat.le_of_ble_eq_true rfl) ⟨by decide, by decide⟩ ⟨by decide, by decide⟩ (fun r15 L M hp => ?_)
          obtain ⟨C, D, F, I, K1, hr⟩ := hp
          have K := K.step K1 (by decide)
          obtain ⟨n16, hn16a, hn16b, rfl⟩ := hr
          refine g_aload_n X dX8_mayOf_79 rfl (j := 4) rfl ?_
          refine g_iload X dX8_mayOf_80 (j := 0) rfl ?_
          refine g_iload X dX8_mayOf_82 (j := 1) rfl ?_
          refine g_callVI X (s_X8_placeOf l G F I i57_6 (by omega) (by omega) i45_5 (by omega) (by omega) ) lk_X8_298 (F.1 100 rfl).2 (F.1 100 rfl).1 rfl rfl dX8_mayOf_84 (Nat.le_of_ble_eq_true rfl) ⟨by decide, by decide⟩ ⟨by decide, by decide⟩ (fun r17 L M hp => ?_)
          obtain ⟨C, D, F, I, K1, hr⟩ := hp
          have K := K.step K1 (by decide)
          rcases okp_nat hr with rfl | ⟨n18, hn18, rfl⟩
          · skip
            refine i_iast X F I 131 rfl (fun _ => rfl) dX8_mayOf_87 (vp_in_nI (by omega) (by decide)) okp_m1 (fun M C F I K1 hC => ?_)
            have K := K.step K1 (by decide)
            refine g_iinc X dX8_mayOf_88 (j := 0) rfl (v := nI (i57_6 + 1)) (nI_1 i57_6) (by decide) (lv2 := [(6, .int (nI (i57_6 + 1))), (5, .int (nI i45_5)), (3, .int o8), (4, .int (nI i5_4)), (0, .ref (a 100)), (1, .int 2), (2, .int (nI p1))]) rfl ?_
            refine g_goto X dX8_mayOf_91 (tgt := 57) (by decide) ?_
            refine g_lv [0, 1, 2, 3, 4, 5, 6] (lv2 := [(6, .int (nI (i57_6 + 1))), (5, .int (nI i45_5)), (3, .int o8), (4, .int (nI i5_4)), (0, .ref (a 100)), (1, .int 2), (2, .int (nI p1))]) rfl ?_
            exact ih57 ((i57_6 + 1)) L M C D F I K ⟨by omega, by omega⟩ (by show _ < _; omega)
          · skip
            refine i_iast X F I 131 rfl (fun _ => rfl) dX8_mayOf_87 (vp_in_nI (by omega) (by decide)) (okp_of (n := n18) (by omega)) (fun M C F I K1 hC => ?_)
            have K := K.step K1 (by decide)
            refine g_iinc X dX8_mayOf_88 (j := 0) rfl (v := nI (i57_6 + 1)) (nI_1 i57_6) (by decide) (lv2 := [(6, .int (nI (i57_6 + 1))), (5, .int (nI i45_5)), (3, .int o8), (4, .int (nI i5_4)), (0, .ref (a 100)), (1, .int 2), (2, .int (nI p1))]) rfl ?_
            refine g_goto X dX8_mayOf_91 (tgt := 57) (by decide) ?_
            refine g_lv [0, 1, 2, 3, 4, 5, 6] (lv2 := [(6, .int (nI (i57_6 + 1))), (5, .int (nI i45_5)), (3, .int o8), (4, .int (nI i5_4)), (0, .ref (a 100)), (1, .int 2), (2, .int (nI p1))]) rfl ?_
            exact ih57 ((i57_6 + 1)) L M C D F I K ⟨by omega, by omega⟩ (by show _ < _; omega)
    · skip
      refine g_if_eq X dX8_mayOf_29 (tgt := 39) (by decide) (fun q => absurd q (by decide)) (fun _ => ?_)
      refine g_iconst X dX8_mayOf_32 (v := 1) (by decide) ?_
      refine g_iload X dX8_mayOf_33 (j := 0) rfl ?_
      refine g_ishl X dX8_mayOf_35 ?_
      refine Go.gen (fun o19 => ?_)
      refine g_goto X dX8_mayOf_36 (tgt := 40) (by decide) ?_
      refine g_ior X dX8_mayOf_40 ?_
      refine Go.gen (fun o20 => ?_)
      refine g_istore_n X dX8_mayOf_41 rfl (by decide) (lv2 := [(3, .int o20), (4, .int (nI i5_4)), (0, .ref (a 100)), (1, .int 2), (2, .int (nI p1))]) rfl ?_
      refine g_iconst X dX8_mayOf_42 (v := 0) (by decide) ?_
      refine g_istore X dX8_mayOf_43 (by decide) (lv2 := [(5, .int 0), (3, .int o20), (4, .int (nI i5_4)), (0, .ref (a 100)), (1, .int 2), (2, .int (nI p1))]) rfl ?_
      refine g_lv [0, 1, 2, 3, 4, 5] (lv2 := [(5, .int 0), (3, .int o20), (4, .int (nI i5_4)), (0, .ref (a 100)), (1, .int 2), (2, .int (nI p1))]) rfl ?_
      refine i_loop (mods := [115, 120, 121, 122, 123, 124, 125, 126, 127, 128, 131]) (fun x : Nat => 17 - x) (fun x => [(5, .int (nI (x))), (3, .int o20), (4, .int (nI i5_4)), (0, .ref (a 100)), (1, .int 2), (2, .int (nI p1))]) (fun x C => 0 ≤ x ∧ x ≤ 17) (fun x L M C D F I K hP ih45 => ?_) ((0) : Nat) F I K ⟨by show _ ≤ _; omega, by show _ ≤ _; omega⟩
      obtain ⟨i45_5, rfl⟩ : ∃ z, z = x := ⟨_, rfl⟩
      obtain ⟨hi45_5a, hi45_5b⟩ := hP
      refine g_lv [0, 1, 2, 3, 4, 5] (lv2 := [(5, .int (nI i45_5)), (3, .int o20), (4, .int (nI i5_4)), (0, .ref (a 100)), (1, .int 2), (2, .int (nI p1))]) rfl ?_
      refine g_iload X dX8_mayOf_45 (j := 0) rfl ?_
      refine g_aload_n X dX8_mayOf_47 rfl (j := 3) rfl ?_
      refine g_callVI X (s_X8_hours l G F I  ) lk_X8_106 (F.1 100 rfl).2 (F.1 100 rfl).1 rfl rfl dX8_mayOf_48 (Nat.le_of_ble_eq_true rfl) ⟨by decide, by decide⟩ ⟨by decide, by decide⟩ (fun r21 L M hp => ?_)
      obtain ⟨C, D, F, I, K1, hr⟩ := hp
      have K := K.step K1 (by decide)
      obtain ⟨n22, hn22, en22, rfl⟩ := hr
      obtain rfl : n1 = n22 := ((nI_eq (by omega) (by omega)).mp (en22.symm.trans ((congrFun (K 101 (by decide)).1 0).trans en1))).symm
      refine g_icmp_gt X dX8_mayOf_51 (tgt := 100) (by decide) (fun q23 => ?_) (fun q23 => ?_)
      · skip
        have q23 : n1 < i45_5 := (nI_ltI (a := n1) (b := i45_5) (by omega) (by omega)).mp q23
        refine g_iinc X dX8_mayOf_100 (j := 2) rfl (v := nI (i5_4 + 1)) (nI_1 i5_4) (by decide) (lv2 := [(4, .int (nI (i5_4 + 1))), (5, .int (nI i45_5)), (3, .int o20), (0, .ref (a 100)), (1, .int 2), (2, .int (nI p1))]) rfl ?_
        refine g_goto X dX8_mayOf_103 (tgt := 5) (by decide) ?_
        refine g_lv [0, 2, 3, 4, 5] (lv2 := [(4, .int (nI (i5_4 + 1))), (3, .int o20), (0, .ref (a 100)), (1, .int 2), (2, .int (nI p1))]) rfl ?_
        exact ih5 ((i5_4 + 1), o20) L M C D F I K ⟨by omega, by omega⟩ (by show _ < _; omega)
      · skip
        have q23 : ¬ n1 < i45_5 := fun z => q23 ((nI_ltI (a := n1) (b := i45_5) (by omega) (by omega)).mpr z)
        refine g_iconst X dX8_mayOf_54 (v := 0) (by decide) ?_
        refine g_istore X dX8_mayOf_55 (by decide) (lv2 := [(6, .int 0), (5, .int (nI i45_5)), (3, .int o20), (4, .int (nI i5_4)), (0, .ref (a 100)), (1, .int 2), (2, .int (nI p1))]) rfl ?_
        refine g_lv [0, 1, 2, 3, 4, 5, 6] (lv2 := [(6, .int 0), (5, .int (nI i45_5)), (3, .int o20), (4, .int (nI i5_4)), (0, .ref (a 100)), (1, .int 2), (2, .int (nI p1))]) rfl ?_
        refine i_loop (mods := [115, 120, 121, 122, 123, 124, 125, 126, 127, 128, 131]) (fun x : Nat => 8 - x) (fun x => [(6, .int (nI (x))), (5, .int (nI i45_5)), (3, .int o20), (4, .int (nI i5_4)), (0, .ref (a 100)), (1, .int 2), (2, .int (nI p1))]) (fun x C => 0 ≤ x ∧ x ≤ 8) (fun x L M C D F I K hP ih57 => ?_) ((0) : Nat) F I K ⟨by show _ ≤ _; omega, by show _ ≤ _; omega⟩
        obtain ⟨i57_6, rfl⟩ : ∃ z, z = x := ⟨_, rfl⟩
        obtain ⟨hi57_6a, hi57_6b⟩ := hP
        refine g_lv [0, 1, 2, 3, 4, 5, 6] (lv2 := [(6, .int (nI i57_6)), (5, .int (nI i45_5)), (3, .int o20), (4, .int (nI i5_4)), (0, .ref (a 100)), (1, .int 2), (2, .int (nI p1))]) rfl ?_
        refine g_iload X dX8_mayOf_57 (j := 0) rfl ?_
        refine g_aload_n X dX8_mayOf_59 rfl (j := 4) rfl ?_
        refine g_callVI X (s_X8_walkers l G F I  ) lk_X8_109 (F.1 100 rfl).2 (F.1 100 rfl).1 rfl rfl dX8_mayOf_60 (Nat.le_of_ble_eq_true rfl) ⟨by decide, by decide⟩ ⟨by decide, by decide⟩ (fun r24 L M hp => ?_)
        obtain ⟨C, D, F, I, K1, hr⟩ := hp
        have K := K.step K1 (by decide)
        obtain ⟨n25, hn25, en25, rfl⟩ := hr
        obtain rfl : n3 = n25 := ((nI_eq (by omega) (by omega)).mp (en25.symm.trans ((congrFun (K 101 (by decide)).1 7).trans en3))).symm
        refine g_icmp_ge X dX8_mayOf_63 (tgt := 94) (by decide) (fun q26 => ?_) (fun q26 => ?_)
        · skip
          have q26 : n3 ≤ i57_6 := (nI_leI (a := n3) (b := i57_6) (by omega) (by omega)).mp q26
          refine g_iinc X dX8_mayOf_94 (j := 1) rfl (v := nI (i45_5 + 1)) (nI_1 i45_5) (by decide) (lv2 := [(5, .int (nI (i45_5 + 1))), (6, .int (nI i57_6)), (3, .int o20), (4, .int (nI i5_4)), (0, .ref (a 100)), (1, .int 2), (2, .int (nI p1))]) rfl ?_
          refine g_goto X dX8_mayOf_97 (tgt := 45) (by decide) ?_
          refine g_lv [0, 2, 3, 4, 5, 6] (lv2 := [(5, .int (nI (i45_5 + 1))), (3, .int o20), (4, .int (nI i5_4)), (0, .ref (a 100)), (1, .int 2), (2, .int (nI p1))]) rfl ?_
          exact ih45 ((i45_5 + 1)) L M C D F I K ⟨by omega, by omega⟩ (by show _ < _; omega)
        · skip
          have q26 : ¬ n3 ≤ i57_6 := fun z => q26 ((nI_leI (a := n3) (b := i57_6) (by omega) (by omega)).mpr z)
          refine g_aload_n X dX8_mayOf_66 rfl (j := 4) rfl ?_
          refine i_get X F 100 rfl rfl fk_X8_70 dX8_mayOf_67 rfl ?_
          refine g_iload X dX8_mayOf_70 (j := 3) rfl ?_
          refine g_iload X dX8_mayOf_72 (j := 0) rfl ?_
          refine g_iload X dX8_mayOf_74 (j := 1) rfl ?_
          refine g_callSI X (s_X8_cellOf l G F I i5_4 (by omega) (by omega) i57_6 (by omega) (by omega) i45_5 (by omega) (by omega) ) lk_X8_406 rfl rfl dX8_mayOf_76 (Nat.le_of_ble_eq_true rfl) ⟨by decide, by decide⟩ ⟨by decide, by decide⟩ (fun r27 L M hp => ?_)
          obtain ⟨C, D, F, I, K1, hr⟩ := hp
          have K := K.step K1 (by decide)
          obtain ⟨n28, hn28a, hn28b, rfl⟩ := hr
          refine g_aload_n X dX8_mayOf_79 rfl (j := 4) rfl ?_
          refine g_iload X dX8_mayOf_80 (j := 0) rfl ?_
          refine g_iload X dX8_mayOf_82 (j := 1) rfl ?_
          refine g_callVI X (s_X8_placeOf l G F I i57_6 (by omega) (by omega) i45_5 (by omega) (by omega) ) lk_X8_298 (F.1 100 rfl).2 (F.1 100 rfl).1 rfl rfl dX8_mayOf_84 (Nat.le_of_ble_eq_true rfl) ⟨by decide, by decide⟩ ⟨by decide, by decide⟩ (fun r29 L M hp => ?_)
          obtain ⟨C, D, F, I, K1, hr⟩ := hp
          have K := K.step K1 (by decide)
          rcases okp_nat hr with rfl | ⟨n30, hn30, rfl⟩
          · skip
            refine i_iast X F I 131 rfl (fun _ => rfl) dX8_mayOf_87 (vp_in_nI (by omega) (by decide)) okp_m1 (fun M C F I K1 hC => ?_)
            have K := K.step K1 (by decide)
            refine g_iinc X dX8_mayOf_88 (j := 0) rfl (v := nI (i57_6 + 1)) (nI_1 i57_6) (by decide) (lv2 := [(6, .int (nI (i57_6 + 1))), (5, .int (nI i45_5)), (3, .int o20), (4, .int (nI i5_4)), (0, .ref (a 100)), (1, .int 2), (2, .int (nI p1))]) rfl ?_
            refine g_goto X dX8_mayOf_91 (tgt := 57) (by decide) ?_
            refine g_lv [0, 1, 2, 3, 4, 5, 6] (lv2 := [(6, .int (nI (i57_6 + 1))), (5, .int (nI i45_5)), (3, .int o20), (4, .int (nI i5_4)), (0, .ref (a 100)), (1, .int 2), (2, .int (nI p1))]) rfl ?_
            exact ih57 ((i57_6 + 1)) L M C D F I K ⟨by omega, by omega⟩ (by show _ < _; omega)
          · skip
            refine i_iast X F I 131 rfl (fun _ => rfl) dX8_mayOf_87 (vp_in_nI (by omega) (by decide)) (okp_of (n := n30) (by omega)) (fun M C F I K1 hC => ?_)
            have K := K.step K1 (by decide)
            refine g_iinc X dX8_mayOf_88 (j := 0) rfl (v := nI (i57_6 + 1)) (nI_1 i57_6) (by decide) (lv2 := [(6, .int (nI (i57_6 + 1))), (5, .int (nI i45_5)), (3, .int o20), (4, .int (nI i5_4)), (0, .ref (a 100)), (1, .int 2), (2, .int (nI p1))]) rfl ?_
            refine g_goto X dX8_mayOf_91 (tgt := 57) (by decide) ?_
            refine g_lv [0, 1, 2, 3, 4, 5, 6] (lv2 := [(6, .int (nI (i57_6 + 1))), (5, .int (nI i45_5)), (3, .int o20), (4, .int (nI i5_4)), (0, .ref (a 100)), (1, .int 2), (2, .int (nI p1))]) rfl ?_
            exact ih57 ((i57_6 + 1)) L M C D F I K ⟨by omega, by omega⟩ (by show _ < _; omega)
set_option maxHeartbeats 4000000 in
set_option maxRecDepth 100000 in
theorem s_X8_askMay_2 (l : Launch) (G : va_G) {cy : Nat → ClassId} {L : List Nat} {M : Nat → va_E} {a : Nat → Nat} {act : Nat → Bool} {C0 : Nat → Nat → Int32} {D0 : Nat → Nat → Int64} {R : Nat → Nat → Option Nat} (F : WI L M a act (ent cy a C0 D0 R)) (I : Inv C0) (p1 : Int32)  : MI l G cy yX8_askMay cX8_askMay 3 (some .int) 4 0 0 [.ref (a 100), .int 2, .int p1] L M (fun r L2 M2 => ∃ C2 D2, WI L2 M2 a act (ent cy a C2 D2 R) ∧ Inv C2 ∧ Kp [100, 115, 116] C0 D0 C2 D2 ∧ (r.toInt < 0 ∨ (r = 0 ∧ (∃ n : Nat, n ≤ 6 ∧ p1 = nI n) ∧ ∃ k : Nat, k ≤ 60 ∧ k % 3 = 0 ∧ C2 137 2 = nI k ∧ seen (fun i => D2 139 (120 + i)) k))) := by
  refine MI.of (own := RX8) rfl (by decide) (Nat.le_of_ble_eq_true rfl) ?_
  intro p e s m below meth c A X hrt hnm
  obtain ⟨C, D, hC0, hD0, F, I, K⟩ : ∃ C D, C = C0 ∧ D = D0 ∧ WI L M a act (ent cy a C D R) ∧ Inv C ∧ Kp [100, 115, 116] C0 D0 C D := ⟨C0, D0, rfl, rfl, F, I, Kp.rf⟩
  obtain ⟨n1, hn1, en1⟩ := rg_nat ((show okw 0 (C 101 0) from I 101 0).1 rfl) (by decide)
  rw [hC0] at en1
  obtain ⟨n2, hn2, en2⟩ := rg_nat ((show okw 4 (C 101 4) from I 101 4).2.2.2.1 rfl) (by decide)
  rw [hC0] at en2
  obtain ⟨n3, hn3, en3⟩ := rg_nat ((show okw 7 (C 101 7) from I 101 7).2.2.2.2.1 rfl) (by decide)
  rw [hC0] at en3
  refine g_aload_n X dX8_askMay_0 rfl (j := 0) rfl ?_
  refine g_iload_n X dX8_askMay_1 rfl (j := 2) rfl ?_
  refine g_i2l X dX8_askMay_2 rfl ?_
  refine g_callVI X (s_X8_isPost l G F I ((Int32.toInt64 p1)) ) lk_X8_112 (F.1 100 rfl).2 (F.1 100 rfl).1 rfl rfl dX8_askMay_3 (Nat.le_of_ble_eq_true rfl) ⟨by decide, by decide⟩ ⟨by decide, by decide⟩ (fun r4 L M hp => ?_)
  obtain ⟨C, D, F, I, K1, hr⟩ := hp
  have K := K.step K1 (by decide)
  rcases hr with rfl | ⟨rfl, hl5a, hl5b⟩
  · skip
    refine g_if_eq X dX8_askMay_6 (tgt := 17) (by decide) (fun _ => ?_) (fun q => absurd (by decide) q)
    refine g_bipush X dX8_askMay_17 (v := -2) (by decide) ?_
    exact g_iret X hrt dX8_askMay_19 (by decide) (by decide) ⟨C, D, F, I, K, Or.inl (by decide)⟩
  · skip
    rw [Jvm.Kit.i64_of_i32] at hl5a hl5b
    obtain ⟨n6, hn6a, hn6b, en6⟩ := nI_ofInt (x := p1) (lo := 0) (hi := 6) (by omega) (by omega) (by decide)
    subst en6
    refine g_if_eq X dX8_askMay_6 (tgt := 17) (by decide) (fun q => absurd q (by decide)) (fun _ => ?_)
    refine g_aload_n X dX8_askMay_9 rfl (j := 0) rfl ?_
    refine g_iload_n X dX8_askMay_10 rfl (j := 1) rfl ?_
    refine g_callVI X (s_X8_askSeen_2 l G F I  ) lk_X8_410 (F.1 100 rfl).2 (F.1 100 rfl).1 rfl rfl dX8_askMay_11 (Nat.le_of_ble_eq_true rfl) ⟨by decide, by decide⟩ ⟨by decide, by decide⟩ (fun r7 L M hp => ?_)
    obtain ⟨C, D, F, I, K1, hr⟩ := hp
    have K := K.step K1 (by decide)
    rcases hr with hz8 | ⟨rfl, gsn⟩
    · skip
      refine g_goto X dX8_askMay_14 (tgt := 19) (by decide) ?_
      exact g_iret X hrt dX8_askMay_19 (by decide) (by decide) ⟨C, D, F, I, K, Or.inl hz8⟩
    · skip
      rw [(K 137 (by decide)).1, (K 139 (by decide)).2] at gsn
      refine g_goto X dX8_askMay_14 (tgt := 19) (by decide) ?_
      exact g_iret X hrt dX8_askMay_19 (by decide) (by decide) ⟨C, D, F, I, K, Or.inr ⟨rfl, ⟨n6, by omega, rfl⟩, by rw [(K 137 (by decide)).1, (K 139 (by decide)).2]; exact gsn⟩⟩
set_option maxHeartbeats 4000000 in
set_option maxRecDepth 100000 in
theorem s_X8_numberAt_3 (l : Launch) (G : va_G) {cy : Nat → ClassId} {L : List Nat} {M : Nat → va_E} {a : Nat → Nat} {act : Nat → Bool} {C0 : Nat → Nat → Int32} {D0 : Nat → Nat → Int64} {R : Nat → Nat → Option Nat} (F : WI L M a act (ent cy a C0 D0 R)) (I : Inv C0) (p1 : Nat) (hp1a : 0 ≤ p1) (hp1b : p1 ≤ 59)  : MJ l G cy yX8_numberAt cX8_numberAt 3 (some .long) 0 0 0 [.ref (a 100), .int 3, .int (nI p1)] L M (fun r L2 M2 => ∃ C2 D2, WI L2 M2 a act (ent cy a C2 D2 R) ∧ Inv C2 ∧ Kp [] C0 D0 C2 D2 ∧ r = D2 139 (180 + p1)) := by
  refine MJ.of (own := RX8) rfl (by decide) (Nat.le_of_ble_eq_true rfl) ?_
  intro p e s m below meth c A X hrt hnm
  obtain ⟨C, D, hC0, hD0, F, I, K⟩ : ∃ C D, C = C0 ∧ D = D0 ∧ WI L M a act (ent cy a C D R) ∧ Inv C ∧ Kp [] C0 D0 C D := ⟨C0, D0, rfl, rfl, F, I, Kp.rf⟩
  refine g_aload_n X dX8_numberAt_0 rfl (j := 0) rfl ?_
  refine i_get X F 100 rfl rfl fk_X8_82 dX8_numberAt_1 rfl ?_
  refine g_bipush X dX8_numberAt_4 (v := 60) (by decide) ?_
  refine g_iload_n X dX8_numberAt_6 rfl (j := 1) rfl ?_
  refine g_imul X dX8_numberAt_7 ?_
  refine Go.top (v := .int 180) (by decide) ?_
  refine g_iload_n X dX8_numberAt_8 rfl (j := 2) rfl ?_
  refine g_iadd X dX8_numberAt_9 ?_
  refine Go.top (v := .int (nI (180 + p1))) (congrArg Value.int (nI_add 180 p1)) ?_
  refine i_lald X F 139 rfl rfl dX8_numberAt_10 (vp_in_nI (by omega) (by decide)) (v := D 139 (180 + p1)) (by rw [nI_clamp (by omega)]) ?_
  exact g_lret X hrt dX8_numberAt_11 (by decide) (by decide) ⟨C, D, F, I, K, rfl⟩
set_option maxHeartbeats 4000000 in
set_option maxRecDepth 100000 in
theorem s_X8_askSeen_3 (l : Launch) (G : va_G) {cy : Nat → ClassId} {L : List Nat} {M : Nat → va_E} {a : Nat → Nat} {act : Nat → Bool} {C0 : Nat → Nat → Int32} {D0 : Nat → Nat → Int64} {R : Nat → Nat → Option Nat} (F : WI L M a act (ent cy a C0 D0 R)) (I : Inv C0)   : MI l G cy yX8_askSeen cX8_askSeen 3 (some .int) 3 0 0 [.ref (a 100), .int 3] L M (fun r L2 M2 => ∃ C2 D2, WI L2 M2 a act (ent cy a C2 D2 R) ∧ Inv C2 ∧ Kp [100, 115, 116] C0 D0 C2 D2 ∧ (r.toInt < 0 ∨ (r = 0 ∧ ∃ k : Nat, k ≤ 60 ∧ k % 3 = 0 ∧ C2 137 3 = nI k ∧ seen (fun i => D2 139 (180 + i)) k))) := by
  refine MI.of (own := RX8) rfl (by decide) (Nat.le_of_ble_eq_true rfl) ?_
  intro p e s m below meth c A X hrt hnm
  obtain ⟨C, D, hC0, hD0, F, I, K⟩ : ∃ C D, C = C0 ∧ D = D0 ∧ WI L M a act (ent cy a C D R) ∧ Inv C ∧ Kp [100, 115, 116] C0 D0 C D := ⟨C0, D0, rfl, rfl, F, I, Kp.rf⟩
  obtain ⟨n1, hn1, en1⟩ := rg_nat ((show okw 0 (C 101 0) from I 101 0).1 rfl) (by decide)
  rw [hC0] at en1
  obtain ⟨n2, hn2, en2⟩ := rg_nat ((show okw 4 (C 101 4) from I 101 4).2.2.2.1 rfl) (by decide)
  rw [hC0] at en2
  obtain ⟨n3, hn3, en3⟩ := rg_nat ((show okw 7 (C 101 7) from I 101 7).2.2.2.2.1 rfl) (by decide)
  rw [hC0] at en3
  rcases rgm_nat (I 137 3) with em | ⟨mk, hmk, em⟩
  · skip
    rw [hC0] at em
    refine g_iload_n X dX8_askSeen_0 rfl (j := 1) rfl ?_
    refine g_callSI X (s_X8_isSlot_3 l G F I  ) lk_X8_394 rfl rfl dX8_askSeen_1 (Nat.le_of_ble_eq_true rfl) ⟨by decide, by decide⟩ ⟨by decide, by decide⟩ (fun r4 L M hp => ?_)
    obtain ⟨C, D, F, I, K1, hr⟩ := hp
    have K := K.step K1 (by decide)
    subst hr
    refine g_if_eq X dX8_askSeen_4 (tgt := 14) (by decide) (fun q => absurd q (by decide)) (fun _ => ?_)
    refine g_aload_n X dX8_askSeen_7 rfl (j := 0) rfl ?_
    refine g_callVI X (s_X8_isHeath l G F I  ) lk_X8_102 (F.1 100 rfl).2 (F.1 100 rfl).1 rfl rfl dX8_askSeen_8 (Nat.le_of_ble_eq_true rfl) ⟨by decide, by decide⟩ ⟨by decide, by decide⟩ (fun r5 L M hp => ?_)
    obtain ⟨C, D, F, I, K1, hr⟩ := hp
    have K := K.step K1 (by decide)
    rcases hr with rfl | rfl
    · skip
      refine g_if_ne X dX8_askSeen_11 (tgt := 17) (by decide) (fun q => absurd (by decide) q) (fun _ => ?_)
      refine g_bipush X dX8_askSeen_14 (v := -2) (by decide) ?_
      exact g_iret X hrt dX8_askSeen_16 (by decide) (by decide) ⟨C, D, F, I, K, Or.inl (by decide)⟩
    · skip
      refine g_if_ne X dX8_askSeen_11 (tgt := 17) (by decide) (fun _ => ?_) (fun q => absurd q (by decide))
      refine g_aload_n X dX8_askSeen_17 rfl (j := 0) rfl ?_
      refine i_get X F 100 rfl rfl fk_X8_76 dX8_askSeen_18 rfl ?_
      refine g_iload_n X dX8_askSeen_21 rfl (j := 1) rfl ?_
      refine i_iald X F 137 rfl rfl dX8_askSeen_22 (vp_in_iff.mpr (by decide)) (v := -1) (by exact (congrFun (K 137 (by decide)).1 (3)).trans em) ?_
      refine g_iconst X dX8_askSeen_23 (v := -1) (by decide) ?_
      refine g_icmp_ne X dX8_askSeen_24 (tgt := 30) (by decide) (fun q => absurd (by decide) q) (fun _ => ?_)
      refine g_bipush X dX8_askSeen_27 (v := -6) (by decide) ?_
      exact g_iret X hrt dX8_askSeen_29 (by decide) (by decide) ⟨C, D, F, I, K, Or.inl (by decide)⟩
  · skip
    rw [hC0] at em
    refine g_iload_n X dX8_askSeen_0 rfl (j := 1) rfl ?_
    refine g_callSI X (s_X8_isSlot_3 l G F I  ) lk_X8_394 rfl rfl dX8_askSeen_1 (Nat.le_of_ble_eq_true rfl) ⟨by decide, by decide⟩ ⟨by decide, by decide⟩ (fun r6 L M hp => ?_)
    obtain ⟨C, D, F, I, K1, hr⟩ := hp
    have K := K.step K1 (by decide)
    subst hr
    refine g_if_eq X dX8_askSeen_4 (tgt := 14) (by decide) (fun q => absurd q (by decide)) (fun _ => ?_)
    refine g_aload_n X dX8_askSeen_7 rfl (j := 0) rfl ?_
    refine g_callVI X (s_X8_isHeath l G F I  ) lk_X8_102 (F.1 100 rfl).2 (F.1 100 rfl).1 rfl rfl dX8_askSeen_8 (Nat.le_of_ble_eq_true rfl) ⟨by decide, by decide⟩ ⟨by decide, by decide⟩ (fun r7 L M hp => ?_)
    obtain ⟨C, D, F, I, K1, hr⟩ := hp
    have K := K.step K1 (by decide)
    rcases hr with rfl | rfl
    · skip
      refine g_if_ne X dX8_askSeen_11 (tgt := 17) (by decide) (fun q => absurd (by decide) q) (fun _ => ?_)
      refine g_bipush X dX8_askSeen_14 (v := -2) (by decide) ?_
      exact g_iret X hrt dX8_askSeen_16 (by decide) (by decide) ⟨C, D, F, I, K, Or.inl (by decide)⟩
    · skip
      refine g_if_ne X dX8_askSeen_11 (tgt := 17) (by decide) (fun _ => ?_) (fun q => absurd q (by decide))
      refine g_aload_n X dX8_askSeen_17 rfl (j := 0) rfl ?_
      refine i_get X F 100 rfl rfl fk_X8_76 dX8_askSeen_18 rfl ?_
      refine g_iload_n X dX8_askSeen_21 rfl (j := 1) rfl ?_
      refine i_iald X F 137 rfl rfl dX8_askSeen_22 (vp_in_iff.mpr (by decide)) (v := nI mk) (by exact (congrFun (K 137 (by decide)).1 (3)).trans em) ?_
      refine g_iconst X dX8_askSeen_23 (v := -1) (by decide) ?_
      refine g_icmp_ne X dX8_askSeen_24 (tgt := 30) (by decide) (fun _ => ?_) (fun q => absurd q (nI_nm1 (by omega)))
      refine g_aload_n X dX8_askSeen_30 rfl (j := 0) rfl ?_
      refine i_get X F 100 rfl rfl fk_X8_76 dX8_askSeen_31 rfl ?_
      refine g_iload_n X dX8_askSeen_34 rfl (j := 1) rfl ?_
      refine i_iald X F 137 rfl rfl dX8_askSeen_35 (vp_in_iff.mpr (by decide)) (v := nI mk) (by exact (congrFun (K 137 (by decide)).1 (3)).trans em) ?_
      refine g_iconst X dX8_askSeen_36 (v := 3) (by decide) ?_
      refine g_irem X dX8_askSeen_37 (by decide) ?_
      refine Go.top (v := .int (nI (mk % 3))) (congrArg Value.int (pk_rem (a := mk) (d := 3) (by omega) (by omega) (by omega))) ?_
      obtain ⟨n9, en9⟩ : ∃ z : Nat, z = mk % 3 := ⟨_, rfl⟩
      refine Go.top (v := .int (nI n9)) (by rw [en9]) ?_
      have hn9 : n9 < 3 := by rw [en9]; exact Nat.mod_lt _ (by omega)
      refine g_if_eq X dX8_askSeen_38 (tgt := 44) (by decide) (fun q10 => ?_) (fun q10 => ?_)
      · skip
        have q10 : n9 = 0 := (nI_eq (a := n9) (b := 0) (by omega) (by omega)).mp q10
        refine g_iconst X dX8_askSeen_44 (v := 0) (by decide) ?_
        refine g_istore_n X dX8_askSeen_45 rfl (by decide) (lv2 := [(2, .int 0), (0, .ref (a 100)), (1, .int 3)]) rfl ?_
        refine g_lv [0, 1, 2] (lv2 := [(2, .int 0), (0, .ref (a 100)), (1, .int 3)]) rfl ?_
        refine i_loop (mods := [100, 115, 116]) (fun x : Nat => 60 - x) (fun x => [(2, .int (nI (x))), (0, .ref (a 100)), (1, .int 3)]) (fun x C => 0 ≤ x ∧ x ≤ 60 ∧ (x % 3 = 0) ∧ (seen (fun i => D0 139 (180 + i)) (x)) ∧ (x ≤ mk)) (fun x L M C D F I K hP ih46 => ?_) ((0) : Nat) F I K ⟨by show _ ≤ _; omega, by show _ ≤ _; omega, (by decide), seen_0, (Nat.zero_le _)⟩
        obtain ⟨i46_2, rfl⟩ : ∃ z, z = x := ⟨_, rfl⟩
        obtain ⟨hi46_2a, hi46_2b, hm3, hsee, hisz⟩ := hP
        refine g_lv [0, 1, 2] (lv2 := [(2, .int (nI i46_2)), (0, .ref (a 100)), (1, .int 3)]) rfl ?_
        refine g_iload_n X dX8_askSeen_46 rfl (j := 0) rfl ?_
        refine g_aload_n X dX8_askSeen_47 rfl (j := 1) rfl ?_
        refine i_get X F 100 rfl rfl fk_X8_76 dX8_askSeen_48 rfl ?_
        refine g_iload_n X dX8_askSeen_51 rfl (j := 2) rfl ?_
        refine i_iald X F 137 rfl rfl dX8_askSeen_52 (vp_in_iff.mpr (by decide)) (v := nI mk) (by exact (congrFun (K 137 (by decide)).1 (3)).trans em) ?_
        refine g_icmp_ge X dX8_askSeen_53 (tgt := 123) (by decide) (fun q11 => ?_) (fun q11 => ?_)
        · skip
          have q11 : mk ≤ i46_2 := (nI_leI (a := mk) (b := i46_2) (by omega) (by omega)).mp q11
          refine g_aload_n X dX8_askSeen_123 rfl (j := 1) rfl ?_
          refine g_callVV X (s_X8_asItIs l G F I  ) lk_X8_286 (F.1 100 rfl).2 (F.1 100 rfl).1 rfl rfl dX8_askSeen_124 (Nat.le_of_ble_eq_true rfl) ⟨by decide, by decide⟩ ⟨by decide, by decide⟩ (fun L M hp => ?_)
          obtain ⟨C, D, F, I, K1, hr⟩ := hp
          have K := K.step K1 (by decide)
          refine g_iconst X dX8_askSeen_127 (v := 0) (by decide) ?_
          exact g_iret X hrt dX8_askSeen_128 (by decide) (by decide) ⟨C, D, F, I, K, Or.inr ⟨rfl, mk, by omega, by omega, (congrFun (K 137 (by decide)).1 3).trans em, by rw [(K 139 (by decide)).2, show mk = i46_2 by omega]; exact hsee⟩⟩
        · skip
          have q11 : ¬ mk ≤ i46_2 := fun z => q11 ((nI_leI (a := mk) (b := i46_2) (by omega) (by omega)).mpr z)
          refine g_aload_n X dX8_askSeen_56 rfl (j := 1) rfl ?_
          refine g_aload_n X dX8_askSeen_57 rfl (j := 1) rfl ?_
          refine g_iload_n X dX8_askSeen_58 rfl (j := 2) rfl ?_
          refine g_iload_n X dX8_askSeen_59 rfl (j := 0) rfl ?_
          refine g_callVJ X (s_X8_numberAt_3 l G F I i46_2 (by omega) (by omega) ) lk_X8_397 (F.1 100 rfl).2 (F.1 100 rfl).1 rfl rfl dX8_askSeen_60 (Nat.le_of_ble_eq_true rfl) ⟨by decide, by decide⟩ ⟨by decide, by decide⟩ (fun r12 L M hp => ?_)
          obtain ⟨C, D, F, I, K1, hr⟩ := hp
          have K := K.step K1 (by decide)
          obtain rfl : r12 = (D0 139 (180 + i46_2)) := hr.trans (by rw [(K 139 (by decide)).2])
          refine g_callVI X (s_X8_isWalker l G F I ((D0 139 (180 + i46_2))) ) lk_X8_254 (F.1 100 rfl).2 (F.1 100 rfl).1 rfl rfl dX8_askSeen_63 (Nat.le_of_ble_eq_true rfl) ⟨by decide, by decide⟩ ⟨by decide, by decide⟩ (fun r13 L M hp => ?_)
          obtain ⟨C, D, F, I, K1, hr⟩ := hp
          have K := K.step K1 (by decide)
          rcases hr with rfl | ⟨rfl, hl14a, hl14b⟩
          · skip
            refine g_if_eq X dX8_askSeen_66 (tgt := 114) (by decide) (fun _ => ?_) (fun q => absurd (by decide) q)
            refine g_bipush X dX8_askSeen_114 (v := -2) (by decide) ?_
            exact g_iret X hrt dX8_askSeen_116 (by decide) (by decide) ⟨C, D, F, I, K, Or.inl (by decide)⟩
          · skip
            refine g_if_eq X dX8_askSeen_66 (tgt := 114) (by decide) (fun q => absurd q (by decide)) (fun _ => ?_)
            refine g_aload_n X dX8_askSeen_69 rfl (j := 1) rfl ?_
            refine g_aload_n X dX8_askSeen_70 rfl (j := 1) rfl ?_
            refine g_iload_n X dX8_askSeen_71 rfl (j := 2) rfl ?_
            refine g_iload_n X dX8_askSeen_72 rfl (j := 0) rfl ?_
            refine g_iconst X dX8_askSeen_73 (v := 1) (by decide) ?_
            refine g_iadd X dX8_askSeen_74 ?_
            refine Go.top (v := .int (nI (i46_2 + 1))) (congrArg Value.int (nI_add i46_2 1)) ?_
            refine g_callVJ X (s_X8_numberAt_3 l G F I (i46_2 + 1) (by omega) (by omega) ) lk_X8_397 (F.1 100 rfl).2 (F.1 100 rfl).1 rfl rfl dX8_askSeen_75 (Nat.le_of_ble_eq_true rfl) ⟨by decide, by decide⟩ ⟨by decide, by decide⟩ (fun r15 L M hp => ?_)
            obtain ⟨C, D, F, I, K1, hr⟩ := hp
            have K := K.step K1 (by decide)
            obtain rfl : r15 = (D0 139 (180 + (i46_2 + 1))) := hr.trans (by rw [(K 139 (by decide)).2])
            refine g_callVI X (s_X8_isHour l G F I ((D0 139 (180 + (i46_2 + 1)))) ) lk_X8_295 (F.1 100 rfl).2 (F.1 100 rfl).1 rfl rfl dX8_askSeen_78 (Nat.le_of_ble_eq_true rfl) ⟨by decide, by decide⟩ ⟨by decide, by decide⟩ (fun r16 L M hp => ?_)
            obtain ⟨C, D, F, I, K1, hr⟩ := hp
            have K := K.step K1 (by decide)
            rcases hr with rfl | ⟨rfl, hl17a, hl17b⟩
            · skip
              refine g_if_eq X dX8_askSeen_81 (tgt := 114) (by decide) (fun _ => ?_) (fun q => absurd (by decide) q)
              refine g_bipush X dX8_askSeen_114 (v := -2) (by decide) ?_
              exact g_iret X hrt dX8_askSeen_116 (by decide) (by decide) ⟨C, D, F, I, K, Or.inl (by decide)⟩
            · skip
              refine g_if_eq X dX8_askSeen_81 (tgt := 114) (by decide) (fun q => absurd q (by decide)) (fun _ => ?_)
              refine g_aload_n X dX8_askSeen_84 rfl (j := 1) rfl ?_
              refine g_iload_n X dX8_askSeen_85 rfl (j := 2) rfl ?_
              refine g_iload_n X dX8_askSeen_86 rfl (j := 0) rfl ?_
              refine g_iconst X dX8_askSeen_87 (v := 2) (by decide) ?_
              refine g_iadd X dX8_askSeen_88 ?_
              refine Go.top (v := .int (nI (i46_2 + 2))) (congrArg Value.int (nI_add i46_2 2)) ?_
              refine g_callVJ X (s_X8_numberAt_3 l G F I (i46_2 + 2) (by omega) (by omega) ) lk_X8_397 (F.1 100 rfl).2 (F.1 100 rfl).1 rfl rfl dX8_askSeen_89 (Nat.le_of_ble_eq_true rfl) ⟨by decide, by decide⟩ ⟨by decide, by decide⟩ (fun r18 L M hp => ?_)
              obtain ⟨C, D, F, I, K1, hr⟩ := hp
              have K := K.step K1 (by decide)
              obtain rfl : r18 = (D0 139 (180 + (i46_2 + 2))) := hr.trans (by rw [(K 139 (by decide)).2])
              refine g_ldc2 X (v := -1) wd928 dX8_askSeen_92 ?_
              refine g_lcmp X dX8_askSeen_95 ?_
              refine g_if_eq X dX8_askSeen_96 (tgt := 117) (by decide) (fun q19 => ?_) (fun q19 => ?_)
              · skip
                have q19t : ((D0 139 (180 + (i46_2 + 2)))) = (-1 : Int64) := (lg_cmp_eq _ _).mp q19
                have q19k1 : (-1 : Int64).toInt = -1 := (by decide)
                refine g_iinc X dX8_askSeen_117 (j := 0) rfl (v := nI (i46_2 + 3)) (nI_add i46_2 3) (by decide) (lv2 := [(2, .int (nI (i46_2 + 3))), (0, .ref (a 100)), (1, .int 3)]) rfl ?_
                refine g_goto X dX8_askSeen_120 (tgt := 46) (by decide) ?_
                refine g_lv [0, 1, 2] (lv2 := [(2, .int (nI (i46_2 + 3))), (0, .ref (a 100)), (1, .int 3)]) rfl ?_
                exact ih46 ((i46_2 + 3)) L M C D F I K ⟨by omega, by omega, (by show _ % 3 = 0; omega), (seen_st (d := fun i => D0 139 (180 + i)) (by omega) hsee (by show 0 ≤ (D0 139 (180 + i46_2)).toInt; omega) (by show (D0 139 (180 + i46_2)).toInt ≤ 7; omega) (by show 0 ≤ (D0 139 (180 + (i46_2 + 1))).toInt; omega) (by show (D0 139 (180 + (i46_2 + 1))).toInt ≤ 16; omega)), (by show _ ≤ mk; omega)⟩ (by show _ < _; omega)
              · skip
                have q19t : ¬ ((D0 139 (180 + (i46_2 + 2)))) = (-1 : Int64) := fun z => q19 ((lg_cmp_eq _ _).mpr z)
                have q19k1 : (-1 : Int64).toInt = -1 := (by decide)
                refine g_aload_n X dX8_askSeen_99 rfl (j := 1) rfl ?_
                refine g_aload_n X dX8_askSeen_100 rfl (j := 1) rfl ?_
                refine g_iload_n X dX8_askSeen_101 rfl (j := 2) rfl ?_
                refine g_iload_n X dX8_askSeen_102 rfl (j := 0) rfl ?_
                refine g_iconst X dX8_askSeen_103 (v := 2) (by decide) ?_
                refine g_iadd X dX8_askSeen_104 ?_
                refine Go.top (v := .int (nI (i46_2 + 2))) (congrArg Value.int (nI_add i46_2 2)) ?_
                refine g_callVJ X (s_X8_numberAt_3 l G F I (i46_2 + 2) (by omega) (by omega) ) lk_X8_397 (F.1 100 rfl).2 (F.1 100 rfl).1 rfl rfl dX8_askSeen_105 (Nat.le_of_ble_eq_true rfl) ⟨by decide, by decide⟩ ⟨by decide, by decide⟩ (fun r20 L M hp => ?_)
                obtain ⟨C, D, F, I, K1, hr⟩ := hp
                have K := K.step K1 (by decide)
                obtain rfl : r20 = (D0 139 (180 + (i46_2 + 2))) := hr.trans (by rw [(K 139 (by decide)).2])
                refine g_callVI X (s_X8_isPlace l G F I ((D0 139 (180 + (i46_2 + 2)))) ) lk_X8_305 (F.1 100 rfl).2 (F.1 100 rfl).1 rfl rfl dX8_askSeen_108 (Nat.le_of_ble_eq_true rfl) ⟨by decide, by decide⟩ ⟨by decide, by decide⟩ (fun r21 L M hp => ?_)
                obtain ⟨C, D, F, I, K1, hr⟩ := hp
                have K := K.step K1 (by decide)
                rcases hr with rfl | rfl
                · skip
                  refine g_if_ne X dX8_askSeen_111 (tgt := 117) (by decide) (fun q => absurd (by decide) q) (fun _ => ?_)
                  refine g_bipush X dX8_askSeen_114 (v := -2) (by decide) ?_
                  exact g_iret X hrt dX8_askSeen_116 (by decide) (by decide) ⟨C, D, F, I, K, Or.inl (by decide)⟩
                · skip
                  refine g_if_ne X dX8_askSeen_111 (tgt := 117) (by decide) (fun _ => ?_) (fun q => absurd q (by decide))
                  refine g_iinc X dX8_askSeen_117 (j := 0) rfl (v := nI (i46_2 + 3)) (nI_add i46_2 3) (by decide) (lv2 := [(2, .int (nI (i46_2 + 3))), (0, .ref (a 100)), (1, .int 3)]) rfl ?_
                  refine g_goto X dX8_askSeen_120 (tgt := 46) (by decide) ?_
                  refine g_lv [0, 1, 2] (lv2 := [(2, .int (nI (i46_2 + 3))), (0, .ref (a 100)), (1, .int 3)]) rfl ?_
                  exact ih46 ((i46_2 + 3)) L M C D F I K ⟨by omega, by omega, (by show _ % 3 = 0; omega), (seen_st (d := fun i => D0 139 (180 + i)) (by omega) hsee (by show 0 ≤ (D0 139 (180 + i46_2)).toInt; omega) (by show (D0 139 (180 + i46_2)).toInt ≤ 7; omega) (by show 0 ≤ (D0 139 (180 + (i46_2 + 1))).toInt; omega) (by show (D0 139 (180 + (i46_2 + 1))).toInt ≤ 16; omega)), (by show _ ≤ mk; omega)⟩ (by show _ < _; omega)
      · skip
        have q10 : ¬ n9 = 0 := fun z => q10 ((nI_eq (a := n9) (b := 0) (by omega) (by omega)).mpr z)
        refine g_bipush X dX8_askSeen_41 (v := -2) (by decide) ?_
        exact g_iret X hrt dX8_askSeen_43 (by decide) (by decide) ⟨C, D, F, I, K, Or.inl (by decide)⟩
set_option maxHeartbeats 4000000 in
set_option maxRecDepth 100000 in
theorem s_X8_isSeen_3 (l : Launch) (G : va_G) {cy : Nat → ClassId} {L : List Nat} {M : Nat → va_E} {a : Nat → Nat} {act : Nat → Bool} {C0 : Nat → Nat → Int32} {D0 : Nat → Nat → Int64} {R : Nat → Nat → Option Nat} (F : WI L M a act (ent cy a C0 D0 R)) (I : Inv C0)  (gsn : ∃ k : Nat, k ≤ 60 ∧ k % 3 = 0 ∧ C0 137 3 = nI k ∧ seen (fun i => D0 139 (180 + i)) k) : MI l G cy yX8_isSeen cX8_isSeen 3 (some .boolean) 6 0 0 [.ref (a 100), .int 3] L M (fun r L2 M2 => ∃ C2 D2, WI L2 M2 a act (ent cy a C2 D2 R) ∧ Inv C2 ∧ Kp [120, 121, 122, 123, 124, 125, 126, 127, 128] C0 D0 C2 D2 ∧ (r = 0 ∨ r = 1)) := by
  refine MI.of (own := RX8) rfl (by decide) (Nat.le_of_ble_eq_true rfl) ?_
  intro p e s m below meth c A X hrt hnm
  obtain ⟨C, D, hC0, hD0, F, I, K⟩ : ∃ C D, C = C0 ∧ D = D0 ∧ WI L M a act (ent cy a C D R) ∧ Inv C ∧ Kp [120, 121, 122, 123, 124, 125, 126, 127, 128] C0 D0 C D := ⟨C0, D0, rfl, rfl, F, I, Kp.rf⟩
  obtain ⟨n1, hn1, en1⟩ := rg_nat ((show okw 0 (C 101 0) from I 101 0).1 rfl) (by decide)
  rw [hC0] at en1
  obtain ⟨n2, hn2, en2⟩ := rg_nat ((show okw 4 (C 101 4) from I 101 4).2.2.2.1 rfl) (by decide)
  rw [hC0] at en2
  obtain ⟨n3, hn3, en3⟩ := rg_nat ((show okw 7 (C 101 7) from I 101 7).2.2.2.2.1 rfl) (by decide)
  rw [hC0] at en3
  obtain ⟨kz, hkz, hk3, ekz, hsn⟩ := gsn
  refine g_aload_n X dX8_isSeen_0 rfl (j := 0) rfl ?_
  refine g_callVV X (s_X8_goAll l G F I  ) lk_X8_289 (F.1 100 rfl).2 (F.1 100 rfl).1 rfl rfl dX8_isSeen_1 (Nat.le_of_ble_eq_true rfl) ⟨by decide, by decide⟩ ⟨by decide, by decide⟩ (fun L M hp => ?_)
  obtain ⟨C, D, F, I, K1, hr⟩ := hp
  have K := K.step K1 (by decide)
  refine g_iconst X dX8_isSeen_4 (v := 0) (by decide) ?_
  refine g_istore_n X dX8_isSeen_5 rfl (by decide) (lv2 := [(2, .int 0), (0, .ref (a 100)), (1, .int 3)]) rfl ?_
  refine g_lv [0, 1, 2] (lv2 := [(2, .int 0), (0, .ref (a 100)), (1, .int 3)]) rfl ?_
  refine i_loop (mods := [120, 121, 122, 123, 124, 125, 126, 127, 128]) (fun x : Nat => 60 - x) (fun x => [(2, .int (nI (x))), (0, .ref (a 100)), (1, .int 3)]) (fun x C => 0 ≤ x ∧ x ≤ 60 ∧ (x % 3 = 0)) (fun x L M C D F I K hP ih6 => ?_) ((0) : Nat) F I K ⟨by show _ ≤ _; omega, by show _ ≤ _; omega, (by decide)⟩
  obtain ⟨i6_2, rfl⟩ : ∃ z, z = x := ⟨_, rfl⟩
  obtain ⟨hi6_2a, hi6_2b, hm3⟩ := hP
  refine g_lv [0, 1, 2] (lv2 := [(2, .int (nI i6_2)), (0, .ref (a 100)), (1, .int 3)]) rfl ?_
  refine g_iload_n X dX8_isSeen_6 rfl (j := 0) rfl ?_
  refine g_aload_n X dX8_isSeen_7 rfl (j := 1) rfl ?_
  refine i_get X F 100 rfl rfl fk_X8_76 dX8_isSeen_8 rfl ?_
  refine g_iload_n X dX8_isSeen_11 rfl (j := 2) rfl ?_
  refine i_iald X F 137 rfl rfl dX8_isSeen_12 (vp_in_iff.mpr (by decide)) (v := nI kz) (by exact (congrFun (K 137 (by decide)).1 (3)).trans ekz) ?_
  refine g_icmp_ge X dX8_isSeen_13 (tgt := 57) (by decide) (fun q4 => ?_) (fun q4 => ?_)
  · skip
    have q4 : kz ≤ i6_2 := (nI_leI (a := kz) (b := i6_2) (by omega) (by omega)).mp q4
    refine g_iconst X dX8_isSeen_57 (v := 1) (by decide) ?_
    exact g_zret X hrt rfl dX8_isSeen_58 (by decide) (by decide) ⟨C, D, F, I, K, Or.inr rfl⟩
  · skip
    have q4 : ¬ kz ≤ i6_2 := fun z => q4 ((nI_leI (a := kz) (b := i6_2) (by omega) (by omega)).mpr z)
    refine g_aload_n X dX8_isSeen_16 rfl (j := 1) rfl ?_
    refine g_aload_n X dX8_isSeen_17 rfl (j := 1) rfl ?_
    refine g_iload_n X dX8_isSeen_18 rfl (j := 2) rfl ?_
    refine g_iload_n X dX8_isSeen_19 rfl (j := 0) rfl ?_
    refine g_callVJ X (s_X8_numberAt_3 l G F I i6_2 (by omega) (by omega) ) lk_X8_397 (F.1 100 rfl).2 (F.1 100 rfl).1 rfl rfl dX8_isSeen_20 (Nat.le_of_ble_eq_true rfl) ⟨by decide, by decide⟩ ⟨by decide, by decide⟩ (fun r5 L M hp => ?_)
    obtain ⟨C, D, F, I, K1, hr⟩ := hp
    have K := K.step K1 (by decide)
    obtain rfl : r5 = (D0 139 (180 + i6_2)) := hr.trans (by rw [(K 139 (by decide)).2])
    have hi3 := hsn (i6_2 / 3) (by omega)
    rw [show 3 * (i6_2 / 3) = i6_2 by omega] at hi3
    obtain ⟨n6, hn6, en6⟩ := l2i_nat (x := (D0 139 (180 + i6_2))) (hi := 7) hi3.1.1 (by have z := hi3.1.2; exact z) (by decide)
    refine g_l2i X dX8_isSeen_23 (v := nI n6) en6 ?_
    refine g_aload_n X dX8_isSeen_24 rfl (j := 1) rfl ?_
    refine g_iload_n X dX8_isSeen_25 rfl (j := 2) rfl ?_
    refine g_iload_n X dX8_isSeen_26 rfl (j := 0) rfl ?_
    refine g_iconst X dX8_isSeen_27 (v := 1) (by decide) ?_
    refine g_iadd X dX8_isSeen_28 ?_
    refine Go.top (v := .int (nI (i6_2 + 1))) (congrArg Value.int (nI_add i6_2 1)) ?_
    refine g_callVJ X (s_X8_numberAt_3 l G F I (i6_2 + 1) (by omega) (by omega) ) lk_X8_397 (F.1 100 rfl).2 (F.1 100 rfl).1 rfl rfl dX8_isSeen_29 (Nat.le_of_ble_eq_true rfl) ⟨by decide, by decide⟩ ⟨by decide, by decide⟩ (fun r7 L M hp => ?_)
    obtain ⟨C, D, F, I, K1, hr⟩ := hp
    have K := K.step K1 (by decide)
    obtain rfl : r7 = (D0 139 (180 + (i6_2 + 1))) := hr.trans (by rw [(K 139 (by decide)).2])
    have hi3 := hsn (i6_2 / 3) (by omega)
    rw [show 3 * (i6_2 / 3) = i6_2 by omega] at hi3
    obtain ⟨n8, hn8, en8⟩ := l2i_nat (x := (D0 139 (180 + (i6_2 + 1)))) (hi := 16) hi3.2.1 (by have z := hi3.2.2; exact z) (by decide)
    refine g_l2i X dX8_isSeen_32 (v := nI n8) en8 ?_
    refine g_callVI X (s_X8_placeOf l G F I n6 (by omega) (by omega) n8 (by omega) (by omega) ) lk_X8_298 (F.1 100 rfl).2 (F.1 100 rfl).1 rfl rfl dX8_isSeen_33 (Nat.le_of_ble_eq_true rfl) ⟨by decide, by decide⟩ ⟨by decide, by decide⟩ (fun r9 L M hp => ?_)
    obtain ⟨C, D, F, I, K1, hr⟩ := hp
    have K := K.step K1 (by decide)
    rcases okp_nat hr with rfl | ⟨n10, hn10, rfl⟩
    · skip
      refine g_i2l X dX8_isSeen_36 rfl ?_
      refine Go.top (v := .long (-1)) (by decide) ?_
      refine g_aload_n X dX8_isSeen_37 rfl (j := 1) rfl ?_
      refine g_iload_n X dX8_isSeen_38 rfl (j := 2) rfl ?_
      refine g_iload_n X dX8_isSeen_39 rfl (j := 0) rfl ?_
      refine g_iconst X dX8_isSeen_40 (v := 2) (by decide) ?_
      refine g_iadd X dX8_isSeen_41 ?_
      refine Go.top (v := .int (nI (i6_2 + 2))) (congrArg Value.int (nI_add i6_2 2)) ?_
      refine g_callVJ X (s_X8_numberAt_3 l G F I (i6_2 + 2) (by omega) (by omega) ) lk_X8_397 (F.1 100 rfl).2 (F.1 100 rfl).1 rfl rfl dX8_isSeen_42 (Nat.le_of_ble_eq_true rfl) ⟨by decide, by decide⟩ ⟨by decide, by decide⟩ (fun r11 L M hp => ?_)
      obtain ⟨C, D, F, I, K1, hr⟩ := hp
      have K := K.step K1 (by decide)
      obtain rfl : r11 = (D0 139 (180 + (i6_2 + 2))) := hr.trans (by rw [(K 139 (by decide)).2])
      refine g_lcmp X dX8_isSeen_45 ?_
      refine g_if_eq X dX8_isSeen_46 (tgt := 51) (by decide) (fun q12 => ?_) (fun q12 => ?_)
      · skip
        have q12t : (-1 : Int64) = ((D0 139 (180 + (i6_2 + 2)))) := (lg_cmp_eq _ _).mp q12
        have q12k1 : (-1 : Int64).toInt = -1 := (by decide)
        refine g_iinc X dX8_isSeen_51 (j := 0) rfl (v := nI (i6_2 + 3)) (nI_add i6_2 3) (by decide) (lv2 := [(2, .int (nI (i6_2 + 3))), (0, .ref (a 100)), (1, .int 3)]) rfl ?_
        refine g_goto X dX8_isSeen_54 (tgt := 6) (by decide) ?_
        refine g_lv [0, 1, 2] (lv2 := [(2, .int (nI (i6_2 + 3))), (0, .ref (a 100)), (1, .int 3)]) rfl ?_
        exact ih6 ((i6_2 + 3)) L M C D F I K ⟨by omega, by omega, (by show _ % 3 = 0; omega)⟩ (by show _ < _; omega)
      · skip
        have q12t : ¬ (-1 : Int64) = ((D0 139 (180 + (i6_2 + 2)))) := fun z => q12 ((lg_cmp_eq _ _).mpr z)
        have q12k1 : (-1 : Int64).toInt = -1 := (by decide)
        refine g_iconst X dX8_isSeen_49 (v := 0) (by decide) ?_
        exact g_zret X hrt rfl dX8_isSeen_50 (by decide) (by decide) ⟨C, D, F, I, K, Or.inl rfl⟩
    · skip
      refine g_i2l X dX8_isSeen_36 rfl ?_
      refine g_aload_n X dX8_isSeen_37 rfl (j := 1) rfl ?_
      refine g_iload_n X dX8_isSeen_38 rfl (j := 2) rfl ?_
      refine g_iload_n X dX8_isSeen_39 rfl (j := 0) rfl ?_
      refine g_iconst X dX8_isSeen_40 (v := 2) (by decide) ?_
      refine g_iadd X dX8_isSeen_41 ?_
      refine Go.top (v := .int (nI (i6_2 + 2))) (congrArg Value.int (nI_add i6_2 2)) ?_
      refine g_callVJ X (s_X8_numberAt_3 l G F I (i6_2 + 2) (by omega) (by omega) ) lk_X8_397 (F.1 100 rfl).2 (F.1 100 rfl).1 rfl rfl dX8_isSeen_42 (Nat.le_of_ble_eq_true rfl) ⟨by decide, by decide⟩ ⟨by decide, by decide⟩ (fun r13 L M hp => ?_)
      obtain ⟨C, D, F, I, K1, hr⟩ := hp
      have K := K.step K1 (by decide)
      obtain rfl : r13 = (D0 139 (180 + (i6_2 + 2))) := hr.trans (by rw [(K 139 (by decide)).2])
      refine g_lcmp X dX8_isSeen_45 ?_
      refine g_if_eq X dX8_isSeen_46 (tgt := 51) (by decide) (fun q14 => ?_) (fun q14 => ?_)
      · skip
        have q14t : ((Int32.toInt64 (nI n10))) = ((D0 139 (180 + (i6_2 + 2)))) := (lg_cmp_eq _ _).mp q14
        have q14wa := Jvm.Kit.i64_of_i32 (nI n10)
        rw [nI_toInt (by omega)] at q14wa
        refine g_iinc X dX8_isSeen_51 (j := 0) rfl (v := nI (i6_2 + 3)) (nI_add i6_2 3) (by decide) (lv2 := [(2, .int (nI (i6_2 + 3))), (0, .ref (a 100)), (1, .int 3)]) rfl ?_
        refine g_goto X dX8_isSeen_54 (tgt := 6) (by decide) ?_
        refine g_lv [0, 1, 2] (lv2 := [(2, .int (nI (i6_2 + 3))), (0, .ref (a 100)), (1, .int 3)]) rfl ?_
        exact ih6 ((i6_2 + 3)) L M C D F I K ⟨by omega, by omega, (by show _ % 3 = 0; omega)⟩ (by show _ < _; omega)
      · skip
        have q14t : ¬ ((Int32.toInt64 (nI n10))) = ((D0 139 (180 + (i6_2 + 2)))) := fun z => q14 ((lg_cmp_eq _ _).mpr z)
        have q14wa := Jvm.Kit.i64_of_i32 (nI n10)
        rw [nI_toInt (by omega)] at q14wa
        refine g_iconst X dX8_isSeen_49 (v := 0) (by decide) ?_
        exact g_zret X hrt rfl dX8_isSeen_50 (by decide) (by decide) ⟨C, D, F, I, K, Or.inl rfl⟩
set_option maxHeartbeats 4000000 in
set_option maxRecDepth 100000 in
theorem s_X8_mayOf_3 (l : Launch) (G : va_G) {cy : Nat → ClassId} {L : List Nat} {M : Nat → va_E} {a : Nat → Nat} {act : Nat → Bool} {C0 : Nat → Nat → Int32} {D0 : Nat → Nat → Int64} {R : Nat → Nat → Option Nat} (F : WI L M a act (ent cy a C0 D0 R)) (I : Inv C0) (p1 : Nat) (hp1a : 0 ≤ p1) (hp1b : p1 ≤ 6) (gsn : ∃ k : Nat, k ≤ 60 ∧ k % 3 = 0 ∧ C0 137 3 = nI k ∧ seen (fun i => D0 139 (180 + i)) k) : MI l G cy yX8_mayOf cX8_mayOf 7 (some .int) 7 0 0 [.ref (a 100), .int 3, .int (nI p1)] L M (fun r L2 M2 => ∃ C2 D2, WI L2 M2 a act (ent cy a C2 D2 R) ∧ Inv C2 ∧ Kp [115, 120, 121, 122, 123, 124, 125, 126, 127, 128, 131] C0 D0 C2 D2 ∧ True) := by
  refine MI.of (own := RX8) rfl (by decide) (Nat.le_of_ble_eq_true rfl) ?_
  intro p e s m below meth c A X hrt hnm
  obtain ⟨C, D, hC0, hD0, F, I, K⟩ : ∃ C D, C = C0 ∧ D = D0 ∧ WI L M a act (ent cy a C D R) ∧ Inv C ∧ Kp [115, 120, 121, 122, 123, 124, 125, 126, 127, 128, 131] C0 D0 C D := ⟨C0, D0, rfl, rfl, F, I, Kp.rf⟩
  obtain ⟨n1, hn1, en1⟩ := rg_nat ((show okw 0 (C 101 0) from I 101 0).1 rfl) (by decide)
  rw [hC0] at en1
  obtain ⟨n2, hn2, en2⟩ := rg_nat ((show okw 4 (C 101 4) from I 101 4).2.2.2.1 rfl) (by decide)
  rw [hC0] at en2
  obtain ⟨n3, hn3, en3⟩ := rg_nat ((show okw 7 (C 101 7) from I 101 7).2.2.2.2.1 rfl) (by decide)
  rw [hC0] at en3
  refine g_iconst X dX8_mayOf_0 (v := 0) (by decide) ?_
  refine g_istore_n X dX8_mayOf_1 rfl (by decide) (lv2 := [(3, .int 0), (0, .ref (a 100)), (1, .int 3), (2, .int (nI p1))]) rfl ?_
  refine g_iconst X dX8_mayOf_2 (v := 0) (by decide) ?_
  refine g_istore X dX8_mayOf_3 (by decide) (lv2 := [(4, .int 0), (3, .int 0), (0, .ref (a 100)), (1, .int 3), (2, .int (nI p1))]) rfl ?_
  refine g_lv [0, 1, 2, 3, 4] (lv2 := [(4, .int 0), (3, .int 0), (0, .ref (a 100)), (1, .int 3), (2, .int (nI p1))]) rfl ?_
  refine i_loop (mods := [115, 120, 121, 122, 123, 124, 125, 126, 127, 128, 131]) (fun x : Nat × Int32 => 4 - x.1) (fun x => [(4, .int (nI (x.1))), (3, .int (x.2)), (0, .ref (a 100)), (1, .int 3), (2, .int (nI p1))]) (fun x C => 0 ≤ x.1 ∧ x.1 ≤ 4) (fun x L M C D F I K hP ih5 => ?_) ((0, 0) : Nat × Int32) F I K ⟨by show _ ≤ _; omega, by show _ ≤ _; omega⟩
  rcases x with ⟨i5_4, v5_3⟩
  obtain ⟨hi5_4a, hi5_4b⟩ := hP
  refine g_lv [0, 1, 2, 3, 4] (lv2 := [(4, .int (nI i5_4)), (3, .int v5_3), (0, .ref (a 100)), (1, .int 3), (2, .int (nI p1))]) rfl ?_
  refine g_iload X dX8_mayOf_5 (j := 0) rfl ?_
  refine g_aload_n X dX8_mayOf_7 rfl (j := 2) rfl ?_
  refine g_iload_n X dX8_mayOf_8 rfl (j := 4) rfl ?_
  refine g_callVI X (s_X8_roadMany l G F I p1 (by omega) (by omega) ) lk_X8_245 (F.1 100 rfl).2 (F.1 100 rfl).1 rfl rfl dX8_mayOf_9 (Nat.le_of_ble_eq_true rfl) ⟨by decide, by decide⟩ ⟨by decide, by decide⟩ (fun r4 L M hp => ?_)
  obtain ⟨C, D, F, I, K1, hr⟩ := hp
  have K := K.step K1 (by decide)
  obtain ⟨n5, hn5, en5, rfl⟩ := hr
  have fn5 : C0 101 (14 + 6 * p1) = nI n5 := (congrFun (K 101 (by decide)).1 _).symm.trans en5
  refine g_icmp_ge X dX8_mayOf_12 (tgt := 106) (by decide) (fun q6 => ?_) (fun q6 => ?_)
  · skip
    have q6 : n5 ≤ i5_4 := (nI_leI (a := n5) (b := i5_4) (by omega) (by omega)).mp q6
    refine g_iload_n X dX8_mayOf_106 rfl (j := 1) rfl ?_
    exact g_iret X hrt dX8_mayOf_107 (by decide) (by decide) ⟨C, D, F, I, K, trivial⟩
  · skip
    have q6 : ¬ n5 ≤ i5_4 := fun z => q6 ((nI_leI (a := n5) (b := i5_4) (by omega) (by omega)).mpr z)
    refine g_aload_n X dX8_mayOf_15 rfl (j := 2) rfl ?_
    refine i_get X F 100 rfl rfl fk_X8_34 dX8_mayOf_16 rfl ?_
    refine g_iload_n X dX8_mayOf_19 rfl (j := 4) rfl ?_
    refine g_iload X dX8_mayOf_20 (j := 0) rfl ?_
    refine i_iast X F I 115 rfl (fun _ => rfl) dX8_mayOf_22 (vp_in_nI (by omega) (by decide)) (rg_of (n := i5_4) (by omega) (by omega) (by omega)) (fun M C F I K1 hC => ?_)
    have K := K.step K1 (by decide)
    refine g_iload_n X dX8_mayOf_23 rfl (j := 1) rfl ?_
    refine g_aload_n X dX8_mayOf_24 rfl (j := 2) rfl ?_
    refine g_iload_n X dX8_mayOf_25 rfl (j := 3) rfl ?_
    refine g_callVI X (s_X8_isSeen_3 l G F I  (by rw [(K 137 (by decide)).1, (K 139 (by decide)).2]; exact gsn)) lk_X8_403 (F.1 100 rfl).2 (F.1 100 rfl).1 rfl rfl dX8_mayOf_26 (Nat.le_of_ble_eq_true rfl) ⟨by decide, by decide⟩ ⟨by decide, by decide⟩ (fun r7 L M hp => ?_)
    obtain ⟨C, D, F, I, K1, hr⟩ := hp
    have K := K.step K1 (by decide)
    rcases hr with rfl | rfl
    · skip
      refine g_if_eq X dX8_mayOf_29 (tgt := 39) (by decide) (fun _ => ?_) (fun q => absurd (by decide) q)
      refine g_iconst X dX8_mayOf_39 (v := 0) (by decide) ?_
      refine g_ior X dX8_mayOf_40 ?_
      refine Go.gen (fun o8 => ?_)
      refine g_istore_n X dX8_mayOf_41 rfl (by decide) (lv2 := [(3, .int o8), (4, .int (nI i5_4)), (0, .ref (a 100)), (1, .int 3), (2, .int (nI p1))]) rfl ?_
      refine g_iconst X dX8_mayOf_42 (v := 0) (by decide) ?_
      refine g_istore X dX8_mayOf_43 (by decide) (lv2 := [(5, .int 0), (3, .int o8), (4, .int (nI i5_4)), (0, .ref (a 100)), (1, .int 3), (2, .int (nI p1))]) rfl ?_
      refine g_lv [0, 1, 2, 3, 4, 5] (lv2 := [(5, .int 0), (3, .int o8), (4, .int (nI i5_4)), (0, .ref (a 100)), (1, .int 3), (2, .int (nI p1))]) rfl ?_
      refine i_loop (mods := [115, 120, 121, 122, 123, 124, 125, 126, 127, 128, 131]) (fun x : Nat => 17 - x) (fun x => [(5, .int (nI (x))), (3, .int o8), (4, .int (nI i5_4)), (0, .ref (a 100)), (1, .int 3), (2, .int (nI p1))]) (fun x C => 0 ≤ x ∧ x ≤ 17) (fun x L M C D F I K hP ih45 => ?_) ((0) : Nat) F I K ⟨by show _ ≤ _; omega, by show _ ≤ _; omega⟩
      obtain ⟨i45_5, rfl⟩ : ∃ z, z = x := ⟨_, rfl⟩
      obtain ⟨hi45_5a, hi45_5b⟩ := hP
      refine g_lv [0, 1, 2, 3, 4, 5] (lv2 := [(5, .int (nI i45_5)), (3, .int o8), (4, .int (nI i5_4)), (0, .ref (a 100)), (1, .int 3), (2, .int (nI p1))]) rfl ?_
      refine g_iload X dX8_mayOf_45 (j := 0) rfl ?_
      refine g_aload_n X dX8_mayOf_47 rfl (j := 3) rfl ?_
      refine g_callVI X (s_X8_hours l G F I  ) lk_X8_106 (F.1 100 rfl).2 (F.1 100 rfl).1 rfl rfl dX8_mayOf_48 (Nat.le_of_ble_eq_true rfl) ⟨by decide, by decide⟩ ⟨by decide, by decide⟩ (fun r9 L M hp => ?_)
      obtain ⟨C, D, F, I, K1, hr⟩ := hp
      have K := K.step K1 (by decide)
      obtain ⟨n10, hn10, en10, rfl⟩ := hr
      obtain rfl : n1 = n10 := ((nI_eq (by omega) (by omega)).mp (en10.symm.trans ((congrFun (K 101 (by decide)).1 0).trans en1))).symm
      refine g_icmp_gt X dX8_mayOf_51 (tgt := 100) (by decide) (fun q11 => ?_) (fun q11 => ?_)
      · skip
        have q11 : n1 < i45_5 := (nI_ltI (a := n1) (b := i45_5) (by omega) (by omega)).mp q11
        refine g_iinc X dX8_mayOf_100 (j := 2) rfl (v := nI (i5_4 + 1)) (nI_1 i5_4) (by decide) (lv2 := [(4, .int (nI (i5_4 + 1))), (5, .int (nI i45_5)), (3, .int o8), (0, .ref (a 100)), (1, .int 3), (2, .int (nI p1))]) rfl ?_
        refine g_goto X dX8_mayOf_103 (tgt := 5) (by decide) ?_
        refine g_lv [0, 2, 3, 4, 5] (lv2 := [(4, .int (nI (i5_4 + 1))), (3, .int o8), (0, .ref (a 100)), (1, .int 3), (2, .int (nI p1))]) rfl ?_
        exact ih5 ((i5_4 + 1), o8) L M C D F I K ⟨by omega, by omega⟩ (by show _ < _; omega)
      · skip
        have q11 : ¬ n1 < i45_5 := fun z => q11 ((nI_ltI (a := n1) (b := i45_5) (by omega) (by omega)).mpr z)
        refine g_iconst X dX8_mayOf_54 (v := 0) (by decide) ?_
        refine g_istore X dX8_mayOf_55 (by decide) (lv2 := [(6, .int 0), (5, .int (nI i45_5)), (3, .int o8), (4, .int (nI i5_4)), (0, .ref (a 100)), (1, .int 3), (2, .int (nI p1))]) rfl ?_
        refine g_lv [0, 1, 2, 3, 4, 5, 6] (lv2 := [(6, .int 0), (5, .int (nI i45_5)), (3, .int o8), (4, .int (nI i5_4)), (0, .ref (a 100)), (1, .int 3), (2, .int (nI p1))]) rfl ?_
        refine i_loop (mods := [115, 120, 121, 122, 123, 124, 125, 126, 127, 128, 131]) (fun x : Nat => 8 - x) (fun x => [(6, .int (nI (x))), (5, .int (nI i45_5)), (3, .int o8), (4, .int (nI i5_4)), (0, .ref (a 100)), (1, .int 3), (2, .int (nI p1))]) (fun x C => 0 ≤ x ∧ x ≤ 8) (fun x L M C D F I K hP ih57 => ?_) ((0) : Nat) F I K ⟨by show _ ≤ _; omega, by show _ ≤ _; omega⟩
        obtain ⟨i57_6, rfl⟩ : ∃ z, z = x := ⟨_, rfl⟩
        obtain ⟨hi57_6a, hi57_6b⟩ := hP
        refine g_lv [0, 1, 2, 3, 4, 5, 6] (lv2 := [(6, .int (nI i57_6)), (5, .int (nI i45_5)), (3, .int o8), (4, .int (nI i5_4)), (0, .ref (a 100)), (1, .int 3), (2, .int (nI p1))]) rfl ?_
        refine g_iload X dX8_mayOf_57 (j := 0) rfl ?_
        refine g_aload_n X dX8_mayOf_59 rfl (j := 4) rfl ?_
        refine g_callVI X (s_X8_walkers l G F I  ) lk_X8_109 (F.1 100 rfl).2 (F.1 100 rfl).1 rfl rfl dX8_mayOf_60 (Nat.le_of_ble_eq_true rfl) ⟨by decide, by decide⟩ ⟨by decide, by decide⟩ (fun r12 L M hp => ?_)
        obtain ⟨C, D, F, I, K1, hr⟩ := hp
        have K := K.step K1 (by decide)
        obtain ⟨n13, hn13, en13, rfl⟩ := hr
        obtain rfl : n3 = n13 := ((nI_eq (by omega) (by omega)).mp (en13.symm.trans ((congrFun (K 101 (by decide)).1 7).trans en3))).symm
        refine g_icmp_ge X dX8_mayOf_63 (tgt := 94) (by decide) (fun q14 => ?_) (fun q14 => ?_)
        · skip
          have q14 : n3 ≤ i57_6 := (nI_leI (a := n3) (b := i57_6) (by omega) (by omega)).mp q14
          refine g_iinc X dX8_mayOf_94 (j := 1) rfl (v := nI (i45_5 + 1)) (nI_1 i45_5) (by decide) (lv2 := [(5, .int (nI (i45_5 + 1))), (6, .int (nI i57_6)), (3, .int o8), (4, .int (nI i5_4)), (0, .ref (a 100)), (1, .int 3), (2, .int (nI p1))]) rfl ?_
          refine g_goto X dX8_mayOf_97 (tgt := 45) (by decide) ?_
          refine g_lv [0, 2, 3, 4, 5, 6] (lv2 := [(5, .int (nI (i45_5 + 1))), (3, .int o8), (4, .int (nI i5_4)), (0, .ref (a 100)), (1, .int 3), (2, .int (nI p1))]) rfl ?_
          exact ih45 ((i45_5 + 1)) L M C D F I K ⟨by omega, by omega⟩ (by show _ < _; omega)
        · skip
          have q14 : ¬ n3 ≤ i57_6 := fun z => q14 ((nI_leI (a := n3) (b := i57_6) (by omega) (by omega)).mpr z)
          refine g_aload_n X dX8_mayOf_66 rfl (j := 4) rfl ?_
          refine i_get X F 100 rfl rfl fk_X8_70 dX8_mayOf_67 rfl ?_
          refine g_iload X dX8_mayOf_70 (j := 3) rfl ?_
          refine g_iload X dX8_mayOf_72 (j := 0) rfl ?_
          refine g_iload X dX8_mayOf_74 (j := 1) rfl ?_
          refine g_callSI X (s_X8_cellOf l G F I i5_4 (by omega) (by omega) i57_6 (by omega) (by omega) i45_5 (by omega) (by omega) ) lk_X8_406 rfl rfl dX8_mayOf_76 (Nat.le_of_ble_eq_true rfl) ⟨by decide, by decide⟩ ⟨by decide, by decide⟩ (fun r15 L M hp => ?_)
          obtain ⟨C, D, F, I, K1, hr⟩ := hp
          have K := K.step K1 (by decide)
          obtain ⟨n16, hn16a, hn16b, rfl⟩ := hr
          refine g_aload_n X dX8_mayOf_79 rfl (j := 4) rfl ?_
          refine g_iload X dX8_mayOf_80 (j := 0) rfl ?_
          refine g_iload X dX8_mayOf_82 (j := 1) rfl ?_
          refine g_callVI X (s_X8_placeOf l G F I i57_6 (by omega) (by omega) i45_5 (by omega) (by omega) ) lk_X8_298 (F.1 100 rfl).2 (F.1 100 rfl).1 rfl rfl dX8_mayOf_84 (Nat.le_of_ble_eq_true rfl) ⟨by decide, by decide⟩ ⟨by decide, by decide⟩ (fun r17 L M hp => ?_)
          obtain ⟨C, D, F, I, K1, hr⟩ := hp
          have K := K.step K1 (by decide)
          rcases okp_nat hr with rfl | ⟨n18, hn18, rfl⟩
          · skip
            refine i_iast X F I 131 rfl (fun _ => rfl) dX8_mayOf_87 (vp_in_nI (by omega) (by decide)) okp_m1 (fun M C F I K1 hC => ?_)
            have K := K.step K1 (by decide)
            refine g_iinc X dX8_mayOf_88 (j := 0) rfl (v := nI (i57_6 + 1)) (nI_1 i57_6) (by decide) (lv2 := [(6, .int (nI (i57_6 + 1))), (5, .int (nI i45_5)), (3, .int o8), (4, .int (nI i5_4)), (0, .ref (a 100)), (1, .int 3), (2, .int (nI p1))]) rfl ?_
            refine g_goto X dX8_mayOf_91 (tgt := 57) (by decide) ?_
            refine g_lv [0, 1, 2, 3, 4, 5, 6] (lv2 := [(6, .int (nI (i57_6 + 1))), (5, .int (nI i45_5)), (3, .int o8), (4, .int (nI i5_4)), (0, .ref (a 100)), (1, .int 3), (2, .int (nI p1))]) rfl ?_
            exact ih57 ((i57_6 + 1)) L M C D F I K ⟨by omega, by omega⟩ (by show _ < _; omega)
          · skip
            refine i_iast X F I 131 rfl (fun _ => rfl) dX8_mayOf_87 (vp_in_nI (by omega) (by decide)) (okp_of (n := n18) (by omega)) (fun M C F I K1 hC => ?_)
            have K := K.step K1 (by decide)
            refine g_iinc X dX8_mayOf_88 (j := 0) rfl (v := nI (i57_6 + 1)) (nI_1 i57_6) (by decide) (lv2 := [(6, .int (nI (i57_6 + 1))), (5, .int (nI i45_5)), (3, .int o8), (4, .int (nI i5_4)), (0, .ref (a 100)), (1, .int 3), (2, .int (nI p1))]) rfl ?_
            refine g_goto X dX8_mayOf_91 (tgt := 57) (by decide) ?_
            refine g_lv [0, 1, 2, 3, 4, 5, 6] (lv2 := [(6, .int (nI (i57_6 + 1))), (5, .int (nI i45_5)), (3, .int o8), (4, .int (nI i5_4)), (0, .ref (a 100)), (1, .int 3), (2, .int (nI p1))]) rfl ?_
            exact ih57 ((i57_6 + 1)) L M C D F I K ⟨by omega, by omega⟩ (by show _ < _; omega)
    · skip
      refine g_if_eq X dX8_mayOf_29 (tgt := 39) (by decide) (fun q => absurd q (by decide)) (fun _ => ?_)
      refine g_iconst X dX8_mayOf_32 (v := 1) (by decide) ?_
      refine g_iload X dX8_mayOf_33 (j := 0) rfl ?_
      refine g_ishl X dX8_mayOf_35 ?_
      refine Go.gen (fun o19 => ?_)
      refine g_goto X dX8_mayOf_36 (tgt := 40) (by decide) ?_
      refine g_ior X dX8_mayOf_40 ?_
      refine Go.gen (fun o20 => ?_)
      refine g_istore_n X dX8_mayOf_41 rfl (by decide) (lv2 := [(3, .int o20), (4, .int (nI i5_4)), (0, .ref (a 100)), (1, .int 3), (2, .int (nI p1))]) rfl ?_
      refine g_iconst X dX8_mayOf_42 (v := 0) (by decide) ?_
      refine g_istore X dX8_mayOf_43 (by decide) (lv2 := [(5, .int 0), (3, .int o20), (4, .int (nI i5_4)), (0, .ref (a 100)), (1, .int 3), (2, .int (nI p1))]) rfl ?_
      refine g_lv [0, 1, 2, 3, 4, 5] (lv2 := [(5, .int 0), (3, .int o20), (4, .int (nI i5_4)), (0, .ref (a 100)), (1, .int 3), (2, .int (nI p1))]) rfl ?_
      refine i_loop (mods := [115, 120, 121, 122, 123, 124, 125, 126, 127, 128, 131]) (fun x : Nat => 17 - x) (fun x => [(5, .int (nI (x))), (3, .int o20), (4, .int (nI i5_4)), (0, .ref (a 100)), (1, .int 3), (2, .int (nI p1))]) (fun x C => 0 ≤ x ∧ x ≤ 17) (fun x L M C D F I K hP ih45 => ?_) ((0) : Nat) F I K ⟨by show _ ≤ _; omega, by show _ ≤ _; omega⟩
      obtain ⟨i45_5, rfl⟩ : ∃ z, z = x := ⟨_, rfl⟩
      obtain ⟨hi45_5a, hi45_5b⟩ := hP
      refine g_lv [0, 1, 2, 3, 4, 5] (lv2 := [(5, .int (nI i45_5)), (3, .int o20), (4, .int (nI i5_4)), (0, .ref (a 100)), (1, .int 3), (2, .int (nI p1))]) rfl ?_
      refine g_iload X dX8_mayOf_45 (j := 0) rfl ?_
      refine g_aload_n X dX8_mayOf_47 rfl (j := 3) rfl ?_
      refine g_callVI X (s_X8_hours l G F I  ) lk_X8_106 (F.1 100 rfl).2 (F.1 100 rfl).1 rfl rfl dX8_mayOf_48 (Nat.le_of_ble_eq_true rfl) ⟨by decide, by decide⟩ ⟨by decide, by decide⟩ (fun r21 L M hp => ?_)
      obtain ⟨C, D, F, I, K1, hr⟩ := hp
      have K := K.step K1 (by decide)
      obtain ⟨n22, hn22, en22, rfl⟩ := hr
      obtain rfl : n1 = n22 := ((nI_eq (by omega) (by omega)).mp (en22.symm.trans ((congrFun (K 101 (by decide)).1 0).trans en1))).symm
      refine g_icmp_gt X dX8_mayOf_51 (tgt := 100) (by decide) (fun q23 => ?_) (fun q23 => ?_)
      · skip
        have q23 : n1 < i45_5 := (nI_ltI (a := n1) (b := i45_5) (by omega) (by omega)).mp q23
        refine g_iinc X dX8_mayOf_100 (j := 2) rfl (v := nI (i5_4 + 1)) (nI_1 i5_4) (by decide) (lv2 := [(4, .int (nI (i5_4 + 1))), (5, .int (nI i45_5)), (3, .int o20), (0, .ref (a 100)), (1, .int 3), (2, .int (nI p1))]) rfl ?_
        refine g_goto X dX8_mayOf_103 (tgt := 5) (by decide) ?_
        refine g_lv [0, 2, 3, 4, 5] (lv2 := [(4, .int (nI (i5_4 + 1))), (3, .int o20), (0, .ref (a 100)), (1, .int 3), (2, .int (nI p1))]) rfl ?_
        exact ih5 ((i5_4 + 1), o20) L M C D F I K ⟨by omega, by omega⟩ (by show _ < _; omega)
      · skip
        have q23 : ¬ n1 < i45_5 := fun z => q23 ((nI_ltI (a := n1) (b := i45_5) (by omega) (by omega)).mpr z)
        refine g_iconst X dX8_mayOf_54 (v := 0) (by decide) ?_
        refine g_istore X dX8_mayOf_55 (by decide) (lv2 := [(6, .int 0), (5, .int (nI i45_5)), (3, .int o20), (4, .int (nI i5_4)), (0, .ref (a 100)), (1, .int 3), (2, .int (nI p1))]) rfl ?_
        refine g_lv [0, 1, 2, 3, 4, 5, 6] (lv2 := [(6, .int 0), (5, .int (nI i45_5)), (3, .int o20), (4, .int (nI i5_4)), (0, .ref (a 100)), (1, .int 3), (2, .int (nI p1))]) rfl ?_
        refine i_loop (mods := [115, 120, 121, 122, 123, 124, 125, 126, 127, 128, 131]) (fun x : Nat => 8 - x) (fun x => [(6, .int (nI (x))), (5, .int (nI i45_5)), (3, .int o20), (4, .int (nI i5_4)), (0, .ref (a 100)), (1, .int 3), (2, .int (nI p1))]) (fun x C => 0 ≤ x ∧ x ≤ 8) (fun x L M C D F I K hP ih57 => ?_) ((0) : Nat) F I K ⟨by show _ ≤ _; omega, by show _ ≤ _; omega⟩
        obtain ⟨i57_6, rfl⟩ : ∃ z, z = x := ⟨_, rfl⟩
        obtain ⟨hi57_6a, hi57_6b⟩ := hP
        refine g_lv [0, 1, 2, 3, 4, 5, 6] (lv2 := [(6, .int (nI i57_6)), (5, .int (nI i45_5)), (3, .int o20), (4, .int (nI i5_4)), (0, .ref (a 100)), (1, .int 3), (2, .int (nI p1))]) rfl ?_
        refine g_iload X dX8_mayOf_57 (j := 0) rfl ?_
        refine g_aload_n X dX8_mayOf_59 rfl (j := 4) rfl ?_
        refine g_callVI X (s_X8_walkers l G F I  ) lk_X8_109 (F.1 100 rfl).2 (F.1 100 rfl).1 rfl rfl dX8_mayOf_60 (Nat.le_of_ble_eq_true rfl) ⟨by decide, by decide⟩ ⟨by decide, by decide⟩ (fun r24 L M hp => ?_)
        obtain ⟨C, D, F, I, K1, hr⟩ := hp
        have K := K.step K1 (by decide)
        obtain ⟨n25, hn25, en25, rfl⟩ := hr
        obtain rfl : n3 = n25 := ((nI_eq (by omega) (by omega)).mp (en25.symm.trans ((congrFun (K 101 (by decide)).1 7).trans en3))).symm
        refine g_icmp_ge X dX8_mayOf_63 (tgt := 94) (by decide) (fun q26 => ?_) (fun q26 => ?_)
        · skip
          have q26 : n3 ≤ i57_6 := (nI_leI (a := n3) (b := i57_6) (by omega) (by omega)).mp q26
          refine g_iinc X dX8_mayOf_94 (j := 1) rfl (v := nI (i45_5 + 1)) (nI_1 i45_5) (by decide) (lv2 := [(5, .int (nI (i45_5 + 1))), (6, .int (nI i57_6)), (3, .int o20), (4, .int (nI i5_4)), (0, .ref (a 100)), (1, .int 3), (2, .int (nI p1))]) rfl ?_
          refine g_goto X dX8_mayOf_97 (tgt := 45) (by decide) ?_
          refine g_lv [0, 2, 3, 4, 5, 6] (lv2 := [(5, .int (nI (i45_5 + 1))), (3, .int o20), (4, .int (nI i5_4)), (0, .ref (a 100)), (1, .int 3), (2, .int (nI p1))]) rfl ?_
          exact ih45 ((i45_5 + 1)) L M C D F I K ⟨by omega, by omega⟩ (by show _ < _; omega)
        · skip
          have q26 : ¬ n3 ≤ i57_6 := fun z => q26 ((nI_leI (a := n3) (b := i57_6) (by omega) (by omega)).mpr z)
          refine g_aload_n X dX8_mayOf_66 rfl (j := 4) rfl ?_
          refine i_get X F 100 rfl rfl fk_X8_70 dX8_mayOf_67 rfl ?_
          refine g_iload X dX8_mayOf_70 (j := 3) rfl ?_
          refine g_iload X dX8_mayOf_72 (j := 0) rfl ?_
          refine g_iload X dX8_mayOf_74 (j := 1) rfl ?_
          refine g_callSI X (s_X8_cellOf l G F I i5_4 (by omega) (by omega) i57_6 (by omega) (by omega) i45_5 (by omega) (by omega) ) lk_X8_406 rfl rfl dX8_mayOf_76 (Nat.le_of_ble_eq_true rfl) ⟨by decide, by decide⟩ ⟨by decide, by decide⟩ (fun r27 L M hp => ?_)
          obtain ⟨C, D, F, I, K1, hr⟩ := hp
          have K := K.step K1 (by decide)
          obtain ⟨n28, hn28a, hn28b, rfl⟩ := hr
          refine g_aload_n X dX8_mayOf_79 rfl (j := 4) rfl ?_
          refine g_iload X dX8_mayOf_80 (j := 0) rfl ?_
          refine g_iload X dX8_mayOf_82 (j := 1) rfl ?_
          refine g_callVI X (s_X8_placeOf l G F I i57_6 (by omega) (by omega) i45_5 (by omega) (by omega) ) lk_X8_298 (F.1 100 rfl).2 (F.1 100 rfl).1 rfl rfl dX8_mayOf_84 (Nat.le_of_ble_eq_true rfl) ⟨by decide, by decide⟩ ⟨by decide, by decide⟩ (fun r29 L M hp => ?_)
          obtain ⟨C, D, F, I, K1, hr⟩ := hp
          have K := K.step K1 (by decide)
          rcases okp_nat hr with rfl | ⟨n30, hn30, rfl⟩
          · skip
            refine i_iast X F I 131 rfl (fun _ => rfl) dX8_mayOf_87 (vp_in_nI (by omega) (by decide)) okp_m1 (fun M C F I K1 hC => ?_)
            have K := K.step K1 (by decide)
            refine g_iinc X dX8_mayOf_88 (j := 0) rfl (v := nI (i57_6 + 1)) (nI_1 i57_6) (by decide) (lv2 := [(6, .int (nI (i57_6 + 1))), (5, .int (nI i45_5)), (3, .int o20), (4, .int (nI i5_4)), (0, .ref (a 100)), (1, .int 3), (2, .int (nI p1))]) rfl ?_
            refine g_goto X dX8_mayOf_91 (tgt := 57) (by decide) ?_
            refine g_lv [0, 1, 2, 3, 4, 5, 6] (lv2 := [(6, .int (nI (i57_6 + 1))), (5, .int (nI i45_5)), (3, .int o20), (4, .int (nI i5_4)), (0, .ref (a 100)), (1, .int 3), (2, .int (nI p1))]) rfl ?_
            exact ih57 ((i57_6 + 1)) L M C D F I K ⟨by omega, by omega⟩ (by show _ < _; omega)
          · skip
            refine i_iast X F I 131 rfl (fun _ => rfl) dX8_mayOf_87 (vp_in_nI (by omega) (by decide)) (okp_of (n := n30) (by omega)) (fun M C F I K1 hC => ?_)
            have K := K.step K1 (by decide)
            refine g_iinc X dX8_mayOf_88 (j := 0) rfl (v := nI (i57_6 + 1)) (nI_1 i57_6) (by decide) (lv2 := [(6, .int (nI (i57_6 + 1))), (5, .int (nI i45_5)), (3, .int o20), (4, .int (nI i5_4)), (0, .ref (a 100)), (1, .int 3), (2, .int (nI p1))]) rfl ?_
            refine g_goto X dX8_mayOf_91 (tgt := 57) (by decide) ?_
            refine g_lv [0, 1, 2, 3, 4, 5, 6] (lv2 := [(6, .int (nI (i57_6 + 1))), (5, .int (nI i45_5)), (3, .int o20), (4, .int (nI i5_4)), (0, .ref (a 100)), (1, .int 3), (2, .int (nI p1))]) rfl ?_
            exact ih57 ((i57_6 + 1)) L M C D F I K ⟨by omega, by omega⟩ (by show _ < _; omega)
set_option maxHeartbeats 4000000 in
set_option maxRecDepth 100000 in
theorem s_X8_askMay_3 (l : Launch) (G : va_G) {cy : Nat → ClassId} {L : List Nat} {M : Nat → va_E} {a : Nat → Nat} {act : Nat → Bool} {C0 : Nat → Nat → Int32} {D0 : Nat → Nat → Int64} {R : Nat → Nat → Option Nat} (F : WI L M a act (ent cy a C0 D0 R)) (I : Inv C0) (p1 : Int32)  : MI l G cy yX8_askMay cX8_askMay 3 (some .int) 4 0 0 [.ref (a 100), .int 3, .int p1] L M (fun r L2 M2 => ∃ C2 D2, WI L2 M2 a act (ent cy a C2 D2 R) ∧ Inv C2 ∧ Kp [100, 115, 116] C0 D0 C2 D2 ∧ (r.toInt < 0 ∨ (r = 0 ∧ (∃ n : Nat, n ≤ 6 ∧ p1 = nI n) ∧ ∃ k : Nat, k ≤ 60 ∧ k % 3 = 0 ∧ C2 137 3 = nI k ∧ seen (fun i => D2 139 (180 + i)) k))) := by
  refine MI.of (own := RX8) rfl (by decide) (Nat.le_of_ble_eq_true rfl) ?_
  intro p e s m below meth c A X hrt hnm
  obtain ⟨C, D, hC0, hD0, F, I, K⟩ : ∃ C D, C = C0 ∧ D = D0 ∧ WI L M a act (ent cy a C D R) ∧ Inv C ∧ Kp [100, 115, 116] C0 D0 C D := ⟨C0, D0, rfl, rfl, F, I, Kp.rf⟩
  obtain ⟨n1, hn1, en1⟩ := rg_nat ((show okw 0 (C 101 0) from I 101 0).1 rfl) (by decide)
  rw [hC0] at en1
  obtain ⟨n2, hn2, en2⟩ := rg_nat ((show okw 4 (C 101 4) from I 101 4).2.2.2.1 rfl) (by decide)
  rw [hC0] at en2
  obtain ⟨n3, hn3, en3⟩ := rg_nat ((show okw 7 (C 101 7) from I 101 7).2.2.2.2.1 rfl) (by decide)
  rw [hC0] at en3
  refine g_aload_n X dX8_askMay_0 rfl (j := 0) rfl ?_
  refine g_iload_n X dX8_askMay_1 rfl (j := 2) rfl ?_
  refine g_i2l X dX8_askMay_2 rfl ?_
  refine g_callVI X (s_X8_isPost l G F I ((Int32.toInt64 p1)) ) lk_X8_112 (F.1 100 rfl).2 (F.1 100 rfl).1 rfl rfl dX8_askMay_3 (Nat.le_of_ble_eq_true rfl) ⟨by decide, by decide⟩ ⟨by decide, by decide⟩ (fun r4 L M hp => ?_)
  obtain ⟨C, D, F, I, K1, hr⟩ := hp
  have K := K.step K1 (by decide)
  rcases hr with rfl | ⟨rfl, hl5a, hl5b⟩
  · skip
    refine g_if_eq X dX8_askMay_6 (tgt := 17) (by decide) (fun _ => ?_) (fun q => absurd (by decide) q)
    refine g_bipush X dX8_askMay_17 (v := -2) (by decide) ?_
    exact g_iret X hrt dX8_askMay_19 (by decide) (by decide) ⟨C, D, F, I, K, Or.inl (by decide)⟩
  · skip
    rw [Jvm.Kit.i64_of_i32] at hl5a hl5b
    obtain ⟨n6, hn6a, hn6b, en6⟩ := nI_ofInt (x := p1) (lo := 0) (hi := 6) (by omega) (by omega) (by decide)
    subst en6
    refine g_if_eq X dX8_askMay_6 (tgt := 17) (by decide) (fun q => absurd q (by decide)) (fun _ => ?_)
    refine g_aload_n X dX8_askMay_9 rfl (j := 0) rfl ?_
    refine g_iload_n X dX8_askMay_10 rfl (j := 1) rfl ?_
    refine g_callVI X (s_X8_askSeen_3 l G F I  ) lk_X8_410 (F.1 100 rfl).2 (F.1 100 rfl).1 rfl rfl dX8_askMay_11 (Nat.le_of_ble_eq_true rfl) ⟨by decide, by decide⟩ ⟨by decide, by decide⟩ (fun r7 L M hp => ?_)
    obtain ⟨C, D, F, I, K1, hr⟩ := hp
    have K := K.step K1 (by decide)
    rcases hr with hz8 | ⟨rfl, gsn⟩
    · skip
      refine g_goto X dX8_askMay_14 (tgt := 19) (by decide) ?_
      exact g_iret X hrt dX8_askMay_19 (by decide) (by decide) ⟨C, D, F, I, K, Or.inl hz8⟩
    · skip
      rw [(K 137 (by decide)).1, (K 139 (by decide)).2] at gsn
      refine g_goto X dX8_askMay_14 (tgt := 19) (by decide) ?_
      exact g_iret X hrt dX8_askMay_19 (by decide) (by decide) ⟨C, D, F, I, K, Or.inr ⟨rfl, ⟨n6, by omega, rfl⟩, by rw [(K 137 (by decide)).1, (K 139 (by decide)).2]; exact gsn⟩⟩
set_option maxHeartbeats 4000000 in
set_option maxRecDepth 100000 in
theorem s_X8_askSeen_x (l : Launch) (G : va_G) {cy : Nat → ClassId} {L : List Nat} {M : Nat → va_E} {a : Nat → Nat} {act : Nat → Bool} {C0 : Nat → Nat → Int32} {D0 : Nat → Nat → Int64} {R : Nat → Nat → Option Nat} (F : WI L M a act (ent cy a C0 D0 R)) (I : Inv C0) (p0 : Int32) (hno : p0 < 0 ∨ 4 ≤ p0) : MI l G cy yX8_askSeen cX8_askSeen 3 (some .int) 2 0 0 [.ref (a 100), .int p0] L M (fun r L2 M2 => ∃ C2 D2, WI L2 M2 a act (ent cy a C2 D2 R) ∧ Inv C2 ∧ Kp [100, 115, 116] C0 D0 C2 D2 ∧ r.toInt < 0) := by
  refine MI.of (own := RX8) rfl (by decide) (Nat.le_of_ble_eq_true rfl) ?_
  intro p e s m below meth c A X hrt hnm
  obtain ⟨C, D, hC0, hD0, F, I, K⟩ : ∃ C D, C = C0 ∧ D = D0 ∧ WI L M a act (ent cy a C D R) ∧ Inv C ∧ Kp [100, 115, 116] C0 D0 C D := ⟨C0, D0, rfl, rfl, F, I, Kp.rf⟩
  obtain ⟨n1, hn1, en1⟩ := rg_nat ((show okw 0 (C 101 0) from I 101 0).1 rfl) (by decide)
  rw [hC0] at en1
  obtain ⟨n2, hn2, en2⟩ := rg_nat ((show okw 4 (C 101 4) from I 101 4).2.2.2.1 rfl) (by decide)
  rw [hC0] at en2
  obtain ⟨n3, hn3, en3⟩ := rg_nat ((show okw 7 (C 101 7) from I 101 7).2.2.2.2.1 rfl) (by decide)
  rw [hC0] at en3
  refine g_iload_n X dX8_askSeen_0 rfl (j := 1) rfl ?_
  refine g_callSI X (s_X8_isSlot l G F I p0 ) lk_X8_394 rfl rfl dX8_askSeen_1 (Nat.le_of_ble_eq_true rfl) ⟨by decide, by decide⟩ ⟨by decide, by decide⟩ (fun r4 L M hp => ?_)
  obtain ⟨C, D, F, I, K1, hr⟩ := hp
  have K := K.step K1 (by decide)
  rcases hr with ⟨rfl, hsl6⟩ | ⟨rfl, n5, hn5, en5⟩
  · skip
    refine g_if_eq X dX8_askSeen_4 (tgt := 14) (by decide) (fun _ => ?_) (fun q => absurd (by decide) q)
    refine g_bipush X dX8_askSeen_14 (v := -2) (by decide) ?_
    exact g_iret X hrt dX8_askSeen_16 (by decide) (by decide) ⟨C, D, F, I, K, (by decide)⟩
  · skip
    exact absurd hno (slot_no hn5 en5)
set_option maxHeartbeats 4000000 in
set_option maxRecDepth 100000 in
theorem s_X8_askMay_x (l : Launch) (G : va_G) {cy : Nat → ClassId} {L : List Nat} {M : Nat → va_E} {a : Nat → Nat} {act : Nat → Bool} {C0 : Nat → Nat → Int32} {D0 : Nat → Nat → Int64} {R : Nat → Nat → Option Nat} (F : WI L M a act (ent cy a C0 D0 R)) (I : Inv C0) (p0 : Int32) (p1 : Int32) (hno : p0 < 0 ∨ 4 ≤ p0) : MI l G cy yX8_askMay cX8_askMay 3 (some .int) 3 0 0 [.ref (a 100), .int p0, .int p1] L M (fun r L2 M2 => ∃ C2 D2, WI L2 M2 a act (ent cy a C2 D2 R) ∧ Inv C2 ∧ Kp [100, 115, 116] C0 D0 C2 D2 ∧ r.toInt < 0) := by
  refine MI.of (own := RX8) rfl (by decide) (Nat.le_of_ble_eq_true rfl) ?_
  intro p e s m below meth c A X hrt hnm
  obtain ⟨C, D, hC0, hD0, F, I, K⟩ : ∃ C D, C = C0 ∧ D = D0 ∧ WI L M a act (ent cy a C D R) ∧ Inv C ∧ Kp [100, 115, 116] C0 D0 C D := ⟨C0, D0, rfl, rfl, F, I, Kp.rf⟩
  obtain ⟨n1, hn1, en1⟩ := rg_nat ((show okw 0 (C 101 0) from I 101 0).1 rfl) (by decide)
  rw [hC0] at en1
  obtain ⟨n2, hn2, en2⟩ := rg_nat ((show okw 4 (C 101 4) from I 101 4).2.2.2.1 rfl) (by decide)
  rw [hC0] at en2
  obtain ⟨n3, hn3, en3⟩ := rg_nat ((show okw 7 (C 101 7) from I 101 7).2.2.2.2.1 rfl) (by decide)
  rw [hC0] at en3
  refine g_aload_n X dX8_askMay_0 rfl (j := 0) rfl ?_
  refine g_iload_n X dX8_askMay_1 rfl (j := 2) rfl ?_
  refine g_i2l X dX8_askMay_2 rfl ?_
  refine g_callVI X (s_X8_isPost l G F I ((Int32.toInt64 p1)) ) lk_X8_112 (F.1 100 rfl).2 (F.1 100 rfl).1 rfl rfl dX8_askMay_3 (Nat.le_of_ble_eq_true rfl) ⟨by decide, by decide⟩ ⟨by decide, by decide⟩ (fun r4 L M hp => ?_)
  obtain ⟨C, D, F, I, K1, hr⟩ := hp
  have K := K.step K1 (by decide)
  rcases hr with rfl | ⟨rfl, hl5a, hl5b⟩
  · skip
    refine g_if_eq X dX8_askMay_6 (tgt := 17) (by decide) (fun _ => ?_) (fun q => absurd (by decide) q)
    refine g_bipush X dX8_askMay_17 (v := -2) (by decide) ?_
    exact g_iret X hrt dX8_askMay_19 (by decide) (by decide) ⟨C, D, F, I, K, (by decide)⟩
  · skip
    rw [Jvm.Kit.i64_of_i32] at hl5a hl5b
    obtain ⟨n6, hn6a, hn6b, en6⟩ := nI_ofInt (x := p1) (lo := 0) (hi := 6) (by omega) (by omega) (by decide)
    subst en6
    refine g_if_eq X dX8_askMay_6 (tgt := 17) (by decide) (fun q => absurd q (by decide)) (fun _ => ?_)
    refine g_aload_n X dX8_askMay_9 rfl (j := 0) rfl ?_
    refine g_iload_n X dX8_askMay_10 rfl (j := 1) rfl ?_
    refine g_callVI X (s_X8_askSeen_x l G F I p0 hno) lk_X8_410 (F.1 100 rfl).2 (F.1 100 rfl).1 rfl rfl dX8_askMay_11 (Nat.le_of_ble_eq_true rfl) ⟨by decide, by decide⟩ ⟨by decide, by decide⟩ (fun r7 L M hp => ?_)
    obtain ⟨C, D, F, I, K1, hr⟩ := hp
    have K := K.step K1 (by decide)
    have hz8 := hr
    refine g_goto X dX8_askMay_14 (tgt := 19) (by decide) ?_
    exact g_iret X hrt dX8_askMay_19 (by decide) (by decide) ⟨C, D, F, I, K, hz8⟩
set_option maxHeartbeats 4000000 in
set_option maxRecDepth 100000 in
theorem s_X8_worstOf (l : Launch) (G : va_G) {cy : Nat → ClassId} {L : List Nat} {M : Nat → va_E} {a : Nat → Nat} {act : Nat → Bool} {C0 : Nat → Nat → Int32} {D0 : Nat → Nat → Int64} {R : Nat → Nat → Option Nat} (F : WI L M a act (ent cy a C0 D0 R)) (I : Inv C0) (p0 : Int32) (p1 : Nat) (hp1a : 0 ≤ p1) (hp1b : p1 ≤ 7) (p2 : Nat) (hp2a : 0 ≤ p2) (hp2b : p2 ≤ 16)  : MI l G cy yX8_worstOf cX8_worstOf 8 (some .int) 1 0 0 [.ref (a 100), .int p0, .int (nI p1), .int (nI p2)] L M (fun r L2 M2 => ∃ C2 D2, WI L2 M2 a act (ent cy a C2 D2 R) ∧ Inv C2 ∧ Kp [] C0 D0 C2 D2 ∧ True) := by
  refine MI.of (own := RX8) rfl (by decide) (Nat.le_of_ble_eq_true rfl) ?_
  intro p e s m below meth c A X hrt hnm
  obtain ⟨C, D, hC0, hD0, F, I, K⟩ : ∃ C D, C = C0 ∧ D = D0 ∧ WI L M a act (ent cy a C D R) ∧ Inv C ∧ Kp [] C0 D0 C D := ⟨C0, D0, rfl, rfl, F, I, Kp.rf⟩
  obtain ⟨n1, hn1, en1⟩ := rg_nat ((show okw 0 (C 101 0) from I 101 0).1 rfl) (by decide)
  rw [hC0] at en1
  obtain ⟨n2, hn2, en2⟩ := rg_nat ((show okw 4 (C 101 4) from I 101 4).2.2.2.1 rfl) (by decide)
  rw [hC0] at en2
  obtain ⟨n3, hn3, en3⟩ := rg_nat ((show okw 7 (C 101 7) from I 101 7).2.2.2.2.1 rfl) (by decide)
  rw [hC0] at en3
  refine g_iconst X dX8_worstOf_0 (v := 0) (by decide) ?_
  refine g_istore X dX8_worstOf_1 (by decide) (lv2 := [(4, .int 0), (0, .ref (a 100)), (1, .int p0), (2, .int (nI p1)), (3, .int (nI p2))]) rfl ?_
  refine g_iconst X dX8_worstOf_3 (v := 0) (by decide) ?_
  refine g_istore X dX8_worstOf_4 (by decide) (lv2 := [(5, .int 0), (4, .int 0), (0, .ref (a 100)), (1, .int p0), (2, .int (nI p1)), (3, .int (nI p2))]) rfl ?_
  refine g_lv [0, 1, 2, 3, 4, 5] (lv2 := [(5, .int 0), (4, .int 0), (0, .ref (a 100)), (1, .int p0), (2, .int (nI p1)), (3, .int (nI p2))]) rfl ?_
  refine i_loop (mods := []) (fun x : Nat × Int32 => 4 - x.1) (fun x => [(5, .int (nI (x.1))), (4, .int (x.2)), (0, .ref (a 100)), (1, .int p0), (2, .int (nI p1)), (3, .int (nI p2))]) (fun x C => 0 ≤ x.1 ∧ x.1 ≤ 4) (fun x L M C D F I K hP ih6 => ?_) ((0, 0) : Nat × Int32) F I K ⟨by show _ ≤ _; omega, by show _ ≤ _; omega⟩
  rcases x with ⟨i6_5, v6_4⟩
  obtain ⟨hi6_5a, hi6_5b⟩ := hP
  refine g_lv [0, 1, 2, 3, 4, 5] (lv2 := [(5, .int (nI i6_5)), (4, .int v6_4), (0, .ref (a 100)), (1, .int p0), (2, .int (nI p1)), (3, .int (nI p2))]) rfl ?_
  refine g_iload X dX8_worstOf_6 (j := 0) rfl ?_
  refine g_iconst X dX8_worstOf_8 (v := 4) (by decide) ?_
  refine g_icmp_ge X dX8_worstOf_9 (tgt := 102) (by decide) (fun q4 => ?_) (fun q4 => ?_)
  · skip
    have q4 : 4 ≤ i6_5 := (nI_leI (a := 4) (b := i6_5) (by omega) (by omega)).mp q4
    refine g_iload X dX8_worstOf_102 (j := 1) rfl ?_
    exact g_iret X hrt dX8_worstOf_104 (by decide) (by decide) ⟨C, D, F, I, K, trivial⟩
  · skip
    have q4 : ¬ 4 ≤ i6_5 := fun z => q4 ((nI_leI (a := 4) (b := i6_5) (by omega) (by omega)).mpr z)
    refine g_iconst X dX8_worstOf_12 (v := 0) (by decide) ?_
    refine g_istore X dX8_worstOf_13 (by decide) (lv2 := [(6, .int 0), (5, .int (nI i6_5)), (4, .int v6_4), (0, .ref (a 100)), (1, .int p0), (2, .int (nI p1)), (3, .int (nI p2))]) rfl ?_
    refine g_iconst X dX8_worstOf_15 (v := 0) (by decide) ?_
    refine g_istore X dX8_worstOf_16 (by decide) (lv2 := [(7, .int 0), (6, .int 0), (5, .int (nI i6_5)), (4, .int v6_4), (0, .ref (a 100)), (1, .int p0), (2, .int (nI p1)), (3, .int (nI p2))]) rfl ?_
    refine g_lv [0, 1, 2, 3, 4, 5, 6, 7] (lv2 := [(7, .int 0), (6, .int 0), (5, .int (nI i6_5)), (4, .int v6_4), (0, .ref (a 100)), (1, .int p0), (2, .int (nI p1)), (3, .int (nI p2))]) rfl ?_
    refine i_loop (mods := []) (fun x : Nat × Int32 => 4 - x.1) (fun x => [(7, .int (nI (x.1))), (6, .int (x.2)), (5, .int (nI i6_5)), (4, .int v6_4), (0, .ref (a 100)), (1, .int p0), (2, .int (nI p1)), (3, .int (nI p2))]) (fun x C => 0 ≤ x.1 ∧ x.1 ≤ 4) (fun x L M C D F I K hP ih18 => ?_) ((0, 0) : Nat × Int32) F I K ⟨by show _ ≤ _; omega, by show _ ≤ _; omega⟩
    rcases x with ⟨i18_7, v18_6⟩
    obtain ⟨hi18_7a, hi18_7b⟩ := hP
    refine g_lv [0, 1, 2, 3, 4, 5, 6, 7] (lv2 := [(7, .int (nI i18_7)), (6, .int v18_6), (5, .int (nI i6_5)), (4, .int v6_4), (0, .ref (a 100)), (1, .int p0), (2, .int (nI p1)), (3, .int (nI p2))]) rfl ?_
    refine g_iload X dX8_worstOf_18 (j := 0) rfl ?_
    refine g_iconst X dX8_worstOf_20 (v := 4) (by decide) ?_
    refine g_icmp_ge X dX8_worstOf_21 (tgt := 87) (by decide) (fun q5 => ?_) (fun q5 => ?_)
    · skip
      have q5 : 4 ≤ i18_7 := (nI_leI (a := 4) (b := i18_7) (by omega) (by omega)).mp q5
      refine g_iload X dX8_worstOf_87 (j := 3) rfl ?_
      refine g_iload X dX8_worstOf_89 (j := 1) rfl ?_
      refine g_mmax X wd800 wd79 wd80 wd81 (by decide) (Nat.le_of_ble_eq_true rfl) (by decide) (by decide) dX8_worstOf_91 (fun o6 => ?_)
      refine g_istore X dX8_worstOf_94 (by decide) (lv2 := [(4, .int o6), (7, .int (nI i18_7)), (6, .int v18_6), (5, .int (nI i6_5)), (0, .ref (a 100)), (1, .int p0), (2, .int (nI p1)), (3, .int (nI p2))]) rfl ?_
      refine g_iinc X dX8_worstOf_96 (j := 3) rfl (v := nI (i6_5 + 1)) (nI_1 i6_5) (by decide) (lv2 := [(5, .int (nI (i6_5 + 1))), (4, .int o6), (7, .int (nI i18_7)), (6, .int v18_6), (0, .ref (a 100)), (1, .int p0), (2, .int (nI p1)), (3, .int (nI p2))]) rfl ?_
      refine g_goto X dX8_worstOf_99 (tgt := 6) (by decide) ?_
      refine g_lv [0, 1, 4, 5, 6, 7] (lv2 := [(5, .int (nI (i6_5 + 1))), (4, .int o6), (0, .ref (a 100)), (1, .int p0), (2, .int (nI p1)), (3, .int (nI p2))]) rfl ?_
      exact ih6 ((i6_5 + 1), o6) L M C D F I K ⟨by omega, by omega⟩ (by show _ < _; omega)
    · skip
      have q5 : ¬ 4 ≤ i18_7 := fun z => q5 ((nI_leI (a := 4) (b := i18_7) (by omega) (by omega)).mpr z)
      refine g_iload X dX8_worstOf_24 (j := 1) rfl ?_
      refine g_iload_n X dX8_worstOf_26 rfl (j := 5) rfl ?_
      refine g_iload X dX8_worstOf_27 (j := 2) rfl ?_
      refine g_callSI X (s_X8_bit l G F I p0 (nI i6_5) ) lk_X8_266 rfl rfl dX8_worstOf_29 (Nat.le_of_ble_eq_true rfl) ⟨by decide, by decide⟩ ⟨by decide, by decide⟩ (fun r7 L M hp => ?_)
      obtain ⟨C, D, F, I, K1, hr⟩ := hp
      have K := K.step K1 (by decide)
      obtain ⟨n8, hn8a, hn8b, rfl⟩ := hr
      refine g_iconst X dX8_worstOf_32 (v := 1) (by decide) ?_
      refine g_icmp_ne X dX8_worstOf_33 (tgt := 77) (by decide) (fun q9 => ?_) (fun q9 => ?_)
      · skip
        have q9 : ¬ n8 = 1 := fun z => q9 ((nI_eq (a := n8) (b := 1) (by omega) (by omega)).mpr z)
        refine g_iconst X dX8_worstOf_77 (v := 0) (by decide) ?_
        refine g_iadd X dX8_worstOf_78 ?_
        refine Go.gen (fun o10 => ?_)
        refine g_istore X dX8_worstOf_79 (by decide) (lv2 := [(6, .int o10), (7, .int (nI i18_7)), (5, .int (nI i6_5)), (4, .int v6_4), (0, .ref (a 100)), (1, .int p0), (2, .int (nI p1)), (3, .int (nI p2))]) rfl ?_
        refine g_iinc X dX8_worstOf_81 (j := 1) rfl (v := nI (i18_7 + 1)) (nI_1 i18_7) (by decide) (lv2 := [(7, .int (nI (i18_7 + 1))), (6, .int o10), (5, .int (nI i6_5)), (4, .int v6_4), (0, .ref (a 100)), (1, .int p0), (2, .int (nI p1)), (3, .int (nI p2))]) rfl ?_
        refine g_goto X dX8_worstOf_84 (tgt := 18) (by decide) ?_
        refine g_lv [0, 1, 2, 3, 4, 5, 6, 7] (lv2 := [(7, .int (nI (i18_7 + 1))), (6, .int o10), (5, .int (nI i6_5)), (4, .int v6_4), (0, .ref (a 100)), (1, .int p0), (2, .int (nI p1)), (3, .int (nI p2))]) rfl ?_
        exact ih18 ((i18_7 + 1), o10) L M C D F I K ⟨by omega, by omega⟩ (by show _ < _; omega)
      · skip
        have q9 : n8 = 1 := (nI_eq (a := n8) (b := 1) (by omega) (by omega)).mp q9
        refine g_iload_n X dX8_worstOf_36 rfl (j := 5) rfl ?_
        refine g_iload X dX8_worstOf_37 (j := 0) rfl ?_
        refine g_callSI X (s_X8_bit l G F I p0 (nI i18_7) ) lk_X8_266 rfl rfl dX8_worstOf_39 (Nat.le_of_ble_eq_true rfl) ⟨by decide, by decide⟩ ⟨by decide, by decide⟩ (fun r11 L M hp => ?_)
        obtain ⟨C, D, F, I, K1, hr⟩ := hp
        have K := K.step K1 (by decide)
        obtain ⟨n12, hn12a, hn12b, rfl⟩ := hr
        refine g_iconst X dX8_worstOf_42 (v := 1) (by decide) ?_
        refine g_icmp_ne X dX8_worstOf_43 (tgt := 77) (by decide) (fun q13 => ?_) (fun q13 => ?_)
        · skip
          have q13 : ¬ n12 = 1 := fun z => q13 ((nI_eq (a := n12) (b := 1) (by omega) (by omega)).mpr z)
          refine g_iconst X dX8_worstOf_77 (v := 0) (by decide) ?_
          refine g_iadd X dX8_worstOf_78 ?_
          refine Go.gen (fun o14 => ?_)
          refine g_istore X dX8_worstOf_79 (by decide) (lv2 := [(6, .int o14), (7, .int (nI i18_7)), (5, .int (nI i6_5)), (4, .int v6_4), (0, .ref (a 100)), (1, .int p0), (2, .int (nI p1)), (3, .int (nI p2))]) rfl ?_
          refine g_iinc X dX8_worstOf_81 (j := 1) rfl (v := nI (i18_7 + 1)) (nI_1 i18_7) (by decide) (lv2 := [(7, .int (nI (i18_7 + 1))), (6, .int o14), (5, .int (nI i6_5)), (4, .int v6_4), (0, .ref (a 100)), (1, .int p0), (2, .int (nI p1)), (3, .int (nI p2))]) rfl ?_
          refine g_goto X dX8_worstOf_84 (tgt := 18) (by decide) ?_
          refine g_lv [0, 1, 2, 3, 4, 5, 6, 7] (lv2 := [(7, .int (nI (i18_7 + 1))), (6, .int o14), (5, .int (nI i6_5)), (4, .int v6_4), (0, .ref (a 100)), (1, .int p0), (2, .int (nI p1)), (3, .int (nI p2))]) rfl ?_
          exact ih18 ((i18_7 + 1), o14) L M C D F I K ⟨by omega, by omega⟩ (by show _ < _; omega)
        · skip
          have q13 : n12 = 1 := (nI_eq (a := n12) (b := 1) (by omega) (by omega)).mp q13
          refine g_aload_n X dX8_worstOf_46 rfl (j := 4) rfl ?_
          refine i_get X F 100 rfl rfl fk_X8_70 dX8_worstOf_47 rfl ?_
          refine g_iload X dX8_worstOf_50 (j := 2) rfl ?_
          refine g_iload_n X dX8_worstOf_52 rfl (j := 6) rfl ?_
          refine g_iload_n X dX8_worstOf_53 rfl (j := 7) rfl ?_
          refine g_callSI X (s_X8_cellOf l G F I i6_5 (by omega) (by omega) p1 (by omega) (by omega) p2 (by omega) (by omega) ) lk_X8_406 rfl rfl dX8_worstOf_54 (Nat.le_of_ble_eq_true rfl) ⟨by decide, by decide⟩ ⟨by decide, by decide⟩ (fun r15 L M hp => ?_)
          obtain ⟨C, D, F, I, K1, hr⟩ := hp
          have K := K.step K1 (by decide)
          obtain ⟨n16, hn16a, hn16b, rfl⟩ := hr
          rcases okp_nat (I 131 n16) with en17 | ⟨n17, hn17, en17⟩
          · skip
            refine i_iald X F 131 rfl rfl dX8_worstOf_57 (vp_in_nI (by omega) (by decide)) (v := -1) (by rw [nI_clamp (by omega)]; exact en17) ?_
            refine g_aload_n X dX8_worstOf_58 rfl (j := 4) rfl ?_
            refine i_get X F 100 rfl rfl fk_X8_70 dX8_worstOf_59 rfl ?_
            refine g_iload X dX8_worstOf_62 (j := 0) rfl ?_
            refine g_iload_n X dX8_worstOf_64 rfl (j := 6) rfl ?_
            refine g_iload_n X dX8_worstOf_65 rfl (j := 7) rfl ?_
            refine g_callSI X (s_X8_cellOf l G F I i18_7 (by omega) (by omega) p1 (by omega) (by omega) p2 (by omega) (by omega) ) lk_X8_406 rfl rfl dX8_worstOf_66 (Nat.le_of_ble_eq_true rfl) ⟨by decide, by decide⟩ ⟨by decide, by decide⟩ (fun r18 L M hp => ?_)
            obtain ⟨C, D, F, I, K1, hr⟩ := hp
            have K := K.step K1 (by decide)
            have en17 : C 131 (n16) = -1 := by rw [(K1 131 (by decide)).1]; exact en17
            obtain ⟨n19, hn19a, hn19b, rfl⟩ := hr
            rcases okp_nat (I 131 n19) with en20 | ⟨n20, hn20, en20⟩
            · skip
              refine i_iald X F 131 rfl rfl dX8_worstOf_69 (vp_in_nI (by omega) (by decide)) (v := -1) (by rw [nI_clamp (by omega)]; exact en20) ?_
              refine g_icmp_ne X dX8_worstOf_70 (tgt := 77) (by decide) (fun q => absurd (by decide) q) (fun _ => ?_)
              refine g_iconst X dX8_worstOf_73 (v := 1) (by decide) ?_
              refine g_goto X dX8_worstOf_74 (tgt := 78) (by decide) ?_
              refine g_iadd X dX8_worstOf_78 ?_
              refine Go.gen (fun o21 => ?_)
              refine g_istore X dX8_worstOf_79 (by decide) (lv2 := [(6, .int o21), (7, .int (nI i18_7)), (5, .int (nI i6_5)), (4, .int v6_4), (0, .ref (a 100)), (1, .int p0), (2, .int (nI p1)), (3, .int (nI p2))]) rfl ?_
              refine g_iinc X dX8_worstOf_81 (j := 1) rfl (v := nI (i18_7 + 1)) (nI_1 i18_7) (by decide) (lv2 := [(7, .int (nI (i18_7 + 1))), (6, .int o21), (5, .int (nI i6_5)), (4, .int v6_4), (0, .ref (a 100)), (1, .int p0), (2, .int (nI p1)), (3, .int (nI p2))]) rfl ?_
              refine g_goto X dX8_worstOf_84 (tgt := 18) (by decide) ?_
              refine g_lv [0, 1, 2, 3, 4, 5, 6, 7] (lv2 := [(7, .int (nI (i18_7 + 1))), (6, .int o21), (5, .int (nI i6_5)), (4, .int v6_4), (0, .ref (a 100)), (1, .int p0), (2, .int (nI p1)), (3, .int (nI p2))]) rfl ?_
              exact ih18 ((i18_7 + 1), o21) L M C D F I K ⟨by omega, by omega⟩ (by show _ < _; omega)
            · skip
              refine i_iald X F 131 rfl rfl dX8_worstOf_69 (vp_in_nI (by omega) (by decide)) (v := nI n20) (by rw [nI_clamp (by omega)]; exact en20) ?_
              refine g_icmp_ne X dX8_worstOf_70 (tgt := 77) (by decide) (fun q22 => ?_) (fun q22 => ?_)
              · skip
                refine g_iconst X dX8_worstOf_77 (v := 0) (by decide) ?_
                refine g_iadd X dX8_worstOf_78 ?_
                refine Go.gen (fun o23 => ?_)
                refine g_istore X dX8_worstOf_79 (by decide) (lv2 := [(6, .int o23), (7, .int (nI i18_7)), (5, .int (nI i6_5)), (4, .int v6_4), (0, .ref (a 100)), (1, .int p0), (2, .int (nI p1)), (3, .int (nI p2))]) rfl ?_
                refine g_iinc X dX8_worstOf_81 (j := 1) rfl (v := nI (i18_7 + 1)) (nI_1 i18_7) (by decide) (lv2 := [(7, .int (nI (i18_7 + 1))), (6, .int o23), (5, .int (nI i6_5)), (4, .int v6_4), (0, .ref (a 100)), (1, .int p0), (2, .int (nI p1)), (3, .int (nI p2))]) rfl ?_
                refine g_goto X dX8_worstOf_84 (tgt := 18) (by decide) ?_
                refine g_lv [0, 1, 2, 3, 4, 5, 6, 7] (lv2 := [(7, .int (nI (i18_7 + 1))), (6, .int o23), (5, .int (nI i6_5)), (4, .int v6_4), (0, .ref (a 100)), (1, .int p0), (2, .int (nI p1)), (3, .int (nI p2))]) rfl ?_
                exact ih18 ((i18_7 + 1), o23) L M C D F I K ⟨by omega, by omega⟩ (by show _ < _; omega)
              · skip
                refine g_iconst X dX8_worstOf_73 (v := 1) (by decide) ?_
                refine g_goto X dX8_worstOf_74 (tgt := 78) (by decide) ?_
                refine g_iadd X dX8_worstOf_78 ?_
                refine Go.gen (fun o24 => ?_)
                refine g_istore X dX8_worstOf_79 (by decide) (lv2 := [(6, .int o24), (7, .int (nI i18_7)), (5, .int (nI i6_5)), (4, .int v6_4), (0, .ref (a 100)), (1, .int p0), (2, .int (nI p1)), (3, .int (nI p2))]) rfl ?_
                refine g_iinc X dX8_worstOf_81 (j := 1) rfl (v := nI (i18_7 + 1)) (nI_1 i18_7) (by decide) (lv2 := [(7, .int (nI (i18_7 + 1))), (6, .int o24), (5, .int (nI i6_5)), (4, .int v6_4), (0, .ref (a 100)), (1, .int p0), (2, .int (nI p1)), (3, .int (nI p2))]) rfl ?_
                refine g_goto X dX8_worstOf_84 (tgt := 18) (by decide) ?_
                refine g_lv [0, 1, 2, 3, 4, 5, 6, 7] (lv2 := [(7, .int (nI (i18_7 + 1))), (6, .int o24), (5, .int (nI i6_5)), (4, .int v6_4), (0, .ref (a 100)), (1, .int p0), (2, .int (nI p1)), (3, .int (nI p2))]) rfl ?_
                exact ih18 ((i18_7 + 1), o24) L M C D F I K ⟨by omega, by omega⟩ (by show _ < _; omega)
          · skip
            refine i_iald X F 131 rfl rfl dX8_worstOf_57 (vp_in_nI (by omega) (by decide)) (v := nI n17) (by rw [nI_clamp (by omega)]; exact en17) ?_
            refine g_aload_n X dX8_worstOf_58 rfl (j := 4) rfl ?_
            refine i_get X F 100 rfl rfl fk_X8_70 dX8_worstOf_59 rfl ?_
            refine g_iload X dX8_worstOf_62 (j := 0) rfl ?_
            refine g_iload_n X dX8_worstOf_64 rfl (j := 6) rfl ?_
            refine g_iload_n X dX8_worstOf_65 rfl (j := 7) rfl ?_
            refine g_callSI X (s_X8_cellOf l G F I i18_7 (by omega) (by omega) p1 (by omega) (by omega) p2 (by omega) (by omega) ) lk_X8_406 rfl rfl dX8_worstOf_66 (Nat.le_of_ble_eq_true rfl) ⟨by decide, by decide⟩ ⟨by decide, by decide⟩ (fun r25 L M hp => ?_)
            obtain ⟨C, D, F, I, K1, hr⟩ := hp
            have K := K.step K1 (by decide)
            have en17 : C 131 (n16) = nI n17 := by rw [(K1 131 (by decide)).1]; exact en17
            obtain ⟨n26, hn26a, hn26b, rfl⟩ := hr
            rcases okp_nat (I 131 n26) with en27 | ⟨n27, hn27, en27⟩
            · skip
              refine i_iald X F 131 rfl rfl dX8_worstOf_69 (vp_in_nI (by omega) (by decide)) (v := -1) (by rw [nI_clamp (by omega)]; exact en27) ?_
              refine g_icmp_ne X dX8_worstOf_70 (tgt := 77) (by decide) (fun _ => ?_) (fun q => absurd q (nI_nm1 (by omega)))
              refine g_iconst X dX8_worstOf_77 (v := 0) (by decide) ?_
              refine g_iadd X dX8_worstOf_78 ?_
              refine Go.gen (fun o29 => ?_)
              refine g_istore X dX8_worstOf_79 (by decide) (lv2 := [(6, .int o29), (7, .int (nI i18_7)), (5, .int (nI i6_5)), (4, .int v6_4), (0, .ref (a 100)), (1, .int p0), (2, .int (nI p1)), (3, .int (nI p2))]) rfl ?_
              refine g_iinc X dX8_worstOf_81 (j := 1) rfl (v := nI (i18_7 + 1)) (nI_1 i18_7) (by decide) (lv2 := [(7, .int (nI (i18_7 + 1))), (6, .int o29), (5, .int (nI i6_5)), (4, .int v6_4), (0, .ref (a 100)), (1, .int p0), (2, .int (nI p1)), (3, .int (nI p2))]) rfl ?_
              refine g_goto X dX8_worstOf_84 (tgt := 18) (by decide) ?_
              refine g_lv [0, 1, 2, 3, 4, 5, 6, 7] (lv2 := [(7, .int (nI (i18_7 + 1))), (6, .int o29), (5, .int (nI i6_5)), (4, .int v6_4), (0, .ref (a 100)), (1, .int p0), (2, .int (nI p1)), (3, .int (nI p2))]) rfl ?_
              exact ih18 ((i18_7 + 1), o29) L M C D F I K ⟨by omega, by omega⟩ (by show _ < _; omega)
            · skip
              refine i_iald X F 131 rfl rfl dX8_worstOf_69 (vp_in_nI (by omega) (by decide)) (v := nI n27) (by rw [nI_clamp (by omega)]; exact en27) ?_
              refine g_icmp_ne X dX8_worstOf_70 (tgt := 77) (by decide) (fun q30 => ?_) (fun q30 => ?_)
              · skip
                have q30 : ¬ n17 = n27 := fun z => q30 ((nI_eq (a := n17) (b := n27) (by omega) (by omega)).mpr z)
                refine g_iconst X dX8_worstOf_77 (v := 0) (by decide) ?_
                refine g_iadd X dX8_worstOf_78 ?_
                refine Go.gen (fun o31 => ?_)
                refine g_istore X dX8_worstOf_79 (by decide) (lv2 := [(6, .int o31), (7, .int (nI i18_7)), (5, .int (nI i6_5)), (4, .int v6_4), (0, .ref (a 100)), (1, .int p0), (2, .int (nI p1)), (3, .int (nI p2))]) rfl ?_
                refine g_iinc X dX8_worstOf_81 (j := 1) rfl (v := nI (i18_7 + 1)) (nI_1 i18_7) (by decide) (lv2 := [(7, .int (nI (i18_7 + 1))), (6, .int o31), (5, .int (nI i6_5)), (4, .int v6_4), (0, .ref (a 100)), (1, .int p0), (2, .int (nI p1)), (3, .int (nI p2))]) rfl ?_
                refine g_goto X dX8_worstOf_84 (tgt := 18) (by decide) ?_
                refine g_lv [0, 1, 2, 3, 4, 5, 6, 7] (lv2 := [(7, .int (nI (i18_7 + 1))), (6, .int o31), (5, .int (nI i6_5)), (4, .int v6_4), (0, .ref (a 100)), (1, .int p0), (2, .int (nI p1)), (3, .int (nI p2))]) rfl ?_
                exact ih18 ((i18_7 + 1), o31) L M C D F I K ⟨by omega, by omega⟩ (by show _ < _; omega)
              · skip
                have q30 : n17 = n27 := (nI_eq (a := n17) (b := n27) (by omega) (by omega)).mp q30
                refine g_iconst X dX8_worstOf_73 (v := 1) (by decide) ?_
                refine g_goto X dX8_worstOf_74 (tgt := 78) (by decide) ?_
                refine g_iadd X dX8_worstOf_78 ?_
                refine Go.gen (fun o32 => ?_)
                refine g_istore X dX8_worstOf_79 (by decide) (lv2 := [(6, .int o32), (7, .int (nI i18_7)), (5, .int (nI i6_5)), (4, .int v6_4), (0, .ref (a 100)), (1, .int p0), (2, .int (nI p1)), (3, .int (nI p2))]) rfl ?_
                refine g_iinc X dX8_worstOf_81 (j := 1) rfl (v := nI (i18_7 + 1)) (nI_1 i18_7) (by decide) (lv2 := [(7, .int (nI (i18_7 + 1))), (6, .int o32), (5, .int (nI i6_5)), (4, .int v6_4), (0, .ref (a 100)), (1, .int p0), (2, .int (nI p1)), (3, .int (nI p2))]) rfl ?_
                refine g_goto X dX8_worstOf_84 (tgt := 18) (by decide) ?_
                refine g_lv [0, 1, 2, 3, 4, 5, 6, 7] (lv2 := [(7, .int (nI (i18_7 + 1))), (6, .int o32), (5, .int (nI i6_5)), (4, .int v6_4), (0, .ref (a 100)), (1, .int p0), (2, .int (nI p1)), (3, .int (nI p2))]) rfl ?_
                exact ih18 ((i18_7 + 1), o32) L M C D F I K ⟨by omega, by omega⟩ (by show _ < _; omega)
set_option maxHeartbeats 4000000 in
set_option maxRecDepth 100000 in
theorem s_X8_askOf (l : Launch) (G : va_G) {cy : Nat → ClassId} {L : List Nat} {M : Nat → va_E} {a : Nat → Nat} {act : Nat → Bool} {C0 : Nat → Nat → Int32} {D0 : Nat → Nat → Int64} {R : Nat → Nat → Option Nat} (F : WI L M a act (ent cy a C0 D0 R)) (I : Inv C0) (p0 : Int32)  : MI l G cy yX8_askOf cX8_askOf 6 (some .int) 2 0 0 [.ref (a 100), .int p0] L M (fun r L2 M2 => ∃ C2 D2, WI L2 M2 a act (ent cy a C2 D2 R) ∧ Inv C2 ∧ Kp [100] C0 D0 C2 D2 ∧ True) := by
  refine MI.of (own := RX8) rfl (by decide) (Nat.le_of_ble_eq_true rfl) ?_
  intro p e s m below meth c A X hrt hnm
  obtain ⟨C, D, hC0, hD0, F, I, K⟩ : ∃ C D, C = C0 ∧ D = D0 ∧ WI L M a act (ent cy a C D R) ∧ Inv C ∧ Kp [100] C0 D0 C D := ⟨C0, D0, rfl, rfl, F, I, Kp.rf⟩
  obtain ⟨n1, hn1, en1⟩ := rg_nat ((show okw 0 (C 101 0) from I 101 0).1 rfl) (by decide)
  rw [hC0] at en1
  obtain ⟨n2, hn2, en2⟩ := rg_nat ((show okw 4 (C 101 4) from I 101 4).2.2.2.1 rfl) (by decide)
  rw [hC0] at en2
  obtain ⟨n3, hn3, en3⟩ := rg_nat ((show okw 7 (C 101 7) from I 101 7).2.2.2.2.1 rfl) (by decide)
  rw [hC0] at en3
  refine g_aload_n X dX8_askOf_0 rfl (j := 0) rfl ?_
  refine g_iload_n X dX8_askOf_1 rfl (j := 1) rfl ?_
  refine g_callSI X (s_X8_bits l G F I p0 ) lk_X8_334 rfl rfl dX8_askOf_2 (Nat.le_of_ble_eq_true rfl) ⟨by decide, by decide⟩ ⟨by decide, by decide⟩ (fun r4 L M hp => ?_)
  obtain ⟨C, D, F, I, K1, hr⟩ := hp
  have K := K.step K1 (by decide)
  obtain ⟨n5, hn5a, hn5b, rfl⟩ := hr
  refine i_put X F I 100 rfl rfl rfl fk_X8_419 dX8_askOf_5 rfl rfl (Nat.le_of_ble_eq_true rfl) (fun h => absurd h (by decide)) (fun M C F I K1 hC => ?_)
  have K := K.step K1 (by decide)
  refine g_iconst X dX8_askOf_8 (v := -1) (by decide) ?_
  refine g_istore_n X dX8_askOf_9 rfl (by decide) (lv2 := [(2, .int (-1)), (0, .ref (a 100)), (1, .int p0)]) rfl ?_
  refine g_iconst X dX8_askOf_10 (v := 0) (by decide) ?_
  refine g_istore_n X dX8_askOf_11 rfl (by decide) (lv2 := [(3, .int 0), (2, .int (-1)), (0, .ref (a 100)), (1, .int p0)]) rfl ?_
  refine g_lv [0, 1, 2, 3] (lv2 := [(3, .int 0), (2, .int (-1)), (0, .ref (a 100)), (1, .int p0)]) rfl ?_
  refine i_loop (mods := [100]) (fun x : Nat × Int32 => 8 - x.1) (fun x => [(3, .int (nI (x.1))), (2, .int (x.2)), (0, .ref (a 100)), (1, .int p0)]) (fun x C => 0 ≤ x.1 ∧ x.1 ≤ 8) (fun x L M C D F I K hP ih12 => ?_) ((0, (-1)) : Nat × Int32) F I K ⟨by show _ ≤ _; omega, by show _ ≤ _; omega⟩
  rcases x with ⟨i12_3, v12_2⟩
  obtain ⟨hi12_3a, hi12_3b⟩ := hP
  refine g_lv [0, 1, 2, 3] (lv2 := [(3, .int (nI i12_3)), (2, .int v12_2), (0, .ref (a 100)), (1, .int p0)]) rfl ?_
  refine g_iload_n X dX8_askOf_12 rfl (j := 0) rfl ?_
  refine g_aload_n X dX8_askOf_13 rfl (j := 2) rfl ?_
  refine g_callVI X (s_X8_walkers l G F I  ) lk_X8_109 (F.1 100 rfl).2 (F.1 100 rfl).1 rfl rfl dX8_askOf_14 (Nat.le_of_ble_eq_true rfl) ⟨by decide, by decide⟩ ⟨by decide, by decide⟩ (fun r6 L M hp => ?_)
  obtain ⟨C, D, F, I, K1, hr⟩ := hp
  have K := K.step K1 (by decide)
  obtain ⟨n7, hn7, en7, rfl⟩ := hr
  obtain rfl : n3 = n7 := ((nI_eq (by omega) (by omega)).mp (en7.symm.trans ((congrFun (K 101 (by decide)).1 7).trans en3))).symm
  refine g_icmp_ge X dX8_askOf_17 (tgt := 80) (by decide) (fun q8 => ?_) (fun q8 => ?_)
  · skip
    have q8 : n3 ≤ i12_3 := (nI_leI (a := n3) (b := i12_3) (by omega) (by omega)).mp q8
    refine g_iload_n X dX8_askOf_80 rfl (j := 1) rfl ?_
    exact g_iret X hrt dX8_askOf_81 (by decide) (by decide) ⟨C, D, F, I, K, trivial⟩
  · skip
    have q8 : ¬ n3 ≤ i12_3 := fun z => q8 ((nI_leI (a := n3) (b := i12_3) (by omega) (by omega)).mpr z)
    refine g_iconst X dX8_askOf_20 (v := 0) (by decide) ?_
    refine g_istore X dX8_askOf_21 (by decide) (lv2 := [(4, .int 0), (3, .int (nI i12_3)), (2, .int v12_2), (0, .ref (a 100)), (1, .int p0)]) rfl ?_
    refine g_lv [0, 2, 1, 3, 4] (lv2 := [(4, .int 0), (2, .int v12_2), (3, .int (nI i12_3)), (0, .ref (a 100)), (1, .int p0)]) rfl ?_
    refine i_loop (mods := [100]) (fun x : Nat × Int32 => 17 - x.1) (fun x => [(4, .int (nI (x.1))), (2, .int (x.2)), (3, .int (nI i12_3)), (0, .ref (a 100)), (1, .int p0)]) (fun x C => 0 ≤ x.1 ∧ x.1 ≤ 17) (fun x L M C D F I K hP ih23 => ?_) ((0, v12_2) : Nat × Int32) F I K ⟨by show _ ≤ _; omega, by show _ ≤ _; omega⟩
    rcases x with ⟨i23_4, v23_2⟩
    obtain ⟨hi23_4a, hi23_4b⟩ := hP
    refine g_lv [0, 1, 2, 3, 4] (lv2 := [(4, .int (nI i23_4)), (2, .int v23_2), (3, .int (nI i12_3)), (0, .ref (a 100)), (1, .int p0)]) rfl ?_
    refine g_iload X dX8_askOf_23 (j := 0) rfl ?_
    refine g_aload_n X dX8_askOf_25 rfl (j := 3) rfl ?_
    refine g_callVI X (s_X8_hours l G F I  ) lk_X8_106 (F.1 100 rfl).2 (F.1 100 rfl).1 rfl rfl dX8_askOf_26 (Nat.le_of_ble_eq_true rfl) ⟨by decide, by decide⟩ ⟨by decide, by decide⟩ (fun r9 L M hp => ?_)
    obtain ⟨C, D, F, I, K1, hr⟩ := hp
    have K := K.step K1 (by decide)
    obtain ⟨n10, hn10, en10, rfl⟩ := hr
    obtain rfl : n1 = n10 := ((nI_eq (by omega) (by omega)).mp (en10.symm.trans ((congrFun (K 101 (by decide)).1 0).trans en1))).symm
    refine g_icmp_gt X dX8_askOf_29 (tgt := 74) (by decide) (fun q11 => ?_) (fun q11 => ?_)
    · skip
      have q11 : n1 < i23_4 := (nI_ltI (a := n1) (b := i23_4) (by omega) (by omega)).mp q11
      refine g_iinc X dX8_askOf_74 (j := 2) rfl (v := nI (i12_3 + 1)) (nI_1 i12_3) (by decide) (lv2 := [(3, .int (nI (i12_3 + 1))), (4, .int (nI i23_4)), (2, .int v23_2), (0, .ref (a 100)), (1, .int p0)]) rfl ?_
      refine g_goto X dX8_askOf_77 (tgt := 12) (by decide) ?_
      refine g_lv [0, 2, 3, 4] (lv2 := [(3, .int (nI (i12_3 + 1))), (2, .int v23_2), (0, .ref (a 100)), (1, .int p0)]) rfl ?_
      exact ih12 ((i12_3 + 1), v23_2) L M C D F I K ⟨by omega, by omega⟩ (by show _ < _; omega)
    · skip
      have q11 : ¬ n1 < i23_4 := fun z => q11 ((nI_ltI (a := n1) (b := i23_4) (by omega) (by omega)).mpr z)
      refine g_aload_n X dX8_askOf_32 rfl (j := 3) rfl ?_
      refine g_iload_n X dX8_askOf_33 rfl (j := 4) rfl ?_
      refine g_iload_n X dX8_askOf_34 rfl (j := 2) rfl ?_
      refine g_iload X dX8_askOf_35 (j := 0) rfl ?_
      refine g_callVI X (s_X8_worstOf l G F I p0 i12_3 (by omega) (by omega) i23_4 (by omega) (by omega) ) lk_X8_422 (F.1 100 rfl).2 (F.1 100 rfl).1 rfl rfl dX8_askOf_37 (Nat.le_of_ble_eq_true rfl) ⟨by decide, by decide⟩ ⟨by decide, by decide⟩ (fun r12 L M hp => ?_)
      obtain ⟨C, D, F, I, K1, hr⟩ := hp
      have K := K.step K1 (by decide)
      refine g_istore X dX8_askOf_40 (by decide) (lv2 := [(5, .int r12), (4, .int (nI i23_4)), (2, .int v23_2), (3, .int (nI i12_3)), (0, .ref (a 100)), (1, .int p0)]) rfl ?_
      refine g_iload X dX8_askOf_42 (j := 0) rfl ?_
      refine g_aload_n X dX8_askOf_44 rfl (j := 4) rfl ?_
      refine i_get X F 100 rfl rfl fk_X8_419 dX8_askOf_45 rfl ?_
      refine Go.gen (fun o13 => ?_)
      refine g_icmp_lt X dX8_askOf_48 (tgt := 54) (by decide) (fun q14 => ?_) (fun q14 => ?_)
      · skip
        refine g_aload_n X dX8_askOf_54 rfl (j := 4) rfl ?_
        refine g_iload X dX8_askOf_55 (j := 0) rfl ?_
        refine i_put X F I 100 rfl rfl rfl fk_X8_419 dX8_askOf_57 rfl rfl (Nat.le_of_ble_eq_true rfl) (fun h => absurd h (by decide)) (fun M C F I K1 hC => ?_)
        have K := K.step K1 (by decide)
        refine g_bipush X dX8_askOf_60 (v := 100) (by decide) ?_
        refine g_iload_n X dX8_askOf_62 rfl (j := 3) rfl ?_
        refine g_imul X dX8_askOf_63 ?_
        refine Go.top (v := .int (nI (100 * i12_3))) (congrArg Value.int (pk_mul 100 i12_3)) ?_
        refine g_iload X dX8_askOf_64 (j := 1) rfl ?_
        refine g_iadd X dX8_askOf_66 ?_
        refine Go.top (v := .int (nI ((100 * i12_3) + i23_4))) (congrArg Value.int (nI_add (100 * i12_3) i23_4)) ?_
        refine g_istore_n X dX8_askOf_67 rfl (by decide) (lv2 := [(2, .int (nI ((100 * i12_3) + i23_4))), (5, .int r12), (4, .int (nI i23_4)), (3, .int (nI i12_3)), (0, .ref (a 100)), (1, .int p0)]) rfl ?_
        refine g_iinc X dX8_askOf_68 (j := 2) rfl (v := nI (i23_4 + 1)) (nI_1 i23_4) (by decide) (lv2 := [(4, .int (nI (i23_4 + 1))), (2, .int (nI ((100 * i12_3) + i23_4))), (5, .int r12), (3, .int (nI i12_3)), (0, .ref (a 100)), (1, .int p0)]) rfl ?_
        refine g_goto X dX8_askOf_71 (tgt := 23) (by decide) ?_
        refine g_lv [0, 1, 3, 4, 5] (lv2 := [(4, .int (nI (i23_4 + 1))), (2, .int (nI ((100 * i12_3) + i23_4))), (3, .int (nI i12_3)), (0, .ref (a 100)), (1, .int p0)]) rfl ?_
        exact ih23 ((i23_4 + 1), nI ((100 * i12_3) + i23_4)) L M C D F I K ⟨by omega, by omega⟩ (by show _ < _; omega)
      · skip
        refine g_goto X dX8_askOf_51 (tgt := 68) (by decide) ?_
        refine g_iinc X dX8_askOf_68 (j := 1) rfl (v := nI (i23_4 + 1)) (nI_1 i23_4) (by decide) (lv2 := [(4, .int (nI (i23_4 + 1))), (5, .int r12), (2, .int v23_2), (3, .int (nI i12_3)), (0, .ref (a 100)), (1, .int p0)]) rfl ?_
        refine g_goto X dX8_askOf_71 (tgt := 23) (by decide) ?_
        refine g_lv [0, 2, 3, 4, 5] (lv2 := [(4, .int (nI (i23_4 + 1))), (2, .int v23_2), (3, .int (nI i12_3)), (0, .ref (a 100)), (1, .int p0)]) rfl ?_
        exact ih23 ((i23_4 + 1), v23_2) L M C D F I K ⟨by omega, by omega⟩ (by show _ < _; omega)
set_option maxHeartbeats 4000000 in
set_option maxRecDepth 100000 in
theorem s_X8_may (l : Launch) (G : va_G) {cy : Nat → ClassId} {L : List Nat} {M : Nat → va_E} {a : Nat → Nat} {act : Nat → Bool} {C0 : Nat → Nat → Int32} {D0 : Nat → Nat → Int64} {R : Nat → Nat → Option Nat} (F : WI L M a act (ent cy a C0 D0 R)) (I : Inv C0) (p0 : Int32) (p1 : Int32)  : MI l G cy yX8_may cX8_may 4 (some .int) 8 0 0 [.ref (a 100), .int p0, .int p1] L M (fun r L2 M2 => ∃ C2 D2, WI L2 M2 a act (ent cy a C2 D2 R) ∧ Inv C2 ∧ Kp [100, 115, 116, 120, 121, 122, 123, 124, 125, 126, 127, 128, 131] C0 D0 C2 D2 ∧ True) := by
  refine MI.of (own := RX8) rfl (by decide) (Nat.le_of_ble_eq_true rfl) ?_
  intro p e s m below meth c A X hrt hnm
  obtain ⟨C, D, hC0, hD0, F, I, K⟩ : ∃ C D, C = C0 ∧ D = D0 ∧ WI L M a act (ent cy a C D R) ∧ Inv C ∧ Kp [100, 115, 116, 120, 121, 122, 123, 124, 125, 126, 127, 128, 131] C0 D0 C D := ⟨C0, D0, rfl, rfl, F, I, Kp.rf⟩
  obtain ⟨n1, hn1, en1⟩ := rg_nat ((show okw 0 (C 101 0) from I 101 0).1 rfl) (by decide)
  rw [hC0] at en1
  obtain ⟨n2, hn2, en2⟩ := rg_nat ((show okw 4 (C 101 4) from I 101 4).2.2.2.1 rfl) (by decide)
  rw [hC0] at en2
  obtain ⟨n3, hn3, en3⟩ := rg_nat ((show okw 7 (C 101 7) from I 101 7).2.2.2.2.1 rfl) (by decide)
  rw [hC0] at en3
  rcases sc4 p0 with hx4 | hx4 | rfl | rfl | rfl | rfl
  · skip
    have hno1 : p0 < 0 ∨ 4 ≤ p0 := Or.inl hx4
    refine g_aload_n X dX8_may_0 rfl (j := 0) rfl ?_
    refine g_iload_n X dX8_may_1 rfl (j := 1) rfl ?_
    refine g_iload_n X dX8_may_2 rfl (j := 2) rfl ?_
    refine g_callVI X (s_X8_askMay_x l G F I p0 p1 hno1) lk_X8_413 (F.1 100 rfl).2 (F.1 100 rfl).1 rfl rfl dX8_may_3 (Nat.le_of_ble_eq_true rfl) ⟨by decide, by decide⟩ ⟨by decide, by decide⟩ (fun r5 L M hp => ?_)
    obtain ⟨C, D, F, I, K1, hr⟩ := hp
    have K := K.step K1 (by decide)
    have hz6 := hr
    refine g_istore_n X dX8_may_6 rfl (by decide) (lv2 := [(3, .int r5), (0, .ref (a 100)), (1, .int p0), (2, .int p1)]) rfl ?_
    refine g_iload_n X dX8_may_7 rfl (j := 0) rfl ?_
    refine g_if_ge X dX8_may_8 (tgt := 15) (by decide) (fun q => absurd (Int32.lt_iff_toInt_lt.mpr (by have k : (0 : Int32).toInt = 0 := (by decide); omega)) (Int32.not_lt.mpr q)) (fun _ => ?_)
    refine g_iload_n X dX8_may_11 rfl (j := 0) rfl ?_
    refine g_goto X dX8_may_12 (tgt := 21) (by decide) ?_
    exact g_iret X hrt dX8_may_21 (by decide) (by decide) ⟨C, D, F, I, K, trivial⟩
  · skip
    have hno1 : p0 < 0 ∨ 4 ≤ p0 := Or.inr hx4
    refine g_aload_n X dX8_may_0 rfl (j := 0) rfl ?_
    refine g_iload_n X dX8_may_1 rfl (j := 1) rfl ?_
    refine g_iload_n X dX8_may_2 rfl (j := 2) rfl ?_
    refine g_callVI X (s_X8_askMay_x l G F I p0 p1 hno1) lk_X8_413 (F.1 100 rfl).2 (F.1 100 rfl).1 rfl rfl dX8_may_3 (Nat.le_of_ble_eq_true rfl) ⟨by decide, by decide⟩ ⟨by decide, by decide⟩ (fun r8 L M hp => ?_)
    obtain ⟨C, D, F, I, K1, hr⟩ := hp
    have K := K.step K1 (by decide)
    have hz9 := hr
    refine g_istore_n X dX8_may_6 rfl (by decide) (lv2 := [(3, .int r8), (0, .ref (a 100)), (1, .int p0), (2, .int p1)]) rfl ?_
    refine g_iload_n X dX8_may_7 rfl (j := 0) rfl ?_
    refine g_if_ge X dX8_may_8 (tgt := 15) (by decide) (fun q => absurd (Int32.lt_iff_toInt_lt.mpr (by have k : (0 : Int32).toInt = 0 := (by decide); omega)) (Int32.not_lt.mpr q)) (fun _ => ?_)
    refine g_iload_n X dX8_may_11 rfl (j := 0) rfl ?_
    refine g_goto X dX8_may_12 (tgt := 21) (by decide) ?_
    exact g_iret X hrt dX8_may_21 (by decide) (by decide) ⟨C, D, F, I, K, trivial⟩
  · skip
    refine g_aload_n X dX8_may_0 rfl (j := 0) rfl ?_
    refine g_iload_n X dX8_may_1 rfl (j := 1) rfl ?_
    refine g_iload_n X dX8_may_2 rfl (j := 2) rfl ?_
    refine g_callVI X (s_X8_askMay_0 l G F I p1 ) lk_X8_413 (F.1 100 rfl).2 (F.1 100 rfl).1 rfl rfl dX8_may_3 (Nat.le_of_ble_eq_true rfl) ⟨by decide, by decide⟩ ⟨by decide, by decide⟩ (fun r11 L M hp => ?_)
    obtain ⟨C, D, F, I, K1, hr⟩ := hp
    have K := K.step K1 (by decide)
    rcases hr with hz12 | ⟨rfl, ⟨n13, hn13, en13⟩, gsn⟩
    · skip
      refine g_istore_n X dX8_may_6 rfl (by decide) (lv2 := [(3, .int r11), (0, .ref (a 100)), (1, .int 0), (2, .int p1)]) rfl ?_
      refine g_iload_n X dX8_may_7 rfl (j := 0) rfl ?_
      refine g_if_ge X dX8_may_8 (tgt := 15) (by decide) (fun q => absurd (Int32.lt_iff_toInt_lt.mpr (by have k : (0 : Int32).toInt = 0 := (by decide); omega)) (Int32.not_lt.mpr q)) (fun _ => ?_)
      refine g_iload_n X dX8_may_11 rfl (j := 0) rfl ?_
      refine g_goto X dX8_may_12 (tgt := 21) (by decide) ?_
      exact g_iret X hrt dX8_may_21 (by decide) (by decide) ⟨C, D, F, I, K, trivial⟩
    · skip
      rw [(K 137 (by decide)).1, (K 139 (by decide)).2] at gsn
      subst en13
      refine g_istore_n X dX8_may_6 rfl (by decide) (lv2 := [(3, .int 0), (0, .ref (a 100)), (1, .int 0), (2, .int (nI n13))]) rfl ?_
      refine g_iload_n X dX8_may_7 rfl (j := 0) rfl ?_
      refine g_if_ge X dX8_may_8 (tgt := 15) (by decide) (fun _ => ?_) (fun q => absurd (by decide) q)
      refine g_aload_n X dX8_may_15 rfl (j := 1) rfl ?_
      refine g_iload_n X dX8_may_16 rfl (j := 2) rfl ?_
      refine g_iload_n X dX8_may_17 rfl (j := 3) rfl ?_
      refine g_callVI X (s_X8_mayOf_0 l G F I n13 (by omega) (by omega) (by rw [(K 137 (by decide)).1, (K 139 (by decide)).2]; exact gsn)) lk_X8_416 (F.1 100 rfl).2 (F.1 100 rfl).1 rfl rfl dX8_may_18 (Nat.le_of_ble_eq_true rfl) ⟨by decide, by decide⟩ ⟨by decide, by decide⟩ (fun r15 L M hp => ?_)
      obtain ⟨C, D, F, I, K1, hr⟩ := hp
      have K := K.step K1 (by decide)
      exact g_iret X hrt dX8_may_21 (by decide) (by decide) ⟨C, D, F, I, K, trivial⟩
  · skip
    refine g_aload_n X dX8_may_0 rfl (j := 0) rfl ?_
    refine g_iload_n X dX8_may_1 rfl (j := 1) rfl ?_
    refine g_iload_n X dX8_may_2 rfl (j := 2) rfl ?_
    refine g_callVI X (s_X8_askMay_1 l G F I p1 ) lk_X8_413 (F.1 100 rfl).2 (F.1 100 rfl).1 rfl rfl dX8_may_3 (Nat.le_of_ble_eq_true rfl) ⟨by decide, by decide⟩ ⟨by decide, by decide⟩ (fun r16 L M hp => ?_)
    obtain ⟨C, D, F, I, K1, hr⟩ := hp
    have K := K.step K1 (by decide)
    rcases hr with hz17 | ⟨rfl, ⟨n18, hn18, en18⟩, gsn⟩
    · skip
      refine g_istore_n X dX8_may_6 rfl (by decide) (lv2 := [(3, .int r16), (0, .ref (a 100)), (1, .int 1), (2, .int p1)]) rfl ?_
      refine g_iload_n X dX8_may_7 rfl (j := 0) rfl ?_
      refine g_if_ge X dX8_may_8 (tgt := 15) (by decide) (fun q => absurd (Int32.lt_iff_toInt_lt.mpr (by have k : (0 : Int32).toInt = 0 := (by decide); omega)) (Int32.not_lt.mpr q)) (fun _ => ?_)
      refine g_iload_n X dX8_may_11 rfl (j := 0) rfl ?_
      refine g_goto X dX8_may_12 (tgt := 21) (by decide) ?_
      exact g_iret X hrt dX8_may_21 (by decide) (by decide) ⟨C, D, F, I, K, trivial⟩
    · skip
      rw [(K 137 (by decide)).1, (K 139 (by decide)).2] at gsn
      subst en18
      refine g_istore_n X dX8_may_6 rfl (by decide) (lv2 := [(3, .int 0), (0, .ref (a 100)), (1, .int 1), (2, .int (nI n18))]) rfl ?_
      refine g_iload_n X dX8_may_7 rfl (j := 0) rfl ?_
      refine g_if_ge X dX8_may_8 (tgt := 15) (by decide) (fun _ => ?_) (fun q => absurd (by decide) q)
      refine g_aload_n X dX8_may_15 rfl (j := 1) rfl ?_
      refine g_iload_n X dX8_may_16 rfl (j := 2) rfl ?_
      refine g_iload_n X dX8_may_17 rfl (j := 3) rfl ?_
      refine g_callVI X (s_X8_mayOf_1 l G F I n18 (by omega) (by omega) (by rw [(K 137 (by decide)).1, (K 139 (by decide)).2]; exact gsn)) lk_X8_416 (F.1 100 rfl).2 (F.1 100 rfl).1 rfl rfl dX8_may_18 (Nat.le_of_ble_eq_true rfl) ⟨by decide, by decide⟩ ⟨by decide, by decide⟩ (fun r20 L M hp => ?_)
      obtain ⟨C, D, F, I, K1, hr⟩ := hp
      have K := K.step K1 (by decide)
      exact g_iret X hrt dX8_may_21 (by decide) (by decide) ⟨C, D, F, I, K, trivial⟩
  · skip
    refine g_aload_n X dX8_may_0 rfl (j := 0) rfl ?_
    refine g_iload_n X dX8_may_1 rfl (j := 1) rfl ?_
    refine g_iload_n X dX8_may_2 rfl (j := 2) rfl ?_
    refine g_callVI X (s_X8_askMay_2 l G F I p1 ) lk_X8_413 (F.1 100 rfl).2 (F.1 100 rfl).1 rfl rfl dX8_may_3 (Nat.le_of_ble_eq_true rfl) ⟨by decide, by decide⟩ ⟨by decide, by decide⟩ (fun r21 L M hp => ?_)
    obtain ⟨C, D, F, I, K1, hr⟩ := hp
    have K := K.step K1 (by decide)
    rcases hr with hz22 | ⟨rfl, ⟨n23, hn23, en23⟩, gsn⟩
    · skip
      refine g_istore_n X dX8_may_6 rfl (by decide) (lv2 := [(3, .int r21), (0, .ref (a 100)), (1, .int 2), (2, .int p1)]) rfl ?_
      refine g_iload_n X dX8_may_7 rfl (j := 0) rfl ?_
      refine g_if_ge X dX8_may_8 (tgt := 15) (by decide) (fun q => absurd (Int32.lt_iff_toInt_lt.mpr (by have k : (0 : Int32).toInt = 0 := (by decide); omega)) (Int32.not_lt.mpr q)) (fun _ => ?_)
      refine g_iload_n X dX8_may_11 rfl (j := 0) rfl ?_
      refine g_goto X dX8_may_12 (tgt := 21) (by decide) ?_
      exact g_iret X hrt dX8_may_21 (by decide) (by decide) ⟨C, D, F, I, K, trivial⟩
    · skip
      rw [(K 137 (by decide)).1, (K 139 (by decide)).2] at gsn
      subst en23
      refine g_istore_n X dX8_may_6 rfl (by decide) (lv2 := [(3, .int 0), (0, .ref (a 100)), (1, .int 2), (2, .int (nI n23))]) rfl ?_
      refine g_iload_n X dX8_may_7 rfl (j := 0) rfl ?_
      refine g_if_ge X dX8_may_8 (tgt := 15) (by decide) (fun _ => ?_) (fun q => absurd (by decide) q)
      refine g_aload_n X dX8_may_15 rfl (j := 1) rfl ?_
      refine g_iload_n X dX8_may_16 rfl (j := 2) rfl ?_
      refine g_iload_n X dX8_may_17 rfl (j := 3) rfl ?_
      refine g_callVI X (s_X8_mayOf_2 l G F I n23 (by omega) (by omega) (by rw [(K 137 (by decide)).1, (K 139 (by decide)).2]; exact gsn)) lk_X8_416 (F.1 100 rfl).2 (F.1 100 rfl).1 rfl rfl dX8_may_18 (Nat.le_of_ble_eq_true rfl) ⟨by decide, by decide⟩ ⟨by decide, by decide⟩ (fun r25 L M hp => ?_)
      obtain ⟨C, D, F, I, K1, hr⟩ := hp
      have K := K.step K1 (by decide)
      exact g_iret X hrt dX8_may_21 (by decide) (by decide) ⟨C, D, F, I, K, trivial⟩
  · skip
    refine g_aload_n X dX8_may_0 rfl (j := 0) rfl ?_
    refine g_iload_n X dX8_may_1 rfl (j := 1) rfl ?_
    refine g_iload_n X dX8_may_2 rfl (j := 2) rfl ?_
    refine g_callVI X (s_X8_askMay_3 l G F I p1 ) lk_X8_413 (F.1 100 rfl).2 (F.1 100 rfl).1 rfl rfl dX8_may_3 (Nat.le_of_ble_eq_true rfl) ⟨by decide, by decide⟩ ⟨by decide, by decide⟩ (fun r26 L M hp => ?_)
    obtain ⟨C, D, F, I, K1, hr⟩ := hp
    have K := K.step K1 (by decide)
    rcases hr with hz27 | ⟨rfl, ⟨n28, hn28, en28⟩, gsn⟩
    · skip
      refine g_istore_n X dX8_may_6 rfl (by decide) (lv2 := [(3, .int r26), (0, .ref (a 100)), (1, .int 3), (2, .int p1)]) rfl ?_
      refine g_iload_n X dX8_may_7 rfl (j := 0) rfl ?_
      refine g_if_ge X dX8_may_8 (tgt := 15) (by decide) (fun q => absurd (Int32.lt_iff_toInt_lt.mpr (by have k : (0 : Int32).toInt = 0 := (by decide); omega)) (Int32.not_lt.mpr q)) (fun _ => ?_)
      refine g_iload_n X dX8_may_11 rfl (j := 0) rfl ?_
      refine g_goto X dX8_may_12 (tgt := 21) (by decide) ?_
      exact g_iret X hrt dX8_may_21 (by decide) (by decide) ⟨C, D, F, I, K, trivial⟩
    · skip
      rw [(K 137 (by decide)).1, (K 139 (by decide)).2] at gsn
      subst en28
      refine g_istore_n X dX8_may_6 rfl (by decide) (lv2 := [(3, .int 0), (0, .ref (a 100)), (1, .int 3), (2, .int (nI n28))]) rfl ?_
      refine g_iload_n X dX8_may_7 rfl (j := 0) rfl ?_
      refine g_if_ge X dX8_may_8 (tgt := 15) (by decide) (fun _ => ?_) (fun q => absurd (by decide) q)
      refine g_aload_n X dX8_may_15 rfl (j := 1) rfl ?_
      refine g_iload_n X dX8_may_16 rfl (j := 2) rfl ?_
      refine g_iload_n X dX8_may_17 rfl (j := 3) rfl ?_
      refine g_callVI X (s_X8_mayOf_3 l G F I n28 (by omega) (by omega) (by rw [(K 137 (by decide)).1, (K 139 (by decide)).2]; exact gsn)) lk_X8_416 (F.1 100 rfl).2 (F.1 100 rfl).1 rfl rfl dX8_may_18 (Nat.le_of_ble_eq_true rfl) ⟨by decide, by decide⟩ ⟨by decide, by decide⟩ (fun r30 L M hp => ?_)
      obtain ⟨C, D, F, I, K1, hr⟩ := hp
      have K := K.step K1 (by decide)
      exact g_iret X hrt dX8_may_21 (by decide) (by decide) ⟨C, D, F, I, K, trivial⟩
set_option maxHeartbeats 4000000 in
set_option maxRecDepth 100000 in
theorem s_X8_ask (l : Launch) (G : va_G) {cy : Nat → ClassId} {L : List Nat} {M : Nat → va_E} {a : Nat → Nat} {act : Nat → Bool} {C0 : Nat → Nat → Int32} {D0 : Nat → Nat → Int64} {R : Nat → Nat → Option Nat} (F : WI L M a act (ent cy a C0 D0 R)) (I : Inv C0) (p0 : Int32) (p1 : Int32)  : MI l G cy yX8_ask cX8_ask 4 (some .int) 8 0 0 [.ref (a 100), .int p0, .int p1] L M (fun r L2 M2 => ∃ C2 D2, WI L2 M2 a act (ent cy a C2 D2 R) ∧ Inv C2 ∧ Kp [100, 115, 116, 120, 121, 122, 123, 124, 125, 126, 127, 128, 131] C0 D0 C2 D2 ∧ True) := by
  refine MI.of (own := RX8) rfl (by decide) (Nat.le_of_ble_eq_true rfl) ?_
  intro p e s m below meth c A X hrt hnm
  obtain ⟨C, D, hC0, hD0, F, I, K⟩ : ∃ C D, C = C0 ∧ D = D0 ∧ WI L M a act (ent cy a C D R) ∧ Inv C ∧ Kp [100, 115, 116, 120, 121, 122, 123, 124, 125, 126, 127, 128, 131] C0 D0 C D := ⟨C0, D0, rfl, rfl, F, I, Kp.rf⟩
  obtain ⟨n1, hn1, en1⟩ := rg_nat ((show okw 0 (C 101 0) from I 101 0).1 rfl) (by decide)
  rw [hC0] at en1
  obtain ⟨n2, hn2, en2⟩ := rg_nat ((show okw 4 (C 101 4) from I 101 4).2.2.2.1 rfl) (by decide)
  rw [hC0] at en2
  obtain ⟨n3, hn3, en3⟩ := rg_nat ((show okw 7 (C 101 7) from I 101 7).2.2.2.2.1 rfl) (by decide)
  rw [hC0] at en3
  rcases sc4 p0 with hx4 | hx4 | rfl | rfl | rfl | rfl
  · skip
    have hno1 : p0 < 0 ∨ 4 ≤ p0 := Or.inl hx4
    refine g_aload_n X dX8_ask_0 rfl (j := 0) rfl ?_
    refine g_iload_n X dX8_ask_1 rfl (j := 1) rfl ?_
    refine g_iload_n X dX8_ask_2 rfl (j := 2) rfl ?_
    refine g_callVI X (s_X8_askMay_x l G F I p0 p1 hno1) lk_X8_413 (F.1 100 rfl).2 (F.1 100 rfl).1 rfl rfl dX8_ask_3 (Nat.le_of_ble_eq_true rfl) ⟨by decide, by decide⟩ ⟨by decide, by decide⟩ (fun r5 L M hp => ?_)
    obtain ⟨C, D, F, I, K1, hr⟩ := hp
    have K := K.step K1 (by decide)
    have hz6 := hr
    refine g_istore_n X dX8_ask_6 rfl (by decide) (lv2 := [(3, .int r5), (0, .ref (a 100)), (1, .int p0), (2, .int p1)]) rfl ?_
    refine g_iload_n X dX8_ask_7 rfl (j := 0) rfl ?_
    refine g_if_ge X dX8_ask_8 (tgt := 15) (by decide) (fun q => absurd (Int32.lt_iff_toInt_lt.mpr (by have k : (0 : Int32).toInt = 0 := (by decide); omega)) (Int32.not_lt.mpr q)) (fun _ => ?_)
    refine g_iload_n X dX8_ask_11 rfl (j := 0) rfl ?_
    refine g_goto X dX8_ask_12 (tgt := 25) (by decide) ?_
    exact g_iret X hrt dX8_ask_25 (by decide) (by decide) ⟨C, D, F, I, K, trivial⟩
  · skip
    have hno1 : p0 < 0 ∨ 4 ≤ p0 := Or.inr hx4
    refine g_aload_n X dX8_ask_0 rfl (j := 0) rfl ?_
    refine g_iload_n X dX8_ask_1 rfl (j := 1) rfl ?_
    refine g_iload_n X dX8_ask_2 rfl (j := 2) rfl ?_
    refine g_callVI X (s_X8_askMay_x l G F I p0 p1 hno1) lk_X8_413 (F.1 100 rfl).2 (F.1 100 rfl).1 rfl rfl dX8_ask_3 (Nat.le_of_ble_eq_true rfl) ⟨by decide, by decide⟩ ⟨by decide, by decide⟩ (fun r8 L M hp => ?_)
    obtain ⟨C, D, F, I, K1, hr⟩ := hp
    have K := K.step K1 (by decide)
    have hz9 := hr
    refine g_istore_n X dX8_ask_6 rfl (by decide) (lv2 := [(3, .int r8), (0, .ref (a 100)), (1, .int p0), (2, .int p1)]) rfl ?_
    refine g_iload_n X dX8_ask_7 rfl (j := 0) rfl ?_
    refine g_if_ge X dX8_ask_8 (tgt := 15) (by decide) (fun q => absurd (Int32.lt_iff_toInt_lt.mpr (by have k : (0 : Int32).toInt = 0 := (by decide); omega)) (Int32.not_lt.mpr q)) (fun _ => ?_)
    refine g_iload_n X dX8_ask_11 rfl (j := 0) rfl ?_
    refine g_goto X dX8_ask_12 (tgt := 25) (by decide) ?_
    exact g_iret X hrt dX8_ask_25 (by decide) (by decide) ⟨C, D, F, I, K, trivial⟩
  · skip
    refine g_aload_n X dX8_ask_0 rfl (j := 0) rfl ?_
    refine g_iload_n X dX8_ask_1 rfl (j := 1) rfl ?_
    refine g_iload_n X dX8_ask_2 rfl (j := 2) rfl ?_
    refine g_callVI X (s_X8_askMay_0 l G F I p1 ) lk_X8_413 (F.1 100 rfl).2 (F.1 100 rfl).1 rfl rfl dX8_ask_3 (Nat.le_of_ble_eq_true rfl) ⟨by decide, by decide⟩ ⟨by decide, by decide⟩ (fun r11 L M hp => ?_)
    obtain ⟨C, D, F, I, K1, hr⟩ := hp
    have K := K.step K1 (by decide)
    rcases hr with hz12 | ⟨rfl, ⟨n13, hn13, en13⟩, gsn⟩
    · skip
      refine g_istore_n X dX8_ask_6 rfl (by decide) (lv2 := [(3, .int r11), (0, .ref (a 100)), (1, .int 0), (2, .int p1)]) rfl ?_
      refine g_iload_n X dX8_ask_7 rfl (j := 0) rfl ?_
      refine g_if_ge X dX8_ask_8 (tgt := 15) (by decide) (fun q => absurd (Int32.lt_iff_toInt_lt.mpr (by have k : (0 : Int32).toInt = 0 := (by decide); omega)) (Int32.not_lt.mpr q)) (fun _ => ?_)
      refine g_iload_n X dX8_ask_11 rfl (j := 0) rfl ?_
      refine g_goto X dX8_ask_12 (tgt := 25) (by decide) ?_
      exact g_iret X hrt dX8_ask_25 (by decide) (by decide) ⟨C, D, F, I, K, trivial⟩
    · skip
      rw [(K 137 (by decide)).1, (K 139 (by decide)).2] at gsn
      subst en13
      refine g_istore_n X dX8_ask_6 rfl (by decide) (lv2 := [(3, .int 0), (0, .ref (a 100)), (1, .int 0), (2, .int (nI n13))]) rfl ?_
      refine g_iload_n X dX8_ask_7 rfl (j := 0) rfl ?_
      refine g_if_ge X dX8_ask_8 (tgt := 15) (by decide) (fun _ => ?_) (fun q => absurd (by decide) q)
      refine g_aload_n X dX8_ask_15 rfl (j := 1) rfl ?_
      refine g_aload_n X dX8_ask_16 rfl (j := 1) rfl ?_
      refine g_iload_n X dX8_ask_17 rfl (j := 2) rfl ?_
      refine g_iload_n X dX8_ask_18 rfl (j := 3) rfl ?_
      refine g_callVI X (s_X8_mayOf_0 l G F I n13 (by omega) (by omega) (by rw [(K 137 (by decide)).1, (K 139 (by decide)).2]; exact gsn)) lk_X8_416 (F.1 100 rfl).2 (F.1 100 rfl).1 rfl rfl dX8_ask_19 (Nat.le_of_ble_eq_true rfl) ⟨by decide, by decide⟩ ⟨by decide, by decide⟩ (fun r15 L M hp => ?_)
      obtain ⟨C, D, F, I, K1, hr⟩ := hp
      have K := K.step K1 (by decide)
      refine g_callVI X (s_X8_askOf l G F I r15 ) lk_X8_425 (F.1 100 rfl).2 (F.1 100 rfl).1 rfl rfl dX8_ask_22 (Nat.le_of_ble_eq_true rfl) ⟨by decide, by decide⟩ ⟨by decide, by decide⟩ (fun r16 L M hp => ?_)
      obtain ⟨C, D, F, I, K1, hr⟩ := hp
      have K := K.step K1 (by decide)
      exact g_iret X hrt dX8_ask_25 (by decide) (by decide) ⟨C, D, F, I, K, trivial⟩
  · skip
    refine g_aload_n X dX8_ask_0 rfl (j := 0) rfl ?_
    refine g_iload_n X dX8_ask_1 rfl (j := 1) rfl ?_
    refine g_iload_n X dX8_ask_2 rfl (j := 2) rfl ?_
    refine g_callVI X (s_X8_askMay_1 l G F I p1 ) lk_X8_413 (F.1 100 rfl).2 (F.1 100 rfl).1 rfl rfl dX8_ask_3 (Nat.le_of_ble_eq_true rfl) ⟨by decide, by decide⟩ ⟨by decide, by decide⟩ (fun r17 L M hp => ?_)
    obtain ⟨C, D, F, I, K1, hr⟩ := hp
    have K := K.step K1 (by decide)
    rcases hr with hz18 | ⟨rfl, ⟨n19, hn19, en19⟩, gsn⟩
    · skip
      refine g_istore_n X dX8_ask_6 rfl (by decide) (lv2 := [(3, .int r17), (0, .ref (a 100)), (1, .int 1), (2, .int p1)]) rfl ?_
      refine g_iload_n X dX8_ask_7 rfl (j := 0) rfl ?_
      refine g_if_ge X dX8_ask_8 (tgt := 15) (by decide) (fun q => absurd (Int32.lt_iff_toInt_lt.mpr (by have k : (0 : Int32).toInt = 0 := (by decide); omega)) (Int32.not_lt.mpr q)) (fun _ => ?_)
      refine g_iload_n X dX8_ask_11 rfl (j := 0) rfl ?_
      refine g_goto X dX8_ask_12 (tgt := 25) (by decide) ?_
      exact g_iret X hrt dX8_ask_25 (by decide) (by decide) ⟨C, D, F, I, K, trivial⟩
    · skip
      rw [(K 137 (by decide)).1, (K 139 (by decide)).2] at gsn
      subst en19
      refine g_istore_n X dX8_ask_6 rfl (by decide) (lv2 := [(3, .int 0), (0, .ref (a 100)), (1, .int 1), (2, .int (nI n19))]) rfl ?_
      refine g_iload_n X dX8_ask_7 rfl (j := 0) rfl ?_
      refine g_if_ge X dX8_ask_8 (tgt := 15) (by decide) (fun _ => ?_) (fun q => absurd (by decide) q)
      refine g_aload_n X dX8_ask_15 rfl (j := 1) rfl ?_
      refine g_aload_n X dX8_ask_16 rfl (j := 1) rfl ?_
      refine g_iload_n X dX8_ask_17 rfl (j := 2) rfl ?_
      refine g_iload_n X dX8_ask_18 rfl (j := 3) rfl ?_
      refine g_callVI X (s_X8_mayOf_1 l G F I n19 (by omega) (by omega) (by rw [(K 137 (by decide)).1, (K 139 (by decide)).2]; exact gsn)) lk_X8_416 (F.1 100 rfl).2 (F.1 100 rfl).1 rfl rfl dX8_ask_19 (Nat.le_of_ble_eq_true rfl) ⟨by decide, by decide⟩ ⟨by decide, by decide⟩ (fun r21 L M hp => ?_)
      obtain ⟨C, D, F, I, K1, hr⟩ := hp
      have K := K.step K1 (by decide)
      refine g_callVI X (s_X8_askOf l G F I r21 ) lk_X8_425 (F.1 100 rfl).2 (F.1 100 rfl).1 rfl rfl dX8_ask_22 (Nat.le_of_ble_eq_true rfl) ⟨by decide, by decide⟩ ⟨by decide, by decide⟩ (fun r22 L M hp => ?_)
      obtain ⟨C, D, F, I, K1, hr⟩ := hp
      have K := K.step K1 (by decide)
      exact g_iret X hrt dX8_ask_25 (by decide) (by decide) ⟨C, D, F, I, K, trivial⟩
  · skip
    refine g_aload_n X dX8_ask_0 rfl (j := 0) rfl ?_
    refine g_iload_n X dX8_ask_1 rfl (j := 1) rfl ?_
    refine g_iload_n X dX8_ask_2 rfl (j := 2) rfl ?_
    refine g_callVI X (s_X8_askMay_2 l G F I p1 ) lk_X8_413 (F.1 100 rfl).2 (F.1 100 rfl).1 rfl rfl dX8_ask_3 (Nat.le_of_ble_eq_true rfl) ⟨by decide, by decide⟩ ⟨by decide, by decide⟩ (fun r23 L M hp => ?_)
    obtain ⟨C, D, F, I, K1, hr⟩ := hp
    have K := K.step K1 (by decide)
    rcases hr with hz24 | ⟨rfl, ⟨n25, hn25, en25⟩, gsn⟩
    · skip
      refine g_istore_n X dX8_ask_6 rfl (by decide) (lv2 := [(3, .int r23), (0, .ref (a 100)), (1, .int 2), (2, .int p1)]) rfl ?_
      refine g_iload_n X dX8_ask_7 rfl (j := 0) rfl ?_
      refine g_if_ge X dX8_ask_8 (tgt := 15) (by decide) (fun q => absurd (Int32.lt_iff_toInt_lt.mpr (by have k : (0 : Int32).toInt = 0 := (by decide); omega)) (Int32.not_lt.mpr q)) (fun _ => ?_)
      refine g_iload_n X dX8_ask_11 rfl (j := 0) rfl ?_
      refine g_goto X dX8_ask_12 (tgt := 25) (by decide) ?_
      exact g_iret X hrt dX8_ask_25 (by decide) (by decide) ⟨C, D, F, I, K, trivial⟩
    · skip
      rw [(K 137 (by decide)).1, (K 139 (by decide)).2] at gsn
      subst en25
      refine g_istore_n X dX8_ask_6 rfl (by decide) (lv2 := [(3, .int 0), (0, .ref (a 100)), (1, .int 2), (2, .int (nI n25))]) rfl ?_
      refine g_iload_n X dX8_ask_7 rfl (j := 0) rfl ?_
      refine g_if_ge X dX8_ask_8 (tgt := 15) (by decide) (fun _ => ?_) (fun q => absurd (by decide) q)
      refine g_aload_n X dX8_ask_15 rfl (j := 1) rfl ?_
      refine g_aload_n X dX8_ask_16 rfl (j := 1) rfl ?_
      refine g_iload_n X dX8_ask_17 rfl (j := 2) rfl ?_
      refine g_iload_n X dX8_ask_18 rfl (j := 3) rfl ?_
      refine g_callVI X (s_X8_mayOf_2 l G F I n25 (by omega) (by omega) (by rw [(K 137 (by decide)).1, (K 139 (by decide)).2]; exact gsn)) lk_X8_416 (F.1 100 rfl).2 (F.1 100 rfl).1 rfl rfl dX8_ask_19 (Nat.le_of_ble_eq_true rfl) ⟨by decide, by decide⟩ ⟨by decide, by decide⟩ (fun r27 L M hp => ?_)
      obtain ⟨C, D, F, I, K1, hr⟩ := hp
      have K := K.step K1 (by decide)
      refine g_callVI X (s_X8_askOf l G F I r27 ) lk_X8_425 (F.1 100 rfl).2 (F.1 100 rfl).1 rfl rfl dX8_ask_22 (Nat.le_of_ble_eq_true rfl) ⟨by decide, by decide⟩ ⟨by decide, by decide⟩ (fun r28 L M hp => ?_)
      obtain ⟨C, D, F, I, K1, hr⟩ := hp
      have K := K.step K1 (by decide)
      exact g_iret X hrt dX8_ask_25 (by decide) (by decide) ⟨C, D, F, I, K, trivial⟩
  · skip
    refine g_aload_n X dX8_ask_0 rfl (j := 0) rfl ?_
    refine g_iload_n X dX8_ask_1 rfl (j := 1) rfl ?_
    refine g_iload_n X dX8_ask_2 rfl (j := 2) rfl ?_
    refine g_callVI X (s_X8_askMay_3 l G F I p1 ) lk_X8_413 (F.1 100 rfl).2 (F.1 100 rfl).1 rfl rfl dX8_ask_3 (Nat.le_of_ble_eq_true rfl) ⟨by decide, by decide⟩ ⟨by decide, by decide⟩ (fun r29 L M hp => ?_)
    obtain ⟨C, D, F, I, K1, hr⟩ := hp
    have K := K.step K1 (by decide)
    rcases hr with hz30 | ⟨rfl, ⟨n31, hn31, en31⟩, gsn⟩
    · skip
      refine g_istore_n X dX8_ask_6 rfl (by decide) (lv2 := [(3, .int r29), (0, .ref (a 100)), (1, .int 3), (2, .int p1)]) rfl ?_
      refine g_iload_n X dX8_ask_7 rfl (j := 0) rfl ?_
      refine g_if_ge X dX8_ask_8 (tgt := 15) (by decide) (fun q => absurd (Int32.lt_iff_toInt_lt.mpr (by have k : (0 : Int32).toInt = 0 := (by decide); omega)) (Int32.not_lt.mpr q)) (fun _ => ?_)
      refine g_iload_n X dX8_ask_11 rfl (j := 0) rfl ?_
      refine g_goto X dX8_ask_12 (tgt := 25) (by decide) ?_
      exact g_iret X hrt dX8_ask_25 (by decide) (by decide) ⟨C, D, F, I, K, trivial⟩
    · skip
      rw [(K 137 (by decide)).1, (K 139 (by decide)).2] at gsn
      subst en31
      refine g_istore_n X dX8_ask_6 rfl (by decide) (lv2 := [(3, .int 0), (0, .ref (a 100)), (1, .int 3), (2, .int (nI n31))]) rfl ?_
      refine g_iload_n X dX8_ask_7 rfl (j := 0) rfl ?_
      refine g_if_ge X dX8_ask_8 (tgt := 15) (by decide) (fun _ => ?_) (fun q => absurd (by decide) q)
      refine g_aload_n X dX8_ask_15 rfl (j := 1) rfl ?_
      refine g_aload_n X dX8_ask_16 rfl (j := 1) rfl ?_
      refine g_iload_n X dX8_ask_17 rfl (j := 2) rfl ?_
      refine g_iload_n X dX8_ask_18 rfl (j := 3) rfl ?_
      refine g_callVI X (s_X8_mayOf_3 l G F I n31 (by omega) (by omega) (by rw [(K 137 (by decide)).1, (K 139 (by decide)).2]; exact gsn)) lk_X8_416 (F.1 100 rfl).2 (F.1 100 rfl).1 rfl rfl dX8_ask_19 (Nat.le_of_ble_eq_true rfl) ⟨by decide, by decide⟩ ⟨by decide, by decide⟩ (fun r33 L M hp => ?_)
      obtain ⟨C, D, F, I, K1, hr⟩ := hp
      have K := K.step K1 (by decide)
      refine g_callVI X (s_X8_askOf l G F I r33 ) lk_X8_425 (F.1 100 rfl).2 (F.1 100 rfl).1 rfl rfl dX8_ask_22 (Nat.le_of_ble_eq_true rfl) ⟨by decide, by decide⟩ ⟨by decide, by decide⟩ (fun r34 L M hp => ?_)
      obtain ⟨C, D, F, I, K1, hr⟩ := hp
      have K := K.step K1 (by decide)
      exact g_iret X hrt dX8_ask_25 (by decide) (by decide) ⟨C, D, F, I, K, trivial⟩
set_option maxHeartbeats 4000000 in
set_option maxRecDepth 100000 in
theorem s_X8_leaves (l : Launch) (G : va_G) {cy : Nat → ClassId} {L : List Nat} {M : Nat → va_E} {a : Nat → Nat} {act : Nat → Bool} {C0 : Nat → Nat → Int32} {D0 : Nat → Nat → Int64} {R : Nat → Nat → Option Nat} (F : WI L M a act (ent cy a C0 D0 R)) (I : Inv C0) (p0 : Int32) (p1 : Int32)  : MI l G cy yX8_leaves cX8_leaves 4 (some .int) 8 0 0 [.ref (a 100), .int p0, .int p1] L M (fun r L2 M2 => ∃ C2 D2, WI L2 M2 a act (ent cy a C2 D2 R) ∧ Inv C2 ∧ Kp [100, 115, 116, 120, 121, 122, 123, 124, 125, 126, 127, 128, 131] C0 D0 C2 D2 ∧ True) := by
  refine MI.of (own := RX8) rfl (by decide) (Nat.le_of_ble_eq_true rfl) ?_
  intro p e s m below meth c A X hrt hnm
  obtain ⟨C, D, hC0, hD0, F, I, K⟩ : ∃ C D, C = C0 ∧ D = D0 ∧ WI L M a act (ent cy a C D R) ∧ Inv C ∧ Kp [100, 115, 116, 120, 121, 122, 123, 124, 125, 126, 127, 128, 131] C0 D0 C D := ⟨C0, D0, rfl, rfl, F, I, Kp.rf⟩
  obtain ⟨n1, hn1, en1⟩ := rg_nat ((show okw 0 (C 101 0) from I 101 0).1 rfl) (by decide)
  rw [hC0] at en1
  obtain ⟨n2, hn2, en2⟩ := rg_nat ((show okw 4 (C 101 4) from I 101 4).2.2.2.1 rfl) (by decide)
  rw [hC0] at en2
  obtain ⟨n3, hn3, en3⟩ := rg_nat ((show okw 7 (C 101 7) from I 101 7).2.2.2.2.1 rfl) (by decide)
  rw [hC0] at en3
  rcases sc4 p0 with hx4 | hx4 | rfl | rfl | rfl | rfl
  · skip
    have hno1 : p0 < 0 ∨ 4 ≤ p0 := Or.inl hx4
    refine g_aload_n X dX8_leaves_0 rfl (j := 0) rfl ?_
    refine g_iload_n X dX8_leaves_1 rfl (j := 1) rfl ?_
    refine g_iload_n X dX8_leaves_2 rfl (j := 2) rfl ?_
    refine g_callVI X (s_X8_askMay_x l G F I p0 p1 hno1) lk_X8_413 (F.1 100 rfl).2 (F.1 100 rfl).1 rfl rfl dX8_leaves_3 (Nat.le_of_ble_eq_true rfl) ⟨by decide, by decide⟩ ⟨by decide, by decide⟩ (fun r5 L M hp => ?_)
    obtain ⟨C, D, F, I, K1, hr⟩ := hp
    have K := K.step K1 (by decide)
    have hz6 := hr
    refine g_istore_n X dX8_leaves_6 rfl (by decide) (lv2 := [(3, .int r5), (0, .ref (a 100)), (1, .int p0), (2, .int p1)]) rfl ?_
    refine g_iload_n X dX8_leaves_7 rfl (j := 0) rfl ?_
    refine g_if_ge X dX8_leaves_8 (tgt := 13) (by decide) (fun q => absurd (Int32.lt_iff_toInt_lt.mpr (by have k : (0 : Int32).toInt = 0 := (by decide); omega)) (Int32.not_lt.mpr q)) (fun _ => ?_)
    refine g_iload_n X dX8_leaves_11 rfl (j := 0) rfl ?_
    exact g_iret X hrt dX8_leaves_12 (by decide) (by decide) ⟨C, D, F, I, K, trivial⟩
  · skip
    have hno1 : p0 < 0 ∨ 4 ≤ p0 := Or.inr hx4
    refine g_aload_n X dX8_leaves_0 rfl (j := 0) rfl ?_
    refine g_iload_n X dX8_leaves_1 rfl (j := 1) rfl ?_
    refine g_iload_n X dX8_leaves_2 rfl (j := 2) rfl ?_
    refine g_callVI X (s_X8_askMay_x l G F I p0 p1 hno1) lk_X8_413 (F.1 100 rfl).2 (F.1 100 rfl).1 rfl rfl dX8_leaves_3 (Nat.le_of_ble_eq_true rfl) ⟨by decide, by decide⟩ ⟨by decide, by decide⟩ (fun r8 L M hp => ?_)
    obtain ⟨C, D, F, I, K1, hr⟩ := hp
    have K := K.step K1 (by decide)
    have hz9 := hr
    refine g_istore_n X dX8_leaves_6 rfl (by decide) (lv2 := [(3, .int r8), (0, .ref (a 100)), (1, .int p0), (2, .int p1)]) rfl ?_
    refine g_iload_n X dX8_leaves_7 rfl (j := 0) rfl ?_
    refine g_if_ge X dX8_leaves_8 (tgt := 13) (by decide) (fun q => absurd (Int32.lt_iff_toInt_lt.mpr (by have k : (0 : Int32).toInt = 0 := (by decide); omega)) (Int32.not_lt.mpr q)) (fun _ => ?_)
    refine g_iload_n X dX8_leaves_11 rfl (j := 0) rfl ?_
    exact g_iret X hrt dX8_leaves_12 (by decide) (by decide) ⟨C, D, F, I, K, trivial⟩
  · skip
    refine g_aload_n X dX8_leaves_0 rfl (j := 0) rfl ?_
    refine g_iload_n X dX8_leaves_1 rfl (j := 1) rfl ?_
    refine g_iload_n X dX8_leaves_2 rfl (j := 2) rfl ?_
    refine g_callVI X (s_X8_askMay_0 l G F I p1 ) lk_X8_413 (F.1 100 rfl).2 (F.1 100 rfl).1 rfl rfl dX8_leaves_3 (Nat.le_of_ble_eq_true rfl) ⟨by decide, by decide⟩ ⟨by decide, by decide⟩ (fun r11 L M hp => ?_)
    obtain ⟨C, D, F, I, K1, hr⟩ := hp
    have K := K.step K1 (by decide)
    rcases hr with hz12 | ⟨rfl, ⟨n13, hn13, en13⟩, gsn⟩
    · skip
      refine g_istore_n X dX8_leaves_6 rfl (by decide) (lv2 := [(3, .int r11), (0, .ref (a 100)), (1, .int 0), (2, .int p1)]) rfl ?_
      refine g_iload_n X dX8_leaves_7 rfl (j := 0) rfl ?_
      refine g_if_ge X dX8_leaves_8 (tgt := 13) (by decide) (fun q => absurd (Int32.lt_iff_toInt_lt.mpr (by have k : (0 : Int32).toInt = 0 := (by decide); omega)) (Int32.not_lt.mpr q)) (fun _ => ?_)
      refine g_iload_n X dX8_leaves_11 rfl (j := 0) rfl ?_
      exact g_iret X hrt dX8_leaves_12 (by decide) (by decide) ⟨C, D, F, I, K, trivial⟩
    · skip
      rw [(K 137 (by decide)).1, (K 139 (by decide)).2] at gsn
      subst en13
      refine g_istore_n X dX8_leaves_6 rfl (by decide) (lv2 := [(3, .int 0), (0, .ref (a 100)), (1, .int 0), (2, .int (nI n13))]) rfl ?_
      refine g_iload_n X dX8_leaves_7 rfl (j := 0) rfl ?_
      refine g_if_ge X dX8_leaves_8 (tgt := 13) (by decide) (fun _ => ?_) (fun q => absurd (by decide) q)
      refine g_aload_n X dX8_leaves_13 rfl (j := 1) rfl ?_
      refine g_aload_n X dX8_leaves_14 rfl (j := 1) rfl ?_
      refine g_iload_n X dX8_leaves_15 rfl (j := 2) rfl ?_
      refine g_iload_n X dX8_leaves_16 rfl (j := 3) rfl ?_
      refine g_callVI X (s_X8_mayOf_0 l G F I n13 (by omega) (by omega) (by rw [(K 137 (by decide)).1, (K 139 (by decide)).2]; exact gsn)) lk_X8_416 (F.1 100 rfl).2 (F.1 100 rfl).1 rfl rfl dX8_leaves_17 (Nat.le_of_ble_eq_true rfl) ⟨by decide, by decide⟩ ⟨by decide, by decide⟩ (fun r15 L M hp => ?_)
      obtain ⟨C, D, F, I, K1, hr⟩ := hp
      have K := K.step K1 (by decide)
      refine g_callVI X (s_X8_askOf l G F I r15 ) lk_X8_425 (F.1 100 rfl).2 (F.1 100 rfl).1 rfl rfl dX8_leaves_20 (Nat.le_of_ble_eq_true rfl) ⟨by decide, by decide⟩ ⟨by decide, by decide⟩ (fun r16 L M hp => ?_)
      obtain ⟨C, D, F, I, K1, hr⟩ := hp
      have K := K.step K1 (by decide)
      refine g_pop X dX8_leaves_23 rfl ?_
      refine g_aload_n X dX8_leaves_24 rfl (j := 1) rfl ?_
      refine i_get X F 100 rfl rfl fk_X8_419 dX8_leaves_25 rfl ?_
      refine Go.gen (fun o17 => ?_)
      exact g_iret X hrt dX8_leaves_28 (by decide) (by decide) ⟨C, D, F, I, K, trivial⟩
  · skip
    refine g_aload_n X dX8_leaves_0 rfl (j := 0) rfl ?_
    refine g_iload_n X dX8_leaves_1 rfl (j := 1) rfl ?_
    refine g_iload_n X dX8_leaves_2 rfl (j := 2) rfl ?_
    refine g_callVI X (s_X8_askMay_1 l G F I p1 ) lk_X8_413 (F.1 100 rfl).2 (F.1 100 rfl).1 rfl rfl dX8_leaves_3 (Nat.le_of_ble_eq_true rfl) ⟨by decide, by decide⟩ ⟨by decide, by decide⟩ (fun r18 L M hp => ?_)
    obtain ⟨C, D, F, I, K1, hr⟩ := hp
    have K := K.step K1 (by decide)
    rcases hr with hz19 | ⟨rfl, ⟨n20, hn20, en20⟩, gsn⟩
    · skip
      refine g_istore_n X dX8_leaves_6 rfl (by decide) (lv2 := [(3, .int r18), (0, .ref (a 100)), (1, .int 1), (2, .int p1)]) rfl ?_
      refine g_iload_n X dX8_leaves_7 rfl (j := 0) rfl ?_
      refine g_if_ge X dX8_leaves_8 (tgt := 13) (by decide) (fun q => absurd (Int32.lt_iff_toInt_lt.mpr (by have k : (0 : Int32).toInt = 0 := (by decide); omega)) (Int32.not_lt.mpr q)) (fun _ => ?_)
      refine g_iload_n X dX8_leaves_11 rfl (j := 0) rfl ?_
      exact g_iret X hrt dX8_leaves_12 (by decide) (by decide) ⟨C, D, F, I, K, trivial⟩
    · skip
      rw [(K 137 (by decide)).1, (K 139 (by decide)).2] at gsn
      subst en20
      refine g_istore_n X dX8_leaves_6 rfl (by decide) (lv2 := [(3, .int 0), (0, .ref (a 100)), (1, .int 1), (2, .int (nI n20))]) rfl ?_
      refine g_iload_n X dX8_leaves_7 rfl (j := 0) rfl ?_
      refine g_if_ge X dX8_leaves_8 (tgt := 13) (by decide) (fun _ => ?_) (fun q => absurd (by decide) q)
      refine g_aload_n X dX8_leaves_13 rfl (j := 1) rfl ?_
      refine g_aload_n X dX8_leaves_14 rfl (j := 1) rfl ?_
      refine g_iload_n X dX8_leaves_15 rfl (j := 2) rfl ?_
      refine g_iload_n X dX8_leaves_16 rfl (j := 3) rfl ?_
      refine g_callVI X (s_X8_mayOf_1 l G F I n20 (by omega) (by omega) (by rw [(K 137 (by decide)).1, (K 139 (by decide)).2]; exact gsn)) lk_X8_416 (F.1 100 rfl).2 (F.1 100 rfl).1 rfl rfl dX8_leaves_17 (Nat.le_of_ble_eq_true rfl) ⟨by decide, by decide⟩ ⟨by decide, by decide⟩ (fun r22 L M hp => ?_)
      obtain ⟨C, D, F, I, K1, hr⟩ := hp
      have K := K.step K1 (by decide)
      refine g_callVI X (s_X8_askOf l G F I r22 ) lk_X8_425 (F.1 100 rfl).2 (F.1 100 rfl).1 rfl rfl dX8_leaves_20 (Nat.le_of_ble_eq_true rfl) ⟨by decide, by decide⟩ ⟨by decide, by decide⟩ (fun r23 L M hp => ?_)
      obtain ⟨C, D, F, I, K1, hr⟩ := hp
      have K := K.step K1 (by decide)
      refine g_pop X dX8_leaves_23 rfl ?_
      refine g_aload_n X dX8_leaves_24 rfl (j := 1) rfl ?_
      refine i_get X F 100 rfl rfl fk_X8_419 dX8_leaves_25 rfl ?_
      refine Go.gen (fun o24 => ?_)
      exact g_iret X hrt dX8_leaves_28 (by decide) (by decide) ⟨C, D, F, I, K, trivial⟩
  · skip
    refine g_aload_n X dX8_leaves_0 rfl (j := 0) rfl ?_
    refine g_iload_n X dX8_leaves_1 rfl (j := 1) rfl ?_
    refine g_iload_n X dX8_leaves_2 rfl (j := 2) rfl ?_
    refine g_callVI X (s_X8_askMay_2 l G F I p1 ) lk_X8_413 (F.1 100 rfl).2 (F.1 100 rfl).1 rfl rfl dX8_leaves_3 (Nat.le_of_ble_eq_true rfl) ⟨by decide, by decide⟩ ⟨by decide, by decide⟩ (fun r25 L M hp => ?_)
    obtain ⟨C, D, F, I, K1, hr⟩ := hp
    have K := K.step K1 (by decide)
    rcases hr with hz26 | ⟨rfl, ⟨n27, hn27, en27⟩, gsn⟩
    · skip
      refine g_istore_n X dX8_leaves_6 rfl (by decide) (lv2 := [(3, .int r25), (0, .ref (a 100)), (1, .int 2), (2, .int p1)]) rfl ?_
      refine g_iload_n X dX8_leaves_7 rfl (j := 0) rfl ?_
      refine g_if_ge X dX8_leaves_8 (tgt := 13) (by decide) (fun q => absurd (Int32.lt_iff_toInt_lt.mpr (by have k : (0 : Int32).toInt = 0 := (by decide); omega)) (Int32.not_lt.mpr q)) (fun _ => ?_)
      refine g_iload_n X dX8_leaves_11 rfl (j := 0) rfl ?_
      exact g_iret X hrt dX8_leaves_12 (by decide) (by decide) ⟨C, D, F, I, K, trivial⟩
    · skip
      rw [(K 137 (by decide)).1, (K 139 (by decide)).2] at gsn
      subst en27
      refine g_istore_n X dX8_leaves_6 rfl (by decide) (lv2 := [(3, .int 0), (0, .ref (a 100)), (1, .int 2), (2, .int (nI n27))]) rfl ?_
      refine g_iload_n X dX8_leaves_7 rfl (j := 0) rfl ?_
      refine g_if_ge X dX8_leaves_8 (tgt := 13) (by decide) (fun _ => ?_) (fun q => absurd (by decide) q)
      refine g_aload_n X dX8_leaves_13 rfl (j := 1) rfl ?_
      refine g_aload_n X dX8_leaves_14 rfl (j := 1) rfl ?_
      refine g_iload_n X dX8_leaves_15 rfl (j := 2) rfl ?_
      refine g_iload_n X dX8_leaves_16 rfl (j := 3) rfl ?_
      refine g_callVI X (s_X8_mayOf_2 l G F I n27 (by omega) (by omega) (by rw [(K 137 (by decide)).1, (K 139 (by decide)).2]; exact gsn)) lk_X8_416 (F.1 100 rfl).2 (F.1 100 rfl).1 rfl rfl dX8_leaves_17 (Nat.le_of_ble_eq_true rfl) ⟨by decide, by decide⟩ ⟨by decide, by decide⟩ (fun r29 L M hp => ?_)
      obtain ⟨C, D, F, I, K1, hr⟩ := hp
      have K := K.step K1 (by decide)
      refine g_callVI X (s_X8_askOf l G F I r29 ) lk_X8_425 (F.1 100 rfl).2 (F.1 100 rfl).1 rfl rfl dX8_leaves_20 (Nat.le_of_ble_eq_true rfl) ⟨by decide, by decide⟩ ⟨by decide, by decide⟩ (fun r30 L M hp => ?_)
      obtain ⟨C, D, F, I, K1, hr⟩ := hp
      have K := K.step K1 (by decide)
      refine g_pop X dX8_leaves_23 rfl ?_
      refine g_aload_n X dX8_leaves_24 rfl (j := 1) rfl ?_
      refine i_get X F 100 rfl rfl fk_X8_419 dX8_leaves_25 rfl ?_
      refine Go.gen (fun o31 => ?_)
      exact g_iret X hrt dX8_leaves_28 (by decide) (by decide) ⟨C, D, F, I, K, trivial⟩
  · skip
    refine g_aload_n X dX8_leaves_0 rfl (j := 0) rfl ?_
    refine g_iload_n X dX8_leaves_1 rfl (j := 1) rfl ?_
    refine g_iload_n X dX8_leaves_2 rfl (j := 2) rfl ?_
    refine g_callVI X (s_X8_askMay_3 l G F I p1 ) lk_X8_413 (F.1 100 rfl).2 (F.1 100 rfl).1 rfl rfl dX8_leaves_3 (Nat.le_of_ble_eq_true rfl) ⟨by decide, by decide⟩ ⟨by decide, by decide⟩ (fun r32 L M hp => ?_)
    obtain ⟨C, D, F, I, K1, hr⟩ := hp
    have K := K.step K1 (by decide)
    rcases hr with hz33 | ⟨rfl, ⟨n34, hn34, en34⟩, gsn⟩
    · skip
      refine g_istore_n X dX8_leaves_6 rfl (by decide) (lv2 := [(3, .int r32), (0, .ref (a 100)), (1, .int 3), (2, .int p1)]) rfl ?_
      refine g_iload_n X dX8_leaves_7 rfl (j := 0) rfl ?_
      refine g_if_ge X dX8_leaves_8 (tgt := 13) (by decide) (fun q => absurd (Int32.lt_iff_toInt_lt.mpr (by have k : (0 : Int32).toInt = 0 := (by decide); omega)) (Int32.not_lt.mpr q)) (fun _ => ?_)
      refine g_iload_n X dX8_leaves_11 rfl (j := 0) rfl ?_
      exact g_iret X hrt dX8_leaves_12 (by decide) (by decide) ⟨C, D, F, I, K, trivial⟩
    · skip
      rw [(K 137 (by decide)).1, (K 139 (by decide)).2] at gsn
      subst en34
      refine g_istore_n X dX8_leaves_6 rfl (by decide) (lv2 := [(3, .int 0), (0, .ref (a 100)), (1, .int 3), (2, .int (nI n34))]) rfl ?_
      refine g_iload_n X dX8_leaves_7 rfl (j := 0) rfl ?_
      refine g_if_ge X dX8_leaves_8 (tgt := 13) (by decide) (fun _ => ?_) (fun q => absurd (by decide) q)
      refine g_aload_n X dX8_leaves_13 rfl (j := 1) rfl ?_
      refine g_aload_n X dX8_leaves_14 rfl (j := 1) rfl ?_
      refine g_iload_n X dX8_leaves_15 rfl (j := 2) rfl ?_
      refine g_iload_n X dX8_leaves_16 rfl (j := 3) rfl ?_
      refine g_callVI X (s_X8_mayOf_3 l G F I n34 (by omega) (by omega) (by rw [(K 137 (by decide)).1, (K 139 (by decide)).2]; exact gsn)) lk_X8_416 (F.1 100 rfl).2 (F.1 100 rfl).1 rfl rfl dX8_leaves_17 (Nat.le_of_ble_eq_true rfl) ⟨by decide, by decide⟩ ⟨by decide, by decide⟩ (fun r36 L M hp => ?_)
      obtain ⟨C, D, F, I, K1, hr⟩ := hp
      have K := K.step K1 (by decide)
      refine g_callVI X (s_X8_askOf l G F I r36 ) lk_X8_425 (F.1 100 rfl).2 (F.1 100 rfl).1 rfl rfl dX8_leaves_20 (Nat.le_of_ble_eq_true rfl) ⟨by decide, by decide⟩ ⟨by decide, by decide⟩ (fun r37 L M hp => ?_)
      obtain ⟨C, D, F, I, K1, hr⟩ := hp
      have K := K.step K1 (by decide)
      refine g_pop X dX8_leaves_23 rfl ?_
      refine g_aload_n X dX8_leaves_24 rfl (j := 1) rfl ?_
      refine i_get X F 100 rfl rfl fk_X8_419 dX8_leaves_25 rfl ?_
      refine Go.gen (fun o38 => ?_)
      exact g_iret X hrt dX8_leaves_28 (by decide) (by decide) ⟨C, D, F, I, K, trivial⟩
set_option maxHeartbeats 4000000 in
set_option maxRecDepth 100000 in
theorem s_X8_laws (l : Launch) (G : va_G) {cy : Nat → ClassId} {L : List Nat} {M : Nat → va_E} {a : Nat → Nat} {act : Nat → Bool} {C0 : Nat → Nat → Int32} {D0 : Nat → Nat → Int64} {R : Nat → Nat → Option Nat} (F : WI L M a act (ent cy a C0 D0 R)) (I : Inv C0) (p0 : Int32)  : MI l G cy yX8_laws cX8_laws 4 (some .int) 7 0 0 [.ref (a 100), .int p0] L M (fun r L2 M2 => ∃ C2 D2, WI L2 M2 a act (ent cy a C2 D2 R) ∧ Inv C2 ∧ Kp [100, 115, 116, 120, 121, 122, 123, 124, 125, 126, 127, 128] C0 D0 C2 D2 ∧ True) := by
  refine MI.of (own := RX8) rfl (by decide) (Nat.le_of_ble_eq_true rfl) ?_
  intro p e s m below meth c A X hrt hnm
  obtain ⟨C, D, hC0, hD0, F, I, K⟩ : ∃ C D, C = C0 ∧ D = D0 ∧ WI L M a act (ent cy a C D R) ∧ Inv C ∧ Kp [100, 115, 116, 120, 121, 122, 123, 124, 125, 126, 127, 128] C0 D0 C D := ⟨C0, D0, rfl, rfl, F, I, Kp.rf⟩
  obtain ⟨n1, hn1, en1⟩ := rg_nat ((show okw 0 (C 101 0) from I 101 0).1 rfl) (by decide)
  rw [hC0] at en1
  obtain ⟨n2, hn2, en2⟩ := rg_nat ((show okw 4 (C 101 4) from I 101 4).2.2.2.1 rfl) (by decide)
  rw [hC0] at en2
  obtain ⟨n3, hn3, en3⟩ := rg_nat ((show okw 7 (C 101 7) from I 101 7).2.2.2.2.1 rfl) (by decide)
  rw [hC0] at en3
  rcases sc4 p0 with hx4 | hx4 | rfl | rfl | rfl | rfl
  · skip
    have hno1 : p0 < 0 ∨ 4 ≤ p0 := Or.inl hx4
    refine g_aload_n X dX8_laws_0 rfl (j := 0) rfl ?_
    refine g_iload_n X dX8_laws_1 rfl (j := 1) rfl ?_
    refine g_callVI X (s_X8_askSeen_x l G F I p0 hno1) lk_X8_410 (F.1 100 rfl).2 (F.1 100 rfl).1 rfl rfl dX8_laws_2 (Nat.le_of_ble_eq_true rfl) ⟨by decide, by decide⟩ ⟨by decide, by decide⟩ (fun r5 L M hp => ?_)
    obtain ⟨C, D, F, I, K1, hr⟩ := hp
    have K := K.step K1 (by decide)
    have hz6 := hr
    refine g_istore_n X dX8_laws_5 rfl (by decide) (lv2 := [(2, .int r5), (0, .ref (a 100)), (1, .int p0)]) rfl ?_
    refine g_iload_n X dX8_laws_6 rfl (j := 0) rfl ?_
    refine g_if_ge X dX8_laws_7 (tgt := 12) (by decide) (fun q => absurd (Int32.lt_iff_toInt_lt.mpr (by have k : (0 : Int32).toInt = 0 := (by decide); omega)) (Int32.not_lt.mpr q)) (fun _ => ?_)
    refine g_iload_n X dX8_laws_10 rfl (j := 0) rfl ?_
    exact g_iret X hrt dX8_laws_11 (by decide) (by decide) ⟨C, D, F, I, K, trivial⟩
  · skip
    have hno1 : p0 < 0 ∨ 4 ≤ p0 := Or.inr hx4
    refine g_aload_n X dX8_laws_0 rfl (j := 0) rfl ?_
    refine g_iload_n X dX8_laws_1 rfl (j := 1) rfl ?_
    refine g_callVI X (s_X8_askSeen_x l G F I p0 hno1) lk_X8_410 (F.1 100 rfl).2 (F.1 100 rfl).1 rfl rfl dX8_laws_2 (Nat.le_of_ble_eq_true rfl) ⟨by decide, by decide⟩ ⟨by decide, by decide⟩ (fun r8 L M hp => ?_)
    obtain ⟨C, D, F, I, K1, hr⟩ := hp
    have K := K.step K1 (by decide)
    have hz9 := hr
    refine g_istore_n X dX8_laws_5 rfl (by decide) (lv2 := [(2, .int r8), (0, .ref (a 100)), (1, .int p0)]) rfl ?_
    refine g_iload_n X dX8_laws_6 rfl (j := 0) rfl ?_
    refine g_if_ge X dX8_laws_7 (tgt := 12) (by decide) (fun q => absurd (Int32.lt_iff_toInt_lt.mpr (by have k : (0 : Int32).toInt = 0 := (by decide); omega)) (Int32.not_lt.mpr q)) (fun _ => ?_)
    refine g_iload_n X dX8_laws_10 rfl (j := 0) rfl ?_
    exact g_iret X hrt dX8_laws_11 (by decide) (by decide) ⟨C, D, F, I, K, trivial⟩
  · skip
    refine g_aload_n X dX8_laws_0 rfl (j := 0) rfl ?_
    refine g_iload_n X dX8_laws_1 rfl (j := 1) rfl ?_
    refine g_callVI X (s_X8_askSeen_0 l G F I  ) lk_X8_410 (F.1 100 rfl).2 (F.1 100 rfl).1 rfl rfl dX8_laws_2 (Nat.le_of_ble_eq_true rfl) ⟨by decide, by decide⟩ ⟨by decide, by decide⟩ (fun r11 L M hp => ?_)
    obtain ⟨C, D, F, I, K1, hr⟩ := hp
    have K := K.step K1 (by decide)
    rcases hr with hz12 | ⟨rfl, gsn⟩
    · skip
      refine g_istore_n X dX8_laws_5 rfl (by decide) (lv2 := [(2, .int r11), (0, .ref (a 100)), (1, .int 0)]) rfl ?_
      refine g_iload_n X dX8_laws_6 rfl (j := 0) rfl ?_
      refine g_if_ge X dX8_laws_7 (tgt := 12) (by decide) (fun q => absurd (Int32.lt_iff_toInt_lt.mpr (by have k : (0 : Int32).toInt = 0 := (by decide); omega)) (Int32.not_lt.mpr q)) (fun _ => ?_)
      refine g_iload_n X dX8_laws_10 rfl (j := 0) rfl ?_
      exact g_iret X hrt dX8_laws_11 (by decide) (by decide) ⟨C, D, F, I, K, trivial⟩
    · skip
      rw [(K 137 (by decide)).1, (K 139 (by decide)).2] at gsn
      refine g_istore_n X dX8_laws_5 rfl (by decide) (lv2 := [(2, .int 0), (0, .ref (a 100)), (1, .int 0)]) rfl ?_
      refine g_iload_n X dX8_laws_6 rfl (j := 0) rfl ?_
      refine g_if_ge X dX8_laws_7 (tgt := 12) (by decide) (fun _ => ?_) (fun q => absurd (by decide) q)
      refine g_iconst X dX8_laws_12 (v := 0) (by decide) ?_
      refine g_istore_n X dX8_laws_13 rfl (by decide) (lv2 := [(3, .int 0), (2, .int 0), (0, .ref (a 100)), (1, .int 0)]) rfl ?_
      refine g_aload_n X dX8_laws_14 rfl (j := 2) rfl ?_
      refine g_iconst X dX8_laws_15 (v := 0) (by decide) ?_
      refine i_put X F I 100 rfl rfl rfl fk_X8_257 dX8_laws_16 rfl rfl (Nat.le_of_ble_eq_true rfl) (fun h => absurd h (by decide)) (fun M C F I K1 hC => ?_)
      have K := K.step K1 (by decide)
      have f14 : C 100 17 = 0 := by rw [hC]; exact pk_us
      refine g_lv [0, 1, 2, 3] (lv2 := [(3, .int 0), (2, .int 0), (0, .ref (a 100)), (1, .int 0)]) rfl ?_
      refine i_loop (mods := [100, 115, 116, 120, 121, 122, 123, 124, 125, 126, 127, 128]) (fun x : Nat × Int32 => 4 - x.1) (fun x => [(3, .int (x.2)), (2, .int 0), (0, .ref (a 100)), (1, .int 0)]) (fun x C => C 100 17 = nI (x.1) ∧ 0 ≤ x.1 ∧ x.1 ≤ 4) (fun x L M C D F I K hP ih19 => ?_) ((0, 0) : Nat × Int32) F I K ⟨f14, by show _ ≤ _; omega, by show _ ≤ _; omega⟩
      rcases x with ⟨g19_100, v19_3⟩
      obtain ⟨eg19_100, hg19_100a, hg19_100b⟩ := hP
      have heg19_100 : C 100 17 = nI g19_100 := eg19_100
      refine g_lv [0, 1, 2, 3] (lv2 := [(3, .int v19_3), (2, .int 0), (0, .ref (a 100)), (1, .int 0)]) rfl ?_
      refine g_aload_n X dX8_laws_19 rfl (j := 2) rfl ?_
      refine i_get X F 100 rfl rfl fk_X8_257 dX8_laws_20 (v := .int (nI g19_100)) (congrArg (fun z => some (Value.int z)) heg19_100) ?_
      refine g_iconst X dX8_laws_23 (v := 4) (by decide) ?_
      refine g_icmp_ge X dX8_laws_24 (tgt := 61) (by decide) (fun q15 => ?_) (fun q15 => ?_)
      · skip
        have q15 : 4 ≤ g19_100 := (nI_leI (a := 4) (b := g19_100) (by omega) (by omega)).mp q15
        refine g_iload_n X dX8_laws_61 rfl (j := 0) rfl ?_
        exact g_iret X hrt dX8_laws_62 (by decide) (by decide) ⟨C, D, F, I, K, trivial⟩
      · skip
        have q15 : ¬ 4 ≤ g19_100 := fun z => q15 ((nI_leI (a := 4) (b := g19_100) (by omega) (by omega)).mpr z)
        refine g_iload_n X dX8_laws_27 rfl (j := 0) rfl ?_
        refine g_aload_n X dX8_laws_28 rfl (j := 2) rfl ?_
        refine g_iload_n X dX8_laws_29 rfl (j := 3) rfl ?_
        refine g_callVI X (s_X8_isSeen_0 l G F I  (by rw [(K 137 (by decide)).1, (K 139 (by decide)).2]; exact gsn)) lk_X8_403 (F.1 100 rfl).2 (F.1 100 rfl).1 rfl rfl dX8_laws_30 (Nat.le_of_ble_eq_true rfl) ⟨by decide, by decide⟩ ⟨by decide, by decide⟩ (fun r16 L M hp => ?_)
        obtain ⟨C, D, F, I, K1, hr⟩ := hp
        have K := K.step K1 (by decide)
        have heg19_100 : C 100 17 = nI g19_100 := (congrFun (K1 100 (by decide)).1 17).trans heg19_100
        rcases hr with rfl | rfl
        · skip
          refine g_if_eq X dX8_laws_33 (tgt := 45) (by decide) (fun _ => ?_) (fun q => absurd (by decide) q)
          refine g_iconst X dX8_laws_45 (v := 0) (by decide) ?_
          refine g_ior X dX8_laws_46 ?_
          refine Go.gen (fun o17 => ?_)
          refine g_istore_n X dX8_laws_47 rfl (by decide) (lv2 := [(3, .int o17), (2, .int 0), (0, .ref (a 100)), (1, .int 0)]) rfl ?_
          refine g_aload_n X dX8_laws_48 rfl (j := 2) rfl ?_
          refine g_dup X dX8_laws_49 rfl ?_
          refine i_get X F 100 rfl rfl fk_X8_257 dX8_laws_50 (v := .int (nI g19_100)) (congrArg (fun z => some (Value.int z)) heg19_100) ?_
          refine g_iconst X dX8_laws_53 (v := 1) (by decide) ?_
          refine g_iadd X dX8_laws_54 ?_
          refine Go.top (v := .int (nI (g19_100 + 1))) (congrArg Value.int (nI_add g19_100 1)) ?_
          refine i_put X F I 100 rfl rfl rfl fk_X8_257 dX8_laws_55 rfl rfl (Nat.le_of_ble_eq_true rfl) (fun h => absurd h (by decide)) (fun M C F I K1 hC => ?_)
          have K := K.step K1 (by decide)
          have f18 : C 100 17 = nI (g19_100 + 1) := by rw [hC]; exact pk_us
          refine g_goto X dX8_laws_58 (tgt := 19) (by decide) ?_
          refine g_lv [0, 1, 2, 3] (lv2 := [(3, .int o17), (2, .int 0), (0, .ref (a 100)), (1, .int 0)]) rfl ?_
          exact ih19 ((g19_100 + 1), o17) L M C D F I K ⟨f18, by omega, by omega⟩ (by show _ < _; omega)
        · skip
          refine g_if_eq X dX8_laws_33 (tgt := 45) (by decide) (fun q => absurd q (by decide)) (fun _ => ?_)
          refine g_iconst X dX8_laws_36 (v := 1) (by decide) ?_
          refine g_aload_n X dX8_laws_37 rfl (j := 2) rfl ?_
          refine i_get X F 100 rfl rfl fk_X8_257 dX8_laws_38 (v := .int (nI g19_100)) (congrArg (fun z => some (Value.int z)) heg19_100) ?_
          refine g_ishl X dX8_laws_41 ?_
          refine Go.gen (fun o19 => ?_)
          refine g_goto X dX8_laws_42 (tgt := 46) (by decide) ?_
          refine g_ior X dX8_laws_46 ?_
          refine Go.gen (fun o20 => ?_)
          refine g_istore_n X dX8_laws_47 rfl (by decide) (lv2 := [(3, .int o20), (2, .int 0), (0, .ref (a 100)), (1, .int 0)]) rfl ?_
          refine g_aload_n X dX8_laws_48 rfl (j := 2) rfl ?_
          refine g_dup X dX8_laws_49 rfl ?_
          refine i_get X F 100 rfl rfl fk_X8_257 dX8_laws_50 (v := .int (nI g19_100)) (congrArg (fun z => some (Value.int z)) heg19_100) ?_
          refine g_iconst X dX8_laws_53 (v := 1) (by decide) ?_
          refine g_iadd X dX8_laws_54 ?_
          refine Go.top (v := .int (nI (g19_100 + 1))) (congrArg Value.int (nI_add g19_100 1)) ?_
          refine i_put X F I 100 rfl rfl rfl fk_X8_257 dX8_laws_55 rfl rfl (Nat.le_of_ble_eq_true rfl) (fun h => absurd h (by decide)) (fun M C F I K1 hC => ?_)
          have K := K.step K1 (by decide)
          have f21 : C 100 17 = nI (g19_100 + 1) := by rw [hC]; exact pk_us
          refine g_goto X dX8_laws_58 (tgt := 19) (by decide) ?_
          refine g_lv [0, 1, 2, 3] (lv2 := [(3, .int o20), (2, .int 0), (0, .ref (a 100)), (1, .int 0)]) rfl ?_
          exact ih19 ((g19_100 + 1), o20) L M C D F I K ⟨f21, by omega, by omega⟩ (by show _ < _; omega)
  · skip
    refine g_aload_n X dX8_laws_0 rfl (j := 0) rfl ?_
    refine g_iload_n X dX8_laws_1 rfl (j := 1) rfl ?_
    refine g_callVI X (s_X8_askSeen_1 l G F I  ) lk_X8_410 (F.1 100 rfl).2 (F.1 100 rfl).1 rfl rfl dX8_laws_2 (Nat.le_of_ble_eq_true rfl) ⟨by decide, by decide⟩ ⟨by decide, by decide⟩ (fun r22 L M hp => ?_)
    obtain ⟨C, D, F, I, K1, hr⟩ := hp
    have K := K.step K1 (by decide)
    rcases hr with hz23 | ⟨rfl, gsn⟩
    · skip
      refine g_istore_n X dX8_laws_5 rfl (by decide) (lv2 := [(2, .int r22), (0, .ref (a 100)), (1, .int 1)]) rfl ?_
      refine g_iload_n X dX8_laws_6 rfl (j := 0) rfl ?_
      refine g_if_ge X dX8_laws_7 (tgt := 12) (by decide) (fun q => absurd (Int32.lt_iff_toInt_lt.mpr (by have k : (0 : Int32).toInt = 0 := (by decide); omega)) (Int32.not_lt.mpr q)) (fun _ => ?_)
      refine g_iload_n X dX8_laws_10 rfl (j := 0) rfl ?_
      exact g_iret X hrt dX8_laws_11 (by decide) (by decide) ⟨C, D, F, I, K, trivial⟩
    · skip
      rw [(K 137 (by decide)).1, (K 139 (by decide)).2] at gsn
      refine g_istore_n X dX8_laws_5 rfl (by decide) (lv2 := [(2, .int 0), (0, .ref (a 100)), (1, .int 1)]) rfl ?_
      refine g_iload_n X dX8_laws_6 rfl (j := 0) rfl ?_
      refine g_if_ge X dX8_laws_7 (tgt := 12) (by decide) (fun _ => ?_) (fun q => absurd (by decide) q)
      refine g_iconst X dX8_laws_12 (v := 0) (by decide) ?_
      refine g_istore_n X dX8_laws_13 rfl (by decide) (lv2 := [(3, .int 0), (2, .int 0), (0, .ref (a 100)), (1, .int 1)]) rfl ?_
      refine g_aload_n X dX8_laws_14 rfl (j := 2) rfl ?_
      refine g_iconst X dX8_laws_15 (v := 0) (by decide) ?_
      refine i_put X F I 100 rfl rfl rfl fk_X8_257 dX8_laws_16 rfl rfl (Nat.le_of_ble_eq_true rfl) (fun h => absurd h (by decide)) (fun M C F I K1 hC => ?_)
      have K := K.step K1 (by decide)
      have f25 : C 100 17 = 0 := by rw [hC]; exact pk_us
      refine g_lv [0, 1, 2, 3] (lv2 := [(3, .int 0), (2, .int 0), (0, .ref (a 100)), (1, .int 1)]) rfl ?_
      refine i_loop (mods := [100, 115, 116, 120, 121, 122, 123, 124, 125, 126, 127, 128]) (fun x : Nat × Int32 => 4 - x.1) (fun x => [(3, .int (x.2)), (2, .int 0), (0, .ref (a 100)), (1, .int 1)]) (fun x C => C 100 17 = nI (x.1) ∧ 0 ≤ x.1 ∧ x.1 ≤ 4) (fun x L M C D F I K hP ih19 => ?_) ((0, 0) : Nat × Int32) F I K ⟨f25, by show _ ≤ _; omega, by show _ ≤ _; omega⟩
      rcases x with ⟨g19_100, v19_3⟩
      obtain ⟨eg19_100, hg19_100a, hg19_100b⟩ := hP
      have heg19_100 : C 100 17 = nI g19_100 := eg19_100
      refine g_lv [0, 1, 2, 3] (lv2 := [(3, .int v19_3), (2, .int 0), (0, .ref (a 100)), (1, .int 1)]) rfl ?_
      refine g_aload_n X dX8_laws_19 rfl (j := 2) rfl ?_
      refine i_get X F 100 rfl rfl fk_X8_257 dX8_laws_20 (v := .int (nI g19_100)) (congrArg (fun z => some (Value.int z)) heg19_100) ?_
      refine g_iconst X dX8_laws_23 (v := 4) (by decide) ?_
      refine g_icmp_ge X dX8_laws_24 (tgt := 61) (by decide) (fun q26 => ?_) (fun q26 => ?_)
      · skip
        have q26 : 4 ≤ g19_100 := (nI_leI (a := 4) (b := g19_100) (by omega) (by omega)).mp q26
        refine g_iload_n X dX8_laws_61 rfl (j := 0) rfl ?_
        exact g_iret X hrt dX8_laws_62 (by decide) (by decide) ⟨C, D, F, I, K, trivial⟩
      · skip
        have q26 : ¬ 4 ≤ g19_100 := fun z => q26 ((nI_leI (a := 4) (b := g19_100) (by omega) (by omega)).mpr z)
        refine g_iload_n X dX8_laws_27 rfl (j := 0) rfl ?_
        refine g_aload_n X dX8_laws_28 rfl (j := 2) rfl ?_
        refine g_iload_n X dX8_laws_29 rfl (j := 3) rfl ?_
        refine g_callVI X (s_X8_isSeen_1 l G F I  (by rw [(K 137 (by decide)).1, (K 139 (by decide)).2]; exact gsn)) lk_X8_403 (F.1 100 rfl).2 (F.1 100 rfl).1 rfl rfl dX8_laws_30 (Nat.le_of_ble_eq_true rfl) ⟨by decide, by decide⟩ ⟨by decide, by decide⟩ (fun r27 L M hp => ?_)
        obtain ⟨C, D, F, I, K1, hr⟩ := hp
        have K := K.step K1 (by decide)
        have heg19_100 : C 100 17 = nI g19_100 := (congrFun (K1 100 (by decide)).1 17).trans heg19_100
        rcases hr with rfl | rfl
        · skip
          refine g_if_eq X dX8_laws_33 (tgt := 45) (by decide) (fun _ => ?_) (fun q => absurd (by decide) q)
          refine g_iconst X dX8_laws_45 (v := 0) (by decide) ?_
          refine g_ior X dX8_laws_46 ?_
          refine Go.gen (fun o28 => ?_)
          refine g_istore_n X dX8_laws_47 rfl (by decide) (lv2 := [(3, .int o28), (2, .int 0), (0, .ref (a 100)), (1, .int 1)]) rfl ?_
          refine g_aload_n X dX8_laws_48 rfl (j := 2) rfl ?_
          refine g_dup X dX8_laws_49 rfl ?_
          refine i_get X F 100 rfl rfl fk_X8_257 dX8_laws_50 (v := .int (nI g19_100)) (congrArg (fun z => some (Value.int z)) heg19_100) ?_
          refine g_iconst X dX8_laws_53 (v := 1) (by decide) ?_
          refine g_iadd X dX8_laws_54 ?_
          refine Go.top (v := .int (nI (g19_100 + 1))) (congrArg Value.int (nI_add g19_100 1)) ?_
          refine i_put X F I 100 rfl rfl rfl fk_X8_257 dX8_laws_55 rfl rfl (Nat.le_of_ble_eq_true rfl) (fun h => absurd h (by decide)) (fun M C F I K1 hC => ?_)
          have K := K.step K1 (by decide)
          have f29 : C 100 17 = nI (g19_100 + 1) := by rw [hC]; exact pk_us
          refine g_goto X dX8_laws_58 (tgt := 19) (by decide) ?_
          refine g_lv [0, 1, 2, 3] (lv2 := [(3, .int o28), (2, .int 0), (0, .ref (a 100)), (1, .int 1)]) rfl ?_
          exact ih19 ((g19_100 + 1), o28) L M C D F I K ⟨f29, by omega, by omega⟩ (by show _ < _; omega)
        · skip
          refine g_if_eq X dX8_laws_33 (tgt := 45) (by decide) (fun q => absurd q (by decide)) (fun _ => ?_)
          refine g_iconst X dX8_laws_36 (v := 1) (by decide) ?_
          refine g_aload_n X dX8_laws_37 rfl (j := 2) rfl ?_
          refine i_get X F 100 rfl rfl fk_X8_257 dX8_laws_38 (v := .int (nI g19_100)) (congrArg (fun z => some (Value.int z)) heg19_100) ?_
          refine g_ishl X dX8_laws_41 ?_
          refine Go.gen (fun o30 => ?_)
          refine g_goto X dX8_laws_42 (tgt := 46) (by decide) ?_
          refine g_ior X dX8_laws_46 ?_
          refine Go.gen (fun o31 => ?_)
          refine g_istore_n X dX8_laws_47 rfl (by decide) (lv2 := [(3, .int o31), (2, .int 0), (0, .ref (a 100)), (1, .int 1)]) rfl ?_
          refine g_aload_n X dX8_laws_48 rfl (j := 2) rfl ?_
          refine g_dup X dX8_laws_49 rfl ?_
          refine i_get X F 100 rfl rfl fk_X8_257 dX8_laws_50 (v := .int (nI g19_100)) (congrArg (fun z => some (Value.int z)) heg19_100) ?_
          refine g_iconst X dX8_laws_53 (v := 1) (by decide) ?_
          refine g_iadd X dX8_laws_54 ?_
          refine Go.top (v := .int (nI (g19_100 + 1))) (congrArg Value.int (nI_add g19_100 1)) ?_
          refine i_put X F I 100 rfl rfl rfl fk_X8_257 dX8_laws_55 rfl rfl (Nat.le_of_ble_eq_true rfl) (fun h => absurd h (by decide)) (fun M C F I K1 hC => ?_)
          have K := K.step K1 (by decide)
          have f32 : C 100 17 = nI (g19_100 + 1) := by rw [hC]; exact pk_us
          refine g_goto X dX8_laws_58 (tgt := 19) (by decide) ?_
          refine g_lv [0, 1, 2, 3] (lv2 := [(3, .int o31), (2, .int 0), (0, .ref (a 100)), (1, .int 1)]) rfl ?_
          exact ih19 ((g19_100 + 1), o31) L M C D F I K ⟨f32, by omega, by omega⟩ (by show _ < _; omega)
  · skip
    refine g_aload_n X dX8_laws_0 rfl (j := 0) rfl ?_
    refine g_iload_n X dX8_laws_1 rfl (j := 1) rfl ?_
    refine g_callVI X (s_X8_askSeen_2 l G F I  ) lk_X8_410 (F.1 100 rfl).2 (F.1 100 rfl).1 rfl rfl dX8_laws_2 (Nat.le_of_ble_eq_true rfl) ⟨by decide, by decide⟩ ⟨by decide, by decide⟩ (fun r33 L M hp => ?_)
    obtain ⟨C, D, F, I, K1, hr⟩ := hp
    have K := K.step K1 (by decide)
    rcases hr with hz34 | ⟨rfl, gsn⟩
    · skip
      refine g_istore_n X dX8_laws_5 rfl (by decide) (lv2 := [(2, .int r33), (0, .ref (a 100)), (1, .int 2)]) rfl ?_
      refine g_iload_n X dX8_laws_6 rfl (j := 0) rfl ?_
      refine g_if_ge X dX8_laws_7 (tgt := 12) (by decide) (fun q => absurd (Int32.lt_iff_toInt_lt.mpr (by have k : (0 : Int32).toInt = 0 := (by decide); omega)) (Int32.not_lt.mpr q)) (fun _ => ?_)
      refine g_iload_n X dX8_laws_10 rfl (j := 0) rfl ?_
      exact g_iret X hrt dX8_laws_11 (by decide) (by decide) ⟨C, D, F, I, K, trivial⟩
    · skip
      rw [(K 137 (by decide)).1, (K 139 (by decide)).2] at gsn
      refine g_istore_n X dX8_laws_5 rfl (by decide) (lv2 := [(2, .int 0), (0, .ref (a 100)), (1, .int 2)]) rfl ?_
      refine g_iload_n X dX8_laws_6 rfl (j := 0) rfl ?_
      refine g_if_ge X dX8_laws_7 (tgt := 12) (by decide) (fun _ => ?_) (fun q => absurd (by decide) q)
      refine g_iconst X dX8_laws_12 (v := 0) (by decide) ?_
      refine g_istore_n X dX8_laws_13 rfl (by decide) (lv2 := [(3, .int 0), (2, .int 0), (0, .ref (a 100)), (1, .int 2)]) rfl ?_
      refine g_aload_n X dX8_laws_14 rfl (j := 2) rfl ?_
      refine g_iconst X dX8_laws_15 (v := 0) (by decide) ?_
      refine i_put X F I 100 rfl rfl rfl fk_X8_257 dX8_laws_16 rfl rfl (Nat.le_of_ble_eq_true rfl) (fun h => absurd h (by decide)) (fun M C F I K1 hC => ?_)
      have K := K.step K1 (by decide)
      have f36 : C 100 17 = 0 := by rw [hC]; exact pk_us
      refine g_lv [0, 1, 2, 3] (lv2 := [(3, .int 0), (2, .int 0), (0, .ref (a 100)), (1, .int 2)]) rfl ?_
      refine i_loop (mods := [100, 115, 116, 120, 121, 122, 123, 124, 125, 126, 127, 128]) (fun x : Nat × Int32 => 4 - x.1) (fun x => [(3, .int (x.2)), (2, .int 0), (0, .ref (a 100)), (1, .int 2)]) (fun x C => C 100 17 = nI (x.1) ∧ 0 ≤ x.1 ∧ x.1 ≤ 4) (fun x L M C D F I K hP ih19 => ?_) ((0, 0) : Nat × Int32) F I K ⟨f36, by show _ ≤ _; omega, by show _ ≤ _; omega⟩
      rcases x with ⟨g19_100, v19_3⟩
      obtain ⟨eg19_100, hg19_100a, hg19_100b⟩ := hP
      have heg19_100 : C 100 17 = nI g19_100 := eg19_100
      refine g_lv [0, 1, 2, 3] (lv2 := [(3, .int v19_3), (2, .int 0), (0, .ref (a 100)), (1, .int 2)]) rfl ?_
      refine g_aload_n X dX8_laws_19 rfl (j := 2) rfl ?_
      refine i_get X F 100 rfl rfl fk_X8_257 dX8_laws_20 (v := .int (nI g19_100)) (congrArg (fun z => some (Value.int z)) heg19_100) ?_
      refine g_iconst X dX8_laws_23 (v := 4) (by decide) ?_
      refine g_icmp_ge X dX8_laws_24 (tgt := 61) (by decide) (fun q37 => ?_) (fun q37 => ?_)
      · skip
        have q37 : 4 ≤ g19_100 := (nI_leI (a := 4) (b := g19_100) (by omega) (by omega)).mp q37
        refine g_iload_n X dX8_laws_61 rfl (j := 0) rfl ?_
        exact g_iret X hrt dX8_laws_62 (by decide) (by decide) ⟨C, D, F, I, K, trivial⟩
      · skip
        have q37 : ¬ 4 ≤ g19_100 := fun z => q37 ((nI_leI (a := 4) (b := g19_100) (by omega) (by omega)).mpr z)
        refine g_iload_n X dX8_laws_27 rfl (j := 0) rfl ?_
        refine g_aload_n X dX8_laws_28 rfl (j := 2) rfl ?_
        refine g_iload_n X dX8_laws_29 rfl (j := 3) rfl ?_
        refine g_callVI X (s_X8_isSeen_2 l G F I  (by rw [(K 137 (by decide)).1, (K 139 (by decide)).2]; exact gsn)) lk_X8_403 (F.1 100 rfl).2 (F.1 100 rfl).1 rfl rfl dX8_laws_30 (Nat.le_of_ble_eq_true rfl) ⟨by decide, by decide⟩ ⟨by decide, by decide⟩ (fun r38 L M hp => ?_)
        obtain ⟨C, D, F, I, K1, hr⟩ := hp
        have K := K.step K1 (by decide)
        have heg19_100 : C 100 17 = nI g19_100 := (congrFun (K1 100 (by decide)).1 17).trans heg19_100
        rcases hr with rfl | rfl
        · skip
          refine g_if_eq X dX8_laws_33 (tgt := 45) (by decide) (fun _ => ?_) (fun q => absurd (by decide) q)
          refine g_iconst X dX8_laws_45 (v := 0) (by decide) ?_
          refine g_ior X dX8_laws_46 ?_
          refine Go.gen (fun o39 => ?_)
          refine g_istore_n X dX8_laws_47 rfl (by decide) (lv2 := [(3, .int o39), (2, .int 0), (0, .ref (a 100)), (1, .int 2)]) rfl ?_
          refine g_aload_n X dX8_laws_48 rfl (j := 2) rfl ?_
          refine g_dup X dX8_laws_49 rfl ?_
          refine i_get X F 100 rfl rfl fk_X8_257 dX8_laws_50 (v := .int (nI g19_100)) (congrArg (fun z => some (Value.int z)) heg19_100) ?_
          refine g_iconst X dX8_laws_53 (v := 1) (by decide) ?_
          refine g_iadd X dX8_laws_54 ?_
          refine Go.top (v := .int (nI (g19_100 + 1))) (congrArg Value.int (nI_add g19_100 1)) ?_
          refine i_put X F I 100 rfl rfl rfl fk_X8_257 dX8_laws_55 rfl rfl (Nat.le_of_ble_eq_true rfl) (fun h => absurd h (by decide)) (fun M C F I K1 hC => ?_)
          have K := K.step K1 (by decide)
          have f40 : C 100 17 = nI (g19_100 + 1) := by rw [hC]; exact pk_us
          refine g_goto X dX8_laws_58 (tgt := 19) (by decide) ?_
          refine g_lv [0, 1, 2, 3] (lv2 := [(3, .int o39), (2, .int 0), (0, .ref (a 100)), (1, .int 2)]) rfl ?_
          exact ih19 ((g19_100 + 1), o39) L M C D F I K ⟨f40, by omega, by omega⟩ (by show _ < _; omega)
        · skip
          refine g_if_eq X dX8_laws_33 (tgt := 45) (by decide) (fun q => absurd q (by decide)) (fun _ => ?_)
          refine g_iconst X dX8_laws_36 (v := 1) (by decide) ?_
          refine g_aload_n X dX8_laws_37 rfl (j := 2) rfl ?_
          refine i_get X F 100 rfl rfl fk_X8_257 dX8_laws_38 (v := .int (nI g19_100)) (congrArg (fun z => some (Value.int z)) heg19_100) ?_
          refine g_ishl X dX8_laws_41 ?_
          refine Go.gen (fun o41 => ?_)
          refine g_goto X dX8_laws_42 (tgt := 46) (by decide) ?_
          refine g_ior X dX8_laws_46 ?_
          refine Go.gen (fun o42 => ?_)
          refine g_istore_n X dX8_laws_47 rfl (by decide) (lv2 := [(3, .int o42), (2, .int 0), (0, .ref (a 100)), (1, .int 2)]) rfl ?_
          refine g_aload_n X dX8_laws_48 rfl (j := 2) rfl ?_
          refine g_dup X dX8_laws_49 rfl ?_
          refine i_get X F 100 rfl rfl fk_X8_257 dX8_laws_50 (v := .int (nI g19_100)) (congrArg (fun z => some (Value.int z)) heg19_100) ?_
          refine g_iconst X dX8_laws_53 (v := 1) (by decide) ?_
          refine g_iadd X dX8_laws_54 ?_
          refine Go.top (v := .int (nI (g19_100 + 1))) (congrArg Value.int (nI_add g19_100 1)) ?_
          refine i_put X F I 100 rfl rfl rfl fk_X8_257 dX8_laws_55 rfl rfl (Nat.le_of_ble_eq_true rfl) (fun h => absurd h (by decide)) (fun M C F I K1 hC => ?_)
          have K := K.step K1 (by decide)
          have f43 : C 100 17 = nI (g19_100 + 1) := by rw [hC]; exact pk_us
          refine g_goto X dX8_laws_58 (tgt := 19) (by decide) ?_
          refine g_lv [0, 1, 2, 3] (lv2 := [(3, .int o42), (2, .int 0), (0, .ref (a 100)), (1, .int 2)]) rfl ?_
          exact ih19 ((g19_100 + 1), o42) L M C D F I K ⟨f43, by omega, by omega⟩ (by show _ < _; omega)
  · skip
    refine g_aload_n X dX8_laws_0 rfl (j := 0) rfl ?_
    refine g_iload_n X dX8_laws_1 rfl (j := 1) rfl ?_
    refine g_callVI X (s_X8_askSeen_3 l G F I  ) lk_X8_410 (F.1 100 rfl).2 (F.1 100 rfl).1 rfl rfl dX8_laws_2 (Nat.le_of_ble_eq_true rfl) ⟨by decide, by decide⟩ ⟨by decide, by decide⟩ (fun r44 L M hp => ?_)
    obtain ⟨C, D, F, I, K1, hr⟩ := hp
    have K := K.step K1 (by decide)
    rcases hr with hz45 | ⟨rfl, gsn⟩
    · skip
      refine g_istore_n X dX8_laws_5 rfl (by decide) (lv2 := [(2, .int r44), (0, .ref (a 100)), (1, .int 3)]) rfl ?_
      refine g_iload_n X dX8_laws_6 rfl (j := 0) rfl ?_
      refine g_if_ge X dX8_laws_7 (tgt := 12) (by decide) (fun q => absurd (Int32.lt_iff_toInt_lt.mpr (by have k : (0 : Int32).toInt = 0 := (by decide); omega)) (Int32.not_lt.mpr q)) (fun _ => ?_)
      refine g_iload_n X dX8_laws_10 rfl (j := 0) rfl ?_
      exact g_iret X hrt dX8_laws_11 (by decide) (by decide) ⟨C, D, F, I, K, trivial⟩
    · skip
      rw [(K 137 (by decide)).1, (K 139 (by decide)).2] at gsn
      refine g_istore_n X dX8_laws_5 rfl (by decide) (lv2 := [(2, .int 0), (0, .ref (a 100)), (1, .int 3)]) rfl ?_
      refine g_iload_n X dX8_laws_6 rfl (j := 0) rfl ?_
      refine g_if_ge X dX8_laws_7 (tgt := 12) (by decide) (fun _ => ?_) (fun q => absurd (by decide) q)
      refine g_iconst X dX8_laws_12 (v := 0) (by decide) ?_
      refine g_istore_n X dX8_laws_13 rfl (by decide) (lv2 := [(3, .int 0), (2, .int 0), (0, .ref (a 100)), (1, .int 3)]) rfl ?_
      refine g_aload_n X dX8_laws_14 rfl (j := 2) rfl ?_
      refine g_iconst X dX8_laws_15 (v := 0) (by decide) ?_
      refine i_put X F I 100 rfl rfl rfl fk_X8_257 dX8_laws_16 rfl rfl (Nat.le_of_ble_eq_true rfl) (fun h => absurd h (by decide)) (fun M C F I K1 hC => ?_)
      have K := K.step K1 (by decide)
      have f47 : C 100 17 = 0 := by rw [hC]; exact pk_us
      refine g_lv [0, 1, 2, 3] (lv2 := [(3, .int 0), (2, .int 0), (0, .ref (a 100)), (1, .int 3)]) rfl ?_
      refine i_loop (mods := [100, 115, 116, 120, 121, 122, 123, 124, 125, 126, 127, 128]) (fun x : Nat × Int32 => 4 - x.1) (fun x => [(3, .int (x.2)), (2, .int 0), (0, .ref (a 100)), (1, .int 3)]) (fun x C => C 100 17 = nI (x.1) ∧ 0 ≤ x.1 ∧ x.1 ≤ 4) (fun x L M C D F I K hP ih19 => ?_) ((0, 0) : Nat × Int32) F I K ⟨f47, by show _ ≤ _; omega, by show _ ≤ _; omega⟩
      rcases x with ⟨g19_100, v19_3⟩
      obtain ⟨eg19_100, hg19_100a, hg19_100b⟩ := hP
      have heg19_100 : C 100 17 = nI g19_100 := eg19_100
      refine g_lv [0, 1, 2, 3] (lv2 := [(3, .int v19_3), (2, .int 0), (0, .ref (a 100)), (1, .int 3)]) rfl ?_
      refine g_aload_n X dX8_laws_19 rfl (j := 2) rfl ?_
      refine i_get X F 100 rfl rfl fk_X8_257 dX8_laws_20 (v := .int (nI g19_100)) (congrArg (fun z => some (Value.int z)) heg19_100) ?_
      refine g_iconst X dX8_laws_23 (v := 4) (by decide) ?_
      refine g_icmp_ge X dX8_laws_24 (tgt := 61) (by decide) (fun q48 => ?_) (fun q48 => ?_)
      · skip
        have q48 : 4 ≤ g19_100 := (nI_leI (a := 4) (b := g19_100) (by omega) (by omega)).mp q48
        refine g_iload_n X dX8_laws_61 rfl (j := 0) rfl ?_
        exact g_iret X hrt dX8_laws_62 (by decide) (by decide) ⟨C, D, F, I, K, trivial⟩
      · skip
        have q48 : ¬ 4 ≤ g19_100 := fun z => q48 ((nI_leI (a := 4) (b := g19_100) (by omega) (by omega)).mpr z)
        refine g_iload_n X dX8_laws_27 rfl (j := 0) rfl ?_
        refine g_aload_n X dX8_laws_28 rfl (j := 2) rfl ?_
        refine g_iload_n X dX8_laws_29 rfl (j := 3) rfl ?_
        refine g_callVI X (s_X8_isSeen_3 l G F I  (by rw [(K 137 (by decide)).1, (K 139 (by decide)).2]; exact gsn)) lk_X8_403 (F.1 100 rfl).2 (F.1 100 rfl).1 rfl rfl dX8_laws_30 (Nat.le_of_ble_eq_true rfl) ⟨by decide, by decide⟩ ⟨by decide, by decide⟩ (fun r49 L M hp => ?_)
        obtain ⟨C, D, F, I, K1, hr⟩ := hp
        have K := K.step K1 (by decide)
        have heg19_100 : C 100 17 = nI g19_100 := (congrFun (K1 100 (by decide)).1 17).trans heg19_100
        rcases hr with rfl | rfl
        · skip
          refine g_if_eq X dX8_laws_33 (tgt := 45) (by decide) (fun _ => ?_) (fun q => absurd (by decide) q)
          refine g_iconst X dX8_laws_45 (v := 0) (by decide) ?_
          refine g_ior X dX8_laws_46 ?_
          refine Go.gen (fun o50 => ?_)
          refine g_istore_n X dX8_laws_47 rfl (by decide) (lv2 := [(3, .int o50), (2, .int 0), (0, .ref (a 100)), (1, .int 3)]) rfl ?_
          refine g_aload_n X dX8_laws_48 rfl (j := 2) rfl ?_
          refine g_dup X dX8_laws_49 rfl ?_
          refine i_get X F 100 rfl rfl fk_X8_257 dX8_laws_50 (v := .int (nI g19_100)) (congrArg (fun z => some (Value.int z)) heg19_100) ?_
          refine g_iconst X dX8_laws_53 (v := 1) (by decide) ?_
          refine g_iadd X dX8_laws_54 ?_
          refine Go.top (v := .int (nI (g19_100 + 1))) (congrArg Value.int (nI_add g19_100 1)) ?_
          refine i_put X F I 100 rfl rfl rfl fk_X8_257 dX8_laws_55 rfl rfl (Nat.le_of_ble_eq_true rfl) (fun h => absurd h (by decide)) (fun M C F I K1 hC => ?_)
          have K := K.step K1 (by decide)
          have f51 : C 100 17 = nI (g19_100 + 1) := by rw [hC]; exact pk_us
          refine g_goto X dX8_laws_58 (tgt := 19) (by decide) ?_
          refine g_lv [0, 1, 2, 3] (lv2 := [(3, .int o50), (2, .int 0), (0, .ref (a 100)), (1, .int 3)]) rfl ?_
          exact ih19 ((g19_100 + 1), o50) L M C D F I K ⟨f51, by omega, by omega⟩ (by show _ < _; omega)
        · skip
          refine g_if_eq X dX8_laws_33 (tgt := 45) (by decide) (fun q => absurd q (by decide)) (fun _ => ?_)
          refine g_iconst X dX8_laws_36 (v := 1) (by decide) ?_
          refine g_aload_n X dX8_laws_37 rfl (j := 2) rfl ?_
          refine i_get X F 100 rfl rfl fk_X8_257 dX8_laws_38 (v := .int (nI g19_100)) (congrArg (fun z => some (Value.int z)) heg19_100) ?_
          refine g_ishl X dX8_laws_41 ?_
          refine Go.gen (fun o52 => ?_)
          refine g_goto X dX8_laws_42 (tgt := 46) (by decide) ?_
          refine g_ior X dX8_laws_46 ?_
          refine Go.gen (fun o53 => ?_)
          refine g_istore_n X dX8_laws_47 rfl (by decide) (lv2 := [(3, .int o53), (2, .int 0), (0, .ref (a 100)), (1, .int 3)]) rfl ?_
          refine g_aload_n X dX8_laws_48 rfl (j := 2) rfl ?_
          refine g_dup X dX8_laws_49 rfl ?_
          refine i_get X F 100 rfl rfl fk_X8_257 dX8_laws_50 (v := .int (nI g19_100)) (congrArg (fun z => some (Value.int z)) heg19_100) ?_
          refine g_iconst X dX8_laws_53 (v := 1) (by decide) ?_
          refine g_iadd X dX8_laws_54 ?_
          refine Go.top (v := .int (nI (g19_100 + 1))) (congrArg Value.int (nI_add g19_100 1)) ?_
          refine i_put X F I 100 rfl rfl rfl fk_X8_257 dX8_laws_55 rfl rfl (Nat.le_of_ble_eq_true rfl) (fun h => absurd h (by decide)) (fun M C F I K1 hC => ?_)
          have K := K.step K1 (by decide)
          have f54 : C 100 17 = nI (g19_100 + 1) := by rw [hC]; exact pk_us
          refine g_goto X dX8_laws_58 (tgt := 19) (by decide) ?_
          refine g_lv [0, 1, 2, 3] (lv2 := [(3, .int o53), (2, .int 0), (0, .ref (a 100)), (1, .int 3)]) rfl ?_
          exact ih19 ((g19_100 + 1), o53) L M C D F I K ⟨f54, by omega, by omega⟩ (by show _ < _; omega)
