set_option maxHeartbeats 4000000 in
set_option maxRecDepth 100000 in
theorem s_X8_asksHeath (l : Launch) (G : va_G) {cy : Nat → ClassId} {L : List Nat} {M : Nat → va_E} {a : Nat → Nat} {act : Nat → Bool} {C0 : Nat → Nat → Int32} {D0 : Nat → Nat → Int64} {R : Nat → Nat → Option Nat} (F : WI L M a act (ent cy a C0 D0 R)) (I : Inv C0)   : MI l G cy yX8_asksHeath cX8_asksHeath 1 (some .boolean) 6 0 0 [.ref (a 100)] L M (fun r L2 M2 => ∃ C2 D2, WI L2 M2 a act (ent cy a C2 D2 R) ∧ Inv C2 ∧ Kp [100, 115, 116, 120, 121, 122, 123, 124, 125, 126, 127, 128] C0 D0 C2 D2 ∧ (r = 0 ∨ r = 1)) := by
  refine MI.of (own := RX8) rfl (by decide) (Nat.le_of_ble_eq_true rfl) ?_
  intro p e s m below meth c A X hrt hnm
  obtain ⟨C, D, hC0, hD0, F, I, K⟩ : ∃ C D, C = C0 ∧ D = D0 ∧ WI L M a act (ent cy a C D R) ∧ Inv C ∧ Kp [100, 115, 116, 120, 121, 122, 123, 124, 125, 126, 127, 128] C0 D0 C D := ⟨C0, D0, rfl, rfl, F, I, Kp.rf⟩
  obtain ⟨n1, hn1, en1⟩ := rg_nat ((show okw 0 (C 101 0) from I 101 0).1 rfl) (by decide)
  rw [hC0] at en1
  obtain ⟨n2, hn2, en2⟩ := rg_nat ((show okw 4 (C 101 4) from I 101 4).2.2.2.1 rfl) (by decide)
  rw [hC0] at en2
  obtain ⟨n3, hn3, en3⟩ := rg_nat ((show okw 7 (C 101 7) from I 101 7).2.2.2.2.1 rfl) (by decide)
  rw [hC0] at en3
  refine g_aload_n X dX8_asksHeath_0 rfl (j := 0) rfl ?_
  refine g_callVV X (s_X8_asItIs l G F I  ) lk_X8_286 (F.1 100 rfl).2 (F.1 100 rfl).1 rfl rfl dX8_asksHeath_1 (Nat.le_of_ble_eq_true rfl) ⟨by decide, by decide⟩ ⟨by decide, by decide⟩ (fun L M hp => ?_)
  obtain ⟨C, D, F, I, K1, hr⟩ := hp
  have K := K.step K1 (by decide)
  refine g_aload_n X dX8_asksHeath_4 rfl (j := 0) rfl ?_
  refine g_callVV X (s_X8_goAll l G F I  ) lk_X8_289 (F.1 100 rfl).2 (F.1 100 rfl).1 rfl rfl dX8_asksHeath_5 (Nat.le_of_ble_eq_true rfl) ⟨by decide, by decide⟩ ⟨by decide, by decide⟩ (fun L M hp => ?_)
  obtain ⟨C, D, F, I, K1, hr⟩ := hp
  have K := K.step K1 (by decide)
  refine g_aload_n X dX8_asksHeath_8 rfl (j := 0) rfl ?_
  refine g_callVI X (s_X8_isHeath l G F I  ) lk_X8_102 (F.1 100 rfl).2 (F.1 100 rfl).1 rfl rfl dX8_asksHeath_9 (Nat.le_of_ble_eq_true rfl) ⟨by decide, by decide⟩ ⟨by decide, by decide⟩ (fun r4 L M hp => ?_)
  obtain ⟨C, D, F, I, K1, hr⟩ := hp
  have K := K.step K1 (by decide)
  rcases hr with rfl | rfl
  · skip
    exact g_zret X hrt rfl dX8_asksHeath_12 (by decide) (by decide) ⟨C, D, F, I, K, Or.inl rfl⟩
  · skip
    exact g_zret X hrt rfl dX8_asksHeath_12 (by decide) (by decide) ⟨C, D, F, I, K, Or.inr rfl⟩
set_option maxHeartbeats 4000000 in
set_option maxRecDepth 100000 in
theorem s_X8_asksHour (l : Launch) (G : va_G) {cy : Nat → ClassId} {L : List Nat} {M : Nat → va_E} {a : Nat → Nat} {act : Nat → Bool} {C0 : Nat → Nat → Int32} {D0 : Nat → Nat → Int64} {R : Nat → Nat → Option Nat} (F : WI L M a act (ent cy a C0 D0 R)) (I : Inv C0) (p0 : Int32)  : MI l G cy yX8_asksHour cX8_asksHour 2 (some .boolean) 7 0 0 [.ref (a 100), .int p0] L M (fun r L2 M2 => ∃ C2 D2, WI L2 M2 a act (ent cy a C2 D2 R) ∧ Inv C2 ∧ Kp [100, 115, 116, 120, 121, 122, 123, 124, 125, 126, 127, 128] C0 D0 C2 D2 ∧ (r = 0 ∨ (r = 1 ∧ ∃ n : Nat, n ≤ 16 ∧ p0 = nI n))) := by
  refine MI.of (own := RX8) rfl (by decide) (Nat.le_of_ble_eq_true rfl) ?_
  intro p e s m below meth c A X hrt hnm
  obtain ⟨C, D, hC0, hD0, F, I, K⟩ : ∃ C D, C = C0 ∧ D = D0 ∧ WI L M a act (ent cy a C D R) ∧ Inv C ∧ Kp [100, 115, 116, 120, 121, 122, 123, 124, 125, 126, 127, 128] C0 D0 C D := ⟨C0, D0, rfl, rfl, F, I, Kp.rf⟩
  obtain ⟨n1, hn1, en1⟩ := rg_nat ((show okw 0 (C 101 0) from I 101 0).1 rfl) (by decide)
  rw [hC0] at en1
  obtain ⟨n2, hn2, en2⟩ := rg_nat ((show okw 4 (C 101 4) from I 101 4).2.2.2.1 rfl) (by decide)
  rw [hC0] at en2
  obtain ⟨n3, hn3, en3⟩ := rg_nat ((show okw 7 (C 101 7) from I 101 7).2.2.2.2.1 rfl) (by decide)
  rw [hC0] at en3
  refine g_aload_n X dX8_asksHour_0 rfl (j := 0) rfl ?_
  refine g_callVI X (s_X8_asksHeath l G F I  ) lk_X8_292 (F.1 100 rfl).2 (F.1 100 rfl).1 rfl rfl dX8_asksHour_1 (Nat.le_of_ble_eq_true rfl) ⟨by decide, by decide⟩ ⟨by decide, by decide⟩ (fun r4 L M hp => ?_)
  obtain ⟨C, D, F, I, K1, hr⟩ := hp
  have K := K.step K1 (by decide)
  rcases hr with rfl | rfl
  · skip
    refine g_pop X dX8_asksHour_4 rfl ?_
    refine g_aload_n X dX8_asksHour_5 rfl (j := 0) rfl ?_
    refine g_iload_n X dX8_asksHour_6 rfl (j := 1) rfl ?_
    refine g_i2l X dX8_asksHour_7 rfl ?_
    refine g_callVI X (s_X8_isHour l G F I ((Int32.toInt64 p0)) ) lk_X8_295 (F.1 100 rfl).2 (F.1 100 rfl).1 rfl rfl dX8_asksHour_8 (Nat.le_of_ble_eq_true rfl) ⟨by decide, by decide⟩ ⟨by decide, by decide⟩ (fun r5 L M hp => ?_)
    obtain ⟨C, D, F, I, K1, hr⟩ := hp
    have K := K.step K1 (by decide)
    rcases hr with rfl | ⟨rfl, hl6a, hl6b⟩
    · skip
      exact g_zret X hrt rfl dX8_asksHour_11 (by decide) (by decide) ⟨C, D, F, I, K, Or.inl rfl⟩
    · skip
      rw [Jvm.Kit.i64_of_i32] at hl6a hl6b
      obtain ⟨n7, hn7a, hn7b, en7⟩ := nI_ofInt (x := p0) (lo := 0) (hi := 16) (by omega) (by omega) (by decide)
      subst en7
      exact g_zret X hrt rfl dX8_asksHour_11 (by decide) (by decide) ⟨C, D, F, I, K, Or.inr ⟨rfl, n7, by omega, rfl⟩⟩
  · skip
    refine g_pop X dX8_asksHour_4 rfl ?_
    refine g_aload_n X dX8_asksHour_5 rfl (j := 0) rfl ?_
    refine g_iload_n X dX8_asksHour_6 rfl (j := 1) rfl ?_
    refine g_i2l X dX8_asksHour_7 rfl ?_
    refine g_callVI X (s_X8_isHour l G F I ((Int32.toInt64 p0)) ) lk_X8_295 (F.1 100 rfl).2 (F.1 100 rfl).1 rfl rfl dX8_asksHour_8 (Nat.le_of_ble_eq_true rfl) ⟨by decide, by decide⟩ ⟨by decide, by decide⟩ (fun r8 L M hp => ?_)
    obtain ⟨C, D, F, I, K1, hr⟩ := hp
    have K := K.step K1 (by decide)
    rcases hr with rfl | ⟨rfl, hl9a, hl9b⟩
    · skip
      exact g_zret X hrt rfl dX8_asksHour_11 (by decide) (by decide) ⟨C, D, F, I, K, Or.inl rfl⟩
    · skip
      rw [Jvm.Kit.i64_of_i32] at hl9a hl9b
      obtain ⟨n10, hn10a, hn10b, en10⟩ := nI_ofInt (x := p0) (lo := 0) (hi := 16) (by omega) (by omega) (by decide)
      subst en10
      exact g_zret X hrt rfl dX8_asksHour_11 (by decide) (by decide) ⟨C, D, F, I, K, Or.inr ⟨rfl, n10, by omega, rfl⟩⟩
set_option maxHeartbeats 4000000 in
set_option maxRecDepth 100000 in
theorem s_X8_asksWalker (l : Launch) (G : va_G) {cy : Nat → ClassId} {L : List Nat} {M : Nat → va_E} {a : Nat → Nat} {act : Nat → Bool} {C0 : Nat → Nat → Int32} {D0 : Nat → Nat → Int64} {R : Nat → Nat → Option Nat} (F : WI L M a act (ent cy a C0 D0 R)) (I : Inv C0) (p0 : Int32)  : MI l G cy yX8_asksWalker cX8_asksWalker 2 (some .boolean) 7 0 0 [.ref (a 100), .int p0] L M (fun r L2 M2 => ∃ C2 D2, WI L2 M2 a act (ent cy a C2 D2 R) ∧ Inv C2 ∧ Kp [100, 115, 116, 120, 121, 122, 123, 124, 125, 126, 127, 128] C0 D0 C2 D2 ∧ (r = 0 ∨ (r = 1 ∧ ∃ n : Nat, n ≤ 7 ∧ p0 = nI n))) := by
  refine MI.of (own := RX8) rfl (by decide) (Nat.le_of_ble_eq_true rfl) ?_
  intro p e s m below meth c A X hrt hnm
  obtain ⟨C, D, hC0, hD0, F, I, K⟩ : ∃ C D, C = C0 ∧ D = D0 ∧ WI L M a act (ent cy a C D R) ∧ Inv C ∧ Kp [100, 115, 116, 120, 121, 122, 123, 124, 125, 126, 127, 128] C0 D0 C D := ⟨C0, D0, rfl, rfl, F, I, Kp.rf⟩
  obtain ⟨n1, hn1, en1⟩ := rg_nat ((show okw 0 (C 101 0) from I 101 0).1 rfl) (by decide)
  rw [hC0] at en1
  obtain ⟨n2, hn2, en2⟩ := rg_nat ((show okw 4 (C 101 4) from I 101 4).2.2.2.1 rfl) (by decide)
  rw [hC0] at en2
  obtain ⟨n3, hn3, en3⟩ := rg_nat ((show okw 7 (C 101 7) from I 101 7).2.2.2.2.1 rfl) (by decide)
  rw [hC0] at en3
  refine g_aload_n X dX8_asksWalker_0 rfl (j := 0) rfl ?_
  refine g_callVI X (s_X8_asksHeath l G F I  ) lk_X8_292 (F.1 100 rfl).2 (F.1 100 rfl).1 rfl rfl dX8_asksWalker_1 (Nat.le_of_ble_eq_true rfl) ⟨by decide, by decide⟩ ⟨by decide, by decide⟩ (fun r4 L M hp => ?_)
  obtain ⟨C, D, F, I, K1, hr⟩ := hp
  have K := K.step K1 (by decide)
  rcases hr with rfl | rfl
  · skip
    refine g_pop X dX8_asksWalker_4 rfl ?_
    refine g_aload_n X dX8_asksWalker_5 rfl (j := 0) rfl ?_
    refine g_iload_n X dX8_asksWalker_6 rfl (j := 1) rfl ?_
    refine g_i2l X dX8_asksWalker_7 rfl ?_
    refine g_callVI X (s_X8_isWalker l G F I ((Int32.toInt64 p0)) ) lk_X8_254 (F.1 100 rfl).2 (F.1 100 rfl).1 rfl rfl dX8_asksWalker_8 (Nat.le_of_ble_eq_true rfl) ⟨by decide, by decide⟩ ⟨by decide, by decide⟩ (fun r5 L M hp => ?_)
    obtain ⟨C, D, F, I, K1, hr⟩ := hp
    have K := K.step K1 (by decide)
    rcases hr with rfl | ⟨rfl, hl6a, hl6b⟩
    · skip
      exact g_zret X hrt rfl dX8_asksWalker_11 (by decide) (by decide) ⟨C, D, F, I, K, Or.inl rfl⟩
    · skip
      rw [Jvm.Kit.i64_of_i32] at hl6a hl6b
      obtain ⟨n7, hn7a, hn7b, en7⟩ := nI_ofInt (x := p0) (lo := 0) (hi := 7) (by omega) (by omega) (by decide)
      subst en7
      exact g_zret X hrt rfl dX8_asksWalker_11 (by decide) (by decide) ⟨C, D, F, I, K, Or.inr ⟨rfl, n7, by omega, rfl⟩⟩
  · skip
    refine g_pop X dX8_asksWalker_4 rfl ?_
    refine g_aload_n X dX8_asksWalker_5 rfl (j := 0) rfl ?_
    refine g_iload_n X dX8_asksWalker_6 rfl (j := 1) rfl ?_
    refine g_i2l X dX8_asksWalker_7 rfl ?_
    refine g_callVI X (s_X8_isWalker l G F I ((Int32.toInt64 p0)) ) lk_X8_254 (F.1 100 rfl).2 (F.1 100 rfl).1 rfl rfl dX8_asksWalker_8 (Nat.le_of_ble_eq_true rfl) ⟨by decide, by decide⟩ ⟨by decide, by decide⟩ (fun r8 L M hp => ?_)
    obtain ⟨C, D, F, I, K1, hr⟩ := hp
    have K := K.step K1 (by decide)
    rcases hr with rfl | ⟨rfl, hl9a, hl9b⟩
    · skip
      exact g_zret X hrt rfl dX8_asksWalker_11 (by decide) (by decide) ⟨C, D, F, I, K, Or.inl rfl⟩
    · skip
      rw [Jvm.Kit.i64_of_i32] at hl9a hl9b
      obtain ⟨n10, hn10a, hn10b, en10⟩ := nI_ofInt (x := p0) (lo := 0) (hi := 7) (by omega) (by omega) (by decide)
      subst en10
      exact g_zret X hrt rfl dX8_asksWalker_11 (by decide) (by decide) ⟨C, D, F, I, K, Or.inr ⟨rfl, n10, by omega, rfl⟩⟩
set_option maxHeartbeats 4000000 in
set_option maxRecDepth 100000 in
theorem s_X8_asksPost (l : Launch) (G : va_G) {cy : Nat → ClassId} {L : List Nat} {M : Nat → va_E} {a : Nat → Nat} {act : Nat → Bool} {C0 : Nat → Nat → Int32} {D0 : Nat → Nat → Int64} {R : Nat → Nat → Option Nat} (F : WI L M a act (ent cy a C0 D0 R)) (I : Inv C0) (p0 : Int32)  : MI l G cy yX8_asksPost cX8_asksPost 2 (some .boolean) 7 0 0 [.ref (a 100), .int p0] L M (fun r L2 M2 => ∃ C2 D2, WI L2 M2 a act (ent cy a C2 D2 R) ∧ Inv C2 ∧ Kp [100, 115, 116, 120, 121, 122, 123, 124, 125, 126, 127, 128] C0 D0 C2 D2 ∧ (r = 0 ∨ (r = 1 ∧ ∃ n : Nat, n ≤ 6 ∧ p0 = nI n))) := by
  refine MI.of (own := RX8) rfl (by decide) (Nat.le_of_ble_eq_true rfl) ?_
  intro p e s m below meth c A X hrt hnm
  obtain ⟨C, D, hC0, hD0, F, I, K⟩ : ∃ C D, C = C0 ∧ D = D0 ∧ WI L M a act (ent cy a C D R) ∧ Inv C ∧ Kp [100, 115, 116, 120, 121, 122, 123, 124, 125, 126, 127, 128] C0 D0 C D := ⟨C0, D0, rfl, rfl, F, I, Kp.rf⟩
  obtain ⟨n1, hn1, en1⟩ := rg_nat ((show okw 0 (C 101 0) from I 101 0).1 rfl) (by decide)
  rw [hC0] at en1
  obtain ⟨n2, hn2, en2⟩ := rg_nat ((show okw 4 (C 101 4) from I 101 4).2.2.2.1 rfl) (by decide)
  rw [hC0] at en2
  obtain ⟨n3, hn3, en3⟩ := rg_nat ((show okw 7 (C 101 7) from I 101 7).2.2.2.2.1 rfl) (by decide)
  rw [hC0] at en3
  refine g_aload_n X dX8_asksPost_0 rfl (j := 0) rfl ?_
  refine g_callVI X (s_X8_asksHeath l G F I  ) lk_X8_292 (F.1 100 rfl).2 (F.1 100 rfl).1 rfl rfl dX8_asksPost_1 (Nat.le_of_ble_eq_true rfl) ⟨by decide, by decide⟩ ⟨by decide, by decide⟩ (fun r4 L M hp => ?_)
  obtain ⟨C, D, F, I, K1, hr⟩ := hp
  have K := K.step K1 (by decide)
  rcases hr with rfl | rfl
  · skip
    refine g_pop X dX8_asksPost_4 rfl ?_
    refine g_aload_n X dX8_asksPost_5 rfl (j := 0) rfl ?_
    refine g_iload_n X dX8_asksPost_6 rfl (j := 1) rfl ?_
    refine g_i2l X dX8_asksPost_7 rfl ?_
    refine g_callVI X (s_X8_isPost l G F I ((Int32.toInt64 p0)) ) lk_X8_112 (F.1 100 rfl).2 (F.1 100 rfl).1 rfl rfl dX8_asksPost_8 (Nat.le_of_ble_eq_true rfl) ⟨by decide, by decide⟩ ⟨by decide, by decide⟩ (fun r5 L M hp => ?_)
    obtain ⟨C, D, F, I, K1, hr⟩ := hp
    have K := K.step K1 (by decide)
    rcases hr with rfl | ⟨rfl, hl6a, hl6b⟩
    · skip
      exact g_zret X hrt rfl dX8_asksPost_11 (by decide) (by decide) ⟨C, D, F, I, K, Or.inl rfl⟩
    · skip
      rw [Jvm.Kit.i64_of_i32] at hl6a hl6b
      obtain ⟨n7, hn7a, hn7b, en7⟩ := nI_ofInt (x := p0) (lo := 0) (hi := 6) (by omega) (by omega) (by decide)
      subst en7
      exact g_zret X hrt rfl dX8_asksPost_11 (by decide) (by decide) ⟨C, D, F, I, K, Or.inr ⟨rfl, n7, by omega, rfl⟩⟩
  · skip
    refine g_pop X dX8_asksPost_4 rfl ?_
    refine g_aload_n X dX8_asksPost_5 rfl (j := 0) rfl ?_
    refine g_iload_n X dX8_asksPost_6 rfl (j := 1) rfl ?_
    refine g_i2l X dX8_asksPost_7 rfl ?_
    refine g_callVI X (s_X8_isPost l G F I ((Int32.toInt64 p0)) ) lk_X8_112 (F.1 100 rfl).2 (F.1 100 rfl).1 rfl rfl dX8_asksPost_8 (Nat.le_of_ble_eq_true rfl) ⟨by decide, by decide⟩ ⟨by decide, by decide⟩ (fun r8 L M hp => ?_)
    obtain ⟨C, D, F, I, K1, hr⟩ := hp
    have K := K.step K1 (by decide)
    rcases hr with rfl | ⟨rfl, hl9a, hl9b⟩
    · skip
      exact g_zret X hrt rfl dX8_asksPost_11 (by decide) (by decide) ⟨C, D, F, I, K, Or.inl rfl⟩
    · skip
      rw [Jvm.Kit.i64_of_i32] at hl9a hl9b
      obtain ⟨n10, hn10a, hn10b, en10⟩ := nI_ofInt (x := p0) (lo := 0) (hi := 6) (by omega) (by omega) (by decide)
      subst en10
      exact g_zret X hrt rfl dX8_asksPost_11 (by decide) (by decide) ⟨C, D, F, I, K, Or.inr ⟨rfl, n10, by omega, rfl⟩⟩
set_option maxHeartbeats 4000000 in
set_option maxRecDepth 100000 in
theorem s_X8_placeOf (l : Launch) (G : va_G) {cy : Nat → ClassId} {L : List Nat} {M : Nat → va_E} {a : Nat → Nat} {act : Nat → Bool} {C0 : Nat → Nat → Int32} {D0 : Nat → Nat → Int64} {R : Nat → Nat → Option Nat} (F : WI L M a act (ent cy a C0 D0 R)) (I : Inv C0) (p0 : Nat) (hp0a : 0 ≤ p0) (hp0b : p0 ≤ 7) (p1 : Nat) (hp1a : 0 ≤ p1) (hp1b : p1 ≤ 16)  : MI l G cy yX8_placeOf cX8_placeOf 3 (some .int) 0 0 0 [.ref (a 100), .int (nI p0), .int (nI p1)] L M (fun r L2 M2 => ∃ C2 D2, WI L2 M2 a act (ent cy a C2 D2 R) ∧ Inv C2 ∧ Kp [] C0 D0 C2 D2 ∧ okp r) := by
  refine MI.of (own := RX8) rfl (by decide) (Nat.le_of_ble_eq_true rfl) ?_
  intro p e s m below meth c A X hrt hnm
  obtain ⟨C, D, hC0, hD0, F, I, K⟩ : ∃ C D, C = C0 ∧ D = D0 ∧ WI L M a act (ent cy a C D R) ∧ Inv C ∧ Kp [] C0 D0 C D := ⟨C0, D0, rfl, rfl, F, I, Kp.rf⟩
  obtain ⟨n1, hn1, en1⟩ := rg_nat ((show okw 0 (C 101 0) from I 101 0).1 rfl) (by decide)
  rw [hC0] at en1
  obtain ⟨n2, hn2, en2⟩ := rg_nat ((show okw 4 (C 101 4) from I 101 4).2.2.2.1 rfl) (by decide)
  rw [hC0] at en2
  obtain ⟨n3, hn3, en3⟩ := rg_nat ((show okw 7 (C 101 7) from I 101 7).2.2.2.2.1 rfl) (by decide)
  rw [hC0] at en3
  refine g_aload_n X dX8_placeOf_0 rfl (j := 0) rfl ?_
  refine i_get X F 100 rfl rfl fk_X8_46 dX8_placeOf_1 rfl ?_
  refine g_bipush X dX8_placeOf_4 (v := 8) (by decide) ?_
  refine g_iload_n X dX8_placeOf_6 rfl (j := 2) rfl ?_
  refine g_imul X dX8_placeOf_7 ?_
  refine Go.top (v := .int (nI (8 * p1))) (congrArg Value.int (pk_mul 8 p1)) ?_
  refine g_iload_n X dX8_placeOf_8 rfl (j := 1) rfl ?_
  refine g_iadd X dX8_placeOf_9 ?_
  refine Go.top (v := .int (nI ((8 * p1) + p0))) (congrArg Value.int (nI_add (8 * p1) p0)) ?_
  rcases okp_nat (I 122 ((8 * p1) + p0)) with en4 | ⟨n4, hn4, en4⟩
  · skip
    refine i_iald X F 122 rfl rfl dX8_placeOf_10 (vp_in_nI (by omega) (by decide)) (v := -1) (by rw [nI_clamp (by omega)]; exact en4) ?_
    exact g_iret X hrt dX8_placeOf_11 (by decide) (by decide) ⟨C, D, F, I, K, okp_m1⟩
  · skip
    refine i_iald X F 122 rfl rfl dX8_placeOf_10 (vp_in_nI (by omega) (by decide)) (v := nI n4) (by rw [nI_clamp (by omega)]; exact en4) ?_
    exact g_iret X hrt dX8_placeOf_11 (by decide) (by decide) ⟨C, D, F, I, K, (okp_of (n := n4) (by omega))⟩
set_option maxHeartbeats 4000000 in
set_option maxRecDepth 100000 in
theorem s_X8_isInside (l : Launch) (G : va_G) {cy : Nat → ClassId} {L : List Nat} {M : Nat → va_E} {a : Nat → Nat} {act : Nat → Bool} {C0 : Nat → Nat → Int32} {D0 : Nat → Nat → Int64} {R : Nat → Nat → Option Nat} (F : WI L M a act (ent cy a C0 D0 R)) (I : Inv C0) (p0 : Nat) (hp0a : 0 ≤ p0) (hp0b : p0 ≤ 7) (p1 : Nat) (hp1a : 0 ≤ p1) (hp1b : p1 ≤ 16)  : MI l G cy yX8_isInside cX8_isInside 3 (some .boolean) 1 0 0 [.ref (a 100), .int (nI p0), .int (nI p1)] L M (fun r L2 M2 => ∃ C2 D2, WI L2 M2 a act (ent cy a C2 D2 R) ∧ Inv C2 ∧ Kp [] C0 D0 C2 D2 ∧ (r = 0 ∨ r = 1)) := by
  refine MI.of (own := RX8) rfl (by decide) (Nat.le_of_ble_eq_true rfl) ?_
  intro p e s m below meth c A X hrt hnm
  obtain ⟨C, D, hC0, hD0, F, I, K⟩ : ∃ C D, C = C0 ∧ D = D0 ∧ WI L M a act (ent cy a C D R) ∧ Inv C ∧ Kp [] C0 D0 C D := ⟨C0, D0, rfl, rfl, F, I, Kp.rf⟩
  obtain ⟨n1, hn1, en1⟩ := rg_nat ((show okw 0 (C 101 0) from I 101 0).1 rfl) (by decide)
  rw [hC0] at en1
  obtain ⟨n2, hn2, en2⟩ := rg_nat ((show okw 4 (C 101 4) from I 101 4).2.2.2.1 rfl) (by decide)
  rw [hC0] at en2
  obtain ⟨n3, hn3, en3⟩ := rg_nat ((show okw 7 (C 101 7) from I 101 7).2.2.2.2.1 rfl) (by decide)
  rw [hC0] at en3
  refine g_aload_n X dX8_isInside_0 rfl (j := 0) rfl ?_
  refine g_iload_n X dX8_isInside_1 rfl (j := 1) rfl ?_
  refine g_iload_n X dX8_isInside_2 rfl (j := 2) rfl ?_
  refine g_callVI X (s_X8_placeOf l G F I p0 (by omega) (by omega) p1 (by omega) (by omega) ) lk_X8_298 (F.1 100 rfl).2 (F.1 100 rfl).1 rfl rfl dX8_isInside_3 (Nat.le_of_ble_eq_true rfl) ⟨by decide, by decide⟩ ⟨by decide, by decide⟩ (fun r4 L M hp => ?_)
  obtain ⟨C, D, F, I, K1, hr⟩ := hp
  have K := K.step K1 (by decide)
  rcases okp_nat hr with rfl | ⟨n5, hn5, rfl⟩
  · skip
    refine g_bipush X dX8_isInside_6 (v := 10) (by decide) ?_
    refine g_icmp_lt X dX8_isInside_8 (tgt := 15) (by decide) (fun _ => ?_) (fun q => absurd (by decide) q)
    refine g_iconst X dX8_isInside_15 (v := 0) (by decide) ?_
    exact g_zret X hrt rfl dX8_isInside_16 (by decide) (by decide) ⟨C, D, F, I, K, Or.inl rfl⟩
  · skip
    refine g_bipush X dX8_isInside_6 (v := 10) (by decide) ?_
    refine g_icmp_lt X dX8_isInside_8 (tgt := 15) (by decide) (fun q6 => ?_) (fun q6 => ?_)
    · skip
      have q6 : n5 < 10 := (nI_ltI (a := n5) (b := 10) (by omega) (by omega)).mp q6
      refine g_iconst X dX8_isInside_15 (v := 0) (by decide) ?_
      exact g_zret X hrt rfl dX8_isInside_16 (by decide) (by decide) ⟨C, D, F, I, K, Or.inl rfl⟩
    · skip
      have q6 : ¬ n5 < 10 := fun z => q6 ((nI_ltI (a := n5) (b := 10) (by omega) (by omega)).mpr z)
      refine g_iconst X dX8_isInside_11 (v := 1) (by decide) ?_
      refine g_goto X dX8_isInside_12 (tgt := 16) (by decide) ?_
      exact g_zret X hrt rfl dX8_isInside_16 (by decide) (by decide) ⟨C, D, F, I, K, Or.inr rfl⟩
set_option maxHeartbeats 4000000 in
set_option maxRecDepth 100000 in
theorem s_X8_room (l : Launch) (G : va_G) {cy : Nat → ClassId} {L : List Nat} {M : Nat → va_E} {a : Nat → Nat} {act : Nat → Bool} {C0 : Nat → Nat → Int32} {D0 : Nat → Nat → Int64} {R : Nat → Nat → Option Nat} (F : WI L M a act (ent cy a C0 D0 R)) (I : Inv C0) (p0 : Int32)  : MI l G cy yX8_room cX8_room 2 (some .int) 2 0 0 [.ref (a 100), .int p0] L M (fun r L2 M2 => ∃ C2 D2, WI L2 M2 a act (ent cy a C2 D2 R) ∧ Inv C2 ∧ Kp [] C0 D0 C2 D2 ∧ True) := by
  refine MI.of (own := RX8) rfl (by decide) (Nat.le_of_ble_eq_true rfl) ?_
  intro p e s m below meth c A X hrt hnm
  obtain ⟨C, D, hC0, hD0, F, I, K⟩ : ∃ C D, C = C0 ∧ D = D0 ∧ WI L M a act (ent cy a C D R) ∧ Inv C ∧ Kp [] C0 D0 C D := ⟨C0, D0, rfl, rfl, F, I, Kp.rf⟩
  obtain ⟨n1, hn1, en1⟩ := rg_nat ((show okw 0 (C 101 0) from I 101 0).1 rfl) (by decide)
  rw [hC0] at en1
  obtain ⟨n2, hn2, en2⟩ := rg_nat ((show okw 4 (C 101 4) from I 101 4).2.2.2.1 rfl) (by decide)
  rw [hC0] at en2
  obtain ⟨n3, hn3, en3⟩ := rg_nat ((show okw 7 (C 101 7) from I 101 7).2.2.2.2.1 rfl) (by decide)
  rw [hC0] at en3
  refine g_aload_n X dX8_room_0 rfl (j := 0) rfl ?_
  refine g_iload_n X dX8_room_1 rfl (j := 1) rfl ?_
  refine g_i2l X dX8_room_2 rfl ?_
  refine g_callVI X (s_X8_isInn l G F I ((Int32.toInt64 p0)) ) lk_X8_118 (F.1 100 rfl).2 (F.1 100 rfl).1 rfl rfl dX8_room_3 (Nat.le_of_ble_eq_true rfl) ⟨by decide, by decide⟩ ⟨by decide, by decide⟩ (fun r4 L M hp => ?_)
  obtain ⟨C, D, F, I, K1, hr⟩ := hp
  have K := K.step K1 (by decide)
  rcases hr with rfl | ⟨rfl, hl5a, hl5b⟩
  · skip
    refine g_if_eq X dX8_room_6 (tgt := 21) (by decide) (fun _ => ?_) (fun q => absurd (by decide) q)
    refine g_bipush X dX8_room_21 (v := -2) (by decide) ?_
    exact g_iret X hrt dX8_room_23 (by decide) (by decide) ⟨C, D, F, I, K, trivial⟩
  · skip
    rw [Jvm.Kit.i64_of_i32] at hl5a hl5b
    obtain ⟨n6, hn6a, hn6b, en6⟩ := nI_ofInt (x := p0) (lo := 0) (hi := 3) (by omega) (by omega) (by decide)
    subst en6
    refine g_if_eq X dX8_room_6 (tgt := 21) (by decide) (fun q => absurd q (by decide)) (fun _ => ?_)
    refine g_aload_n X dX8_room_9 rfl (j := 0) rfl ?_
    refine i_get X F 100 rfl rfl fk_X8_9 dX8_room_10 rfl ?_
    refine g_bipush X dX8_room_13 (v := 10) (by decide) ?_
    refine g_iload_n X dX8_room_15 rfl (j := 1) rfl ?_
    refine g_iadd X dX8_room_16 ?_
    refine Go.top (v := .int (nI (10 + n6))) (congrArg Value.int (nI_add 10 n6)) ?_
    refine i_iald X F 101 rfl rfl dX8_room_17 (vp_in_nI (by omega) (by decide)) rfl ?_
    refine Go.gen (fun o7 => ?_)
    refine g_goto X dX8_room_18 (tgt := 23) (by decide) ?_
    exact g_iret X hrt dX8_room_23 (by decide) (by decide) ⟨C, D, F, I, K, trivial⟩
set_option maxHeartbeats 4000000 in
set_option maxRecDepth 100000 in
theorem s_X8_roads (l : Launch) (G : va_G) {cy : Nat → ClassId} {L : List Nat} {M : Nat → va_E} {a : Nat → Nat} {act : Nat → Bool} {C0 : Nat → Nat → Int32} {D0 : Nat → Nat → Int64} {R : Nat → Nat → Option Nat} (F : WI L M a act (ent cy a C0 D0 R)) (I : Inv C0) (p0 : Int32)  : MI l G cy yX8_roads cX8_roads 2 (some .int) 2 0 0 [.ref (a 100), .int p0] L M (fun r L2 M2 => ∃ C2 D2, WI L2 M2 a act (ent cy a C2 D2 R) ∧ Inv C2 ∧ Kp [] C0 D0 C2 D2 ∧ True) := by
  refine MI.of (own := RX8) rfl (by decide) (Nat.le_of_ble_eq_true rfl) ?_
  intro p e s m below meth c A X hrt hnm
  obtain ⟨C, D, hC0, hD0, F, I, K⟩ : ∃ C D, C = C0 ∧ D = D0 ∧ WI L M a act (ent cy a C D R) ∧ Inv C ∧ Kp [] C0 D0 C D := ⟨C0, D0, rfl, rfl, F, I, Kp.rf⟩
  obtain ⟨n1, hn1, en1⟩ := rg_nat ((show okw 0 (C 101 0) from I 101 0).1 rfl) (by decide)
  rw [hC0] at en1
  obtain ⟨n2, hn2, en2⟩ := rg_nat ((show okw 4 (C 101 4) from I 101 4).2.2.2.1 rfl) (by decide)
  rw [hC0] at en2
  obtain ⟨n3, hn3, en3⟩ := rg_nat ((show okw 7 (C 101 7) from I 101 7).2.2.2.2.1 rfl) (by decide)
  rw [hC0] at en3
  refine g_aload_n X dX8_roads_0 rfl (j := 0) rfl ?_
  refine g_iload_n X dX8_roads_1 rfl (j := 1) rfl ?_
  refine g_i2l X dX8_roads_2 rfl ?_
  refine g_callVI X (s_X8_isPost l G F I ((Int32.toInt64 p0)) ) lk_X8_112 (F.1 100 rfl).2 (F.1 100 rfl).1 rfl rfl dX8_roads_3 (Nat.le_of_ble_eq_true rfl) ⟨by decide, by decide⟩ ⟨by decide, by decide⟩ (fun r4 L M hp => ?_)
  obtain ⟨C, D, F, I, K1, hr⟩ := hp
  have K := K.step K1 (by decide)
  rcases hr with rfl | ⟨rfl, hl5a, hl5b⟩
  · skip
    refine g_if_eq X dX8_roads_6 (tgt := 17) (by decide) (fun _ => ?_) (fun q => absurd (by decide) q)
    refine g_bipush X dX8_roads_17 (v := -2) (by decide) ?_
    exact g_iret X hrt dX8_roads_19 (by decide) (by decide) ⟨C, D, F, I, K, trivial⟩
  · skip
    rw [Jvm.Kit.i64_of_i32] at hl5a hl5b
    obtain ⟨n6, hn6a, hn6b, en6⟩ := nI_ofInt (x := p0) (lo := 0) (hi := 6) (by omega) (by omega) (by decide)
    subst en6
    refine g_if_eq X dX8_roads_6 (tgt := 17) (by decide) (fun q => absurd q (by decide)) (fun _ => ?_)
    refine g_aload_n X dX8_roads_9 rfl (j := 0) rfl ?_
    refine g_iload_n X dX8_roads_10 rfl (j := 1) rfl ?_
    refine g_callVI X (s_X8_roadMany l G F I n6 (by omega) (by omega) ) lk_X8_245 (F.1 100 rfl).2 (F.1 100 rfl).1 rfl rfl dX8_roads_11 (Nat.le_of_ble_eq_true rfl) ⟨by decide, by decide⟩ ⟨by decide, by decide⟩ (fun r7 L M hp => ?_)
    obtain ⟨C, D, F, I, K1, hr⟩ := hp
    have K := K.step K1 (by decide)
    obtain ⟨n8, hn8, en8, rfl⟩ := hr
    have fn8 : C0 101 (14 + 6 * n6) = nI n8 := (congrFun (K 101 (by decide)).1 _).symm.trans en8
    refine g_goto X dX8_roads_14 (tgt := 19) (by decide) ?_
    exact g_iret X hrt dX8_roads_19 (by decide) (by decide) ⟨C, D, F, I, K, trivial⟩
set_option maxHeartbeats 4000000 in
set_option maxRecDepth 100000 in
theorem s_X8_goes (l : Launch) (G : va_G) {cy : Nat → ClassId} {L : List Nat} {M : Nat → va_E} {a : Nat → Nat} {act : Nat → Bool} {C0 : Nat → Nat → Int32} {D0 : Nat → Nat → Int64} {R : Nat → Nat → Option Nat} (F : WI L M a act (ent cy a C0 D0 R)) (I : Inv C0) (p0 : Int32) (p1 : Int32)  : MI l G cy yX8_goes cX8_goes 3 (some .int) 2 0 0 [.ref (a 100), .int p0, .int p1] L M (fun r L2 M2 => ∃ C2 D2, WI L2 M2 a act (ent cy a C2 D2 R) ∧ Inv C2 ∧ Kp [] C0 D0 C2 D2 ∧ True) := by
  refine MI.of (own := RX8) rfl (by decide) (Nat.le_of_ble_eq_true rfl) ?_
  intro p e s m below meth c A X hrt hnm
  obtain ⟨C, D, hC0, hD0, F, I, K⟩ : ∃ C D, C = C0 ∧ D = D0 ∧ WI L M a act (ent cy a C D R) ∧ Inv C ∧ Kp [] C0 D0 C D := ⟨C0, D0, rfl, rfl, F, I, Kp.rf⟩
  obtain ⟨n1, hn1, en1⟩ := rg_nat ((show okw 0 (C 101 0) from I 101 0).1 rfl) (by decide)
  rw [hC0] at en1
  obtain ⟨n2, hn2, en2⟩ := rg_nat ((show okw 4 (C 101 4) from I 101 4).2.2.2.1 rfl) (by decide)
  rw [hC0] at en2
  obtain ⟨n3, hn3, en3⟩ := rg_nat ((show okw 7 (C 101 7) from I 101 7).2.2.2.2.1 rfl) (by decide)
  rw [hC0] at en3
  refine g_aload_n X dX8_goes_0 rfl (j := 0) rfl ?_
  refine g_iload_n X dX8_goes_1 rfl (j := 1) rfl ?_
  refine g_i2l X dX8_goes_2 rfl ?_
  refine g_callVI X (s_X8_isPost l G F I ((Int32.toInt64 p0)) ) lk_X8_112 (F.1 100 rfl).2 (F.1 100 rfl).1 rfl rfl dX8_goes_3 (Nat.le_of_ble_eq_true rfl) ⟨by decide, by decide⟩ ⟨by decide, by decide⟩ (fun r4 L M hp => ?_)
  obtain ⟨C, D, F, I, K1, hr⟩ := hp
  have K := K.step K1 (by decide)
  rcases hr with rfl | ⟨rfl, hl5a, hl5b⟩
  · skip
    refine g_if_eq X dX8_goes_6 (tgt := 13) (by decide) (fun _ => ?_) (fun q => absurd (by decide) q)
    refine g_bipush X dX8_goes_13 (v := -2) (by decide) ?_
    exact g_iret X hrt dX8_goes_15 (by decide) (by decide) ⟨C, D, F, I, K, trivial⟩
  · skip
    rw [Jvm.Kit.i64_of_i32] at hl5a hl5b
    obtain ⟨n6, hn6a, hn6b, en6⟩ := nI_ofInt (x := p0) (lo := 0) (hi := 6) (by omega) (by omega) (by decide)
    subst en6
    refine g_if_eq X dX8_goes_6 (tgt := 13) (by decide) (fun q => absurd q (by decide)) (fun _ => ?_)
    refine g_iload_n X dX8_goes_9 rfl (j := 2) rfl ?_
    refine g_if_ge X dX8_goes_10 (tgt := 16) (by decide) (fun q7 => ?_) (fun q7 => ?_)
    · skip
      have q7t : (0 : Int32).toInt ≤ p1.toInt := Int32.le_iff_toInt_le.mp q7
      have q7k : (0 : Int32).toInt = 0 := (by decide)
      have q7b := Int32.toInt_lt p1
      obtain ⟨n8, hn8, rfl⟩ := nI_of (x := p1) (fun z => by have z2 := Int32.lt_iff_toInt_lt.mp z; have z3 : (0 : Int32).toInt = 0 := (by decide); omega)
      rw [nI_toInt (by omega)] at q7t
      have tn8 := nI_toInt (n := n8) (by omega)
      refine g_iload_n X dX8_goes_16 rfl (j := 2) rfl ?_
      refine g_aload_n X dX8_goes_17 rfl (j := 0) rfl ?_
      refine g_iload_n X dX8_goes_18 rfl (j := 1) rfl ?_
      refine g_callVI X (s_X8_roadMany l G F I n6 (by omega) (by omega) ) lk_X8_245 (F.1 100 rfl).2 (F.1 100 rfl).1 rfl rfl dX8_goes_19 (Nat.le_of_ble_eq_true rfl) ⟨by decide, by decide⟩ ⟨by decide, by decide⟩ (fun r9 L M hp => ?_)
      obtain ⟨C, D, F, I, K1, hr⟩ := hp
      have K := K.step K1 (by decide)
      obtain ⟨n10, hn10, en10, rfl⟩ := hr
      have fn10 : C0 101 (14 + 6 * n6) = nI n10 := (congrFun (K 101 (by decide)).1 _).symm.trans en10
      refine g_icmp_ge X dX8_goes_22 (tgt := 34) (by decide) (fun q11 => ?_) (fun q11 => ?_)
      · skip
        have q11 : n10 ≤ n8 := (nI_leI (a := n10) (b := n8) (by omega) (by omega)).mp q11
        refine g_iconst X dX8_goes_34 (v := -1) (by decide) ?_
        exact g_iret X hrt dX8_goes_35 (by decide) (by decide) ⟨C, D, F, I, K, trivial⟩
      · skip
        have q11 : ¬ n10 ≤ n8 := fun z => q11 ((nI_leI (a := n10) (b := n8) (by omega) (by omega)).mpr z)
        refine g_aload_n X dX8_goes_25 rfl (j := 0) rfl ?_
        refine g_iload_n X dX8_goes_26 rfl (j := 1) rfl ?_
        refine g_iload_n X dX8_goes_27 rfl (j := 2) rfl ?_
        refine g_callVI X (s_X8_roadTo l G F I n6 (by omega) (by omega) n8 (by omega) (by omega) ) lk_X8_248 (F.1 100 rfl).2 (F.1 100 rfl).1 rfl rfl dX8_goes_28 (Nat.le_of_ble_eq_true rfl) ⟨by decide, by decide⟩ ⟨by decide, by decide⟩ (fun r12 L M hp => ?_)
        obtain ⟨C, D, F, I, K1, hr⟩ := hp
        have K := K.step K1 (by decide)
        obtain ⟨n13, hn13, rfl⟩ := hr
        refine g_goto X dX8_goes_31 (tgt := 35) (by decide) ?_
        exact g_iret X hrt dX8_goes_35 (by decide) (by decide) ⟨C, D, F, I, K, trivial⟩
    · skip
      have q7t : ¬ (0 : Int32).toInt ≤ p1.toInt := fun z => q7 (Int32.le_iff_toInt_le.mpr z)
      have q7k : (0 : Int32).toInt = 0 := (by decide)
      have q7b := Int32.toInt_lt p1
      refine g_bipush X dX8_goes_13 (v := -2) (by decide) ?_
      exact g_iret X hrt dX8_goes_15 (by decide) (by decide) ⟨C, D, F, I, K, trivial⟩
set_option maxHeartbeats 4000000 in
set_option maxRecDepth 100000 in
theorem s_X8_told (l : Launch) (G : va_G) {cy : Nat → ClassId} {L : List Nat} {M : Nat → va_E} {a : Nat → Nat} {act : Nat → Bool} {C0 : Nat → Nat → Int32} {D0 : Nat → Nat → Int64} {R : Nat → Nat → Option Nat} (F : WI L M a act (ent cy a C0 D0 R)) (I : Inv C0) (p0 : Int32)  : MI l G cy yX8_told cX8_told 2 (some .int) 2 0 0 [.ref (a 100), .int p0] L M (fun r L2 M2 => ∃ C2 D2, WI L2 M2 a act (ent cy a C2 D2 R) ∧ Inv C2 ∧ Kp [] C0 D0 C2 D2 ∧ True) := by
  refine MI.of (own := RX8) rfl (by decide) (Nat.le_of_ble_eq_true rfl) ?_
  intro p e s m below meth c A X hrt hnm
  obtain ⟨C, D, hC0, hD0, F, I, K⟩ : ∃ C D, C = C0 ∧ D = D0 ∧ WI L M a act (ent cy a C D R) ∧ Inv C ∧ Kp [] C0 D0 C D := ⟨C0, D0, rfl, rfl, F, I, Kp.rf⟩
  obtain ⟨n1, hn1, en1⟩ := rg_nat ((show okw 0 (C 101 0) from I 101 0).1 rfl) (by decide)
  rw [hC0] at en1
  obtain ⟨n2, hn2, en2⟩ := rg_nat ((show okw 4 (C 101 4) from I 101 4).2.2.2.1 rfl) (by decide)
  rw [hC0] at en2
  obtain ⟨n3, hn3, en3⟩ := rg_nat ((show okw 7 (C 101 7) from I 101 7).2.2.2.2.1 rfl) (by decide)
  rw [hC0] at en3
  refine g_aload_n X dX8_told_0 rfl (j := 0) rfl ?_
  refine g_iload_n X dX8_told_1 rfl (j := 1) rfl ?_
  refine g_i2l X dX8_told_2 rfl ?_
  refine g_callVI X (s_X8_isPost l G F I ((Int32.toInt64 p0)) ) lk_X8_112 (F.1 100 rfl).2 (F.1 100 rfl).1 rfl rfl dX8_told_3 (Nat.le_of_ble_eq_true rfl) ⟨by decide, by decide⟩ ⟨by decide, by decide⟩ (fun r4 L M hp => ?_)
  obtain ⟨C, D, F, I, K1, hr⟩ := hp
  have K := K.step K1 (by decide)
  rcases hr with rfl | ⟨rfl, hl5a, hl5b⟩
  · skip
    refine g_if_ne X dX8_told_6 (tgt := 14) (by decide) (fun q => absurd (by decide) q) (fun _ => ?_)
    refine g_bipush X dX8_told_9 (v := -2) (by decide) ?_
    refine g_goto X dX8_told_11 (tgt := 31) (by decide) ?_
    exact g_iret X hrt dX8_told_31 (by decide) (by decide) ⟨C, D, F, I, K, trivial⟩
  · skip
    rw [Jvm.Kit.i64_of_i32] at hl5a hl5b
    obtain ⟨n6, hn6a, hn6b, en6⟩ := nI_ofInt (x := p0) (lo := 0) (hi := 6) (by omega) (by omega) (by decide)
    subst en6
    refine g_if_ne X dX8_told_6 (tgt := 14) (by decide) (fun _ => ?_) (fun q => absurd q (by decide))
    refine g_aload_n X dX8_told_14 rfl (j := 0) rfl ?_
    refine g_iload_n X dX8_told_15 rfl (j := 1) rfl ?_
    refine g_callVI X (s_X8_roadMany l G F I n6 (by omega) (by omega) ) lk_X8_245 (F.1 100 rfl).2 (F.1 100 rfl).1 rfl rfl dX8_told_16 (Nat.le_of_ble_eq_true rfl) ⟨by decide, by decide⟩ ⟨by decide, by decide⟩ (fun r7 L M hp => ?_)
    obtain ⟨C, D, F, I, K1, hr⟩ := hp
    have K := K.step K1 (by decide)
    obtain ⟨n8, hn8, en8, rfl⟩ := hr
    have fn8 : C0 101 (14 + 6 * n6) = nI n8 := (congrFun (K 101 (by decide)).1 _).symm.trans en8
    refine g_if_ne X dX8_told_19 (tgt := 26) (by decide) (fun q9 => ?_) (fun q9 => ?_)
    · skip
      have q9 : ¬ n8 = 0 := fun z => q9 ((nI_eq (a := n8) (b := 0) (by omega) (by omega)).mpr z)
      refine g_aload_n X dX8_told_26 rfl (j := 0) rfl ?_
      refine g_iload_n X dX8_told_27 rfl (j := 1) rfl ?_
      refine g_callVI X (s_X8_armOf l G F I n6 (by omega) (by omega) ) lk_X8_251 (F.1 100 rfl).2 (F.1 100 rfl).1 rfl rfl dX8_told_28 (Nat.le_of_ble_eq_true rfl) ⟨by decide, by decide⟩ ⟨by decide, by decide⟩ (fun r10 L M hp => ?_)
      obtain ⟨C, D, F, I, K1, hr⟩ := hp
      have K := K.step K1 (by decide)
      obtain ⟨n11, hn11a, hn11b, rfl⟩ := hr
      exact g_iret X hrt dX8_told_31 (by decide) (by decide) ⟨C, D, F, I, K, trivial⟩
    · skip
      have q9 : n8 = 0 := (nI_eq (a := n8) (b := 0) (by omega) (by omega)).mp q9
      refine g_iconst X dX8_told_22 (v := -1) (by decide) ?_
      refine g_goto X dX8_told_23 (tgt := 31) (by decide) ?_
      exact g_iret X hrt dX8_told_31 (by decide) (by decide) ⟨C, D, F, I, K, trivial⟩
set_option maxHeartbeats 4000000 in
set_option maxRecDepth 100000 in
theorem s_X8_walker (l : Launch) (G : va_G) {cy : Nat → ClassId} {L : List Nat} {M : Nat → va_E} {a : Nat → Nat} {act : Nat → Bool} {C0 : Nat → Nat → Int32} {D0 : Nat → Nat → Int64} {R : Nat → Nat → Option Nat} (F : WI L M a act (ent cy a C0 D0 R)) (I : Inv C0) (p0 : Int32) (p1 : Int32)  : MI l G cy yX8_walker cX8_walker 3 (some .int) 2 0 0 [.ref (a 100), .int p0, .int p1] L M (fun r L2 M2 => ∃ C2 D2, WI L2 M2 a act (ent cy a C2 D2 R) ∧ Inv C2 ∧ Kp [] C0 D0 C2 D2 ∧ True) := by
  refine MI.of (own := RX8) rfl (by decide) (Nat.le_of_ble_eq_true rfl) ?_
  intro p e s m below meth c A X hrt hnm
  obtain ⟨C, D, hC0, hD0, F, I, K⟩ : ∃ C D, C = C0 ∧ D = D0 ∧ WI L M a act (ent cy a C D R) ∧ Inv C ∧ Kp [] C0 D0 C D := ⟨C0, D0, rfl, rfl, F, I, Kp.rf⟩
  obtain ⟨n1, hn1, en1⟩ := rg_nat ((show okw 0 (C 101 0) from I 101 0).1 rfl) (by decide)
  rw [hC0] at en1
  obtain ⟨n2, hn2, en2⟩ := rg_nat ((show okw 4 (C 101 4) from I 101 4).2.2.2.1 rfl) (by decide)
  rw [hC0] at en2
  obtain ⟨n3, hn3, en3⟩ := rg_nat ((show okw 7 (C 101 7) from I 101 7).2.2.2.2.1 rfl) (by decide)
  rw [hC0] at en3
  refine g_aload_n X dX8_walker_0 rfl (j := 0) rfl ?_
  refine g_iload_n X dX8_walker_1 rfl (j := 1) rfl ?_
  refine g_i2l X dX8_walker_2 rfl ?_
  refine g_callVI X (s_X8_isWalker l G F I ((Int32.toInt64 p0)) ) lk_X8_254 (F.1 100 rfl).2 (F.1 100 rfl).1 rfl rfl dX8_walker_3 (Nat.le_of_ble_eq_true rfl) ⟨by decide, by decide⟩ ⟨by decide, by decide⟩ (fun r4 L M hp => ?_)
  obtain ⟨C, D, F, I, K1, hr⟩ := hp
  have K := K.step K1 (by decide)
  rcases hr with rfl | ⟨rfl, hl5a, hl5b⟩
  · skip
    refine g_if_eq X dX8_walker_6 (tgt := 35) (by decide) (fun _ => ?_) (fun q => absurd (by decide) q)
    refine g_bipush X dX8_walker_35 (v := -2) (by decide) ?_
    exact g_iret X hrt dX8_walker_37 (by decide) (by decide) ⟨C, D, F, I, K, trivial⟩
  · skip
    rw [Jvm.Kit.i64_of_i32] at hl5a hl5b
    obtain ⟨n6, hn6a, hn6b, en6⟩ := nI_ofInt (x := p0) (lo := 0) (hi := 7) (by omega) (by omega) (by decide)
    subst en6
    refine g_if_eq X dX8_walker_6 (tgt := 35) (by decide) (fun q => absurd q (by decide)) (fun _ => ?_)
    refine g_iload_n X dX8_walker_9 rfl (j := 2) rfl ?_
    refine g_i2l X dX8_walker_10 rfl ?_
    refine g_lconst X dX8_walker_11 (v := 0) (by decide) ?_
    refine g_lconst X dX8_walker_12 (v := 1) (by decide) ?_
    refine g_callSI X (s_X8_in l G F I ((Int32.toInt64 p1)) (0 : Int64) (1 : Int64) ) lk_X8_94 rfl rfl dX8_walker_13 (Nat.le_of_ble_eq_true rfl) ⟨by decide, by decide⟩ ⟨by decide, by decide⟩ (fun r7 L M hp => ?_)
    obtain ⟨C, D, F, I, K1, hr⟩ := hp
    have K := K.step K1 (by decide)
    rcases hr with ⟨rfl, hq8⟩ | ⟨rfl, hq8⟩
    · skip
      have hq8x := Jvm.Kit.i64_of_i32 p1
      have hq8l : (0 : Int64).toInt = 0 := (by decide)
      have hq8h : (1 : Int64).toInt = 1 := (by decide)
      refine g_if_eq X dX8_walker_16 (tgt := 35) (by decide) (fun _ => ?_) (fun q => absurd (by decide) q)
      refine g_bipush X dX8_walker_35 (v := -2) (by decide) ?_
      exact g_iret X hrt dX8_walker_37 (by decide) (by decide) ⟨C, D, F, I, K, trivial⟩
    · skip
      have hq8x := Jvm.Kit.i64_of_i32 p1
      have hq8l : (0 : Int64).toInt = 0 := (by decide)
      have hq8h : (1 : Int64).toInt = 1 := (by decide)
      obtain ⟨n9, hn9a, hn9b, en9⟩ := nI_ofInt (x := p1) (lo := 0) (hi := 1) (by omega) (by omega) (by decide)
      subst en9
      have tn9 := nI_toInt (n := n9) (by omega)
      refine g_if_eq X dX8_walker_16 (tgt := 35) (by decide) (fun q => absurd q (by decide)) (fun _ => ?_)
      refine g_aload_n X dX8_walker_19 rfl (j := 0) rfl ?_
      refine i_get X F 100 rfl rfl fk_X8_9 dX8_walker_20 rfl ?_
      refine g_bipush X dX8_walker_23 (v := 56) (by decide) ?_
      refine g_iconst X dX8_walker_25 (v := 2) (by decide) ?_
      refine g_iload_n X dX8_walker_26 rfl (j := 1) rfl ?_
      refine g_imul X dX8_walker_27 ?_
      refine Go.top (v := .int (nI (2 * n6))) (congrArg Value.int (pk_mul 2 n6)) ?_
      refine g_iadd X dX8_walker_28 ?_
      refine Go.top (v := .int (nI (56 + (2 * n6)))) (congrArg Value.int (nI_add 56 (2 * n6))) ?_
      refine g_iload_n X dX8_walker_29 rfl (j := 2) rfl ?_
      refine g_iadd X dX8_walker_30 ?_
      refine Go.top (v := .int (nI ((56 + (2 * n6)) + n9))) (congrArg Value.int (nI_add (56 + (2 * n6)) n9)) ?_
      refine i_iald X F 101 rfl rfl dX8_walker_31 (vp_in_nI (by omega) (by decide)) rfl ?_
      refine Go.gen (fun o10 => ?_)
      refine g_goto X dX8_walker_32 (tgt := 37) (by decide) ?_
      exact g_iret X hrt dX8_walker_37 (by decide) (by decide) ⟨C, D, F, I, K, trivial⟩
set_option maxHeartbeats 4000000 in
set_option maxRecDepth 100000 in
theorem s_X8_doors (l : Launch) (G : va_G) {cy : Nat → ClassId} {L : List Nat} {M : Nat → va_E} {a : Nat → Nat} {act : Nat → Bool} {C0 : Nat → Nat → Int32} {D0 : Nat → Nat → Int64} {R : Nat → Nat → Option Nat} (F : WI L M a act (ent cy a C0 D0 R)) (I : Inv C0) (p0 : Int32)  : MI l G cy yX8_doors cX8_doors 4 (some .int) 2 0 0 [.ref (a 100), .int p0] L M (fun r L2 M2 => ∃ C2 D2, WI L2 M2 a act (ent cy a C2 D2 R) ∧ Inv C2 ∧ Kp [] C0 D0 C2 D2 ∧ True) := by
  refine MI.of (own := RX8) rfl (by decide) (Nat.le_of_ble_eq_true rfl) ?_
  intro p e s m below meth c A X hrt hnm
  obtain ⟨C, D, hC0, hD0, F, I, K⟩ : ∃ C D, C = C0 ∧ D = D0 ∧ WI L M a act (ent cy a C D R) ∧ Inv C ∧ Kp [] C0 D0 C D := ⟨C0, D0, rfl, rfl, F, I, Kp.rf⟩
  obtain ⟨n1, hn1, en1⟩ := rg_nat ((show okw 0 (C 101 0) from I 101 0).1 rfl) (by decide)
  rw [hC0] at en1
  obtain ⟨n2, hn2, en2⟩ := rg_nat ((show okw 4 (C 101 4) from I 101 4).2.2.2.1 rfl) (by decide)
  rw [hC0] at en2
  obtain ⟨n3, hn3, en3⟩ := rg_nat ((show okw 7 (C 101 7) from I 101 7).2.2.2.2.1 rfl) (by decide)
  rw [hC0] at en3
  refine g_aload_n X dX8_doors_0 rfl (j := 0) rfl ?_
  refine g_iload_n X dX8_doors_1 rfl (j := 1) rfl ?_
  refine g_i2l X dX8_doors_2 rfl ?_
  refine g_callVI X (s_X8_isPost l G F I ((Int32.toInt64 p0)) ) lk_X8_112 (F.1 100 rfl).2 (F.1 100 rfl).1 rfl rfl dX8_doors_3 (Nat.le_of_ble_eq_true rfl) ⟨by decide, by decide⟩ ⟨by decide, by decide⟩ (fun r4 L M hp => ?_)
  obtain ⟨C, D, F, I, K1, hr⟩ := hp
  have K := K.step K1 (by decide)
  rcases hr with rfl | ⟨rfl, hl5a, hl5b⟩
  · skip
    refine g_if_ne X dX8_doors_6 (tgt := 12) (by decide) (fun q => absurd (by decide) q) (fun _ => ?_)
    refine g_bipush X dX8_doors_9 (v := -2) (by decide) ?_
    exact g_iret X hrt dX8_doors_11 (by decide) (by decide) ⟨C, D, F, I, K, trivial⟩
  · skip
    rw [Jvm.Kit.i64_of_i32] at hl5a hl5b
    obtain ⟨n6, hn6a, hn6b, en6⟩ := nI_ofInt (x := p0) (lo := 0) (hi := 6) (by omega) (by omega) (by decide)
    subst en6
    refine g_if_ne X dX8_doors_6 (tgt := 12) (by decide) (fun _ => ?_) (fun q => absurd q (by decide))
    refine g_iconst X dX8_doors_12 (v := 0) (by decide) ?_
    refine g_istore_n X dX8_doors_13 rfl (by decide) (lv2 := [(2, .int 0), (0, .ref (a 100)), (1, .int (nI n6))]) rfl ?_
    refine g_iconst X dX8_doors_14 (v := 0) (by decide) ?_
    refine g_istore_n X dX8_doors_15 rfl (by decide) (lv2 := [(3, .int 0), (2, .int 0), (0, .ref (a 100)), (1, .int (nI n6))]) rfl ?_
    refine g_lv [0, 1, 2, 3] (lv2 := [(3, .int 0), (2, .int 0), (0, .ref (a 100)), (1, .int (nI n6))]) rfl ?_
    refine i_loop (mods := []) (fun x : Nat × Int32 => 4 - x.1) (fun x => [(3, .int (nI (x.1))), (2, .int (x.2)), (0, .ref (a 100)), (1, .int (nI n6))]) (fun x C => 0 ≤ x.1 ∧ x.1 ≤ 4) (fun x L M C D F I K hP ih16 => ?_) ((0, 0) : Nat × Int32) F I K ⟨by show _ ≤ _; omega, by show _ ≤ _; omega⟩
    rcases x with ⟨i16_3, v16_2⟩
    obtain ⟨hi16_3a, hi16_3b⟩ := hP
    refine g_lv [0, 1, 2, 3] (lv2 := [(3, .int (nI i16_3)), (2, .int v16_2), (0, .ref (a 100)), (1, .int (nI n6))]) rfl ?_
    refine g_iload_n X dX8_doors_16 rfl (j := 0) rfl ?_
    refine g_aload_n X dX8_doors_17 rfl (j := 2) rfl ?_
    refine g_iload_n X dX8_doors_18 rfl (j := 3) rfl ?_
    refine g_callVI X (s_X8_roadMany l G F I n6 (by omega) (by omega) ) lk_X8_245 (F.1 100 rfl).2 (F.1 100 rfl).1 rfl rfl dX8_doors_19 (Nat.le_of_ble_eq_true rfl) ⟨by decide, by decide⟩ ⟨by decide, by decide⟩ (fun r7 L M hp => ?_)
    obtain ⟨C, D, F, I, K1, hr⟩ := hp
    have K := K.step K1 (by decide)
    obtain ⟨n8, hn8, en8, rfl⟩ := hr
    have fn8 : C0 101 (14 + 6 * n6) = nI n8 := (congrFun (K 101 (by decide)).1 _).symm.trans en8
    refine g_icmp_ge X dX8_doors_22 (tgt := 60) (by decide) (fun q9 => ?_) (fun q9 => ?_)
    · skip
      have q9 : n8 ≤ i16_3 := (nI_leI (a := n8) (b := i16_3) (by omega) (by omega)).mp q9
      refine g_iload_n X dX8_doors_60 rfl (j := 1) rfl ?_
      exact g_iret X hrt dX8_doors_61 (by decide) (by decide) ⟨C, D, F, I, K, trivial⟩
    · skip
      have q9 : ¬ n8 ≤ i16_3 := fun z => q9 ((nI_leI (a := n8) (b := i16_3) (by omega) (by omega)).mpr z)
      refine g_iload_n X dX8_doors_25 rfl (j := 1) rfl ?_
      refine g_aload_n X dX8_doors_26 rfl (j := 2) rfl ?_
      refine g_iload_n X dX8_doors_27 rfl (j := 3) rfl ?_
      refine g_iload_n X dX8_doors_28 rfl (j := 0) rfl ?_
      refine g_callVI X (s_X8_roadTo l G F I n6 (by omega) (by omega) i16_3 (by omega) (by omega) ) lk_X8_248 (F.1 100 rfl).2 (F.1 100 rfl).1 rfl rfl dX8_doors_29 (Nat.le_of_ble_eq_true rfl) ⟨by decide, by decide⟩ ⟨by decide, by decide⟩ (fun r10 L M hp => ?_)
      obtain ⟨C, D, F, I, K1, hr⟩ := hp
      have K := K.step K1 (by decide)
      obtain ⟨n11, hn11, rfl⟩ := hr
      refine g_bipush X dX8_doors_32 (v := 10) (by decide) ?_
      refine g_icmp_ge X dX8_doors_34 (tgt := 41) (by decide) (fun q12 => ?_) (fun q12 => ?_)
      · skip
        have q12 : 10 ≤ n11 := (nI_leI (a := 10) (b := n11) (by omega) (by omega)).mp q12
        refine g_iconst X dX8_doors_41 (v := 1) (by decide) ?_
        refine g_aload_n X dX8_doors_42 rfl (j := 2) rfl ?_
        refine g_iload_n X dX8_doors_43 rfl (j := 3) rfl ?_
        refine g_iload_n X dX8_doors_44 rfl (j := 0) rfl ?_
        refine g_callVI X (s_X8_roadTo l G F I n6 (by omega) (by omega) i16_3 (by omega) (by omega) ) lk_X8_248 (F.1 100 rfl).2 (F.1 100 rfl).1 rfl rfl dX8_doors_45 (Nat.le_of_ble_eq_true rfl) ⟨by decide, by decide⟩ ⟨by decide, by decide⟩ (fun r13 L M hp => ?_)
        obtain ⟨C, D, F, I, K1, hr⟩ := hp
        have K := K.step K1 (by decide)
        obtain ⟨n14, hn14, rfl⟩ := hr
        refine g_bipush X dX8_doors_48 (v := 10) (by decide) ?_
        refine g_isub X dX8_doors_50 ?_
        refine Go.gen (fun o15 => ?_)
        refine g_ishl X dX8_doors_51 ?_
        refine Go.gen (fun o16 => ?_)
        refine g_ior X dX8_doors_52 ?_
        refine Go.gen (fun o17 => ?_)
        refine g_istore_n X dX8_doors_53 rfl (by decide) (lv2 := [(2, .int o17), (3, .int (nI i16_3)), (0, .ref (a 100)), (1, .int (nI n6))]) rfl ?_
        refine g_iinc X dX8_doors_54 (j := 1) rfl (v := nI (i16_3 + 1)) (nI_1 i16_3) (by decide) (lv2 := [(3, .int (nI (i16_3 + 1))), (2, .int o17), (0, .ref (a 100)), (1, .int (nI n6))]) rfl ?_
        refine g_goto X dX8_doors_57 (tgt := 16) (by decide) ?_
        refine g_lv [0, 1, 2, 3] (lv2 := [(3, .int (nI (i16_3 + 1))), (2, .int o17), (0, .ref (a 100)), (1, .int (nI n6))]) rfl ?_
        exact ih16 ((i16_3 + 1), o17) L M C D F I K ⟨by omega, by omega⟩ (by show _ < _; omega)
      · skip
        have q12 : ¬ 10 ≤ n11 := fun z => q12 ((nI_leI (a := 10) (b := n11) (by omega) (by omega)).mpr z)
        refine g_iconst X dX8_doors_37 (v := 0) (by decide) ?_
        refine g_goto X dX8_doors_38 (tgt := 52) (by decide) ?_
        refine g_ior X dX8_doors_52 ?_
        refine Go.gen (fun o18 => ?_)
        refine g_istore_n X dX8_doors_53 rfl (by decide) (lv2 := [(2, .int o18), (3, .int (nI i16_3)), (0, .ref (a 100)), (1, .int (nI n6))]) rfl ?_
        refine g_iinc X dX8_doors_54 (j := 1) rfl (v := nI (i16_3 + 1)) (nI_1 i16_3) (by decide) (lv2 := [(3, .int (nI (i16_3 + 1))), (2, .int o18), (0, .ref (a 100)), (1, .int (nI n6))]) rfl ?_
        refine g_goto X dX8_doors_57 (tgt := 16) (by decide) ?_
        refine g_lv [0, 1, 2, 3] (lv2 := [(3, .int (nI (i16_3 + 1))), (2, .int o18), (0, .ref (a 100)), (1, .int (nI n6))]) rfl ?_
        exact ih16 ((i16_3 + 1), o18) L M C D F I K ⟨by omega, by omega⟩ (by show _ < _; omega)
set_option maxHeartbeats 4000000 in
set_option maxRecDepth 100000 in
theorem s_X8_armless (l : Launch) (G : va_G) {cy : Nat → ClassId} {L : List Nat} {M : Nat → va_E} {a : Nat → Nat} {act : Nat → Bool} {C0 : Nat → Nat → Int32} {D0 : Nat → Nat → Int64} {R : Nat → Nat → Option Nat} (F : WI L M a act (ent cy a C0 D0 R)) (I : Inv C0)   : MI l G cy yX8_armless cX8_armless 3 (some .int) 1 0 0 [.ref (a 100)] L M (fun r L2 M2 => ∃ C2 D2, WI L2 M2 a act (ent cy a C2 D2 R) ∧ Inv C2 ∧ Kp [] C0 D0 C2 D2 ∧ True) := by
  refine MI.of (own := RX8) rfl (by decide) (Nat.le_of_ble_eq_true rfl) ?_
  intro p e s m below meth c A X hrt hnm
  obtain ⟨C, D, hC0, hD0, F, I, K⟩ : ∃ C D, C = C0 ∧ D = D0 ∧ WI L M a act (ent cy a C D R) ∧ Inv C ∧ Kp [] C0 D0 C D := ⟨C0, D0, rfl, rfl, F, I, Kp.rf⟩
  obtain ⟨n1, hn1, en1⟩ := rg_nat ((show okw 0 (C 101 0) from I 101 0).1 rfl) (by decide)
  rw [hC0] at en1
  obtain ⟨n2, hn2, en2⟩ := rg_nat ((show okw 4 (C 101 4) from I 101 4).2.2.2.1 rfl) (by decide)
  rw [hC0] at en2
  obtain ⟨n3, hn3, en3⟩ := rg_nat ((show okw 7 (C 101 7) from I 101 7).2.2.2.2.1 rfl) (by decide)
  rw [hC0] at en3
  refine g_aload_n X dX8_armless_0 rfl (j := 0) rfl ?_
  refine g_callVI X (s_X8_isHeath l G F I  ) lk_X8_102 (F.1 100 rfl).2 (F.1 100 rfl).1 rfl rfl dX8_armless_1 (Nat.le_of_ble_eq_true rfl) ⟨by decide, by decide⟩ ⟨by decide, by decide⟩ (fun r4 L M hp => ?_)
  obtain ⟨C, D, F, I, K1, hr⟩ := hp
  have K := K.step K1 (by decide)
  rcases hr with rfl | rfl
  · skip
    refine g_if_ne X dX8_armless_4 (tgt := 10) (by decide) (fun q => absurd (by decide) q) (fun _ => ?_)
    refine g_bipush X dX8_armless_7 (v := -2) (by decide) ?_
    exact g_iret X hrt dX8_armless_9 (by decide) (by decide) ⟨C, D, F, I, K, trivial⟩
  · skip
    refine g_if_ne X dX8_armless_4 (tgt := 10) (by decide) (fun _ => ?_) (fun q => absurd q (by decide))
    refine g_iconst X dX8_armless_10 (v := 0) (by decide) ?_
    refine g_istore_n X dX8_armless_11 rfl (by decide) (lv2 := [(1, .int 0), (0, .ref (a 100))]) rfl ?_
    refine g_iconst X dX8_armless_12 (v := 0) (by decide) ?_
    refine g_istore_n X dX8_armless_13 rfl (by decide) (lv2 := [(2, .int 0), (1, .int 0), (0, .ref (a 100))]) rfl ?_
    refine g_lv [0, 1, 2] (lv2 := [(2, .int 0), (1, .int 0), (0, .ref (a 100))]) rfl ?_
    refine i_loop (mods := []) (fun x : Nat × Int32 => 7 - x.1) (fun x => [(2, .int (nI (x.1))), (1, .int (x.2)), (0, .ref (a 100))]) (fun x C => 0 ≤ x.1 ∧ x.1 ≤ 7) (fun x L M C D F I K hP ih14 => ?_) ((0, 0) : Nat × Int32) F I K ⟨by show _ ≤ _; omega, by show _ ≤ _; omega⟩
    rcases x with ⟨i14_2, v14_1⟩
    obtain ⟨hi14_2a, hi14_2b⟩ := hP
    refine g_lv [0, 1, 2] (lv2 := [(2, .int (nI i14_2)), (1, .int v14_1), (0, .ref (a 100))]) rfl ?_
    refine g_iload_n X dX8_armless_14 rfl (j := 0) rfl ?_
    refine g_aload_n X dX8_armless_15 rfl (j := 2) rfl ?_
    refine g_callVI X (s_X8_posts l G F I  ) lk_X8_98 (F.1 100 rfl).2 (F.1 100 rfl).1 rfl rfl dX8_armless_16 (Nat.le_of_ble_eq_true rfl) ⟨by decide, by decide⟩ ⟨by decide, by decide⟩ (fun r5 L M hp => ?_)
    obtain ⟨C, D, F, I, K1, hr⟩ := hp
    have K := K.step K1 (by decide)
    obtain ⟨n6, hn6, en6, rfl⟩ := hr
    obtain rfl : n2 = n6 := ((nI_eq (by omega) (by omega)).mp (en6.symm.trans ((congrFun (K 101 (by decide)).1 4).trans en2))).symm
    refine g_icmp_ge X dX8_armless_19 (tgt := 46) (by decide) (fun q7 => ?_) (fun q7 => ?_)
    · skip
      have q7 : n2 ≤ i14_2 := (nI_leI (a := n2) (b := i14_2) (by omega) (by omega)).mp q7
      refine g_iload_n X dX8_armless_46 rfl (j := 1) rfl ?_
      exact g_iret X hrt dX8_armless_47 (by decide) (by decide) ⟨C, D, F, I, K, trivial⟩
    · skip
      have q7 : ¬ n2 ≤ i14_2 := fun z => q7 ((nI_leI (a := n2) (b := i14_2) (by omega) (by omega)).mpr z)
      refine g_iload_n X dX8_armless_22 rfl (j := 1) rfl ?_
      refine g_aload_n X dX8_armless_23 rfl (j := 2) rfl ?_
      refine g_iload_n X dX8_armless_24 rfl (j := 0) rfl ?_
      refine g_callVI X (s_X8_roadMany l G F I i14_2 (by omega) (by omega) ) lk_X8_245 (F.1 100 rfl).2 (F.1 100 rfl).1 rfl rfl dX8_armless_25 (Nat.le_of_ble_eq_true rfl) ⟨by decide, by decide⟩ ⟨by decide, by decide⟩ (fun r8 L M hp => ?_)
      obtain ⟨C, D, F, I, K1, hr⟩ := hp
      have K := K.step K1 (by decide)
      obtain ⟨n9, hn9, en9, rfl⟩ := hr
      have fn9 : C0 101 (14 + 6 * i14_2) = nI n9 := (congrFun (K 101 (by decide)).1 _).symm.trans en9
      refine g_if_ne X dX8_armless_28 (tgt := 37) (by decide) (fun q10 => ?_) (fun q10 => ?_)
      · skip
        have q10 : ¬ n9 = 0 := fun z => q10 ((nI_eq (a := n9) (b := 0) (by omega) (by omega)).mpr z)
        refine g_iconst X dX8_armless_37 (v := 0) (by decide) ?_
        refine g_ior X dX8_armless_38 ?_
        refine Go.gen (fun o11 => ?_)
        refine g_istore_n X dX8_armless_39 rfl (by decide) (lv2 := [(1, .int o11), (2, .int (nI i14_2)), (0, .ref (a 100))]) rfl ?_
        refine g_iinc X dX8_armless_40 (j := 1) rfl (v := nI (i14_2 + 1)) (nI_1 i14_2) (by decide) (lv2 := [(2, .int (nI (i14_2 + 1))), (1, .int o11), (0, .ref (a 100))]) rfl ?_
        refine g_goto X dX8_armless_43 (tgt := 14) (by decide) ?_
        refine g_lv [0, 1, 2] (lv2 := [(2, .int (nI (i14_2 + 1))), (1, .int o11), (0, .ref (a 100))]) rfl ?_
        exact ih14 ((i14_2 + 1), o11) L M C D F I K ⟨by omega, by omega⟩ (by show _ < _; omega)
      · skip
        have q10 : n9 = 0 := (nI_eq (a := n9) (b := 0) (by omega) (by omega)).mp q10
        refine g_iconst X dX8_armless_31 (v := 1) (by decide) ?_
        refine g_iload_n X dX8_armless_32 rfl (j := 0) rfl ?_
        refine g_ishl X dX8_armless_33 ?_
        refine Go.gen (fun o12 => ?_)
        refine g_goto X dX8_armless_34 (tgt := 38) (by decide) ?_
        refine g_ior X dX8_armless_38 ?_
        refine Go.gen (fun o13 => ?_)
        refine g_istore_n X dX8_armless_39 rfl (by decide) (lv2 := [(1, .int o13), (2, .int (nI i14_2)), (0, .ref (a 100))]) rfl ?_
        refine g_iinc X dX8_armless_40 (j := 1) rfl (v := nI (i14_2 + 1)) (nI_1 i14_2) (by decide) (lv2 := [(2, .int (nI (i14_2 + 1))), (1, .int o13), (0, .ref (a 100))]) rfl ?_
        refine g_goto X dX8_armless_43 (tgt := 14) (by decide) ?_
        refine g_lv [0, 1, 2] (lv2 := [(2, .int (nI (i14_2 + 1))), (1, .int o13), (0, .ref (a 100))]) rfl ?_
        exact ih14 ((i14_2 + 1), o13) L M C D F I K ⟨by omega, by omega⟩ (by show _ < _; omega)
set_option maxHeartbeats 4000000 in
set_option maxRecDepth 100000 in
theorem s_X8_hereOf (l : Launch) (G : va_G) {cy : Nat → ClassId} {L : List Nat} {M : Nat → va_E} {a : Nat → Nat} {act : Nat → Bool} {C0 : Nat → Nat → Int32} {D0 : Nat → Nat → Int64} {R : Nat → Nat → Option Nat} (F : WI L M a act (ent cy a C0 D0 R)) (I : Inv C0) (p0 : Int32) (p1 : Nat) (hp1a : 0 ≤ p1) (hp1b : p1 ≤ 16)  : MI l G cy yX8_hereOf cX8_hereOf 5 (some .int) 1 0 0 [.ref (a 100), .int p0, .int (nI p1)] L M (fun r L2 M2 => ∃ C2 D2, WI L2 M2 a act (ent cy a C2 D2 R) ∧ Inv C2 ∧ Kp [] C0 D0 C2 D2 ∧ True) := by
  refine MI.of (own := RX8) rfl (by decide) (Nat.le_of_ble_eq_true rfl) ?_
  intro p e s m below meth c A X hrt hnm
  obtain ⟨C, D, hC0, hD0, F, I, K⟩ : ∃ C D, C = C0 ∧ D = D0 ∧ WI L M a act (ent cy a C D R) ∧ Inv C ∧ Kp [] C0 D0 C D := ⟨C0, D0, rfl, rfl, F, I, Kp.rf⟩
  obtain ⟨n1, hn1, en1⟩ := rg_nat ((show okw 0 (C 101 0) from I 101 0).1 rfl) (by decide)
  rw [hC0] at en1
  obtain ⟨n2, hn2, en2⟩ := rg_nat ((show okw 4 (C 101 4) from I 101 4).2.2.2.1 rfl) (by decide)
  rw [hC0] at en2
  obtain ⟨n3, hn3, en3⟩ := rg_nat ((show okw 7 (C 101 7) from I 101 7).2.2.2.2.1 rfl) (by decide)
  rw [hC0] at en3
  refine g_iconst X dX8_hereOf_0 (v := 0) (by decide) ?_
  refine g_istore_n X dX8_hereOf_1 rfl (by decide) (lv2 := [(3, .int 0), (0, .ref (a 100)), (1, .int p0), (2, .int (nI p1))]) rfl ?_
  refine g_iconst X dX8_hereOf_2 (v := 0) (by decide) ?_
  refine g_istore X dX8_hereOf_3 (by decide) (lv2 := [(4, .int 0), (3, .int 0), (0, .ref (a 100)), (1, .int p0), (2, .int (nI p1))]) rfl ?_
  refine g_lv [0, 1, 2, 3, 4] (lv2 := [(4, .int 0), (3, .int 0), (0, .ref (a 100)), (1, .int p0), (2, .int (nI p1))]) rfl ?_
  refine i_loop (mods := []) (fun x : Nat × Int32 => 8 - x.1) (fun x => [(4, .int (nI (x.1))), (3, .int (x.2)), (0, .ref (a 100)), (1, .int p0), (2, .int (nI p1))]) (fun x C => 0 ≤ x.1 ∧ x.1 ≤ 8) (fun x L M C D F I K hP ih5 => ?_) ((0, 0) : Nat × Int32) F I K ⟨by show _ ≤ _; omega, by show _ ≤ _; omega⟩
  rcases x with ⟨i5_4, v5_3⟩
  obtain ⟨hi5_4a, hi5_4b⟩ := hP
  refine g_lv [0, 1, 2, 3, 4] (lv2 := [(4, .int (nI i5_4)), (3, .int v5_3), (0, .ref (a 100)), (1, .int p0), (2, .int (nI p1))]) rfl ?_
  refine g_iload X dX8_hereOf_5 (j := 0) rfl ?_
  refine g_aload_n X dX8_hereOf_7 rfl (j := 2) rfl ?_
  refine g_callVI X (s_X8_walkers l G F I  ) lk_X8_109 (F.1 100 rfl).2 (F.1 100 rfl).1 rfl rfl dX8_hereOf_8 (Nat.le_of_ble_eq_true rfl) ⟨by decide, by decide⟩ ⟨by decide, by decide⟩ (fun r4 L M hp => ?_)
  obtain ⟨C, D, F, I, K1, hr⟩ := hp
  have K := K.step K1 (by decide)
  obtain ⟨n5, hn5, en5, rfl⟩ := hr
  obtain rfl : n3 = n5 := ((nI_eq (by omega) (by omega)).mp (en5.symm.trans ((congrFun (K 101 (by decide)).1 7).trans en3))).symm
  refine g_icmp_ge X dX8_hereOf_11 (tgt := 42) (by decide) (fun q6 => ?_) (fun q6 => ?_)
  · skip
    have q6 : n3 ≤ i5_4 := (nI_leI (a := n3) (b := i5_4) (by omega) (by omega)).mp q6
    refine g_iload_n X dX8_hereOf_42 rfl (j := 1) rfl ?_
    exact g_iret X hrt dX8_hereOf_43 (by decide) (by decide) ⟨C, D, F, I, K, trivial⟩
  · skip
    have q6 : ¬ n3 ≤ i5_4 := fun z => q6 ((nI_leI (a := n3) (b := i5_4) (by omega) (by omega)).mpr z)
    refine g_iload_n X dX8_hereOf_14 rfl (j := 1) rfl ?_
    refine g_aload_n X dX8_hereOf_15 rfl (j := 2) rfl ?_
    refine g_iload X dX8_hereOf_16 (j := 0) rfl ?_
    refine g_iload_n X dX8_hereOf_18 rfl (j := 4) rfl ?_
    refine g_callVI X (s_X8_placeOf l G F I i5_4 (by omega) (by omega) p1 (by omega) (by omega) ) lk_X8_298 (F.1 100 rfl).2 (F.1 100 rfl).1 rfl rfl dX8_hereOf_19 (Nat.le_of_ble_eq_true rfl) ⟨by decide, by decide⟩ ⟨by decide, by decide⟩ (fun r7 L M hp => ?_)
    obtain ⟨C, D, F, I, K1, hr⟩ := hp
    have K := K.step K1 (by decide)
    rcases okp_nat hr with rfl | ⟨n8, hn8, rfl⟩
    · skip
      refine g_iload_n X dX8_hereOf_22 rfl (j := 3) rfl ?_
      refine g_icmp_ne X dX8_hereOf_23 (tgt := 33) (by decide) (fun q9 => ?_) (fun q9 => ?_)
      · skip
        refine g_iconst X dX8_hereOf_33 (v := 0) (by decide) ?_
        refine g_ior X dX8_hereOf_34 ?_
        refine Go.gen (fun o10 => ?_)
        refine g_istore_n X dX8_hereOf_35 rfl (by decide) (lv2 := [(3, .int o10), (4, .int (nI i5_4)), (0, .ref (a 100)), (1, .int p0), (2, .int (nI p1))]) rfl ?_
        refine g_iinc X dX8_hereOf_36 (j := 1) rfl (v := nI (i5_4 + 1)) (nI_1 i5_4) (by decide) (lv2 := [(4, .int (nI (i5_4 + 1))), (3, .int o10), (0, .ref (a 100)), (1, .int p0), (2, .int (nI p1))]) rfl ?_
        refine g_goto X dX8_hereOf_39 (tgt := 5) (by decide) ?_
        refine g_lv [0, 1, 2, 3, 4] (lv2 := [(4, .int (nI (i5_4 + 1))), (3, .int o10), (0, .ref (a 100)), (1, .int p0), (2, .int (nI p1))]) rfl ?_
        exact ih5 ((i5_4 + 1), o10) L M C D F I K ⟨by omega, by omega⟩ (by show _ < _; omega)
      · skip
        refine g_iconst X dX8_hereOf_26 (v := 1) (by decide) ?_
        refine g_iload X dX8_hereOf_27 (j := 0) rfl ?_
        refine g_ishl X dX8_hereOf_29 ?_
        refine Go.gen (fun o11 => ?_)
        refine g_goto X dX8_hereOf_30 (tgt := 34) (by decide) ?_
        refine g_ior X dX8_hereOf_34 ?_
        refine Go.gen (fun o12 => ?_)
        refine g_istore_n X dX8_hereOf_35 rfl (by decide) (lv2 := [(3, .int o12), (4, .int (nI i5_4)), (0, .ref (a 100)), (1, .int p0), (2, .int (nI p1))]) rfl ?_
        refine g_iinc X dX8_hereOf_36 (j := 1) rfl (v := nI (i5_4 + 1)) (nI_1 i5_4) (by decide) (lv2 := [(4, .int (nI (i5_4 + 1))), (3, .int o12), (0, .ref (a 100)), (1, .int p0), (2, .int (nI p1))]) rfl ?_
        refine g_goto X dX8_hereOf_39 (tgt := 5) (by decide) ?_
        refine g_lv [0, 1, 2, 3, 4] (lv2 := [(4, .int (nI (i5_4 + 1))), (3, .int o12), (0, .ref (a 100)), (1, .int p0), (2, .int (nI p1))]) rfl ?_
        exact ih5 ((i5_4 + 1), o12) L M C D F I K ⟨by omega, by omega⟩ (by show _ < _; omega)
    · skip
      refine g_iload_n X dX8_hereOf_22 rfl (j := 3) rfl ?_
      refine g_icmp_ne X dX8_hereOf_23 (tgt := 33) (by decide) (fun q13 => ?_) (fun q13 => ?_)
      · skip
        refine g_iconst X dX8_hereOf_33 (v := 0) (by decide) ?_
        refine g_ior X dX8_hereOf_34 ?_
        refine Go.gen (fun o14 => ?_)
        refine g_istore_n X dX8_hereOf_35 rfl (by decide) (lv2 := [(3, .int o14), (4, .int (nI i5_4)), (0, .ref (a 100)), (1, .int p0), (2, .int (nI p1))]) rfl ?_
        refine g_iinc X dX8_hereOf_36 (j := 1) rfl (v := nI (i5_4 + 1)) (nI_1 i5_4) (by decide) (lv2 := [(4, .int (nI (i5_4 + 1))), (3, .int o14), (0, .ref (a 100)), (1, .int p0), (2, .int (nI p1))]) rfl ?_
        refine g_goto X dX8_hereOf_39 (tgt := 5) (by decide) ?_
        refine g_lv [0, 1, 2, 3, 4] (lv2 := [(4, .int (nI (i5_4 + 1))), (3, .int o14), (0, .ref (a 100)), (1, .int p0), (2, .int (nI p1))]) rfl ?_
        exact ih5 ((i5_4 + 1), o14) L M C D F I K ⟨by omega, by omega⟩ (by show _ < _; omega)
      · skip
        refine g_iconst X dX8_hereOf_26 (v := 1) (by decide) ?_
        refine g_iload X dX8_hereOf_27 (j := 0) rfl ?_
        refine g_ishl X dX8_hereOf_29 ?_
        refine Go.gen (fun o15 => ?_)
        refine g_goto X dX8_hereOf_30 (tgt := 34) (by decide) ?_
        refine g_ior X dX8_hereOf_34 ?_
        refine Go.gen (fun o16 => ?_)
        refine g_istore_n X dX8_hereOf_35 rfl (by decide) (lv2 := [(3, .int o16), (4, .int (nI i5_4)), (0, .ref (a 100)), (1, .int p0), (2, .int (nI p1))]) rfl ?_
        refine g_iinc X dX8_hereOf_36 (j := 1) rfl (v := nI (i5_4 + 1)) (nI_1 i5_4) (by decide) (lv2 := [(4, .int (nI (i5_4 + 1))), (3, .int o16), (0, .ref (a 100)), (1, .int p0), (2, .int (nI p1))]) rfl ?_
        refine g_goto X dX8_hereOf_39 (tgt := 5) (by decide) ?_
        refine g_lv [0, 1, 2, 3, 4] (lv2 := [(4, .int (nI (i5_4 + 1))), (3, .int o16), (0, .ref (a 100)), (1, .int p0), (2, .int (nI p1))]) rfl ?_
        exact ih5 ((i5_4 + 1), o16) L M C D F I K ⟨by omega, by omega⟩ (by show _ < _; omega)
set_option maxHeartbeats 4000000 in
set_option maxRecDepth 100000 in
theorem s_X8_at (l : Launch) (G : va_G) {cy : Nat → ClassId} {L : List Nat} {M : Nat → va_E} {a : Nat → Nat} {act : Nat → Bool} {C0 : Nat → Nat → Int32} {D0 : Nat → Nat → Int64} {R : Nat → Nat → Option Nat} (F : WI L M a act (ent cy a C0 D0 R)) (I : Inv C0) (p0 : Int32) (p1 : Int32)  : MI l G cy yX8_at cX8_at 3 (some .int) 8 0 0 [.ref (a 100), .int p0, .int p1] L M (fun r L2 M2 => ∃ C2 D2, WI L2 M2 a act (ent cy a C2 D2 R) ∧ Inv C2 ∧ Kp [100, 115, 116, 120, 121, 122, 123, 124, 125, 126, 127, 128] C0 D0 C2 D2 ∧ True) := by
  refine MI.of (own := RX8) rfl (by decide) (Nat.le_of_ble_eq_true rfl) ?_
  intro p e s m below meth c A X hrt hnm
  obtain ⟨C, D, hC0, hD0, F, I, K⟩ : ∃ C D, C = C0 ∧ D = D0 ∧ WI L M a act (ent cy a C D R) ∧ Inv C ∧ Kp [100, 115, 116, 120, 121, 122, 123, 124, 125, 126, 127, 128] C0 D0 C D := ⟨C0, D0, rfl, rfl, F, I, Kp.rf⟩
  obtain ⟨n1, hn1, en1⟩ := rg_nat ((show okw 0 (C 101 0) from I 101 0).1 rfl) (by decide)
  rw [hC0] at en1
  obtain ⟨n2, hn2, en2⟩ := rg_nat ((show okw 4 (C 101 4) from I 101 4).2.2.2.1 rfl) (by decide)
  rw [hC0] at en2
  obtain ⟨n3, hn3, en3⟩ := rg_nat ((show okw 7 (C 101 7) from I 101 7).2.2.2.2.1 rfl) (by decide)
  rw [hC0] at en3
  refine g_aload_n X dX8_at_0 rfl (j := 0) rfl ?_
  refine g_iload_n X dX8_at_1 rfl (j := 2) rfl ?_
  refine g_callVI X (s_X8_asksHour l G F I p1 ) lk_X8_301 (F.1 100 rfl).2 (F.1 100 rfl).1 rfl rfl dX8_at_2 (Nat.le_of_ble_eq_true rfl) ⟨by decide, by decide⟩ ⟨by decide, by decide⟩ (fun r4 L M hp => ?_)
  obtain ⟨C, D, F, I, K1, hr⟩ := hp
  have K := K.step K1 (by decide)
  rcases hr with rfl | ⟨rfl, n5, hn5, en5⟩
  · skip
    refine g_if_eq X dX8_at_5 (tgt := 26) (by decide) (fun _ => ?_) (fun q => absurd (by decide) q)
    refine g_bipush X dX8_at_26 (v := -2) (by decide) ?_
    exact g_iret X hrt dX8_at_28 (by decide) (by decide) ⟨C, D, F, I, K, trivial⟩
  · skip
    subst en5
    refine g_if_eq X dX8_at_5 (tgt := 26) (by decide) (fun q => absurd q (by decide)) (fun _ => ?_)
    refine g_aload_n X dX8_at_8 rfl (j := 0) rfl ?_
    refine g_iload_n X dX8_at_9 rfl (j := 1) rfl ?_
    refine g_i2l X dX8_at_10 rfl ?_
    refine g_callVI X (s_X8_isWalker l G F I ((Int32.toInt64 p0)) ) lk_X8_254 (F.1 100 rfl).2 (F.1 100 rfl).1 rfl rfl dX8_at_11 (Nat.le_of_ble_eq_true rfl) ⟨by decide, by decide⟩ ⟨by decide, by decide⟩ (fun r6 L M hp => ?_)
    obtain ⟨C, D, F, I, K1, hr⟩ := hp
    have K := K.step K1 (by decide)
    rcases hr with rfl | ⟨rfl, hl7a, hl7b⟩
    · skip
      refine g_if_eq X dX8_at_14 (tgt := 26) (by decide) (fun _ => ?_) (fun q => absurd (by decide) q)
      refine g_bipush X dX8_at_26 (v := -2) (by decide) ?_
      exact g_iret X hrt dX8_at_28 (by decide) (by decide) ⟨C, D, F, I, K, trivial⟩
    · skip
      rw [Jvm.Kit.i64_of_i32] at hl7a hl7b
      obtain ⟨n8, hn8a, hn8b, en8⟩ := nI_ofInt (x := p0) (lo := 0) (hi := 7) (by omega) (by omega) (by decide)
      subst en8
      refine g_if_eq X dX8_at_14 (tgt := 26) (by decide) (fun q => absurd q (by decide)) (fun _ => ?_)
      refine g_aload_n X dX8_at_17 rfl (j := 0) rfl ?_
      refine g_iload_n X dX8_at_18 rfl (j := 1) rfl ?_
      refine g_iload_n X dX8_at_19 rfl (j := 2) rfl ?_
      refine g_callVI X (s_X8_placeOf l G F I n8 (by omega) (by omega) n5 (by omega) (by omega) ) lk_X8_298 (F.1 100 rfl).2 (F.1 100 rfl).1 rfl rfl dX8_at_20 (Nat.le_of_ble_eq_true rfl) ⟨by decide, by decide⟩ ⟨by decide, by decide⟩ (fun r9 L M hp => ?_)
      obtain ⟨C, D, F, I, K1, hr⟩ := hp
      have K := K.step K1 (by decide)
      rcases okp_nat hr with rfl | ⟨n10, hn10, rfl⟩
      · skip
        refine g_goto X dX8_at_23 (tgt := 28) (by decide) ?_
        exact g_iret X hrt dX8_at_28 (by decide) (by decide) ⟨C, D, F, I, K, trivial⟩
      · skip
        refine g_goto X dX8_at_23 (tgt := 28) (by decide) ?_
        exact g_iret X hrt dX8_at_28 (by decide) (by decide) ⟨C, D, F, I, K, trivial⟩
set_option maxHeartbeats 4000000 in
set_option maxRecDepth 100000 in
theorem s_X8_arm (l : Launch) (G : va_G) {cy : Nat → ClassId} {L : List Nat} {M : Nat → va_E} {a : Nat → Nat} {act : Nat → Bool} {C0 : Nat → Nat → Int32} {D0 : Nat → Nat → Int64} {R : Nat → Nat → Option Nat} (F : WI L M a act (ent cy a C0 D0 R)) (I : Inv C0) (p0 : Int32) (p1 : Int32)  : MI l G cy yX8_arm cX8_arm 3 (some .int) 8 0 0 [.ref (a 100), .int p0, .int p1] L M (fun r L2 M2 => ∃ C2 D2, WI L2 M2 a act (ent cy a C2 D2 R) ∧ Inv C2 ∧ Kp [100, 115, 116, 120, 121, 122, 123, 124, 125, 126, 127, 128] C0 D0 C2 D2 ∧ True) := by
  refine MI.of (own := RX8) rfl (by decide) (Nat.le_of_ble_eq_true rfl) ?_
  intro p e s m below meth c A X hrt hnm
  obtain ⟨C, D, hC0, hD0, F, I, K⟩ : ∃ C D, C = C0 ∧ D = D0 ∧ WI L M a act (ent cy a C D R) ∧ Inv C ∧ Kp [100, 115, 116, 120, 121, 122, 123, 124, 125, 126, 127, 128] C0 D0 C D := ⟨C0, D0, rfl, rfl, F, I, Kp.rf⟩
  obtain ⟨n1, hn1, en1⟩ := rg_nat ((show okw 0 (C 101 0) from I 101 0).1 rfl) (by decide)
  rw [hC0] at en1
  obtain ⟨n2, hn2, en2⟩ := rg_nat ((show okw 4 (C 101 4) from I 101 4).2.2.2.1 rfl) (by decide)
  rw [hC0] at en2
  obtain ⟨n3, hn3, en3⟩ := rg_nat ((show okw 7 (C 101 7) from I 101 7).2.2.2.2.1 rfl) (by decide)
  rw [hC0] at en3
  refine g_aload_n X dX8_arm_0 rfl (j := 0) rfl ?_
  refine g_iload_n X dX8_arm_1 rfl (j := 2) rfl ?_
  refine g_callVI X (s_X8_asksHour l G F I p1 ) lk_X8_301 (F.1 100 rfl).2 (F.1 100 rfl).1 rfl rfl dX8_arm_2 (Nat.le_of_ble_eq_true rfl) ⟨by decide, by decide⟩ ⟨by decide, by decide⟩ (fun r4 L M hp => ?_)
  obtain ⟨C, D, F, I, K1, hr⟩ := hp
  have K := K.step K1 (by decide)
  rcases hr with rfl | ⟨rfl, n5, hn5, en5⟩
  · skip
    refine g_if_eq X dX8_arm_5 (tgt := 17) (by decide) (fun _ => ?_) (fun q => absurd (by decide) q)
    refine g_bipush X dX8_arm_17 (v := -2) (by decide) ?_
    exact g_iret X hrt dX8_arm_19 (by decide) (by decide) ⟨C, D, F, I, K, trivial⟩
  · skip
    subst en5
    refine g_if_eq X dX8_arm_5 (tgt := 17) (by decide) (fun q => absurd q (by decide)) (fun _ => ?_)
    refine g_aload_n X dX8_arm_8 rfl (j := 0) rfl ?_
    refine g_iload_n X dX8_arm_9 rfl (j := 1) rfl ?_
    refine g_i2l X dX8_arm_10 rfl ?_
    refine g_callVI X (s_X8_isPost l G F I ((Int32.toInt64 p0)) ) lk_X8_112 (F.1 100 rfl).2 (F.1 100 rfl).1 rfl rfl dX8_arm_11 (Nat.le_of_ble_eq_true rfl) ⟨by decide, by decide⟩ ⟨by decide, by decide⟩ (fun r6 L M hp => ?_)
    obtain ⟨C, D, F, I, K1, hr⟩ := hp
    have K := K.step K1 (by decide)
    rcases hr with rfl | ⟨rfl, hl7a, hl7b⟩
    · skip
      refine g_if_ne X dX8_arm_14 (tgt := 20) (by decide) (fun q => absurd (by decide) q) (fun _ => ?_)
      refine g_bipush X dX8_arm_17 (v := -2) (by decide) ?_
      exact g_iret X hrt dX8_arm_19 (by decide) (by decide) ⟨C, D, F, I, K, trivial⟩
    · skip
      rw [Jvm.Kit.i64_of_i32] at hl7a hl7b
      obtain ⟨n8, hn8a, hn8b, en8⟩ := nI_ofInt (x := p0) (lo := 0) (hi := 6) (by omega) (by omega) (by decide)
      subst en8
      refine g_if_ne X dX8_arm_14 (tgt := 20) (by decide) (fun _ => ?_) (fun q => absurd q (by decide))
      refine g_aload_n X dX8_arm_20 rfl (j := 0) rfl ?_
      refine g_iload_n X dX8_arm_21 rfl (j := 1) rfl ?_
      refine g_callVI X (s_X8_roadMany l G F I n8 (by omega) (by omega) ) lk_X8_245 (F.1 100 rfl).2 (F.1 100 rfl).1 rfl rfl dX8_arm_22 (Nat.le_of_ble_eq_true rfl) ⟨by decide, by decide⟩ ⟨by decide, by decide⟩ (fun r9 L M hp => ?_)
      obtain ⟨C, D, F, I, K1, hr⟩ := hp
      have K := K.step K1 (by decide)
      obtain ⟨n10, hn10, en10, rfl⟩ := hr
      have fn10 : C0 101 (14 + 6 * n8) = nI n10 := (congrFun (K 101 (by decide)).1 _).symm.trans en10
      refine g_if_ne X dX8_arm_25 (tgt := 32) (by decide) (fun q11 => ?_) (fun q11 => ?_)
      · skip
        have q11 : ¬ n10 = 0 := fun z => q11 ((nI_eq (a := n10) (b := 0) (by omega) (by omega)).mpr z)
        refine g_aload_n X dX8_arm_32 rfl (j := 0) rfl ?_
        refine i_get X F 100 rfl rfl fk_X8_49 dX8_arm_33 rfl ?_
        refine g_bipush X dX8_arm_36 (v := 7) (by decide) ?_
        refine g_iload_n X dX8_arm_38 rfl (j := 2) rfl ?_
        refine g_imul X dX8_arm_39 ?_
        refine Go.top (v := .int (nI (7 * n5))) (congrArg Value.int (pk_mul 7 n5)) ?_
        refine g_iload_n X dX8_arm_40 rfl (j := 1) rfl ?_
        refine g_iadd X dX8_arm_41 ?_
        refine Go.top (v := .int (nI ((7 * n5) + n8))) (congrArg Value.int (nI_add (7 * n5) n8)) ?_
        obtain ⟨n12, hn12, en12⟩ := rg_nat (I 123 ((7 * n5) + n8)) (by decide)
        refine i_iald X F 123 rfl rfl dX8_arm_42 (vp_in_nI (by omega) (by decide)) (v := nI n12) (by rw [nI_clamp (by omega)]; exact en12) ?_
        exact g_iret X hrt dX8_arm_43 (by decide) (by decide) ⟨C, D, F, I, K, trivial⟩
      · skip
        have q11 : n10 = 0 := (nI_eq (a := n10) (b := 0) (by omega) (by omega)).mp q11
        refine g_iconst X dX8_arm_28 (v := -1) (by decide) ?_
        refine g_goto X dX8_arm_29 (tgt := 43) (by decide) ?_
        exact g_iret X hrt dX8_arm_43 (by decide) (by decide) ⟨C, D, F, I, K, trivial⟩
set_option maxHeartbeats 4000000 in
set_option maxRecDepth 100000 in
theorem s_X8_here (l : Launch) (G : va_G) {cy : Nat → ClassId} {L : List Nat} {M : Nat → va_E} {a : Nat → Nat} {act : Nat → Bool} {C0 : Nat → Nat → Int32} {D0 : Nat → Nat → Int64} {R : Nat → Nat → Option Nat} (F : WI L M a act (ent cy a C0 D0 R)) (I : Inv C0) (p0 : Int32) (p1 : Int32)  : MI l G cy yX8_here cX8_here 3 (some .int) 8 0 0 [.ref (a 100), .int p0, .int p1] L M (fun r L2 M2 => ∃ C2 D2, WI L2 M2 a act (ent cy a C2 D2 R) ∧ Inv C2 ∧ Kp [100, 115, 116, 120, 121, 122, 123, 124, 125, 126, 127, 128] C0 D0 C2 D2 ∧ True) := by
  refine MI.of (own := RX8) rfl (by decide) (Nat.le_of_ble_eq_true rfl) ?_
  intro p e s m below meth c A X hrt hnm
  obtain ⟨C, D, hC0, hD0, F, I, K⟩ : ∃ C D, C = C0 ∧ D = D0 ∧ WI L M a act (ent cy a C D R) ∧ Inv C ∧ Kp [100, 115, 116, 120, 121, 122, 123, 124, 125, 126, 127, 128] C0 D0 C D := ⟨C0, D0, rfl, rfl, F, I, Kp.rf⟩
  obtain ⟨n1, hn1, en1⟩ := rg_nat ((show okw 0 (C 101 0) from I 101 0).1 rfl) (by decide)
  rw [hC0] at en1
  obtain ⟨n2, hn2, en2⟩ := rg_nat ((show okw 4 (C 101 4) from I 101 4).2.2.2.1 rfl) (by decide)
  rw [hC0] at en2
  obtain ⟨n3, hn3, en3⟩ := rg_nat ((show okw 7 (C 101 7) from I 101 7).2.2.2.2.1 rfl) (by decide)
  rw [hC0] at en3
  refine g_aload_n X dX8_here_0 rfl (j := 0) rfl ?_
  refine g_iload_n X dX8_here_1 rfl (j := 2) rfl ?_
  refine g_callVI X (s_X8_asksHour l G F I p1 ) lk_X8_301 (F.1 100 rfl).2 (F.1 100 rfl).1 rfl rfl dX8_here_2 (Nat.le_of_ble_eq_true rfl) ⟨by decide, by decide⟩ ⟨by decide, by decide⟩ (fun r4 L M hp => ?_)
  obtain ⟨C, D, F, I, K1, hr⟩ := hp
  have K := K.step K1 (by decide)
  rcases hr with rfl | ⟨rfl, n5, hn5, en5⟩
  · skip
    refine g_if_eq X dX8_here_5 (tgt := 26) (by decide) (fun _ => ?_) (fun q => absurd (by decide) q)
    refine g_bipush X dX8_here_26 (v := -2) (by decide) ?_
    exact g_iret X hrt dX8_here_28 (by decide) (by decide) ⟨C, D, F, I, K, trivial⟩
  · skip
    subst en5
    refine g_if_eq X dX8_here_5 (tgt := 26) (by decide) (fun q => absurd q (by decide)) (fun _ => ?_)
    refine g_aload_n X dX8_here_8 rfl (j := 0) rfl ?_
    refine g_iload_n X dX8_here_9 rfl (j := 1) rfl ?_
    refine g_i2l X dX8_here_10 rfl ?_
    refine g_callVI X (s_X8_isPlace l G F I ((Int32.toInt64 p0)) ) lk_X8_305 (F.1 100 rfl).2 (F.1 100 rfl).1 rfl rfl dX8_here_11 (Nat.le_of_ble_eq_true rfl) ⟨by decide, by decide⟩ ⟨by decide, by decide⟩ (fun r6 L M hp => ?_)
    obtain ⟨C, D, F, I, K1, hr⟩ := hp
    have K := K.step K1 (by decide)
    rcases hr with rfl | rfl
    · skip
      refine g_if_eq X dX8_here_14 (tgt := 26) (by decide) (fun _ => ?_) (fun q => absurd (by decide) q)
      refine g_bipush X dX8_here_26 (v := -2) (by decide) ?_
      exact g_iret X hrt dX8_here_28 (by decide) (by decide) ⟨C, D, F, I, K, trivial⟩
    · skip
      refine g_if_eq X dX8_here_14 (tgt := 26) (by decide) (fun q => absurd q (by decide)) (fun _ => ?_)
      refine g_aload_n X dX8_here_17 rfl (j := 0) rfl ?_
      refine g_iload_n X dX8_here_18 rfl (j := 1) rfl ?_
      refine g_iload_n X dX8_here_19 rfl (j := 2) rfl ?_
      refine g_callVI X (s_X8_hereOf l G F I p0 n5 (by omega) (by omega) ) lk_X8_308 (F.1 100 rfl).2 (F.1 100 rfl).1 rfl rfl dX8_here_20 (Nat.le_of_ble_eq_true rfl) ⟨by decide, by decide⟩ ⟨by decide, by decide⟩ (fun r7 L M hp => ?_)
      obtain ⟨C, D, F, I, K1, hr⟩ := hp
      have K := K.step K1 (by decide)
      refine g_goto X dX8_here_23 (tgt := 28) (by decide) ?_
      exact g_iret X hrt dX8_here_28 (by decide) (by decide) ⟨C, D, F, I, K, trivial⟩
set_option maxHeartbeats 4000000 in
set_option maxRecDepth 100000 in
theorem s_X8_sent (l : Launch) (G : va_G) {cy : Nat → ClassId} {L : List Nat} {M : Nat → va_E} {a : Nat → Nat} {act : Nat → Bool} {C0 : Nat → Nat → Int32} {D0 : Nat → Nat → Int64} {R : Nat → Nat → Option Nat} (F : WI L M a act (ent cy a C0 D0 R)) (I : Inv C0) (p0 : Int32)  : MI l G cy yX8_sent cX8_sent 2 (some .int) 7 0 0 [.ref (a 100), .int p0] L M (fun r L2 M2 => ∃ C2 D2, WI L2 M2 a act (ent cy a C2 D2 R) ∧ Inv C2 ∧ Kp [100, 115, 116, 120, 121, 122, 123, 124, 125, 126, 127, 128] C0 D0 C2 D2 ∧ True) := by
  refine MI.of (own := RX8) rfl (by decide) (Nat.le_of_ble_eq_true rfl) ?_
  intro p e s m below meth c A X hrt hnm
  obtain ⟨C, D, hC0, hD0, F, I, K⟩ : ∃ C D, C = C0 ∧ D = D0 ∧ WI L M a act (ent cy a C D R) ∧ Inv C ∧ Kp [100, 115, 116, 120, 121, 122, 123, 124, 125, 126, 127, 128] C0 D0 C D := ⟨C0, D0, rfl, rfl, F, I, Kp.rf⟩
  obtain ⟨n1, hn1, en1⟩ := rg_nat ((show okw 0 (C 101 0) from I 101 0).1 rfl) (by decide)
  rw [hC0] at en1
  obtain ⟨n2, hn2, en2⟩ := rg_nat ((show okw 4 (C 101 4) from I 101 4).2.2.2.1 rfl) (by decide)
  rw [hC0] at en2
  obtain ⟨n3, hn3, en3⟩ := rg_nat ((show okw 7 (C 101 7) from I 101 7).2.2.2.2.1 rfl) (by decide)
  rw [hC0] at en3
  refine g_aload_n X dX8_sent_0 rfl (j := 0) rfl ?_
  refine g_callVI X (s_X8_asksHeath l G F I  ) lk_X8_292 (F.1 100 rfl).2 (F.1 100 rfl).1 rfl rfl dX8_sent_1 (Nat.le_of_ble_eq_true rfl) ⟨by decide, by decide⟩ ⟨by decide, by decide⟩ (fun r4 L M hp => ?_)
  obtain ⟨C, D, F, I, K1, hr⟩ := hp
  have K := K.step K1 (by decide)
  rcases hr with rfl | rfl
  · skip
    refine g_pop X dX8_sent_4 rfl ?_
    refine g_aload_n X dX8_sent_5 rfl (j := 0) rfl ?_
    refine g_iload_n X dX8_sent_6 rfl (j := 1) rfl ?_
    refine g_i2l X dX8_sent_7 rfl ?_
    refine g_callVI X (s_X8_isAhead l G F I ((Int32.toInt64 p0)) ) lk_X8_311 (F.1 100 rfl).2 (F.1 100 rfl).1 rfl rfl dX8_sent_8 (Nat.le_of_ble_eq_true rfl) ⟨by decide, by decide⟩ ⟨by decide, by decide⟩ (fun r5 L M hp => ?_)
    obtain ⟨C, D, F, I, K1, hr⟩ := hp
    have K := K.step K1 (by decide)
    rcases hr with rfl | ⟨rfl, hl6a, hl6b⟩
    · skip
      refine g_if_eq X dX8_sent_11 (tgt := 23) (by decide) (fun _ => ?_) (fun q => absurd (by decide) q)
      refine g_bipush X dX8_sent_23 (v := -2) (by decide) ?_
      exact g_iret X hrt dX8_sent_25 (by decide) (by decide) ⟨C, D, F, I, K, trivial⟩
    · skip
      rw [Jvm.Kit.i64_of_i32] at hl6a hl6b
      obtain ⟨n7, hn7a, hn7b, en7⟩ := nI_ofInt (x := p0) (lo := 0) (hi := 15) (by omega) (by omega) (by decide)
      subst en7
      refine g_if_eq X dX8_sent_11 (tgt := 23) (by decide) (fun q => absurd q (by decide)) (fun _ => ?_)
      refine g_aload_n X dX8_sent_14 rfl (j := 0) rfl ?_
      refine i_get X F 100 rfl rfl fk_X8_52 dX8_sent_15 rfl ?_
      refine g_iload_n X dX8_sent_18 rfl (j := 1) rfl ?_
      refine i_iald X F 124 rfl rfl dX8_sent_19 (vp_in_nI (by omega) (by decide)) rfl ?_
      refine Go.gen (fun o8 => ?_)
      refine g_goto X dX8_sent_20 (tgt := 25) (by decide) ?_
      exact g_iret X hrt dX8_sent_25 (by decide) (by decide) ⟨C, D, F, I, K, trivial⟩
  · skip
    refine g_pop X dX8_sent_4 rfl ?_
    refine g_aload_n X dX8_sent_5 rfl (j := 0) rfl ?_
    refine g_iload_n X dX8_sent_6 rfl (j := 1) rfl ?_
    refine g_i2l X dX8_sent_7 rfl ?_
    refine g_callVI X (s_X8_isAhead l G F I ((Int32.toInt64 p0)) ) lk_X8_311 (F.1 100 rfl).2 (F.1 100 rfl).1 rfl rfl dX8_sent_8 (Nat.le_of_ble_eq_true rfl) ⟨by decide, by decide⟩ ⟨by decide, by decide⟩ (fun r9 L M hp => ?_)
    obtain ⟨C, D, F, I, K1, hr⟩ := hp
    have K := K.step K1 (by decide)
    rcases hr with rfl | ⟨rfl, hl10a, hl10b⟩
    · skip
      refine g_if_eq X dX8_sent_11 (tgt := 23) (by decide) (fun _ => ?_) (fun q => absurd (by decide) q)
      refine g_bipush X dX8_sent_23 (v := -2) (by decide) ?_
      exact g_iret X hrt dX8_sent_25 (by decide) (by decide) ⟨C, D, F, I, K, trivial⟩
    · skip
      rw [Jvm.Kit.i64_of_i32] at hl10a hl10b
      obtain ⟨n11, hn11a, hn11b, en11⟩ := nI_ofInt (x := p0) (lo := 0) (hi := 15) (by omega) (by omega) (by decide)
      subst en11
      refine g_if_eq X dX8_sent_11 (tgt := 23) (by decide) (fun q => absurd q (by decide)) (fun _ => ?_)
      refine g_aload_n X dX8_sent_14 rfl (j := 0) rfl ?_
      refine i_get X F 100 rfl rfl fk_X8_52 dX8_sent_15 rfl ?_
      refine g_iload_n X dX8_sent_18 rfl (j := 1) rfl ?_
      refine i_iald X F 124 rfl rfl dX8_sent_19 (vp_in_nI (by omega) (by decide)) rfl ?_
      refine Go.gen (fun o12 => ?_)
      refine g_goto X dX8_sent_20 (tgt := 25) (by decide) ?_
      exact g_iret X hrt dX8_sent_25 (by decide) (by decide) ⟨C, D, F, I, K, trivial⟩
set_option maxHeartbeats 4000000 in
set_option maxRecDepth 100000 in
theorem s_X8_sendsOf (l : Launch) (G : va_G) {cy : Nat → ClassId} {L : List Nat} {M : Nat → va_E} {a : Nat → Nat} {act : Nat → Bool} {C0 : Nat → Nat → Int32} {D0 : Nat → Nat → Int64} {R : Nat → Nat → Option Nat} (F : WI L M a act (ent cy a C0 D0 R)) (I : Inv C0) (p0 : Nat) (hp0a : 0 ≤ p0) (hp0b : p0 ≤ 6)  : MI l G cy yX8_sendsOf cX8_sendsOf 4 (some .int) 0 0 0 [.ref (a 100), .int (nI p0)] L M (fun r L2 M2 => ∃ C2 D2, WI L2 M2 a act (ent cy a C2 D2 R) ∧ Inv C2 ∧ Kp [] C0 D0 C2 D2 ∧ True) := by
  refine MI.of (own := RX8) rfl (by decide) (Nat.le_of_ble_eq_true rfl) ?_
  intro p e s m below meth c A X hrt hnm
  obtain ⟨C, D, hC0, hD0, F, I, K⟩ : ∃ C D, C = C0 ∧ D = D0 ∧ WI L M a act (ent cy a C D R) ∧ Inv C ∧ Kp [] C0 D0 C D := ⟨C0, D0, rfl, rfl, F, I, Kp.rf⟩
  obtain ⟨n1, hn1, en1⟩ := rg_nat ((show okw 0 (C 101 0) from I 101 0).1 rfl) (by decide)
  rw [hC0] at en1
  obtain ⟨n2, hn2, en2⟩ := rg_nat ((show okw 4 (C 101 4) from I 101 4).2.2.2.1 rfl) (by decide)
  rw [hC0] at en2
  obtain ⟨n3, hn3, en3⟩ := rg_nat ((show okw 7 (C 101 7) from I 101 7).2.2.2.2.1 rfl) (by decide)
  rw [hC0] at en3
  refine g_iconst X dX8_sendsOf_0 (v := 0) (by decide) ?_
  refine g_istore_n X dX8_sendsOf_1 rfl (by decide) (lv2 := [(2, .int 0), (0, .ref (a 100)), (1, .int (nI p0))]) rfl ?_
  refine g_iconst X dX8_sendsOf_2 (v := 0) (by decide) ?_
  refine g_istore_n X dX8_sendsOf_3 rfl (by decide) (lv2 := [(3, .int 0), (2, .int 0), (0, .ref (a 100)), (1, .int (nI p0))]) rfl ?_
  refine g_lv [0, 1, 2, 3] (lv2 := [(3, .int 0), (2, .int 0), (0, .ref (a 100)), (1, .int (nI p0))]) rfl ?_
  refine i_loop (mods := []) (fun x : Nat × Int32 => 4 - x.1) (fun x => [(3, .int (nI (x.1))), (2, .int (x.2)), (0, .ref (a 100)), (1, .int (nI p0))]) (fun x C => 0 ≤ x.1 ∧ x.1 ≤ 4) (fun x L M C D F I K hP ih4 => ?_) ((0, 0) : Nat × Int32) F I K ⟨by show _ ≤ _; omega, by show _ ≤ _; omega⟩
  rcases x with ⟨i4_3, v4_2⟩
  obtain ⟨hi4_3a, hi4_3b⟩ := hP
  refine g_lv [0, 1, 2, 3] (lv2 := [(3, .int (nI i4_3)), (2, .int v4_2), (0, .ref (a 100)), (1, .int (nI p0))]) rfl ?_
  refine g_iload_n X dX8_sendsOf_4 rfl (j := 0) rfl ?_
  refine g_iconst X dX8_sendsOf_5 (v := 4) (by decide) ?_
  refine g_icmp_ge X dX8_sendsOf_6 (tgt := 28) (by decide) (fun q4 => ?_) (fun q4 => ?_)
  · skip
    have q4 : 4 ≤ i4_3 := (nI_leI (a := 4) (b := i4_3) (by omega) (by omega)).mp q4
    refine g_iload_n X dX8_sendsOf_28 rfl (j := 1) rfl ?_
    exact g_iret X hrt dX8_sendsOf_29 (by decide) (by decide) ⟨C, D, F, I, K, trivial⟩
  · skip
    have q4 : ¬ 4 ≤ i4_3 := fun z => q4 ((nI_leI (a := 4) (b := i4_3) (by omega) (by omega)).mpr z)
    refine g_iload_n X dX8_sendsOf_9 rfl (j := 1) rfl ?_
    refine g_aload_n X dX8_sendsOf_10 rfl (j := 2) rfl ?_
    refine i_get X F 100 rfl rfl fk_X8_55 dX8_sendsOf_11 rfl ?_
    refine g_iconst X dX8_sendsOf_14 (v := 4) (by decide) ?_
    refine g_iload_n X dX8_sendsOf_15 rfl (j := 3) rfl ?_
    refine g_imul X dX8_sendsOf_16 ?_
    refine Go.top (v := .int (nI (4 * p0))) (congrArg Value.int (pk_mul 4 p0)) ?_
    refine g_iload_n X dX8_sendsOf_17 rfl (j := 0) rfl ?_
    refine g_iadd X dX8_sendsOf_18 ?_
    refine Go.top (v := .int (nI ((4 * p0) + i4_3))) (congrArg Value.int (nI_add (4 * p0) i4_3)) ?_
    refine i_iald X F 125 rfl rfl dX8_sendsOf_19 (vp_in_nI (by omega) (by decide)) rfl ?_
    refine Go.gen (fun o5 => ?_)
    refine g_iadd X dX8_sendsOf_20 ?_
    refine Go.gen (fun o6 => ?_)
    refine g_istore_n X dX8_sendsOf_21 rfl (by decide) (lv2 := [(2, .int o6), (3, .int (nI i4_3)), (0, .ref (a 100)), (1, .int (nI p0))]) rfl ?_
    refine g_iinc X dX8_sendsOf_22 (j := 1) rfl (v := nI (i4_3 + 1)) (nI_1 i4_3) (by decide) (lv2 := [(3, .int (nI (i4_3 + 1))), (2, .int o6), (0, .ref (a 100)), (1, .int (nI p0))]) rfl ?_
    refine g_goto X dX8_sendsOf_25 (tgt := 4) (by decide) ?_
    refine g_lv [0, 1, 2, 3] (lv2 := [(3, .int (nI (i4_3 + 1))), (2, .int o6), (0, .ref (a 100)), (1, .int (nI p0))]) rfl ?_
    exact ih4 ((i4_3 + 1), o6) L M C D F I K ⟨by omega, by omega⟩ (by show _ < _; omega)
set_option maxHeartbeats 4000000 in
set_option maxRecDepth 100000 in
theorem s_X8_sends (l : Launch) (G : va_G) {cy : Nat → ClassId} {L : List Nat} {M : Nat → va_E} {a : Nat → Nat} {act : Nat → Bool} {C0 : Nat → Nat → Int32} {D0 : Nat → Nat → Int64} {R : Nat → Nat → Option Nat} (F : WI L M a act (ent cy a C0 D0 R)) (I : Inv C0) (p0 : Int32)  : MI l G cy yX8_sends cX8_sends 2 (some .int) 8 0 0 [.ref (a 100), .int p0] L M (fun r L2 M2 => ∃ C2 D2, WI L2 M2 a act (ent cy a C2 D2 R) ∧ Inv C2 ∧ Kp [100, 115, 116, 120, 121, 122, 123, 124, 125, 126, 127, 128] C0 D0 C2 D2 ∧ True) := by
  refine MI.of (own := RX8) rfl (by decide) (Nat.le_of_ble_eq_true rfl) ?_
  intro p e s m below meth c A X hrt hnm
  obtain ⟨C, D, hC0, hD0, F, I, K⟩ : ∃ C D, C = C0 ∧ D = D0 ∧ WI L M a act (ent cy a C D R) ∧ Inv C ∧ Kp [100, 115, 116, 120, 121, 122, 123, 124, 125, 126, 127, 128] C0 D0 C D := ⟨C0, D0, rfl, rfl, F, I, Kp.rf⟩
  obtain ⟨n1, hn1, en1⟩ := rg_nat ((show okw 0 (C 101 0) from I 101 0).1 rfl) (by decide)
  rw [hC0] at en1
  obtain ⟨n2, hn2, en2⟩ := rg_nat ((show okw 4 (C 101 4) from I 101 4).2.2.2.1 rfl) (by decide)
  rw [hC0] at en2
  obtain ⟨n3, hn3, en3⟩ := rg_nat ((show okw 7 (C 101 7) from I 101 7).2.2.2.2.1 rfl) (by decide)
  rw [hC0] at en3
  refine g_aload_n X dX8_sends_0 rfl (j := 0) rfl ?_
  refine g_iload_n X dX8_sends_1 rfl (j := 1) rfl ?_
  refine g_callVI X (s_X8_asksPost l G F I p0 ) lk_X8_314 (F.1 100 rfl).2 (F.1 100 rfl).1 rfl rfl dX8_sends_2 (Nat.le_of_ble_eq_true rfl) ⟨by decide, by decide⟩ ⟨by decide, by decide⟩ (fun r4 L M hp => ?_)
  obtain ⟨C, D, F, I, K1, hr⟩ := hp
  have K := K.step K1 (by decide)
  rcases hr with rfl | ⟨rfl, n5, hn5, en5⟩
  · skip
    refine g_if_eq X dX8_sends_5 (tgt := 16) (by decide) (fun _ => ?_) (fun q => absurd (by decide) q)
    refine g_bipush X dX8_sends_16 (v := -2) (by decide) ?_
    exact g_iret X hrt dX8_sends_18 (by decide) (by decide) ⟨C, D, F, I, K, trivial⟩
  · skip
    subst en5
    refine g_if_eq X dX8_sends_5 (tgt := 16) (by decide) (fun q => absurd q (by decide)) (fun _ => ?_)
    refine g_aload_n X dX8_sends_8 rfl (j := 0) rfl ?_
    refine g_iload_n X dX8_sends_9 rfl (j := 1) rfl ?_
    refine g_callVI X (s_X8_sendsOf l G F I n5 (by omega) (by omega) ) lk_X8_317 (F.1 100 rfl).2 (F.1 100 rfl).1 rfl rfl dX8_sends_10 (Nat.le_of_ble_eq_true rfl) ⟨by decide, by decide⟩ ⟨by decide, by decide⟩ (fun r6 L M hp => ?_)
    obtain ⟨C, D, F, I, K1, hr⟩ := hp
    have K := K.step K1 (by decide)
    refine g_goto X dX8_sends_13 (tgt := 18) (by decide) ?_
    exact g_iret X hrt dX8_sends_18 (by decide) (by decide) ⟨C, D, F, I, K, trivial⟩
set_option maxHeartbeats 4000000 in
set_option maxRecDepth 100000 in
theorem s_X8_used (l : Launch) (G : va_G) {cy : Nat → ClassId} {L : List Nat} {M : Nat → va_E} {a : Nat → Nat} {act : Nat → Bool} {C0 : Nat → Nat → Int32} {D0 : Nat → Nat → Int64} {R : Nat → Nat → Option Nat} (F : WI L M a act (ent cy a C0 D0 R)) (I : Inv C0) (p0 : Int32) (p1 : Int32)  : MI l G cy yX8_used cX8_used 3 (some .int) 8 0 0 [.ref (a 100), .int p0, .int p1] L M (fun r L2 M2 => ∃ C2 D2, WI L2 M2 a act (ent cy a C2 D2 R) ∧ Inv C2 ∧ Kp [100, 115, 116, 120, 121, 122, 123, 124, 125, 126, 127, 128] C0 D0 C2 D2 ∧ True) := by
  refine MI.of (own := RX8) rfl (by decide) (Nat.le_of_ble_eq_true rfl) ?_
  intro p e s m below meth c A X hrt hnm
  obtain ⟨C, D, hC0, hD0, F, I, K⟩ : ∃ C D, C = C0 ∧ D = D0 ∧ WI L M a act (ent cy a C D R) ∧ Inv C ∧ Kp [100, 115, 116, 120, 121, 122, 123, 124, 125, 126, 127, 128] C0 D0 C D := ⟨C0, D0, rfl, rfl, F, I, Kp.rf⟩
  obtain ⟨n1, hn1, en1⟩ := rg_nat ((show okw 0 (C 101 0) from I 101 0).1 rfl) (by decide)
  rw [hC0] at en1
  obtain ⟨n2, hn2, en2⟩ := rg_nat ((show okw 4 (C 101 4) from I 101 4).2.2.2.1 rfl) (by decide)
  rw [hC0] at en2
  obtain ⟨n3, hn3, en3⟩ := rg_nat ((show okw 7 (C 101 7) from I 101 7).2.2.2.2.1 rfl) (by decide)
  rw [hC0] at en3
  refine g_aload_n X dX8_used_0 rfl (j := 0) rfl ?_
  refine g_iload_n X dX8_used_1 rfl (j := 1) rfl ?_
  refine g_callVI X (s_X8_asksPost l G F I p0 ) lk_X8_314 (F.1 100 rfl).2 (F.1 100 rfl).1 rfl rfl dX8_used_2 (Nat.le_of_ble_eq_true rfl) ⟨by decide, by decide⟩ ⟨by decide, by decide⟩ (fun r4 L M hp => ?_)
  obtain ⟨C, D, F, I, K1, hr⟩ := hp
  have K := K.step K1 (by decide)
  rcases hr with rfl | ⟨rfl, n5, hn5, en5⟩
  · skip
    refine g_if_eq X dX8_used_5 (tgt := 12) (by decide) (fun _ => ?_) (fun q => absurd (by decide) q)
    refine g_bipush X dX8_used_12 (v := -2) (by decide) ?_
    exact g_iret X hrt dX8_used_14 (by decide) (by decide) ⟨C, D, F, I, K, trivial⟩
  · skip
    subst en5
    refine g_if_eq X dX8_used_5 (tgt := 12) (by decide) (fun q => absurd q (by decide)) (fun _ => ?_)
    refine g_iload_n X dX8_used_8 rfl (j := 2) rfl ?_
    refine g_if_ge X dX8_used_9 (tgt := 15) (by decide) (fun q6 => ?_) (fun q6 => ?_)
    · skip
      have q6t : (0 : Int32).toInt ≤ p1.toInt := Int32.le_iff_toInt_le.mp q6
      have q6k : (0 : Int32).toInt = 0 := (by decide)
      have q6b := Int32.toInt_lt p1
      obtain ⟨n7, hn7, rfl⟩ := nI_of (x := p1) (fun z => by have z2 := Int32.lt_iff_toInt_lt.mp z; have z3 : (0 : Int32).toInt = 0 := (by decide); omega)
      rw [nI_toInt (by omega)] at q6t
      have tn7 := nI_toInt (n := n7) (by omega)
      refine g_iload_n X dX8_used_15 rfl (j := 2) rfl ?_
      refine g_aload_n X dX8_used_16 rfl (j := 0) rfl ?_
      refine g_iload_n X dX8_used_17 rfl (j := 1) rfl ?_
      refine g_callVI X (s_X8_roadMany l G F I n5 (by omega) (by omega) ) lk_X8_245 (F.1 100 rfl).2 (F.1 100 rfl).1 rfl rfl dX8_used_18 (Nat.le_of_ble_eq_true rfl) ⟨by decide, by decide⟩ ⟨by decide, by decide⟩ (fun r8 L M hp => ?_)
      obtain ⟨C, D, F, I, K1, hr⟩ := hp
      have K := K.step K1 (by decide)
      obtain ⟨n9, hn9, en9, rfl⟩ := hr
      have fn9 : C0 101 (14 + 6 * n5) = nI n9 := (congrFun (K 101 (by decide)).1 _).symm.trans en9
      refine g_icmp_ge X dX8_used_21 (tgt := 37) (by decide) (fun q10 => ?_) (fun q10 => ?_)
      · skip
        have q10 : n9 ≤ n7 := (nI_leI (a := n9) (b := n7) (by omega) (by omega)).mp q10
        refine g_iconst X dX8_used_37 (v := -1) (by decide) ?_
        exact g_iret X hrt dX8_used_38 (by decide) (by decide) ⟨C, D, F, I, K, trivial⟩
      · skip
        have q10 : ¬ n9 ≤ n7 := fun z => q10 ((nI_leI (a := n9) (b := n7) (by omega) (by omega)).mpr z)
        refine g_aload_n X dX8_used_24 rfl (j := 0) rfl ?_
        refine i_get X F 100 rfl rfl fk_X8_55 dX8_used_25 rfl ?_
        refine g_iconst X dX8_used_28 (v := 4) (by decide) ?_
        refine g_iload_n X dX8_used_29 rfl (j := 1) rfl ?_
        refine g_imul X dX8_used_30 ?_
        refine Go.top (v := .int (nI (4 * n5))) (congrArg Value.int (pk_mul 4 n5)) ?_
        refine g_iload_n X dX8_used_31 rfl (j := 2) rfl ?_
        refine g_iadd X dX8_used_32 ?_
        refine Go.top (v := .int (nI ((4 * n5) + n7))) (congrArg Value.int (nI_add (4 * n5) n7)) ?_
        refine i_iald X F 125 rfl rfl dX8_used_33 (vp_in_nI (by omega) (by decide)) rfl ?_
        refine Go.gen (fun o11 => ?_)
        refine g_goto X dX8_used_34 (tgt := 38) (by decide) ?_
        exact g_iret X hrt dX8_used_38 (by decide) (by decide) ⟨C, D, F, I, K, trivial⟩
    · skip
      have q6t : ¬ (0 : Int32).toInt ≤ p1.toInt := fun z => q6 (Int32.le_iff_toInt_le.mpr z)
      have q6k : (0 : Int32).toInt = 0 := (by decide)
      have q6b := Int32.toInt_lt p1
      refine g_bipush X dX8_used_12 (v := -2) (by decide) ?_
      exact g_iret X hrt dX8_used_14 (by decide) (by decide) ⟨C, D, F, I, K, trivial⟩
set_option maxHeartbeats 4000000 in
set_option maxRecDepth 100000 in
theorem s_X8_walks (l : Launch) (G : va_G) {cy : Nat → ClassId} {L : List Nat} {M : Nat → va_E} {a : Nat → Nat} {act : Nat → Bool} {C0 : Nat → Nat → Int32} {D0 : Nat → Nat → Int64} {R : Nat → Nat → Option Nat} (F : WI L M a act (ent cy a C0 D0 R)) (I : Inv C0) (p0 : Int32)  : MI l G cy yX8_walks cX8_walks 2 (some .int) 8 0 0 [.ref (a 100), .int p0] L M (fun r L2 M2 => ∃ C2 D2, WI L2 M2 a act (ent cy a C2 D2 R) ∧ Inv C2 ∧ Kp [100, 115, 116, 120, 121, 122, 123, 124, 125, 126, 127, 128] C0 D0 C2 D2 ∧ True) := by
  refine MI.of (own := RX8) rfl (by decide) (Nat.le_of_ble_eq_true rfl) ?_
  intro p e s m below meth c A X hrt hnm
  obtain ⟨C, D, hC0, hD0, F, I, K⟩ : ∃ C D, C = C0 ∧ D = D0 ∧ WI L M a act (ent cy a C D R) ∧ Inv C ∧ Kp [100, 115, 116, 120, 121, 122, 123, 124, 125, 126, 127, 128] C0 D0 C D := ⟨C0, D0, rfl, rfl, F, I, Kp.rf⟩
  obtain ⟨n1, hn1, en1⟩ := rg_nat ((show okw 0 (C 101 0) from I 101 0).1 rfl) (by decide)
  rw [hC0] at en1
  obtain ⟨n2, hn2, en2⟩ := rg_nat ((show okw 4 (C 101 4) from I 101 4).2.2.2.1 rfl) (by decide)
  rw [hC0] at en2
  obtain ⟨n3, hn3, en3⟩ := rg_nat ((show okw 7 (C 101 7) from I 101 7).2.2.2.2.1 rfl) (by decide)
  rw [hC0] at en3
  refine g_aload_n X dX8_walks_0 rfl (j := 0) rfl ?_
  refine g_iload_n X dX8_walks_1 rfl (j := 1) rfl ?_
  refine g_callVI X (s_X8_asksWalker l G F I p0 ) lk_X8_320 (F.1 100 rfl).2 (F.1 100 rfl).1 rfl rfl dX8_walks_2 (Nat.le_of_ble_eq_true rfl) ⟨by decide, by decide⟩ ⟨by decide, by decide⟩ (fun r4 L M hp => ?_)
  obtain ⟨C, D, F, I, K1, hr⟩ := hp
  have K := K.step K1 (by decide)
  rcases hr with rfl | ⟨rfl, n5, hn5, en5⟩
  · skip
    refine g_if_eq X dX8_walks_5 (tgt := 17) (by decide) (fun _ => ?_) (fun q => absurd (by decide) q)
    refine g_bipush X dX8_walks_17 (v := -2) (by decide) ?_
    exact g_iret X hrt dX8_walks_19 (by decide) (by decide) ⟨C, D, F, I, K, trivial⟩
  · skip
    subst en5
    refine g_if_eq X dX8_walks_5 (tgt := 17) (by decide) (fun q => absurd q (by decide)) (fun _ => ?_)
    refine g_aload_n X dX8_walks_8 rfl (j := 0) rfl ?_
    refine i_get X F 100 rfl rfl fk_X8_58 dX8_walks_9 rfl ?_
    refine g_iload_n X dX8_walks_12 rfl (j := 1) rfl ?_
    refine i_iald X F 126 rfl rfl dX8_walks_13 (vp_in_nI (by omega) (by decide)) rfl ?_
    refine Go.gen (fun o6 => ?_)
    refine g_goto X dX8_walks_14 (tgt := 19) (by decide) ?_
    exact g_iret X hrt dX8_walks_19 (by decide) (by decide) ⟨C, D, F, I, K, trivial⟩
set_option maxHeartbeats 4000000 in
set_option maxRecDepth 100000 in
theorem s_X8_homeOf (l : Launch) (G : va_G) {cy : Nat → ClassId} {L : List Nat} {M : Nat → va_E} {a : Nat → Nat} {act : Nat → Bool} {C0 : Nat → Nat → Int32} {D0 : Nat → Nat → Int64} {R : Nat → Nat → Option Nat} (F : WI L M a act (ent cy a C0 D0 R)) (I : Inv C0) (p0 : Nat) (hp0a : 0 ≤ p0) (hp0b : p0 ≤ 7)  : MI l G cy yX8_homeOf cX8_homeOf 3 (some .int) 2 0 0 [.ref (a 100), .int (nI p0)] L M (fun r L2 M2 => ∃ C2 D2, WI L2 M2 a act (ent cy a C2 D2 R) ∧ Inv C2 ∧ Kp [] C0 D0 C2 D2 ∧ True) := by
  refine MI.of (own := RX8) rfl (by decide) (Nat.le_of_ble_eq_true rfl) ?_
  intro p e s m below meth c A X hrt hnm
  obtain ⟨C, D, hC0, hD0, F, I, K⟩ : ∃ C D, C = C0 ∧ D = D0 ∧ WI L M a act (ent cy a C D R) ∧ Inv C ∧ Kp [] C0 D0 C D := ⟨C0, D0, rfl, rfl, F, I, Kp.rf⟩
  obtain ⟨n1, hn1, en1⟩ := rg_nat ((show okw 0 (C 101 0) from I 101 0).1 rfl) (by decide)
  rw [hC0] at en1
  obtain ⟨n2, hn2, en2⟩ := rg_nat ((show okw 4 (C 101 4) from I 101 4).2.2.2.1 rfl) (by decide)
  rw [hC0] at en2
  obtain ⟨n3, hn3, en3⟩ := rg_nat ((show okw 7 (C 101 7) from I 101 7).2.2.2.2.1 rfl) (by decide)
  rw [hC0] at en3
  refine g_iconst X dX8_homeOf_0 (v := 0) (by decide) ?_
  refine g_istore_n X dX8_homeOf_1 rfl (by decide) (lv2 := [(2, .int 0), (0, .ref (a 100)), (1, .int (nI p0))]) rfl ?_
  refine g_lv [0, 1, 2] (lv2 := [(2, .int 0), (0, .ref (a 100)), (1, .int (nI p0))]) rfl ?_
  refine i_loop (mods := []) (fun x : Nat => 17 - x) (fun x => [(2, .int (nI (x))), (0, .ref (a 100)), (1, .int (nI p0))]) (fun x C => 0 ≤ x ∧ x ≤ 17) (fun x L M C D F I K hP ih2 => ?_) ((0) : Nat) F I K ⟨by show _ ≤ _; omega, by show _ ≤ _; omega⟩
  obtain ⟨i2_2, rfl⟩ : ∃ z, z = x := ⟨_, rfl⟩
  obtain ⟨hi2_2a, hi2_2b⟩ := hP
  refine g_lv [0, 1, 2] (lv2 := [(2, .int (nI i2_2)), (0, .ref (a 100)), (1, .int (nI p0))]) rfl ?_
  refine g_iload_n X dX8_homeOf_2 rfl (j := 0) rfl ?_
  refine g_aload_n X dX8_homeOf_3 rfl (j := 1) rfl ?_
  refine g_callVI X (s_X8_hours l G F I  ) lk_X8_106 (F.1 100 rfl).2 (F.1 100 rfl).1 rfl rfl dX8_homeOf_4 (Nat.le_of_ble_eq_true rfl) ⟨by decide, by decide⟩ ⟨by decide, by decide⟩ (fun r4 L M hp => ?_)
  obtain ⟨C, D, F, I, K1, hr⟩ := hp
  have K := K.step K1 (by decide)
  obtain ⟨n5, hn5, en5, rfl⟩ := hr
  obtain rfl : n1 = n5 := ((nI_eq (by omega) (by omega)).mp (en5.symm.trans ((congrFun (K 101 (by decide)).1 0).trans en1))).symm
  refine g_icmp_gt X dX8_homeOf_7 (tgt := 27) (by decide) (fun q6 => ?_) (fun q6 => ?_)
  · skip
    have q6 : n1 < i2_2 := (nI_ltI (a := n1) (b := i2_2) (by omega) (by omega)).mp q6
    refine g_iconst X dX8_homeOf_27 (v := -1) (by decide) ?_
    exact g_iret X hrt dX8_homeOf_28 (by decide) (by decide) ⟨C, D, F, I, K, trivial⟩
  · skip
    have q6 : ¬ n1 < i2_2 := fun z => q6 ((nI_ltI (a := n1) (b := i2_2) (by omega) (by omega)).mpr z)
    refine g_aload_n X dX8_homeOf_10 rfl (j := 1) rfl ?_
    refine g_iload_n X dX8_homeOf_11 rfl (j := 2) rfl ?_
    refine g_iload_n X dX8_homeOf_12 rfl (j := 0) rfl ?_
    refine g_callVI X (s_X8_isInside l G F I p0 (by omega) (by omega) i2_2 (by omega) (by omega) ) lk_X8_323 (F.1 100 rfl).2 (F.1 100 rfl).1 rfl rfl dX8_homeOf_13 (Nat.le_of_ble_eq_true rfl) ⟨by decide, by decide⟩ ⟨by decide, by decide⟩ (fun r7 L M hp => ?_)
    obtain ⟨C, D, F, I, K1, hr⟩ := hp
    have K := K.step K1 (by decide)
    rcases hr with rfl | rfl
    · skip
      refine g_if_eq X dX8_homeOf_16 (tgt := 21) (by decide) (fun _ => ?_) (fun q => absurd (by decide) q)
      refine g_iinc X dX8_homeOf_21 (j := 0) rfl (v := nI (i2_2 + 1)) (nI_1 i2_2) (by decide) (lv2 := [(2, .int (nI (i2_2 + 1))), (0, .ref (a 100)), (1, .int (nI p0))]) rfl ?_
      refine g_goto X dX8_homeOf_24 (tgt := 2) (by decide) ?_
      refine g_lv [0, 1, 2] (lv2 := [(2, .int (nI (i2_2 + 1))), (0, .ref (a 100)), (1, .int (nI p0))]) rfl ?_
      exact ih2 ((i2_2 + 1)) L M C D F I K ⟨by omega, by omega⟩ (by show _ < _; omega)
    · skip
      refine g_if_eq X dX8_homeOf_16 (tgt := 21) (by decide) (fun q => absurd q (by decide)) (fun _ => ?_)
      refine g_iload_n X dX8_homeOf_19 rfl (j := 0) rfl ?_
      exact g_iret X hrt dX8_homeOf_20 (by decide) (by decide) ⟨C, D, F, I, K, trivial⟩
set_option maxHeartbeats 4000000 in
set_option maxRecDepth 100000 in
theorem s_X8_home (l : Launch) (G : va_G) {cy : Nat → ClassId} {L : List Nat} {M : Nat → va_E} {a : Nat → Nat} {act : Nat → Bool} {C0 : Nat → Nat → Int32} {D0 : Nat → Nat → Int64} {R : Nat → Nat → Option Nat} (F : WI L M a act (ent cy a C0 D0 R)) (I : Inv C0) (p0 : Int32)  : MI l G cy yX8_home cX8_home 2 (some .int) 8 0 0 [.ref (a 100), .int p0] L M (fun r L2 M2 => ∃ C2 D2, WI L2 M2 a act (ent cy a C2 D2 R) ∧ Inv C2 ∧ Kp [100, 115, 116, 120, 121, 122, 123, 124, 125, 126, 127, 128] C0 D0 C2 D2 ∧ True) := by
  refine MI.of (own := RX8) rfl (by decide) (Nat.le_of_ble_eq_true rfl) ?_
  intro p e s m below meth c A X hrt hnm
  obtain ⟨C, D, hC0, hD0, F, I, K⟩ : ∃ C D, C = C0 ∧ D = D0 ∧ WI L M a act (ent cy a C D R) ∧ Inv C ∧ Kp [100, 115, 116, 120, 121, 122, 123, 124, 125, 126, 127, 128] C0 D0 C D := ⟨C0, D0, rfl, rfl, F, I, Kp.rf⟩
  obtain ⟨n1, hn1, en1⟩ := rg_nat ((show okw 0 (C 101 0) from I 101 0).1 rfl) (by decide)
  rw [hC0] at en1
  obtain ⟨n2, hn2, en2⟩ := rg_nat ((show okw 4 (C 101 4) from I 101 4).2.2.2.1 rfl) (by decide)
  rw [hC0] at en2
  obtain ⟨n3, hn3, en3⟩ := rg_nat ((show okw 7 (C 101 7) from I 101 7).2.2.2.2.1 rfl) (by decide)
  rw [hC0] at en3
  refine g_aload_n X dX8_home_0 rfl (j := 0) rfl ?_
  refine g_iload_n X dX8_home_1 rfl (j := 1) rfl ?_
  refine g_callVI X (s_X8_asksWalker l G F I p0 ) lk_X8_320 (F.1 100 rfl).2 (F.1 100 rfl).1 rfl rfl dX8_home_2 (Nat.le_of_ble_eq_true rfl) ⟨by decide, by decide⟩ ⟨by decide, by decide⟩ (fun r4 L M hp => ?_)
  obtain ⟨C, D, F, I, K1, hr⟩ := hp
  have K := K.step K1 (by decide)
  rcases hr with rfl | ⟨rfl, n5, hn5, en5⟩
  · skip
    refine g_if_eq X dX8_home_5 (tgt := 16) (by decide) (fun _ => ?_) (fun q => absurd (by decide) q)
    refine g_bipush X dX8_home_16 (v := -2) (by decide) ?_
    exact g_iret X hrt dX8_home_18 (by decide) (by decide) ⟨C, D, F, I, K, trivial⟩
  · skip
    subst en5
    refine g_if_eq X dX8_home_5 (tgt := 16) (by decide) (fun q => absurd q (by decide)) (fun _ => ?_)
    refine g_aload_n X dX8_home_8 rfl (j := 0) rfl ?_
    refine g_iload_n X dX8_home_9 rfl (j := 1) rfl ?_
    refine g_callVI X (s_X8_homeOf l G F I n5 (by omega) (by omega) ) lk_X8_326 (F.1 100 rfl).2 (F.1 100 rfl).1 rfl rfl dX8_home_10 (Nat.le_of_ble_eq_true rfl) ⟨by decide, by decide⟩ ⟨by decide, by decide⟩ (fun r6 L M hp => ?_)
    obtain ⟨C, D, F, I, K1, hr⟩ := hp
    have K := K.step K1 (by decide)
    refine g_goto X dX8_home_13 (tgt := 18) (by decide) ?_
    exact g_iret X hrt dX8_home_18 (by decide) (by decide) ⟨C, D, F, I, K, trivial⟩
set_option maxHeartbeats 4000000 in
set_option maxRecDepth 100000 in
theorem s_X8_inn (l : Launch) (G : va_G) {cy : Nat → ClassId} {L : List Nat} {M : Nat → va_E} {a : Nat → Nat} {act : Nat → Bool} {C0 : Nat → Nat → Int32} {D0 : Nat → Nat → Int64} {R : Nat → Nat → Option Nat} (F : WI L M a act (ent cy a C0 D0 R)) (I : Inv C0) (p0 : Int32)  : MI l G cy yX8_inn cX8_inn 2 (some .int) 8 0 0 [.ref (a 100), .int p0] L M (fun r L2 M2 => ∃ C2 D2, WI L2 M2 a act (ent cy a C2 D2 R) ∧ Inv C2 ∧ Kp [100, 115, 116, 120, 121, 122, 123, 124, 125, 126, 127, 128] C0 D0 C2 D2 ∧ True) := by
  refine MI.of (own := RX8) rfl (by decide) (Nat.le_of_ble_eq_true rfl) ?_
  intro p e s m below meth c A X hrt hnm
  obtain ⟨C, D, hC0, hD0, F, I, K⟩ : ∃ C D, C = C0 ∧ D = D0 ∧ WI L M a act (ent cy a C D R) ∧ Inv C ∧ Kp [100, 115, 116, 120, 121, 122, 123, 124, 125, 126, 127, 128] C0 D0 C D := ⟨C0, D0, rfl, rfl, F, I, Kp.rf⟩
  obtain ⟨n1, hn1, en1⟩ := rg_nat ((show okw 0 (C 101 0) from I 101 0).1 rfl) (by decide)
  rw [hC0] at en1
  obtain ⟨n2, hn2, en2⟩ := rg_nat ((show okw 4 (C 101 4) from I 101 4).2.2.2.1 rfl) (by decide)
  rw [hC0] at en2
  obtain ⟨n3, hn3, en3⟩ := rg_nat ((show okw 7 (C 101 7) from I 101 7).2.2.2.2.1 rfl) (by decide)
  rw [hC0] at en3
  refine g_aload_n X dX8_inn_0 rfl (j := 0) rfl ?_
  refine g_iload_n X dX8_inn_1 rfl (j := 1) rfl ?_
  refine g_callVI X (s_X8_asksWalker l G F I p0 ) lk_X8_320 (F.1 100 rfl).2 (F.1 100 rfl).1 rfl rfl dX8_inn_2 (Nat.le_of_ble_eq_true rfl) ⟨by decide, by decide⟩ ⟨by decide, by decide⟩ (fun r4 L M hp => ?_)
  obtain ⟨C, D, F, I, K1, hr⟩ := hp
  have K := K.step K1 (by decide)
  rcases hr with rfl | ⟨rfl, n5, hn5, en5⟩
  · skip
    refine g_if_ne X dX8_inn_5 (tgt := 11) (by decide) (fun q => absurd (by decide) q) (fun _ => ?_)
    refine g_bipush X dX8_inn_8 (v := -2) (by decide) ?_
    exact g_iret X hrt dX8_inn_10 (by decide) (by decide) ⟨C, D, F, I, K, trivial⟩
  · skip
    subst en5
    refine g_if_ne X dX8_inn_5 (tgt := 11) (by decide) (fun _ => ?_) (fun q => absurd q (by decide))
    refine g_aload_n X dX8_inn_11 rfl (j := 0) rfl ?_
    refine g_iload_n X dX8_inn_12 rfl (j := 1) rfl ?_
    refine g_aload_n X dX8_inn_13 rfl (j := 0) rfl ?_
    refine g_callVI X (s_X8_hours l G F I  ) lk_X8_106 (F.1 100 rfl).2 (F.1 100 rfl).1 rfl rfl dX8_inn_14 (Nat.le_of_ble_eq_true rfl) ⟨by decide, by decide⟩ ⟨by decide, by decide⟩ (fun r6 L M hp => ?_)
    obtain ⟨C, D, F, I, K1, hr⟩ := hp
    have K := K.step K1 (by decide)
    obtain ⟨n7, hn7, en7, rfl⟩ := hr
    obtain rfl : n1 = n7 := ((nI_eq (by omega) (by omega)).mp (en7.symm.trans ((congrFun (K 101 (by decide)).1 0).trans en1))).symm
    refine g_callVI X (s_X8_isInside l G F I n5 (by omega) (by omega) n1 (by omega) (by omega) ) lk_X8_323 (F.1 100 rfl).2 (F.1 100 rfl).1 rfl rfl dX8_inn_17 (Nat.le_of_ble_eq_true rfl) ⟨by decide, by decide⟩ ⟨by decide, by decide⟩ (fun r8 L M hp => ?_)
    obtain ⟨C, D, F, I, K1, hr⟩ := hp
    have K := K.step K1 (by decide)
    rcases hr with rfl | rfl
    · skip
      refine g_if_eq X dX8_inn_20 (tgt := 38) (by decide) (fun _ => ?_) (fun q => absurd (by decide) q)
      refine g_iconst X dX8_inn_38 (v := -1) (by decide) ?_
      exact g_iret X hrt dX8_inn_39 (by decide) (by decide) ⟨C, D, F, I, K, trivial⟩
    · skip
      refine g_if_eq X dX8_inn_20 (tgt := 38) (by decide) (fun q => absurd q (by decide)) (fun _ => ?_)
      refine g_aload_n X dX8_inn_23 rfl (j := 0) rfl ?_
      refine g_iload_n X dX8_inn_24 rfl (j := 1) rfl ?_
      refine g_aload_n X dX8_inn_25 rfl (j := 0) rfl ?_
      refine g_callVI X (s_X8_hours l G F I  ) lk_X8_106 (F.1 100 rfl).2 (F.1 100 rfl).1 rfl rfl dX8_inn_26 (Nat.le_of_ble_eq_true rfl) ⟨by decide, by decide⟩ ⟨by decide, by decide⟩ (fun r9 L M hp => ?_)
      obtain ⟨C, D, F, I, K1, hr⟩ := hp
      have K := K.step K1 (by decide)
      obtain ⟨n10, hn10, en10, rfl⟩ := hr
      obtain rfl : n1 = n10 := ((nI_eq (by omega) (by omega)).mp (en10.symm.trans ((congrFun (K 101 (by decide)).1 0).trans en1))).symm
      refine g_callVI X (s_X8_placeOf l G F I n5 (by omega) (by omega) n1 (by omega) (by omega) ) lk_X8_298 (F.1 100 rfl).2 (F.1 100 rfl).1 rfl rfl dX8_inn_29 (Nat.le_of_ble_eq_true rfl) ⟨by decide, by decide⟩ ⟨by decide, by decide⟩ (fun r11 L M hp => ?_)
      obtain ⟨C, D, F, I, K1, hr⟩ := hp
      have K := K.step K1 (by decide)
      rcases okp_nat hr with rfl | ⟨n12, hn12, rfl⟩
      · skip
        refine g_bipush X dX8_inn_32 (v := 10) (by decide) ?_
        refine g_isub X dX8_inn_34 ?_
        refine Go.top (v := .int (-11)) (by decide) ?_
        refine g_goto X dX8_inn_35 (tgt := 39) (by decide) ?_
        exact g_iret X hrt dX8_inn_39 (by decide) (by decide) ⟨C, D, F, I, K, trivial⟩
      · skip
        refine g_bipush X dX8_inn_32 (v := 10) (by decide) ?_
        refine g_isub X dX8_inn_34 ?_
        refine Go.gen (fun o13 => ?_)
        refine g_goto X dX8_inn_35 (tgt := 39) (by decide) ?_
        exact g_iret X hrt dX8_inn_39 (by decide) (by decide) ⟨C, D, F, I, K, trivial⟩
set_option maxHeartbeats 4000000 in
set_option maxRecDepth 100000 in
theorem s_X8_trailTo (l : Launch) (G : va_G) {cy : Nat → ClassId} {L : List Nat} {M : Nat → va_E} {a : Nat → Nat} {act : Nat → Bool} {C0 : Nat → Nat → Int32} {D0 : Nat → Nat → Int64} {R : Nat → Nat → Option Nat} (F : WI L M a act (ent cy a C0 D0 R)) (I : Inv C0) (p0 : Nat) (hp0a : 0 ≤ p0) (hp0b : p0 ≤ 7) (p1 : Nat) (hp1a : 0 ≤ p1) (hp1b : p1 ≤ 16)  : MI l G cy yX8_trailTo cX8_trailTo 5 (some .int) 1 0 0 [.ref (a 100), .int (nI p0), .int (nI p1)] L M (fun r L2 M2 => ∃ C2 D2, WI L2 M2 a act (ent cy a C2 D2 R) ∧ Inv C2 ∧ Kp [] C0 D0 C2 D2 ∧ True) := by
  refine MI.of (own := RX8) rfl (by decide) (Nat.le_of_ble_eq_true rfl) ?_
  intro p e s m below meth c A X hrt hnm
  obtain ⟨C, D, hC0, hD0, F, I, K⟩ : ∃ C D, C = C0 ∧ D = D0 ∧ WI L M a act (ent cy a C D R) ∧ Inv C ∧ Kp [] C0 D0 C D := ⟨C0, D0, rfl, rfl, F, I, Kp.rf⟩
  obtain ⟨n1, hn1, en1⟩ := rg_nat ((show okw 0 (C 101 0) from I 101 0).1 rfl) (by decide)
  rw [hC0] at en1
  obtain ⟨n2, hn2, en2⟩ := rg_nat ((show okw 4 (C 101 4) from I 101 4).2.2.2.1 rfl) (by decide)
  rw [hC0] at en2
  obtain ⟨n3, hn3, en3⟩ := rg_nat ((show okw 7 (C 101 7) from I 101 7).2.2.2.2.1 rfl) (by decide)
  rw [hC0] at en3
  refine g_iconst X dX8_trailTo_0 (v := 0) (by decide) ?_
  refine g_istore_n X dX8_trailTo_1 rfl (by decide) (lv2 := [(3, .int 0), (0, .ref (a 100)), (1, .int (nI p0)), (2, .int (nI p1))]) rfl ?_
  refine g_iconst X dX8_trailTo_2 (v := 0) (by decide) ?_
  refine g_istore X dX8_trailTo_3 (by decide) (lv2 := [(4, .int 0), (3, .int 0), (0, .ref (a 100)), (1, .int (nI p0)), (2, .int (nI p1))]) rfl ?_
  refine g_lv [0, 1, 2, 3, 4] (lv2 := [(4, .int 0), (3, .int 0), (0, .ref (a 100)), (1, .int (nI p0)), (2, .int (nI p1))]) rfl ?_
  refine i_loop (mods := []) (fun x : Nat × Int32 => 17 - x.1) (fun x => [(4, .int (nI (x.1))), (3, .int (x.2)), (0, .ref (a 100)), (1, .int (nI p0)), (2, .int (nI p1))]) (fun x C => 0 ≤ x.1 ∧ x.1 ≤ 17) (fun x L M C D F I K hP ih5 => ?_) ((0, 0) : Nat × Int32) F I K ⟨by show _ ≤ _; omega, by show _ ≤ _; omega⟩
  rcases x with ⟨i5_4, v5_3⟩
  obtain ⟨hi5_4a, hi5_4b⟩ := hP
  refine g_lv [0, 1, 2, 3, 4] (lv2 := [(4, .int (nI i5_4)), (3, .int v5_3), (0, .ref (a 100)), (1, .int (nI p0)), (2, .int (nI p1))]) rfl ?_
  refine g_iload X dX8_trailTo_5 (j := 0) rfl ?_
  refine g_iload_n X dX8_trailTo_7 rfl (j := 4) rfl ?_
  refine g_icmp_gt X dX8_trailTo_8 (tgt := 51) (by decide) (fun q4 => ?_) (fun q4 => ?_)
  · skip
    have q4 : p1 < i5_4 := (nI_ltI (a := p1) (b := i5_4) (by omega) (by omega)).mp q4
    refine g_iload_n X dX8_trailTo_51 rfl (j := 1) rfl ?_
    exact g_iret X hrt dX8_trailTo_52 (by decide) (by decide) ⟨C, D, F, I, K, trivial⟩
  · skip
    have q4 : ¬ p1 < i5_4 := fun z => q4 ((nI_ltI (a := p1) (b := i5_4) (by omega) (by omega)).mpr z)
    refine g_iload_n X dX8_trailTo_11 rfl (j := 1) rfl ?_
    refine g_aload_n X dX8_trailTo_12 rfl (j := 2) rfl ?_
    refine g_iload_n X dX8_trailTo_13 rfl (j := 3) rfl ?_
    refine g_iload X dX8_trailTo_14 (j := 0) rfl ?_
    refine g_callVI X (s_X8_placeOf l G F I p0 (by omega) (by omega) i5_4 (by omega) (by omega) ) lk_X8_298 (F.1 100 rfl).2 (F.1 100 rfl).1 rfl rfl dX8_trailTo_16 (Nat.le_of_ble_eq_true rfl) ⟨by decide, by decide⟩ ⟨by decide, by decide⟩ (fun r5 L M hp => ?_)
    obtain ⟨C, D, F, I, K1, hr⟩ := hp
    have K := K.step K1 (by decide)
    rcases okp_nat hr with rfl | ⟨n6, hn6, rfl⟩
    · skip
      refine g_i2l X dX8_trailTo_19 rfl ?_
      refine Go.top (v := .long (-1)) (by decide) ?_
      refine g_lconst X dX8_trailTo_20 (v := 0) (by decide) ?_
      refine g_ldc2 X (v := 6) wd784 dX8_trailTo_21 ?_
      refine g_callSI X (s_X8_in l G F I (-1 : Int64) (0 : Int64) (6 : Int64) ) lk_X8_94 rfl rfl dX8_trailTo_24 (Nat.le_of_ble_eq_true rfl) ⟨by decide, by decide⟩ ⟨by decide, by decide⟩ (fun r7 L M hp => ?_)
      obtain ⟨C, D, F, I, K1, hr⟩ := hp
      have K := K.step K1 (by decide)
      rcases hr with ⟨rfl, hq⟩ | ⟨rfl, hq⟩
      · skip
        refine g_if_eq X dX8_trailTo_27 (tgt := 42) (by decide) (fun _ => ?_) (fun q => absurd (by decide) q)
        refine g_iconst X dX8_trailTo_42 (v := 0) (by decide) ?_
        refine g_ior X dX8_trailTo_43 ?_
        refine Go.gen (fun o8 => ?_)
        refine g_istore_n X dX8_trailTo_44 rfl (by decide) (lv2 := [(3, .int o8), (4, .int (nI i5_4)), (0, .ref (a 100)), (1, .int (nI p0)), (2, .int (nI p1))]) rfl ?_
        refine g_iinc X dX8_trailTo_45 (j := 1) rfl (v := nI (i5_4 + 1)) (nI_1 i5_4) (by decide) (lv2 := [(4, .int (nI (i5_4 + 1))), (3, .int o8), (0, .ref (a 100)), (1, .int (nI p0)), (2, .int (nI p1))]) rfl ?_
        refine g_goto X dX8_trailTo_48 (tgt := 5) (by decide) ?_
        refine g_lv [0, 1, 2, 3, 4] (lv2 := [(4, .int (nI (i5_4 + 1))), (3, .int o8), (0, .ref (a 100)), (1, .int (nI p0)), (2, .int (nI p1))]) rfl ?_
        exact ih5 ((i5_4 + 1), o8) L M C D F I K ⟨by omega, by omega⟩ (by show _ < _; omega)
      · skip
        exact absurd hq (by decide)
    · skip
      refine g_i2l X dX8_trailTo_19 rfl ?_
      refine g_lconst X dX8_trailTo_20 (v := 0) (by decide) ?_
      refine g_ldc2 X (v := 6) wd784 dX8_trailTo_21 ?_
      refine g_callSI X (s_X8_in l G F I ((Int32.toInt64 (nI n6))) (0 : Int64) (6 : Int64) ) lk_X8_94 rfl rfl dX8_trailTo_24 (Nat.le_of_ble_eq_true rfl) ⟨by decide, by decide⟩ ⟨by decide, by decide⟩ (fun r9 L M hp => ?_)
      obtain ⟨C, D, F, I, K1, hr⟩ := hp
      have K := K.step K1 (by decide)
      rcases hr with ⟨rfl, hq10⟩ | ⟨rfl, hq10⟩
      · skip
        have hq10x := Jvm.Kit.i64_of_i32 (nI n6)
        rw [nI_toInt (by omega)] at hq10x
        have hq10l : (0 : Int64).toInt = 0 := (by decide)
        have hq10h : (6 : Int64).toInt = 6 := (by decide)
        refine g_if_eq X dX8_trailTo_27 (tgt := 42) (by decide) (fun _ => ?_) (fun q => absurd (by decide) q)
        refine g_iconst X dX8_trailTo_42 (v := 0) (by decide) ?_
        refine g_ior X dX8_trailTo_43 ?_
        refine Go.gen (fun o11 => ?_)
        refine g_istore_n X dX8_trailTo_44 rfl (by decide) (lv2 := [(3, .int o11), (4, .int (nI i5_4)), (0, .ref (a 100)), (1, .int (nI p0)), (2, .int (nI p1))]) rfl ?_
        refine g_iinc X dX8_trailTo_45 (j := 1) rfl (v := nI (i5_4 + 1)) (nI_1 i5_4) (by decide) (lv2 := [(4, .int (nI (i5_4 + 1))), (3, .int o11), (0, .ref (a 100)), (1, .int (nI p0)), (2, .int (nI p1))]) rfl ?_
        refine g_goto X dX8_trailTo_48 (tgt := 5) (by decide) ?_
        refine g_lv [0, 1, 2, 3, 4] (lv2 := [(4, .int (nI (i5_4 + 1))), (3, .int o11), (0, .ref (a 100)), (1, .int (nI p0)), (2, .int (nI p1))]) rfl ?_
        exact ih5 ((i5_4 + 1), o11) L M C D F I K ⟨by omega, by omega⟩ (by show _ < _; omega)
      · skip
        have hq10x := Jvm.Kit.i64_of_i32 (nI n6)
        rw [nI_toInt (by omega)] at hq10x
        have hq10l : (0 : Int64).toInt = 0 := (by decide)
        have hq10h : (6 : Int64).toInt = 6 := (by decide)
        refine g_if_eq X dX8_trailTo_27 (tgt := 42) (by decide) (fun q => absurd q (by decide)) (fun _ => ?_)
        refine g_iconst X dX8_trailTo_30 (v := 1) (by decide) ?_
        refine g_aload_n X dX8_trailTo_31 rfl (j := 2) rfl ?_
        refine g_iload_n X dX8_trailTo_32 rfl (j := 3) rfl ?_
        refine g_iload X dX8_trailTo_33 (j := 0) rfl ?_
        refine g_callVI X (s_X8_placeOf l G F I p0 (by omega) (by omega) i5_4 (by omega) (by omega) ) lk_X8_298 (F.1 100 rfl).2 (F.1 100 rfl).1 rfl rfl dX8_trailTo_35 (Nat.le_of_ble_eq_true rfl) ⟨by decide, by decide⟩ ⟨by decide, by decide⟩ (fun r12 L M hp => ?_)
        obtain ⟨C, D, F, I, K1, hr⟩ := hp
        have K := K.step K1 (by decide)
        rcases okp_nat hr with rfl | ⟨n13, hn13, rfl⟩
        · skip
          refine g_ishl X dX8_trailTo_38 ?_
          refine Go.top (v := .int (-2147483648)) (by decide) ?_
          refine g_goto X dX8_trailTo_39 (tgt := 43) (by decide) ?_
          refine g_ior X dX8_trailTo_43 ?_
          refine Go.gen (fun o14 => ?_)
          refine g_istore_n X dX8_trailTo_44 rfl (by decide) (lv2 := [(3, .int o14), (4, .int (nI i5_4)), (0, .ref (a 100)), (1, .int (nI p0)), (2, .int (nI p1))]) rfl ?_
          refine g_iinc X dX8_trailTo_45 (j := 1) rfl (v := nI (i5_4 + 1)) (nI_1 i5_4) (by decide) (lv2 := [(4, .int (nI (i5_4 + 1))), (3, .int o14), (0, .ref (a 100)), (1, .int (nI p0)), (2, .int (nI p1))]) rfl ?_
          refine g_goto X dX8_trailTo_48 (tgt := 5) (by decide) ?_
          refine g_lv [0, 1, 2, 3, 4] (lv2 := [(4, .int (nI (i5_4 + 1))), (3, .int o14), (0, .ref (a 100)), (1, .int (nI p0)), (2, .int (nI p1))]) rfl ?_
          exact ih5 ((i5_4 + 1), o14) L M C D F I K ⟨by omega, by omega⟩ (by show _ < _; omega)
        · skip
          refine g_ishl X dX8_trailTo_38 ?_
          refine Go.gen (fun o15 => ?_)
          refine g_goto X dX8_trailTo_39 (tgt := 43) (by decide) ?_
          refine g_ior X dX8_trailTo_43 ?_
          refine Go.gen (fun o16 => ?_)
          refine g_istore_n X dX8_trailTo_44 rfl (by decide) (lv2 := [(3, .int o16), (4, .int (nI i5_4)), (0, .ref (a 100)), (1, .int (nI p0)), (2, .int (nI p1))]) rfl ?_
          refine g_iinc X dX8_trailTo_45 (j := 1) rfl (v := nI (i5_4 + 1)) (nI_1 i5_4) (by decide) (lv2 := [(4, .int (nI (i5_4 + 1))), (3, .int o16), (0, .ref (a 100)), (1, .int (nI p0)), (2, .int (nI p1))]) rfl ?_
          refine g_goto X dX8_trailTo_48 (tgt := 5) (by decide) ?_
          refine g_lv [0, 1, 2, 3, 4] (lv2 := [(4, .int (nI (i5_4 + 1))), (3, .int o16), (0, .ref (a 100)), (1, .int (nI p0)), (2, .int (nI p1))]) rfl ?_
          exact ih5 ((i5_4 + 1), o16) L M C D F I K ⟨by omega, by omega⟩ (by show _ < _; omega)
set_option maxHeartbeats 4000000 in
set_option maxRecDepth 100000 in
theorem s_X8_trail (l : Launch) (G : va_G) {cy : Nat → ClassId} {L : List Nat} {M : Nat → va_E} {a : Nat → Nat} {act : Nat → Bool} {C0 : Nat → Nat → Int32} {D0 : Nat → Nat → Int64} {R : Nat → Nat → Option Nat} (F : WI L M a act (ent cy a C0 D0 R)) (I : Inv C0) (p0 : Int32)  : MI l G cy yX8_trail cX8_trail 2 (some .int) 8 0 0 [.ref (a 100), .int p0] L M (fun r L2 M2 => ∃ C2 D2, WI L2 M2 a act (ent cy a C2 D2 R) ∧ Inv C2 ∧ Kp [100, 115, 116, 120, 121, 122, 123, 124, 125, 126, 127, 128] C0 D0 C2 D2 ∧ True) := by
  refine MI.of (own := RX8) rfl (by decide) (Nat.le_of_ble_eq_true rfl) ?_
  intro p e s m below meth c A X hrt hnm
  obtain ⟨C, D, hC0, hD0, F, I, K⟩ : ∃ C D, C = C0 ∧ D = D0 ∧ WI L M a act (ent cy a C D R) ∧ Inv C ∧ Kp [100, 115, 116, 120, 121, 122, 123, 124, 125, 126, 127, 128] C0 D0 C D := ⟨C0, D0, rfl, rfl, F, I, Kp.rf⟩
  obtain ⟨n1, hn1, en1⟩ := rg_nat ((show okw 0 (C 101 0) from I 101 0).1 rfl) (by decide)
  rw [hC0] at en1
  obtain ⟨n2, hn2, en2⟩ := rg_nat ((show okw 4 (C 101 4) from I 101 4).2.2.2.1 rfl) (by decide)
  rw [hC0] at en2
  obtain ⟨n3, hn3, en3⟩ := rg_nat ((show okw 7 (C 101 7) from I 101 7).2.2.2.2.1 rfl) (by decide)
  rw [hC0] at en3
  refine g_aload_n X dX8_trail_0 rfl (j := 0) rfl ?_
  refine g_iload_n X dX8_trail_1 rfl (j := 1) rfl ?_
  refine g_callVI X (s_X8_asksWalker l G F I p0 ) lk_X8_320 (F.1 100 rfl).2 (F.1 100 rfl).1 rfl rfl dX8_trail_2 (Nat.le_of_ble_eq_true rfl) ⟨by decide, by decide⟩ ⟨by decide, by decide⟩ (fun r4 L M hp => ?_)
  obtain ⟨C, D, F, I, K1, hr⟩ := hp
  have K := K.step K1 (by decide)
  rcases hr with rfl | ⟨rfl, n5, hn5, en5⟩
  · skip
    refine g_if_eq X dX8_trail_5 (tgt := 20) (by decide) (fun _ => ?_) (fun q => absurd (by decide) q)
    refine g_bipush X dX8_trail_20 (v := -2) (by decide) ?_
    exact g_iret X hrt dX8_trail_22 (by decide) (by decide) ⟨C, D, F, I, K, trivial⟩
  · skip
    subst en5
    refine g_if_eq X dX8_trail_5 (tgt := 20) (by decide) (fun q => absurd q (by decide)) (fun _ => ?_)
    refine g_aload_n X dX8_trail_8 rfl (j := 0) rfl ?_
    refine g_iload_n X dX8_trail_9 rfl (j := 1) rfl ?_
    refine g_aload_n X dX8_trail_10 rfl (j := 0) rfl ?_
    refine g_callVI X (s_X8_hours l G F I  ) lk_X8_106 (F.1 100 rfl).2 (F.1 100 rfl).1 rfl rfl dX8_trail_11 (Nat.le_of_ble_eq_true rfl) ⟨by decide, by decide⟩ ⟨by decide, by decide⟩ (fun r6 L M hp => ?_)
    obtain ⟨C, D, F, I, K1, hr⟩ := hp
    have K := K.step K1 (by decide)
    obtain ⟨n7, hn7, en7, rfl⟩ := hr
    obtain rfl : n1 = n7 := ((nI_eq (by omega) (by omega)).mp (en7.symm.trans ((congrFun (K 101 (by decide)).1 0).trans en1))).symm
    refine g_callVI X (s_X8_trailTo l G F I n5 (by omega) (by omega) n1 (by omega) (by omega) ) lk_X8_331 (F.1 100 rfl).2 (F.1 100 rfl).1 rfl rfl dX8_trail_14 (Nat.le_of_ble_eq_true rfl) ⟨by decide, by decide⟩ ⟨by decide, by decide⟩ (fun r8 L M hp => ?_)
    obtain ⟨C, D, F, I, K1, hr⟩ := hp
    have K := K.step K1 (by decide)
    refine g_goto X dX8_trail_17 (tgt := 22) (by decide) ?_
    exact g_iret X hrt dX8_trail_22 (by decide) (by decide) ⟨C, D, F, I, K, trivial⟩
set_option maxHeartbeats 4000000 in
set_option maxRecDepth 100000 in
theorem s_X8_again (l : Launch) (G : va_G) {cy : Nat → ClassId} {L : List Nat} {M : Nat → va_E} {a : Nat → Nat} {act : Nat → Bool} {C0 : Nat → Nat → Int32} {D0 : Nat → Nat → Int64} {R : Nat → Nat → Option Nat} (F : WI L M a act (ent cy a C0 D0 R)) (I : Inv C0) (p0 : Int32)  : MI l G cy yX8_again cX8_again 5 (some .int) 8 0 0 [.ref (a 100), .int p0] L M (fun r L2 M2 => ∃ C2 D2, WI L2 M2 a act (ent cy a C2 D2 R) ∧ Inv C2 ∧ Kp [100, 115, 116, 120, 121, 122, 123, 124, 125, 126, 127, 128] C0 D0 C2 D2 ∧ True) := by
  refine MI.of (own := RX8) rfl (by decide) (Nat.le_of_ble_eq_true rfl) ?_
  intro p e s m below meth c A X hrt hnm
  obtain ⟨C, D, hC0, hD0, F, I, K⟩ : ∃ C D, C = C0 ∧ D = D0 ∧ WI L M a act (ent cy a C D R) ∧ Inv C ∧ Kp [100, 115, 116, 120, 121, 122, 123, 124, 125, 126, 127, 128] C0 D0 C D := ⟨C0, D0, rfl, rfl, F, I, Kp.rf⟩
  obtain ⟨n1, hn1, en1⟩ := rg_nat ((show okw 0 (C 101 0) from I 101 0).1 rfl) (by decide)
  rw [hC0] at en1
  obtain ⟨n2, hn2, en2⟩ := rg_nat ((show okw 4 (C 101 4) from I 101 4).2.2.2.1 rfl) (by decide)
  rw [hC0] at en2
  obtain ⟨n3, hn3, en3⟩ := rg_nat ((show okw 7 (C 101 7) from I 101 7).2.2.2.2.1 rfl) (by decide)
  rw [hC0] at en3
  refine g_aload_n X dX8_again_0 rfl (j := 0) rfl ?_
  refine g_iload_n X dX8_again_1 rfl (j := 1) rfl ?_
  refine g_callVI X (s_X8_asksWalker l G F I p0 ) lk_X8_320 (F.1 100 rfl).2 (F.1 100 rfl).1 rfl rfl dX8_again_2 (Nat.le_of_ble_eq_true rfl) ⟨by decide, by decide⟩ ⟨by decide, by decide⟩ (fun r4 L M hp => ?_)
  obtain ⟨C, D, F, I, K1, hr⟩ := hp
  have K := K.step K1 (by decide)
  rcases hr with rfl | ⟨rfl, n5, hn5, en5⟩
  · skip
    refine g_if_ne X dX8_again_5 (tgt := 11) (by decide) (fun q => absurd (by decide) q) (fun _ => ?_)
    refine g_bipush X dX8_again_8 (v := -2) (by decide) ?_
    exact g_iret X hrt dX8_again_10 (by decide) (by decide) ⟨C, D, F, I, K, trivial⟩
  · skip
    subst en5
    refine g_if_ne X dX8_again_5 (tgt := 11) (by decide) (fun _ => ?_) (fun q => absurd q (by decide))
    refine g_iconst X dX8_again_11 (v := 0) (by decide) ?_
    refine g_istore_n X dX8_again_12 rfl (by decide) (lv2 := [(2, .int 0), (0, .ref (a 100)), (1, .int (nI n5))]) rfl ?_
    refine g_iconst X dX8_again_13 (v := 1) (by decide) ?_
    refine g_istore_n X dX8_again_14 rfl (by decide) (lv2 := [(3, .int 1), (2, .int 0), (0, .ref (a 100)), (1, .int (nI n5))]) rfl ?_
    refine g_lv [0, 1, 2, 3] (lv2 := [(3, .int 1), (2, .int 0), (0, .ref (a 100)), (1, .int (nI n5))]) rfl ?_
    refine i_loop (mods := [100, 115, 116, 120, 121, 122, 123, 124, 125, 126, 127, 128]) (fun x : Nat × Int32 => 17 - x.1) (fun x => [(3, .int (nI (x.1))), (2, .int (x.2)), (0, .ref (a 100)), (1, .int (nI n5))]) (fun x C => 1 ≤ x.1 ∧ x.1 ≤ 17) (fun x L M C D F I K hP ih15 => ?_) ((1, 0) : Nat × Int32) F I K ⟨by show _ ≤ _; omega, by show _ ≤ _; omega⟩
    rcases x with ⟨i15_3, v15_2⟩
    obtain ⟨hi15_3a, hi15_3b⟩ := hP
    refine g_lv [0, 1, 2, 3] (lv2 := [(3, .int (nI i15_3)), (2, .int v15_2), (0, .ref (a 100)), (1, .int (nI n5))]) rfl ?_
    refine g_iload_n X dX8_again_15 rfl (j := 0) rfl ?_
    refine g_aload_n X dX8_again_16 rfl (j := 2) rfl ?_
    refine g_callVI X (s_X8_hours l G F I  ) lk_X8_106 (F.1 100 rfl).2 (F.1 100 rfl).1 rfl rfl dX8_again_17 (Nat.le_of_ble_eq_true rfl) ⟨by decide, by decide⟩ ⟨by decide, by decide⟩ (fun r6 L M hp => ?_)
    obtain ⟨C, D, F, I, K1, hr⟩ := hp
    have K := K.step K1 (by decide)
    obtain ⟨n7, hn7, en7, rfl⟩ := hr
    obtain rfl : n1 = n7 := ((nI_eq (by omega) (by omega)).mp (en7.symm.trans ((congrFun (K 101 (by decide)).1 0).trans en1))).symm
    refine g_icmp_gt X dX8_again_20 (tgt := 88) (by decide) (fun q8 => ?_) (fun q8 => ?_)
    · skip
      have q8 : n1 < i15_3 := (nI_ltI (a := n1) (b := i15_3) (by omega) (by omega)).mp q8
      refine g_iload_n X dX8_again_88 rfl (j := 1) rfl ?_
      exact g_iret X hrt dX8_again_89 (by decide) (by decide) ⟨C, D, F, I, K, trivial⟩
    · skip
      have q8 : ¬ n1 < i15_3 := fun z => q8 ((nI_ltI (a := n1) (b := i15_3) (by omega) (by omega)).mpr z)
      refine g_aload_n X dX8_again_23 rfl (j := 2) rfl ?_
      refine g_iload_n X dX8_again_24 rfl (j := 3) rfl ?_
      refine g_iload_n X dX8_again_25 rfl (j := 0) rfl ?_
      refine g_callVI X (s_X8_placeOf l G F I n5 (by omega) (by omega) i15_3 (by omega) (by omega) ) lk_X8_298 (F.1 100 rfl).2 (F.1 100 rfl).1 rfl rfl dX8_again_26 (Nat.le_of_ble_eq_true rfl) ⟨by decide, by decide⟩ ⟨by decide, by decide⟩ (fun r9 L M hp => ?_)
      obtain ⟨C, D, F, I, K1, hr⟩ := hp
      have K := K.step K1 (by decide)
      rcases okp_nat hr with rfl | ⟨n10, hn10, rfl⟩
      · skip
        refine g_istore X dX8_again_29 (by decide) (lv2 := [(4, .int (-1)), (3, .int (nI i15_3)), (2, .int v15_2), (0, .ref (a 100)), (1, .int (nI n5))]) rfl ?_
        refine g_iload_n X dX8_again_31 rfl (j := 2) rfl ?_
        refine g_iload X dX8_again_32 (j := 0) rfl ?_
        refine g_i2l X dX8_again_34 rfl ?_
        refine Go.top (v := .long (-1)) (by decide) ?_
        refine g_lconst X dX8_again_35 (v := 0) (by decide) ?_
        refine g_ldc2 X (v := 6) wd784 dX8_again_36 ?_
        refine g_callSI X (s_X8_in l G F I (-1 : Int64) (0 : Int64) (6 : Int64) ) lk_X8_94 rfl rfl dX8_again_39 (Nat.le_of_ble_eq_true rfl) ⟨by decide, by decide⟩ ⟨by decide, by decide⟩ (fun r11 L M hp => ?_)
        obtain ⟨C, D, F, I, K1, hr⟩ := hp
        have K := K.step K1 (by decide)
        rcases hr with ⟨rfl, hq⟩ | ⟨rfl, hq⟩
        · skip
          refine g_if_eq X dX8_again_42 (tgt := 79) (by decide) (fun _ => ?_) (fun q => absurd (by decide) q)
          refine g_iconst X dX8_again_79 (v := 0) (by decide) ?_
          refine g_iadd X dX8_again_80 ?_
          refine Go.gen (fun o12 => ?_)
          refine g_istore_n X dX8_again_81 rfl (by decide) (lv2 := [(2, .int o12), (4, .int (-1)), (3, .int (nI i15_3)), (0, .ref (a 100)), (1, .int (nI n5))]) rfl ?_
          refine g_iinc X dX8_again_82 (j := 2) rfl (v := nI (i15_3 + 1)) (nI_1 i15_3) (by decide) (lv2 := [(3, .int (nI (i15_3 + 1))), (2, .int o12), (4, .int (-1)), (0, .ref (a 100)), (1, .int (nI n5))]) rfl ?_
          refine g_goto X dX8_again_85 (tgt := 15) (by decide) ?_
          refine g_lv [0, 1, 3, 4] (lv2 := [(3, .int (nI (i15_3 + 1))), (2, .int o12), (0, .ref (a 100)), (1, .int (nI n5))]) rfl ?_
          exact ih15 ((i15_3 + 1), o12) L M C D F I K ⟨by omega, by omega⟩ (by show _ < _; omega)
        · skip
          exact absurd hq (by decide)
      · skip
        refine g_istore X dX8_again_29 (by decide) (lv2 := [(4, .int (nI n10)), (3, .int (nI i15_3)), (2, .int v15_2), (0, .ref (a 100)), (1, .int (nI n5))]) rfl ?_
        refine g_iload_n X dX8_again_31 rfl (j := 2) rfl ?_
        refine g_iload X dX8_again_32 (j := 0) rfl ?_
        refine g_i2l X dX8_again_34 rfl ?_
        refine g_lconst X dX8_again_35 (v := 0) (by decide) ?_
        refine g_ldc2 X (v := 6) wd784 dX8_again_36 ?_
        refine g_callSI X (s_X8_in l G F I ((Int32.toInt64 (nI n10))) (0 : Int64) (6 : Int64) ) lk_X8_94 rfl rfl dX8_again_39 (Nat.le_of_ble_eq_true rfl) ⟨by decide, by decide⟩ ⟨by decide, by decide⟩ (fun r13 L M hp => ?_)
        obtain ⟨C, D, F, I, K1, hr⟩ := hp
        have K := K.step K1 (by decide)
        rcases hr with ⟨rfl, hq14⟩ | ⟨rfl, hq14⟩
        · skip
          have hq14x := Jvm.Kit.i64_of_i32 (nI n10)
          rw [nI_toInt (by omega)] at hq14x
          have hq14l : (0 : Int64).toInt = 0 := (by decide)
          have hq14h : (6 : Int64).toInt = 6 := (by decide)
          refine g_if_eq X dX8_again_42 (tgt := 79) (by decide) (fun _ => ?_) (fun q => absurd (by decide) q)
          refine g_iconst X dX8_again_79 (v := 0) (by decide) ?_
          refine g_iadd X dX8_again_80 ?_
          refine Go.gen (fun o15 => ?_)
          refine g_istore_n X dX8_again_81 rfl (by decide) (lv2 := [(2, .int o15), (4, .int (nI n10)), (3, .int (nI i15_3)), (0, .ref (a 100)), (1, .int (nI n5))]) rfl ?_
          refine g_iinc X dX8_again_82 (j := 2) rfl (v := nI (i15_3 + 1)) (nI_1 i15_3) (by decide) (lv2 := [(3, .int (nI (i15_3 + 1))), (2, .int o15), (4, .int (nI n10)), (0, .ref (a 100)), (1, .int (nI n5))]) rfl ?_
          refine g_goto X dX8_again_85 (tgt := 15) (by decide) ?_
          refine g_lv [0, 1, 3, 4] (lv2 := [(3, .int (nI (i15_3 + 1))), (2, .int o15), (0, .ref (a 100)), (1, .int (nI n5))]) rfl ?_
          exact ih15 ((i15_3 + 1), o15) L M C D F I K ⟨by omega, by omega⟩ (by show _ < _; omega)
        · skip
          have hq14x := Jvm.Kit.i64_of_i32 (nI n10)
          rw [nI_toInt (by omega)] at hq14x
          have hq14l : (0 : Int64).toInt = 0 := (by decide)
          have hq14h : (6 : Int64).toInt = 6 := (by decide)
          refine g_if_eq X dX8_again_42 (tgt := 79) (by decide) (fun q => absurd q (by decide)) (fun _ => ?_)
          refine g_aload_n X dX8_again_45 rfl (j := 3) rfl ?_
          refine g_iload_n X dX8_again_46 rfl (j := 4) rfl ?_
          refine g_iload_n X dX8_again_47 rfl (j := 1) rfl ?_
          refine g_iconst X dX8_again_48 (v := 1) (by decide) ?_
          refine g_isub X dX8_again_49 ?_
          refine Go.top (v := .int (nI (i15_3 - 1))) (congrArg Value.int (pk_sub (a := i15_3) (b := 1) (by omega))) ?_
          refine g_callVI X (s_X8_placeOf l G F I n5 (by omega) (by omega) (i15_3 - 1) (by omega) (by omega) ) lk_X8_298 (F.1 100 rfl).2 (F.1 100 rfl).1 rfl rfl dX8_again_50 (Nat.le_of_ble_eq_true rfl) ⟨by decide, by decide⟩ ⟨by decide, by decide⟩ (fun r16 L M hp => ?_)
          obtain ⟨C, D, F, I, K1, hr⟩ := hp
          have K := K.step K1 (by decide)
          rcases okp_nat hr with rfl | ⟨n17, hn17, rfl⟩
          · skip
            refine g_iload X dX8_again_53 (j := 0) rfl ?_
            refine g_icmp_eq X dX8_again_55 (tgt := 79) (by decide) (fun q18 => ?_) (fun q18 => ?_)
            · skip
              refine g_iconst X dX8_again_79 (v := 0) (by decide) ?_
              refine g_iadd X dX8_again_80 ?_
              refine Go.gen (fun o19 => ?_)
              refine g_istore_n X dX8_again_81 rfl (by decide) (lv2 := [(2, .int o19), (4, .int (nI n10)), (3, .int (nI i15_3)), (0, .ref (a 100)), (1, .int (nI n5))]) rfl ?_
              refine g_iinc X dX8_again_82 (j := 2) rfl (v := nI (i15_3 + 1)) (nI_1 i15_3) (by decide) (lv2 := [(3, .int (nI (i15_3 + 1))), (2, .int o19), (4, .int (nI n10)), (0, .ref (a 100)), (1, .int (nI n5))]) rfl ?_
              refine g_goto X dX8_again_85 (tgt := 15) (by decide) ?_
              refine g_lv [0, 1, 3, 4] (lv2 := [(3, .int (nI (i15_3 + 1))), (2, .int o19), (0, .ref (a 100)), (1, .int (nI n5))]) rfl ?_
              exact ih15 ((i15_3 + 1), o19) L M C D F I K ⟨by omega, by omega⟩ (by show _ < _; omega)
            · skip
              refine g_aload_n X dX8_again_58 rfl (j := 3) rfl ?_
              refine g_iload_n X dX8_again_59 rfl (j := 4) rfl ?_
              refine g_iload_n X dX8_again_60 rfl (j := 1) rfl ?_
              refine g_iconst X dX8_again_61 (v := 1) (by decide) ?_
              refine g_isub X dX8_again_62 ?_
              refine Go.top (v := .int (nI (i15_3 - 1))) (congrArg Value.int (pk_sub (a := i15_3) (b := 1) (by omega))) ?_
              refine g_callVI X (s_X8_trailTo l G F I n5 (by omega) (by omega) (i15_3 - 1) (by omega) (by omega) ) lk_X8_331 (F.1 100 rfl).2 (F.1 100 rfl).1 rfl rfl dX8_again_63 (Nat.le_of_ble_eq_true rfl) ⟨by decide, by decide⟩ ⟨by decide, by decide⟩ (fun r20 L M hp => ?_)
              obtain ⟨C, D, F, I, K1, hr⟩ := hp
              have K := K.step K1 (by decide)
              refine g_iload X dX8_again_66 (j := 0) rfl ?_
              refine g_callSI X (s_X8_bit l G F I r20 (nI n10) ) lk_X8_266 rfl rfl dX8_again_68 (Nat.le_of_ble_eq_true rfl) ⟨by decide, by decide⟩ ⟨by decide, by decide⟩ (fun r21 L M hp => ?_)
              obtain ⟨C, D, F, I, K1, hr⟩ := hp
              have K := K.step K1 (by decide)
              obtain ⟨n22, hn22a, hn22b, rfl⟩ := hr
              refine g_iconst X dX8_again_71 (v := 1) (by decide) ?_
              refine g_icmp_ne X dX8_again_72 (tgt := 79) (by decide) (fun q23 => ?_) (fun q23 => ?_)
              · skip
                have q23 : ¬ n22 = 1 := fun z => q23 ((nI_eq (a := n22) (b := 1) (by omega) (by omega)).mpr z)
                refine g_iconst X dX8_again_79 (v := 0) (by decide) ?_
                refine g_iadd X dX8_again_80 ?_
                refine Go.gen (fun o24 => ?_)
                refine g_istore_n X dX8_again_81 rfl (by decide) (lv2 := [(2, .int o24), (4, .int (nI n10)), (3, .int (nI i15_3)), (0, .ref (a 100)), (1, .int (nI n5))]) rfl ?_
                refine g_iinc X dX8_again_82 (j := 2) rfl (v := nI (i15_3 + 1)) (nI_1 i15_3) (by decide) (lv2 := [(3, .int (nI (i15_3 + 1))), (2, .int o24), (4, .int (nI n10)), (0, .ref (a 100)), (1, .int (nI n5))]) rfl ?_
                refine g_goto X dX8_again_85 (tgt := 15) (by decide) ?_
                refine g_lv [0, 1, 3, 4] (lv2 := [(3, .int (nI (i15_3 + 1))), (2, .int o24), (0, .ref (a 100)), (1, .int (nI n5))]) rfl ?_
                exact ih15 ((i15_3 + 1), o24) L M C D F I K ⟨by omega, by omega⟩ (by show _ < _; omega)
              · skip
                have q23 : n22 = 1 := (nI_eq (a := n22) (b := 1) (by omega) (by omega)).mp q23
                refine g_iconst X dX8_again_75 (v := 1) (by decide) ?_
                refine g_goto X dX8_again_76 (tgt := 80) (by decide) ?_
                refine g_iadd X dX8_again_80 ?_
                refine Go.gen (fun o25 => ?_)
                refine g_istore_n X dX8_again_81 rfl (by decide) (lv2 := [(2, .int o25), (4, .int (nI n10)), (3, .int (nI i15_3)), (0, .ref (a 100)), (1, .int (nI n5))]) rfl ?_
                refine g_iinc X dX8_again_82 (j := 2) rfl (v := nI (i15_3 + 1)) (nI_1 i15_3) (by decide) (lv2 := [(3, .int (nI (i15_3 + 1))), (2, .int o25), (4, .int (nI n10)), (0, .ref (a 100)), (1, .int (nI n5))]) rfl ?_
                refine g_goto X dX8_again_85 (tgt := 15) (by decide) ?_
                refine g_lv [0, 1, 3, 4] (lv2 := [(3, .int (nI (i15_3 + 1))), (2, .int o25), (0, .ref (a 100)), (1, .int (nI n5))]) rfl ?_
                exact ih15 ((i15_3 + 1), o25) L M C D F I K ⟨by omega, by omega⟩ (by show _ < _; omega)
          · skip
            refine g_iload X dX8_again_53 (j := 0) rfl ?_
            refine g_icmp_eq X dX8_again_55 (tgt := 79) (by decide) (fun q26 => ?_) (fun q26 => ?_)
            · skip
              have q26 : n17 = n10 := (nI_eq (a := n17) (b := n10) (by omega) (by omega)).mp q26
              refine g_iconst X dX8_again_79 (v := 0) (by decide) ?_
              refine g_iadd X dX8_again_80 ?_
              refine Go.gen (fun o27 => ?_)
              refine g_istore_n X dX8_again_81 rfl (by decide) (lv2 := [(2, .int o27), (4, .int (nI n10)), (3, .int (nI i15_3)), (0, .ref (a 100)), (1, .int (nI n5))]) rfl ?_
              refine g_iinc X dX8_again_82 (j := 2) rfl (v := nI (i15_3 + 1)) (nI_1 i15_3) (by decide) (lv2 := [(3, .int (nI (i15_3 + 1))), (2, .int o27), (4, .int (nI n10)), (0, .ref (a 100)), (1, .int (nI n5))]) rfl ?_
              refine g_goto X dX8_again_85 (tgt := 15) (by decide) ?_
              refine g_lv [0, 1, 3, 4] (lv2 := [(3, .int (nI (i15_3 + 1))), (2, .int o27), (0, .ref (a 100)), (1, .int (nI n5))]) rfl ?_
              exact ih15 ((i15_3 + 1), o27) L M C D F I K ⟨by omega, by omega⟩ (by show _ < _; omega)
            · skip
              have q26 : ¬ n17 = n10 := fun z => q26 ((nI_eq (a := n17) (b := n10) (by omega) (by omega)).mpr z)
              refine g_aload_n X dX8_again_58 rfl (j := 3) rfl ?_
              refine g_iload_n X dX8_again_59 rfl (j := 4) rfl ?_
              refine g_iload_n X dX8_again_60 rfl (j := 1) rfl ?_
              refine g_iconst X dX8_again_61 (v := 1) (by decide) ?_
              refine g_isub X dX8_again_62 ?_
              refine Go.top (v := .int (nI (i15_3 - 1))) (congrArg Value.int (pk_sub (a := i15_3) (b := 1) (by omega))) ?_
              refine g_callVI X (s_X8_trailTo l G F I n5 (by omega) (by omega) (i15_3 - 1) (by omega) (by omega) ) lk_X8_331 (F.1 100 rfl).2 (F.1 100 rfl).1 rfl rfl dX8_again_63 (Nat.le_of_ble_eq_true rfl) ⟨by decide, by decide⟩ ⟨by decide, by decide⟩ (fun r28 L M hp => ?_)
              obtain ⟨C, D, F, I, K1, hr⟩ := hp
              have K := K.step K1 (by decide)
              refine g_iload X dX8_again_66 (j := 0) rfl ?_
              refine g_callSI X (s_X8_bit l G F I r28 (nI n10) ) lk_X8_266 rfl rfl dX8_again_68 (Nat.le_of_ble_eq_true rfl) ⟨by decide, by decide⟩ ⟨by decide, by decide⟩ (fun r29 L M hp => ?_)
              obtain ⟨C, D, F, I, K1, hr⟩ := hp
              have K := K.step K1 (by decide)
              obtain ⟨n30, hn30a, hn30b, rfl⟩ := hr
              refine g_iconst X dX8_again_71 (v := 1) (by decide) ?_
              refine g_icmp_ne X dX8_again_72 (tgt := 79) (by decide) (fun q31 => ?_) (fun q31 => ?_)
              · skip
                have q31 : ¬ n30 = 1 := fun z => q31 ((nI_eq (a := n30) (b := 1) (by omega) (by omega)).mpr z)
                refine g_iconst X dX8_again_79 (v := 0) (by decide) ?_
                refine g_iadd X dX8_again_80 ?_
                refine Go.gen (fun o32 => ?_)
                refine g_istore_n X dX8_again_81 rfl (by decide) (lv2 := [(2, .int o32), (4, .int (nI n10)), (3, .int (nI i15_3)), (0, .ref (a 100)), (1, .int (nI n5))]) rfl ?_
                refine g_iinc X dX8_again_82 (j := 2) rfl (v := nI (i15_3 + 1)) (nI_1 i15_3) (by decide) (lv2 := [(3, .int (nI (i15_3 + 1))), (2, .int o32), (4, .int (nI n10)), (0, .ref (a 100)), (1, .int (nI n5))]) rfl ?_
                refine g_goto X dX8_again_85 (tgt := 15) (by decide) ?_
                refine g_lv [0, 1, 3, 4] (lv2 := [(3, .int (nI (i15_3 + 1))), (2, .int o32), (0, .ref (a 100)), (1, .int (nI n5))]) rfl ?_
                exact ih15 ((i15_3 + 1), o32) L M C D F I K ⟨by omega, by omega⟩ (by show _ < _; omega)
              · skip
                have q31 : n30 = 1 := (nI_eq (a := n30) (b := 1) (by omega) (by omega)).mp q31
                refine g_iconst X dX8_again_75 (v := 1) (by decide) ?_
                refine g_goto X dX8_again_76 (tgt := 80) (by decide) ?_
                refine g_iadd X dX8_again_80 ?_
                refine Go.gen (fun o33 => ?_)
                refine g_istore_n X dX8_again_81 rfl (by decide) (lv2 := [(2, .int o33), (4, .int (nI n10)), (3, .int (nI i15_3)), (0, .ref (a 100)), (1, .int (nI n5))]) rfl ?_
                refine g_iinc X dX8_again_82 (j := 2) rfl (v := nI (i15_3 + 1)) (nI_1 i15_3) (by decide) (lv2 := [(3, .int (nI (i15_3 + 1))), (2, .int o33), (4, .int (nI n10)), (0, .ref (a 100)), (1, .int (nI n5))]) rfl ?_
                refine g_goto X dX8_again_85 (tgt := 15) (by decide) ?_
                refine g_lv [0, 1, 3, 4] (lv2 := [(3, .int (nI (i15_3 + 1))), (2, .int o33), (0, .ref (a 100)), (1, .int (nI n5))]) rfl ?_
                exact ih15 ((i15_3 + 1), o33) L M C D F I K ⟨by omega, by omega⟩ (by show _ < _; omega)
set_option maxHeartbeats 4000000 in
set_option maxRecDepth 100000 in
theorem s_X8_lingers (l : Launch) (G : va_G) {cy : Nat → ClassId} {L : List Nat} {M : Nat → va_E} {a : Nat → Nat} {act : Nat → Bool} {C0 : Nat → Nat → Int32} {D0 : Nat → Nat → Int64} {R : Nat → Nat → Option Nat} (F : WI L M a act (ent cy a C0 D0 R)) (I : Inv C0) (p0 : Int32)  : MI l G cy yX8_lingers cX8_lingers 4 (some .int) 8 0 0 [.ref (a 100), .int p0] L M (fun r L2 M2 => ∃ C2 D2, WI L2 M2 a act (ent cy a C2 D2 R) ∧ Inv C2 ∧ Kp [100, 115, 116, 120, 121, 122, 123, 124, 125, 126, 127, 128] C0 D0 C2 D2 ∧ True) := by
  refine MI.of (own := RX8) rfl (by decide) (Nat.le_of_ble_eq_true rfl) ?_
  intro p e s m below meth c A X hrt hnm
  obtain ⟨C, D, hC0, hD0, F, I, K⟩ : ∃ C D, C = C0 ∧ D = D0 ∧ WI L M a act (ent cy a C D R) ∧ Inv C ∧ Kp [100, 115, 116, 120, 121, 122, 123, 124, 125, 126, 127, 128] C0 D0 C D := ⟨C0, D0, rfl, rfl, F, I, Kp.rf⟩
  obtain ⟨n1, hn1, en1⟩ := rg_nat ((show okw 0 (C 101 0) from I 101 0).1 rfl) (by decide)
  rw [hC0] at en1
  obtain ⟨n2, hn2, en2⟩ := rg_nat ((show okw 4 (C 101 4) from I 101 4).2.2.2.1 rfl) (by decide)
  rw [hC0] at en2
  obtain ⟨n3, hn3, en3⟩ := rg_nat ((show okw 7 (C 101 7) from I 101 7).2.2.2.2.1 rfl) (by decide)
  rw [hC0] at en3
  refine g_aload_n X dX8_lingers_0 rfl (j := 0) rfl ?_
  refine g_iload_n X dX8_lingers_1 rfl (j := 1) rfl ?_
  refine g_callVI X (s_X8_asksWalker l G F I p0 ) lk_X8_320 (F.1 100 rfl).2 (F.1 100 rfl).1 rfl rfl dX8_lingers_2 (Nat.le_of_ble_eq_true rfl) ⟨by decide, by decide⟩ ⟨by decide, by decide⟩ (fun r4 L M hp => ?_)
  obtain ⟨C, D, F, I, K1, hr⟩ := hp
  have K := K.step K1 (by decide)
  rcases hr with rfl | ⟨rfl, n5, hn5, en5⟩
  · skip
    refine g_if_ne X dX8_lingers_5 (tgt := 11) (by decide) (fun q => absurd (by decide) q) (fun _ => ?_)
    refine g_bipush X dX8_lingers_8 (v := -2) (by decide) ?_
    exact g_iret X hrt dX8_lingers_10 (by decide) (by decide) ⟨C, D, F, I, K, trivial⟩
  · skip
    subst en5
    refine g_if_ne X dX8_lingers_5 (tgt := 11) (by decide) (fun _ => ?_) (fun q => absurd q (by decide))
    refine g_iconst X dX8_lingers_11 (v := 0) (by decide) ?_
    refine g_istore_n X dX8_lingers_12 rfl (by decide) (lv2 := [(2, .int 0), (0, .ref (a 100)), (1, .int (nI n5))]) rfl ?_
    refine g_iconst X dX8_lingers_13 (v := 1) (by decide) ?_
    refine g_istore_n X dX8_lingers_14 rfl (by decide) (lv2 := [(3, .int 1), (2, .int 0), (0, .ref (a 100)), (1, .int (nI n5))]) rfl ?_
    refine g_lv [0, 1, 2, 3] (lv2 := [(3, .int 1), (2, .int 0), (0, .ref (a 100)), (1, .int (nI n5))]) rfl ?_
    refine i_loop (mods := [100, 115, 116, 120, 121, 122, 123, 124, 125, 126, 127, 128]) (fun x : Nat × Int32 => 17 - x.1) (fun x => [(3, .int (nI (x.1))), (2, .int (x.2)), (0, .ref (a 100)), (1, .int (nI n5))]) (fun x C => 1 ≤ x.1 ∧ x.1 ≤ 17) (fun x L M C D F I K hP ih15 => ?_) ((1, 0) : Nat × Int32) F I K ⟨by show _ ≤ _; omega, by show _ ≤ _; omega⟩
    rcases x with ⟨i15_3, v15_2⟩
    obtain ⟨hi15_3a, hi15_3b⟩ := hP
    refine g_lv [0, 1, 2, 3] (lv2 := [(3, .int (nI i15_3)), (2, .int v15_2), (0, .ref (a 100)), (1, .int (nI n5))]) rfl ?_
    refine g_iload_n X dX8_lingers_15 rfl (j := 0) rfl ?_
    refine g_aload_n X dX8_lingers_16 rfl (j := 2) rfl ?_
    refine g_callVI X (s_X8_hours l G F I  ) lk_X8_106 (F.1 100 rfl).2 (F.1 100 rfl).1 rfl rfl dX8_lingers_17 (Nat.le_of_ble_eq_true rfl) ⟨by decide, by decide⟩ ⟨by decide, by decide⟩ (fun r6 L M hp => ?_)
    obtain ⟨C, D, F, I, K1, hr⟩ := hp
    have K := K.step K1 (by decide)
    obtain ⟨n7, hn7, en7, rfl⟩ := hr
    obtain rfl : n1 = n7 := ((nI_eq (by omega) (by omega)).mp (en7.symm.trans ((congrFun (K 101 (by decide)).1 0).trans en1))).symm
    refine g_icmp_gt X dX8_lingers_20 (tgt := 71) (by decide) (fun q8 => ?_) (fun q8 => ?_)
    · skip
      have q8 : n1 < i15_3 := (nI_ltI (a := n1) (b := i15_3) (by omega) (by omega)).mp q8
      refine g_iload_n X dX8_lingers_71 rfl (j := 1) rfl ?_
      exact g_iret X hrt dX8_lingers_72 (by decide) (by decide) ⟨C, D, F, I, K, trivial⟩
    · skip
      have q8 : ¬ n1 < i15_3 := fun z => q8 ((nI_ltI (a := n1) (b := i15_3) (by omega) (by omega)).mpr z)
      refine g_iload_n X dX8_lingers_23 rfl (j := 1) rfl ?_
      refine g_aload_n X dX8_lingers_24 rfl (j := 2) rfl ?_
      refine g_iload_n X dX8_lingers_25 rfl (j := 3) rfl ?_
      refine g_iload_n X dX8_lingers_26 rfl (j := 0) rfl ?_
      refine g_callVI X (s_X8_placeOf l G F I n5 (by omega) (by omega) i15_3 (by omega) (by omega) ) lk_X8_298 (F.1 100 rfl).2 (F.1 100 rfl).1 rfl rfl dX8_lingers_27 (Nat.le_of_ble_eq_true rfl) ⟨by decide, by decide⟩ ⟨by decide, by decide⟩ (fun r9 L M hp => ?_)
      obtain ⟨C, D, F, I, K1, hr⟩ := hp
      have K := K.step K1 (by decide)
      rcases okp_nat hr with rfl | ⟨n10, hn10, rfl⟩
      · skip
        refine g_i2l X dX8_lingers_30 rfl ?_
        refine Go.top (v := .long (-1)) (by decide) ?_
        refine g_lconst X dX8_lingers_31 (v := 0) (by decide) ?_
        refine g_ldc2 X (v := 6) wd784 dX8_lingers_32 ?_
        refine g_callSI X (s_X8_in l G F I (-1 : Int64) (0 : Int64) (6 : Int64) ) lk_X8_94 rfl rfl dX8_lingers_35 (Nat.le_of_ble_eq_true rfl) ⟨by decide, by decide⟩ ⟨by decide, by decide⟩ (fun r11 L M hp => ?_)
        obtain ⟨C, D, F, I, K1, hr⟩ := hp
        have K := K.step K1 (by decide)
        rcases hr with ⟨rfl, hq⟩ | ⟨rfl, hq⟩
        · skip
          refine g_if_eq X dX8_lingers_38 (tgt := 62) (by decide) (fun _ => ?_) (fun q => absurd (by decide) q)
          refine g_iconst X dX8_lingers_62 (v := 0) (by decide) ?_
          refine g_iadd X dX8_lingers_63 ?_
          refine Go.gen (fun o12 => ?_)
          refine g_istore_n X dX8_lingers_64 rfl (by decide) (lv2 := [(2, .int o12), (3, .int (nI i15_3)), (0, .ref (a 100)), (1, .int (nI n5))]) rfl ?_
          refine g_iinc X dX8_lingers_65 (j := 1) rfl (v := nI (i15_3 + 1)) (nI_1 i15_3) (by decide) (lv2 := [(3, .int (nI (i15_3 + 1))), (2, .int o12), (0, .ref (a 100)), (1, .int (nI n5))]) rfl ?_
          refine g_goto X dX8_lingers_68 (tgt := 15) (by decide) ?_
          refine g_lv [0, 1, 2, 3] (lv2 := [(3, .int (nI (i15_3 + 1))), (2, .int o12), (0, .ref (a 100)), (1, .int (nI n5))]) rfl ?_
          exact ih15 ((i15_3 + 1), o12) L M C D F I K ⟨by omega, by omega⟩ (by show _ < _; omega)
        · skip
          exact absurd hq (by decide)
      · skip
        refine g_i2l X dX8_lingers_30 rfl ?_
        refine g_lconst X dX8_lingers_31 (v := 0) (by decide) ?_
        refine g_ldc2 X (v := 6) wd784 dX8_lingers_32 ?_
        refine g_callSI X (s_X8_in l G F I ((Int32.toInt64 (nI n10))) (0 : Int64) (6 : Int64) ) lk_X8_94 rfl rfl dX8_lingers_35 (Nat.le_of_ble_eq_true rfl) ⟨by decide, by decide⟩ ⟨by decide, by decide⟩ (fun r13 L M hp => ?_)
        obtain ⟨C, D, F, I, K1, hr⟩ := hp
        have K := K.step K1 (by decide)
        rcases hr with ⟨rfl, hq14⟩ | ⟨rfl, hq14⟩
        · skip
          have hq14x := Jvm.Kit.i64_of_i32 (nI n10)
          rw [nI_toInt (by omega)] at hq14x
          have hq14l : (0 : Int64).toInt = 0 := (by decide)
          have hq14h : (6 : Int64).toInt = 6 := (by decide)
          refine g_if_eq X dX8_lingers_38 (tgt := 62) (by decide) (fun _ => ?_) (fun q => absurd (by decide) q)
          refine g_iconst X dX8_lingers_62 (v := 0) (by decide) ?_
          refine g_iadd X dX8_lingers_63 ?_
          refine Go.gen (fun o15 => ?_)
          refine g_istore_n X dX8_lingers_64 rfl (by decide) (lv2 := [(2, .int o15), (3, .int (nI i15_3)), (0, .ref (a 100)), (1, .int (nI n5))]) rfl ?_
          refine g_iinc X dX8_lingers_65 (j := 1) rfl (v := nI (i15_3 + 1)) (nI_1 i15_3) (by decide) (lv2 := [(3, .int (nI (i15_3 + 1))), (2, .int o15), (0, .ref (a 100)), (1, .int (nI n5))]) rfl ?_
          refine g_goto X dX8_lingers_68 (tgt := 15) (by decide) ?_
          refine g_lv [0, 1, 2, 3] (lv2 := [(3, .int (nI (i15_3 + 1))), (2, .int o15), (0, .ref (a 100)), (1, .int (nI n5))]) rfl ?_
          exact ih15 ((i15_3 + 1), o15) L M C D F I K ⟨by omega, by omega⟩ (by show _ < _; omega)
        · skip
          have hq14x := Jvm.Kit.i64_of_i32 (nI n10)
          rw [nI_toInt (by omega)] at hq14x
          have hq14l : (0 : Int64).toInt = 0 := (by decide)
          have hq14h : (6 : Int64).toInt = 6 := (by decide)
          refine g_if_eq X dX8_lingers_38 (tgt := 62) (by decide) (fun q => absurd q (by decide)) (fun _ => ?_)
          refine g_aload_n X dX8_lingers_41 rfl (j := 2) rfl ?_
          refine g_iload_n X dX8_lingers_42 rfl (j := 3) rfl ?_
          refine g_iload_n X dX8_lingers_43 rfl (j := 0) rfl ?_
          refine g_iconst X dX8_lingers_44 (v := 1) (by decide) ?_
          refine g_isub X dX8_lingers_45 ?_
          refine Go.top (v := .int (nI (i15_3 - 1))) (congrArg Value.int (pk_sub (a := i15_3) (b := 1) (by omega))) ?_
          refine g_callVI X (s_X8_placeOf l G F I n5 (by omega) (by omega) (i15_3 - 1) (by omega) (by omega) ) lk_X8_298 (F.1 100 rfl).2 (F.1 100 rfl).1 rfl rfl dX8_lingers_46 (Nat.le_of_ble_eq_true rfl) ⟨by decide, by decide⟩ ⟨by decide, by decide⟩ (fun r16 L M hp => ?_)
          obtain ⟨C, D, F, I, K1, hr⟩ := hp
          have K := K.step K1 (by decide)
          rcases okp_nat hr with rfl | ⟨n17, hn17, rfl⟩
          · skip
            refine g_aload_n X dX8_lingers_49 rfl (j := 2) rfl ?_
            refine g_iload_n X dX8_lingers_50 rfl (j := 3) rfl ?_
            refine g_iload_n X dX8_lingers_51 rfl (j := 0) rfl ?_
            refine g_callVI X (s_X8_placeOf l G F I n5 (by omega) (by omega) i15_3 (by omega) (by omega) ) lk_X8_298 (F.1 100 rfl).2 (F.1 100 rfl).1 rfl rfl dX8_lingers_52 (Nat.le_of_ble_eq_true rfl) ⟨by decide, by decide⟩ ⟨by decide, by decide⟩ (fun r18 L M hp => ?_)
            obtain ⟨C, D, F, I, K1, hr⟩ := hp
            have K := K.step K1 (by decide)
            rcases okp_nat hr with rfl | ⟨n19, hn19, rfl⟩
            · skip
              refine g_icmp_ne X dX8_lingers_55 (tgt := 62) (by decide) (fun q => absurd (by decide) q) (fun _ => ?_)
              refine g_iconst X dX8_lingers_58 (v := 1) (by decide) ?_
              refine g_goto X dX8_lingers_59 (tgt := 63) (by decide) ?_
              refine g_iadd X dX8_lingers_63 ?_
              refine Go.gen (fun o20 => ?_)
              refine g_istore_n X dX8_lingers_64 rfl (by decide) (lv2 := [(2, .int o20), (3, .int (nI i15_3)), (0, .ref (a 100)), (1, .int (nI n5))]) rfl ?_
              refine g_iinc X dX8_lingers_65 (j := 1) rfl (v := nI (i15_3 + 1)) (nI_1 i15_3) (by decide) (lv2 := [(3, .int (nI (i15_3 + 1))), (2, .int o20), (0, .ref (a 100)), (1, .int (nI n5))]) rfl ?_
              refine g_goto X dX8_lingers_68 (tgt := 15) (by decide) ?_
              refine g_lv [0, 1, 2, 3] (lv2 := [(3, .int (nI (i15_3 + 1))), (2, .int o20), (0, .ref (a 100)), (1, .int (nI n5))]) rfl ?_
              exact ih15 ((i15_3 + 1), o20) L M C D F I K ⟨by omega, by omega⟩ (by show _ < _; omega)
            · skip
              refine g_icmp_ne X dX8_lingers_55 (tgt := 62) (by decide) (fun q21 => ?_) (fun q21 => ?_)
              · skip
                refine g_iconst X dX8_lingers_62 (v := 0) (by decide) ?_
                refine g_iadd X dX8_lingers_63 ?_
                refine Go.gen (fun o22 => ?_)
                refine g_istore_n X dX8_lingers_64 rfl (by decide) (lv2 := [(2, .int o22), (3, .int (nI i15_3)), (0, .ref (a 100)), (1, .int (nI n5))]) rfl ?_
                refine g_iinc X dX8_lingers_65 (j := 1) rfl (v := nI (i15_3 + 1)) (nI_1 i15_3) (by decide) (lv2 := [(3, .int (nI (i15_3 + 1))), (2, .int o22), (0, .ref (a 100)), (1, .int (nI n5))]) rfl ?_
                refine g_goto X dX8_lingers_68 (tgt := 15) (by decide) ?_
                refine g_lv [0, 1, 2, 3] (lv2 := [(3, .int (nI (i15_3 + 1))), (2, .int o22), (0, .ref (a 100)), (1, .int (nI n5))]) rfl ?_
                exact ih15 ((i15_3 + 1), o22) L M C D F I K ⟨by omega, by omega⟩ (by show _ < _; omega)
              · skip
                refine g_iconst X dX8_lingers_58 (v := 1) (by decide) ?_
                refine g_goto X dX8_lingers_59 (tgt := 63) (by decide) ?_
                refine g_iadd X dX8_lingers_63 ?_
                refine Go.gen (fun o23 => ?_)
                refine g_istore_n X dX8_lingers_64 rfl (by decide) (lv2 := [(2, .int o23), (3, .int (nI i15_3)), (0, .ref (a 100)), (1, .int (nI n5))]) rfl ?_
                refine g_iinc X dX8_lingers_65 (j := 1) rfl (v := nI (i15_3 + 1)) (nI_1 i15_3) (by decide) (lv2 := [(3, .int (nI (i15_3 + 1))), (2, .int o23), (0, .ref (a 100)), (1, .int (nI n5))]) rfl ?_
                refine g_goto X dX8_lingers_68 (tgt := 15) (by decide) ?_
                refine g_lv [0, 1, 2, 3] (lv2 := [(3, .int (nI (i15_3 + 1))), (2, .int o23), (0, .ref (a 100)), (1, .int (nI n5))]) rfl ?_
                exact ih15 ((i15_3 + 1), o23) L M C D F I K ⟨by omega, by omega⟩ (by show _ < _; omega)
          · skip
            refine g_aload_n X dX8_lingers_49 rfl (j := 2) rfl ?_
            refine g_iload_n X dX8_lingers_50 rfl (j := 3) rfl ?_
            refine g_iload_n X dX8_lingers_51 rfl (j := 0) rfl ?_
            refine g_callVI X (s_X8_placeOf l G F I n5 (by omega) (by omega) i15_3 (by omega) (by omega) ) lk_X8_298 (F.1 100 rfl).2 (F.1 100 rfl).1 rfl rfl dX8_lingers_52 (Nat.le_of_ble_eq_true rfl) ⟨by decide, by decide⟩ ⟨by decide, by decide⟩ (fun r24 L M hp => ?_)
            obtain ⟨C, D, F, I, K1, hr⟩ := hp
            have K := K.step K1 (by decide)
            rcases okp_nat hr with rfl | ⟨n25, hn25, rfl⟩
            · skip
              refine g_icmp_ne X dX8_lingers_55 (tgt := 62) (by decide) (fun _ => ?_) (fun q => absurd q (nI_nm1 (by omega)))
              refine g_iconst X dX8_lingers_62 (v := 0) (by decide) ?_
              refine g_iadd X dX8_lingers_63 ?_
              refine Go.gen (fun o27 => ?_)
              refine g_istore_n X dX8_lingers_64 rfl (by decide) (lv2 := [(2, .int o27), (3, .int (nI i15_3)), (0, .ref (a 100)), (1, .int (nI n5))]) rfl ?_
              refine g_iinc X dX8_lingers_65 (j := 1) rfl (v := nI (i15_3 + 1)) (nI_1 i15_3) (by decide) (lv2 := [(3, .int (nI (i15_3 + 1))), (2, .int o27), (0, .ref (a 100)), (1, .int (nI n5))]) rfl ?_
              refine g_goto X dX8_lingers_68 (tgt := 15) (by decide) ?_
              refine g_lv [0, 1, 2, 3] (lv2 := [(3, .int (nI (i15_3 + 1))), (2, .int o27), (0, .ref (a 100)), (1, .int (nI n5))]) rfl ?_
              exact ih15 ((i15_3 + 1), o27) L M C D F I K ⟨by omega, by omega⟩ (by show _ < _; omega)
            · skip
              refine g_icmp_ne X dX8_lingers_55 (tgt := 62) (by decide) (fun q28 => ?_) (fun q28 => ?_)
              · skip
                have q28 : ¬ n17 = n25 := fun z => q28 ((nI_eq (a := n17) (b := n25) (by omega) (by omega)).mpr z)
                refine g_iconst X dX8_lingers_62 (v := 0) (by decide) ?_
                refine g_iadd X dX8_lingers_63 ?_
                refine Go.gen (fun o29 => ?_)
                refine g_istore_n X dX8_lingers_64 rfl (by decide) (lv2 := [(2, .int o29), (3, .int (nI i15_3)), (0, .ref (a 100)), (1, .int (nI n5))]) rfl ?_
                refine g_iinc X dX8_lingers_65 (j := 1) rfl (v := nI (i15_3 + 1)) (nI_1 i15_3) (by decide) (lv2 := [(3, .int (nI (i15_3 + 1))), (2, .int o29), (0, .ref (a 100)), (1, .int (nI n5))]) rfl ?_
                refine g_goto X dX8_lingers_68 (tgt := 15) (by decide) ?_
                refine g_lv [0, 1, 2, 3] (lv2 := [(3, .int (nI (i15_3 + 1))), (2, .int o29), (0, .ref (a 100)), (1, .int (nI n5))]) rfl ?_
                exact ih15 ((i15_3 + 1), o29) L M C D F I K ⟨by omega, by omega⟩ (by show _ < _; omega)
              · skip
                have q28 : n17 = n25 := (nI_eq (a := n17) (b := n25) (by omega) (by omega)).mp q28
                refine g_iconst X dX8_lingers_58 (v := 1) (by decide) ?_
                refine g_goto X dX8_lingers_59 (tgt := 63) (by decide) ?_
                refine g_iadd X dX8_lingers_63 ?_
                refine Go.gen (fun o30 => ?_)
                refine g_istore_n X dX8_lingers_64 rfl (by decide) (lv2 := [(2, .int o30), (3, .int (nI i15_3)), (0, .ref (a 100)), (1, .int (nI n5))]) rfl ?_
                refine g_iinc X dX8_lingers_65 (j := 1) rfl (v := nI (i15_3 + 1)) (nI_1 i15_3) (by decide) (lv2 := [(3, .int (nI (i15_3 + 1))), (2, .int o30), (0, .ref (a 100)), (1, .int (nI n5))]) rfl ?_
                refine g_goto X dX8_lingers_68 (tgt := 15) (by decide) ?_
                refine g_lv [0, 1, 2, 3] (lv2 := [(3, .int (nI (i15_3 + 1))), (2, .int o30), (0, .ref (a 100)), (1, .int (nI n5))]) rfl ?_
                exact ih15 ((i15_3 + 1), o30) L M C D F I K ⟨by omega, by omega⟩ (by show _ < _; omega)
set_option maxHeartbeats 4000000 in
set_option maxRecDepth 100000 in
theorem s_X8_guestsOf (l : Launch) (G : va_G) {cy : Nat → ClassId} {L : List Nat} {M : Nat → va_E} {a : Nat → Nat} {act : Nat → Bool} {C0 : Nat → Nat → Int32} {D0 : Nat → Nat → Int64} {R : Nat → Nat → Option Nat} (F : WI L M a act (ent cy a C0 D0 R)) (I : Inv C0) (p0 : Int32) (p1 : Nat) (hp1a : 0 ≤ p1) (hp1b : p1 ≤ 16)  : MI l G cy yX8_guestsOf cX8_guestsOf 3 (some .int) 2 0 0 [.ref (a 100), .int p0, .int (nI p1)] L M (fun r L2 M2 => ∃ C2 D2, WI L2 M2 a act (ent cy a C2 D2 R) ∧ Inv C2 ∧ Kp [] C0 D0 C2 D2 ∧ True) := by
  refine MI.of (own := RX8) rfl (by decide) (Nat.le_of_ble_eq_true rfl) ?_
  intro p e s m below meth c A X hrt hnm
  obtain ⟨C, D, hC0, hD0, F, I, K⟩ : ∃ C D, C = C0 ∧ D = D0 ∧ WI L M a act (ent cy a C D R) ∧ Inv C ∧ Kp [] C0 D0 C D := ⟨C0, D0, rfl, rfl, F, I, Kp.rf⟩
  obtain ⟨n1, hn1, en1⟩ := rg_nat ((show okw 0 (C 101 0) from I 101 0).1 rfl) (by decide)
  rw [hC0] at en1
  obtain ⟨n2, hn2, en2⟩ := rg_nat ((show okw 4 (C 101 4) from I 101 4).2.2.2.1 rfl) (by decide)
  rw [hC0] at en2
  obtain ⟨n3, hn3, en3⟩ := rg_nat ((show okw 7 (C 101 7) from I 101 7).2.2.2.2.1 rfl) (by decide)
  rw [hC0] at en3
  refine g_aload_n X dX8_guestsOf_0 rfl (j := 0) rfl ?_
  refine g_bipush X dX8_guestsOf_1 (v := 10) (by decide) ?_
  refine g_iload_n X dX8_guestsOf_3 rfl (j := 1) rfl ?_
  refine g_iadd X dX8_guestsOf_4 ?_
  refine Go.gen (fun o4 => ?_)
  refine g_iload_n X dX8_guestsOf_5 rfl (j := 2) rfl ?_
  refine g_callVI X (s_X8_hereOf l G F I o4 p1 (by omega) (by omega) ) lk_X8_308 (F.1 100 rfl).2 (F.1 100 rfl).1 rfl rfl dX8_guestsOf_6 (Nat.le_of_ble_eq_true rfl) ⟨by decide, by decide⟩ ⟨by decide, by decide⟩ (fun r5 L M hp => ?_)
  obtain ⟨C, D, F, I, K1, hr⟩ := hp
  have K := K.step K1 (by decide)
  refine g_callSI X (s_X8_bits l G F I r5 ) lk_X8_334 rfl rfl dX8_guestsOf_9 (Nat.le_of_ble_eq_true rfl) ⟨by decide, by decide⟩ ⟨by decide, by decide⟩ (fun r6 L M hp => ?_)
  obtain ⟨C, D, F, I, K1, hr⟩ := hp
  have K := K.step K1 (by decide)
  obtain ⟨n7, hn7a, hn7b, rfl⟩ := hr
  exact g_iret X hrt dX8_guestsOf_12 (by decide) (by decide) ⟨C, D, F, I, K, trivial⟩
set_option maxHeartbeats 4000000 in
set_option maxRecDepth 100000 in
theorem s_X8_guests (l : Launch) (G : va_G) {cy : Nat → ClassId} {L : List Nat} {M : Nat → va_E} {a : Nat → Nat} {act : Nat → Bool} {C0 : Nat → Nat → Int32} {D0 : Nat → Nat → Int64} {R : Nat → Nat → Option Nat} (F : WI L M a act (ent cy a C0 D0 R)) (I : Inv C0) (p0 : Int32) (p1 : Int32)  : MI l G cy yX8_guests cX8_guests 3 (some .int) 8 0 0 [.ref (a 100), .int p0, .int p1] L M (fun r L2 M2 => ∃ C2 D2, WI L2 M2 a act (ent cy a C2 D2 R) ∧ Inv C2 ∧ Kp [100, 115, 116, 120, 121, 122, 123, 124, 125, 126, 127, 128] C0 D0 C2 D2 ∧ True) := by
  refine MI.of (own := RX8) rfl (by decide) (Nat.le_of_ble_eq_true rfl) ?_
  intro p e s m below meth c A X hrt hnm
  obtain ⟨C, D, hC0, hD0, F, I, K⟩ : ∃ C D, C = C0 ∧ D = D0 ∧ WI L M a act (ent cy a C D R) ∧ Inv C ∧ Kp [100, 115, 116, 120, 121, 122, 123, 124, 125, 126, 127, 128] C0 D0 C D := ⟨C0, D0, rfl, rfl, F, I, Kp.rf⟩
  obtain ⟨n1, hn1, en1⟩ := rg_nat ((show okw 0 (C 101 0) from I 101 0).1 rfl) (by decide)
  rw [hC0] at en1
  obtain ⟨n2, hn2, en2⟩ := rg_nat ((show okw 4 (C 101 4) from I 101 4).2.2.2.1 rfl) (by decide)
  rw [hC0] at en2
  obtain ⟨n3, hn3, en3⟩ := rg_nat ((show okw 7 (C 101 7) from I 101 7).2.2.2.2.1 rfl) (by decide)
  rw [hC0] at en3
  refine g_aload_n X dX8_guests_0 rfl (j := 0) rfl ?_
  refine g_iload_n X dX8_guests_1 rfl (j := 2) rfl ?_
  refine g_callVI X (s_X8_asksHour l G F I p1 ) lk_X8_301 (F.1 100 rfl).2 (F.1 100 rfl).1 rfl rfl dX8_guests_2 (Nat.le_of_ble_eq_true rfl) ⟨by decide, by decide⟩ ⟨by decide, by decide⟩ (fun r4 L M hp => ?_)
  obtain ⟨C, D, F, I, K1, hr⟩ := hp
  have K := K.step K1 (by decide)
  rcases hr with rfl | ⟨rfl, n5, hn5, en5⟩
  · skip
    refine g_if_eq X dX8_guests_5 (tgt := 26) (by decide) (fun _ => ?_) (fun q => absurd (by decide) q)
    refine g_bipush X dX8_guests_26 (v := -2) (by decide) ?_
    exact g_iret X hrt dX8_guests_28 (by decide) (by decide) ⟨C, D, F, I, K, trivial⟩
  · skip
    subst en5
    refine g_if_eq X dX8_guests_5 (tgt := 26) (by decide) (fun q => absurd q (by decide)) (fun _ => ?_)
    refine g_aload_n X dX8_guests_8 rfl (j := 0) rfl ?_
    refine g_iload_n X dX8_guests_9 rfl (j := 1) rfl ?_
    refine g_i2l X dX8_guests_10 rfl ?_
    refine g_callVI X (s_X8_isInn l G F I ((Int32.toInt64 p0)) ) lk_X8_118 (F.1 100 rfl).2 (F.1 100 rfl).1 rfl rfl dX8_guests_11 (Nat.le_of_ble_eq_true rfl) ⟨by decide, by decide⟩ ⟨by decide, by decide⟩ (fun r6 L M hp => ?_)
    obtain ⟨C, D, F, I, K1, hr⟩ := hp
    have K := K.step K1 (by decide)
    rcases hr with rfl | ⟨rfl, hl7a, hl7b⟩
    · skip
      refine g_if_eq X dX8_guests_14 (tgt := 26) (by decide) (fun _ => ?_) (fun q => absurd (by decide) q)
      refine g_bipush X dX8_guests_26 (v := -2) (by decide) ?_
      exact g_iret X hrt dX8_guests_28 (by decide) (by decide) ⟨C, D, F, I, K, trivial⟩
    · skip
      rw [Jvm.Kit.i64_of_i32] at hl7a hl7b
      obtain ⟨n8, hn8a, hn8b, en8⟩ := nI_ofInt (x := p0) (lo := 0) (hi := 3) (by omega) (by omega) (by decide)
      subst en8
      refine g_if_eq X dX8_guests_14 (tgt := 26) (by decide) (fun q => absurd q (by decide)) (fun _ => ?_)
      refine g_aload_n X dX8_guests_17 rfl (j := 0) rfl ?_
      refine g_iload_n X dX8_guests_18 rfl (j := 1) rfl ?_
      refine g_iload_n X dX8_guests_19 rfl (j := 2) rfl ?_
      refine g_callVI X (s_X8_guestsOf l G F I (nI n8) n5 (by omega) (by omega) ) lk_X8_337 (F.1 100 rfl).2 (F.1 100 rfl).1 rfl rfl dX8_guests_20 (Nat.le_of_ble_eq_true rfl) ⟨by decide, by decide⟩ ⟨by decide, by decide⟩ (fun r9 L M hp => ?_)
      obtain ⟨C, D, F, I, K1, hr⟩ := hp
      have K := K.step K1 (by decide)
      refine g_goto X dX8_guests_23 (tgt := 28) (by decide) ?_
      exact g_iret X hrt dX8_guests_28 (by decide) (by decide) ⟨C, D, F, I, K, trivial⟩
set_option maxHeartbeats 4000000 in
set_option maxRecDepth 100000 in
theorem s_X8_full (l : Launch) (G : va_G) {cy : Nat → ClassId} {L : List Nat} {M : Nat → va_E} {a : Nat → Nat} {act : Nat → Bool} {C0 : Nat → Nat → Int32} {D0 : Nat → Nat → Int64} {R : Nat → Nat → Option Nat} (F : WI L M a act (ent cy a C0 D0 R)) (I : Inv C0) (p0 : Int32)  : MI l G cy yX8_full cX8_full 3 (some .int) 7 0 0 [.ref (a 100), .int p0] L M (fun r L2 M2 => ∃ C2 D2, WI L2 M2 a act (ent cy a C2 D2 R) ∧ Inv C2 ∧ Kp [100, 115, 116, 120, 121, 122, 123, 124, 125, 126, 127, 128] C0 D0 C2 D2 ∧ True) := by
  refine MI.of (own := RX8) rfl (by decide) (Nat.le_of_ble_eq_true rfl) ?_
  intro p e s m below meth c A X hrt hnm
  obtain ⟨C, D, hC0, hD0, F, I, K⟩ : ∃ C D, C = C0 ∧ D = D0 ∧ WI L M a act (ent cy a C D R) ∧ Inv C ∧ Kp [100, 115, 116, 120, 121, 122, 123, 124, 125, 126, 127, 128] C0 D0 C D := ⟨C0, D0, rfl, rfl, F, I, Kp.rf⟩
  obtain ⟨n1, hn1, en1⟩ := rg_nat ((show okw 0 (C 101 0) from I 101 0).1 rfl) (by decide)
  rw [hC0] at en1
  obtain ⟨n2, hn2, en2⟩ := rg_nat ((show okw 4 (C 101 4) from I 101 4).2.2.2.1 rfl) (by decide)
  rw [hC0] at en2
  obtain ⟨n3, hn3, en3⟩ := rg_nat ((show okw 7 (C 101 7) from I 101 7).2.2.2.2.1 rfl) (by decide)
  rw [hC0] at en3
  refine g_aload_n X dX8_full_0 rfl (j := 0) rfl ?_
  refine g_callVI X (s_X8_asksHeath l G F I  ) lk_X8_292 (F.1 100 rfl).2 (F.1 100 rfl).1 rfl rfl dX8_full_1 (Nat.le_of_ble_eq_true rfl) ⟨by decide, by decide⟩ ⟨by decide, by decide⟩ (fun r4 L M hp => ?_)
  obtain ⟨C, D, F, I, K1, hr⟩ := hp
  have K := K.step K1 (by decide)
  rcases hr with rfl | rfl
  · skip
    refine g_pop X dX8_full_4 rfl ?_
    refine g_aload_n X dX8_full_5 rfl (j := 0) rfl ?_
    refine g_iload_n X dX8_full_6 rfl (j := 1) rfl ?_
    refine g_i2l X dX8_full_7 rfl ?_
    refine g_callVI X (s_X8_isInn l G F I ((Int32.toInt64 p0)) ) lk_X8_118 (F.1 100 rfl).2 (F.1 100 rfl).1 rfl rfl dX8_full_8 (Nat.le_of_ble_eq_true rfl) ⟨by decide, by decide⟩ ⟨by decide, by decide⟩ (fun r5 L M hp => ?_)
    obtain ⟨C, D, F, I, K1, hr⟩ := hp
    have K := K.step K1 (by decide)
    rcases hr with rfl | ⟨rfl, hl6a, hl6b⟩
    · skip
      refine g_if_ne X dX8_full_11 (tgt := 17) (by decide) (fun q => absurd (by decide) q) (fun _ => ?_)
      refine g_bipush X dX8_full_14 (v := -2) (by decide) ?_
      exact g_iret X hrt dX8_full_16 (by decide) (by decide) ⟨C, D, F, I, K, trivial⟩
    · skip
      rw [Jvm.Kit.i64_of_i32] at hl6a hl6b
      obtain ⟨n7, hn7a, hn7b, en7⟩ := nI_ofInt (x := p0) (lo := 0) (hi := 3) (by omega) (by omega) (by decide)
      subst en7
      refine g_if_ne X dX8_full_11 (tgt := 17) (by decide) (fun _ => ?_) (fun q => absurd q (by decide))
      refine g_iconst X dX8_full_17 (v := 0) (by decide) ?_
      refine g_istore_n X dX8_full_18 rfl (by decide) (lv2 := [(2, .int 0), (0, .ref (a 100)), (1, .int (nI n7))]) rfl ?_
      refine g_lv [0, 1, 2] (lv2 := [(2, .int 0), (0, .ref (a 100)), (1, .int (nI n7))]) rfl ?_
      refine i_loop (mods := [100, 115, 116, 120, 121, 122, 123, 124, 125, 126, 127, 128]) (fun x : Nat => 17 - x) (fun x => [(2, .int (nI (x))), (0, .ref (a 100)), (1, .int (nI n7))]) (fun x C => 0 ≤ x ∧ x ≤ 17) (fun x L M C D F I K hP ih19 => ?_) ((0) : Nat) F I K ⟨by show _ ≤ _; omega, by show _ ≤ _; omega⟩
      obtain ⟨i19_2, rfl⟩ : ∃ z, z = x := ⟨_, rfl⟩
      obtain ⟨hi19_2a, hi19_2b⟩ := hP
      refine g_lv [0, 1, 2] (lv2 := [(2, .int (nI i19_2)), (0, .ref (a 100)), (1, .int (nI n7))]) rfl ?_
      refine g_iload_n X dX8_full_19 rfl (j := 0) rfl ?_
      refine g_aload_n X dX8_full_20 rfl (j := 1) rfl ?_
      refine g_callVI X (s_X8_hours l G F I  ) lk_X8_106 (F.1 100 rfl).2 (F.1 100 rfl).1 rfl rfl dX8_full_21 (Nat.le_of_ble_eq_true rfl) ⟨by decide, by decide⟩ ⟨by decide, by decide⟩ (fun r8 L M hp => ?_)
      obtain ⟨C, D, F, I, K1, hr⟩ := hp
      have K := K.step K1 (by decide)
      obtain ⟨n9, hn9, en9, rfl⟩ := hr
      obtain rfl : n1 = n9 := ((nI_eq (by omega) (by omega)).mp (en9.symm.trans ((congrFun (K 101 (by decide)).1 0).trans en1))).symm
      refine g_icmp_gt X dX8_full_24 (tgt := 53) (by decide) (fun q10 => ?_) (fun q10 => ?_)
      · skip
        have q10 : n1 < i19_2 := (nI_ltI (a := n1) (b := i19_2) (by omega) (by omega)).mp q10
        refine g_iconst X dX8_full_53 (v := -1) (by decide) ?_
        exact g_iret X hrt dX8_full_54 (by decide) (by decide) ⟨C, D, F, I, K, trivial⟩
      · skip
        have q10 : ¬ n1 < i19_2 := fun z => q10 ((nI_ltI (a := n1) (b := i19_2) (by omega) (by omega)).mpr z)
        refine g_aload_n X dX8_full_27 rfl (j := 1) rfl ?_
        refine g_iload_n X dX8_full_28 rfl (j := 2) rfl ?_
        refine g_iload_n X dX8_full_29 rfl (j := 0) rfl ?_
        refine g_callVI X (s_X8_guestsOf l G F I (nI n7) i19_2 (by omega) (by omega) ) lk_X8_337 (F.1 100 rfl).2 (F.1 100 rfl).1 rfl rfl dX8_full_30 (Nat.le_of_ble_eq_true rfl) ⟨by decide, by decide⟩ ⟨by decide, by decide⟩ (fun r11 L M hp => ?_)
        obtain ⟨C, D, F, I, K1, hr⟩ := hp
        have K := K.step K1 (by decide)
        refine g_aload_n X dX8_full_33 rfl (j := 1) rfl ?_
        refine i_get X F 100 rfl rfl fk_X8_9 dX8_full_34 rfl ?_
        refine g_bipush X dX8_full_37 (v := 10) (by decide) ?_
        refine g_iload_n X dX8_full_39 rfl (j := 2) rfl ?_
        refine g_iadd X dX8_full_40 ?_
        refine Go.top (v := .int (nI (10 + n7))) (congrArg Value.int (nI_add 10 n7)) ?_
        refine i_iald X F 101 rfl rfl dX8_full_41 (vp_in_nI (by omega) (by decide)) rfl ?_
        refine Go.gen (fun o12 => ?_)
        refine g_icmp_ne X dX8_full_42 (tgt := 47) (by decide) (fun q13 => ?_) (fun q13 => ?_)
        · skip
          refine g_iinc X dX8_full_47 (j := 0) rfl (v := nI (i19_2 + 1)) (nI_1 i19_2) (by decide) (lv2 := [(2, .int (nI (i19_2 + 1))), (0, .ref (a 100)), (1, .int (nI n7))]) rfl ?_
          refine g_goto X dX8_full_50 (tgt := 19) (by decide) ?_
          refine g_lv [0, 1, 2] (lv2 := [(2, .int (nI (i19_2 + 1))), (0, .ref (a 100)), (1, .int (nI n7))]) rfl ?_
          exact ih19 ((i19_2 + 1)) L M C D F I K ⟨by omega, by omega⟩ (by show _ < _; omega)
        · skip
          refine g_iload_n X dX8_full_45 rfl (j := 0) rfl ?_
          exact g_iret X hrt dX8_full_46 (by decide) (by decide) ⟨C, D, F, I, K, trivial⟩
  · skip
    refine g_pop X dX8_full_4 rfl ?_
    refine g_aload_n X dX8_full_5 rfl (j := 0) rfl ?_
    refine g_iload_n X dX8_full_6 rfl (j := 1) rfl ?_
    refine g_i2l X dX8_full_7 rfl ?_
    refine g_callVI X (s_X8_isInn l G F I ((Int32.toInt64 p0)) ) lk_X8_118 (F.1 100 rfl).2 (F.1 100 rfl).1 rfl rfl dX8_full_8 (Nat.le_of_ble_eq_true rfl) ⟨by decide, by decide⟩ ⟨by decide, by decide⟩ (fun r14 L M hp => ?_)
    obtain ⟨C, D, F, I, K1, hr⟩ := hp
    have K := K.step K1 (by decide)
    rcases hr with rfl | ⟨rfl, hl15a, hl15b⟩
    · skip
      refine g_if_ne X dX8_full_11 (tgt := 17) (by decide) (fun q => absurd (by decide) q) (fun _ => ?_)
      refine g_bipush X dX8_full_14 (v := -2) (by decide) ?_
      exact g_iret X hrt dX8_full_16 (by decide) (by decide) ⟨C, D, F, I, K, trivial⟩
    · skip
      rw [Jvm.Kit.i64_of_i32] at hl15a hl15b
      obtain ⟨n16, hn16a, hn16b, en16⟩ := nI_ofInt (x := p0) (lo := 0) (hi := 3) (by omega) (by omega) (by decide)
      subst en16
      refine g_if_ne X dX8_full_11 (tgt := 17) (by decide) (fun _ => ?_) (fun q => absurd q (by decide))
      refine g_iconst X dX8_full_17 (v := 0) (by decide) ?_
      refine g_istore_n X dX8_full_18 rfl (by decide) (lv2 := [(2, .int 0), (0, .ref (a 100)), (1, .int (nI n16))]) rfl ?_
      refine g_lv [0, 1, 2] (lv2 := [(2, .int 0), (0, .ref (a 100)), (1, .int (nI n16))]) rfl ?_
      refine i_loop (mods := [100, 115, 116, 120, 121, 122, 123, 124, 125, 126, 127, 128]) (fun x : Nat => 17 - x) (fun x => [(2, .int (nI (x))), (0, .ref (a 100)), (1, .int (nI n16))]) (fun x C => 0 ≤ x ∧ x ≤ 17) (fun x L M C D F I K hP ih19 => ?_) ((0) : Nat) F I K ⟨by show _ ≤ _; omega, by show _ ≤ _; omega⟩
      obtain ⟨i19_2, rfl⟩ : ∃ z, z = x := ⟨_, rfl⟩
      obtain ⟨hi19_2a, hi19_2b⟩ := hP
      refine g_lv [0, 1, 2] (lv2 := [(2, .int (nI i19_2)), (0, .ref (a 100)), (1, .int (nI n16))]) rfl ?_
      refine g_iload_n X dX8_full_19 rfl (j := 0) rfl ?_
      refine g_aload_n X dX8_full_20 rfl (j := 1) rfl ?_
      refine g_callVI X (s_X8_hours l G F I  ) lk_X8_106 (F.1 100 rfl).2 (F.1 100 rfl).1 rfl rfl dX8_full_21 (Nat.le_of_ble_eq_true rfl) ⟨by decide, by decide⟩ ⟨by decide, by decide⟩ (fun r17 L M hp => ?_)
      obtain ⟨C, D, F, I, K1, hr⟩ := hp
      have K := K.step K1 (by decide)
      obtain ⟨n18, hn18, en18, rfl⟩ := hr
      obtain rfl : n1 = n18 := ((nI_eq (by omega) (by omega)).mp (en18.symm.trans ((congrFun (K 101 (by decide)).1 0).trans en1))).symm
      refine g_icmp_gt X dX8_full_24 (tgt := 53) (by decide) (fun q19 => ?_) (fun q19 => ?_)
      · skip
        have q19 : n1 < i19_2 := (nI_ltI (a := n1) (b := i19_2) (by omega) (by omega)).mp q19
        refine g_iconst X dX8_full_53 (v := -1) (by decide) ?_
        exact g_iret X hrt dX8_full_54 (by decide) (by decide) ⟨C, D, F, I, K, trivial⟩
      · skip
        have q19 : ¬ n1 < i19_2 := fun z => q19 ((nI_ltI (a := n1) (b := i19_2) (by omega) (by omega)).mpr z)
        refine g_aload_n X dX8_full_27 rfl (j := 1) rfl ?_
        refine g_iload_n X dX8_full_28 rfl (j := 2) rfl ?_
        refine g_iload_n X dX8_full_29 rfl (j := 0) rfl ?_
        refine g_callVI X (s_X8_guestsOf l G F I (nI n16) i19_2 (by omega) (by omega) ) lk_X8_337 (F.1 100 rfl).2 (F.1 100 rfl).1 rfl rfl dX8_full_30 (Nat.le_of_ble_eq_true rfl) ⟨by decide, by decide⟩ ⟨by decide, by decide⟩ (fun r20 L M hp => ?_)
        obtain ⟨C, D, F, I, K1, hr⟩ := hp
        have K := K.step K1 (by decide)
        refine g_aload_n X dX8_full_33 rfl (j := 1) rfl ?_
        refine i_get X F 100 rfl rfl fk_X8_9 dX8_full_34 rfl ?_
        refine g_bipush X dX8_full_37 (v := 10) (by decide) ?_
        refine g_iload_n X dX8_full_39 rfl (j := 2) rfl ?_
        refine g_iadd X dX8_full_40 ?_
        refine Go.top (v := .int (nI (10 + n16))) (congrArg Value.int (nI_add 10 n16)) ?_
        refine i_iald X F 101 rfl rfl dX8_full_41 (vp_in_nI (by omega) (by decide)) rfl ?_
        refine Go.gen (fun o21 => ?_)
        refine g_icmp_ne X dX8_full_42 (tgt := 47) (by decide) (fun q22 => ?_) (fun q22 => ?_)
        · skip
          refine g_iinc X dX8_full_47 (j := 0) rfl (v := nI (i19_2 + 1)) (nI_1 i19_2) (by decide) (lv2 := [(2, .int (nI (i19_2 + 1))), (0, .ref (a 100)), (1, .int (nI n16))]) rfl ?_
          refine g_goto X dX8_full_50 (tgt := 19) (by decide) ?_
          refine g_lv [0, 1, 2] (lv2 := [(2, .int (nI (i19_2 + 1))), (0, .ref (a 100)), (1, .int (nI n16))]) rfl ?_
          exact ih19 ((i19_2 + 1)) L M C D F I K ⟨by omega, by omega⟩ (by show _ < _; omega)
        · skip
          refine g_iload_n X dX8_full_45 rfl (j := 0) rfl ?_
          exact g_iret X hrt dX8_full_46 (by decide) (by decide) ⟨C, D, F, I, K, trivial⟩
set_option maxHeartbeats 4000000 in
set_option maxRecDepth 100000 in
theorem s_X8_refuses (l : Launch) (G : va_G) {cy : Nat → ClassId} {L : List Nat} {M : Nat → va_E} {a : Nat → Nat} {act : Nat → Bool} {C0 : Nat → Nat → Int32} {D0 : Nat → Nat → Int64} {R : Nat → Nat → Option Nat} (F : WI L M a act (ent cy a C0 D0 R)) (I : Inv C0) (p0 : Int32)  : MI l G cy yX8_refuses cX8_refuses 2 (some .int) 7 0 0 [.ref (a 100), .int p0] L M (fun r L2 M2 => ∃ C2 D2, WI L2 M2 a act (ent cy a C2 D2 R) ∧ Inv C2 ∧ Kp [100, 115, 116, 120, 121, 122, 123, 124, 125, 126, 127, 128] C0 D0 C2 D2 ∧ True) := by
  refine MI.of (own := RX8) rfl (by decide) (Nat.le_of_ble_eq_true rfl) ?_
  intro p e s m below meth c A X hrt hnm
  obtain ⟨C, D, hC0, hD0, F, I, K⟩ : ∃ C D, C = C0 ∧ D = D0 ∧ WI L M a act (ent cy a C D R) ∧ Inv C ∧ Kp [100, 115, 116, 120, 121, 122, 123, 124, 125, 126, 127, 128] C0 D0 C D := ⟨C0, D0, rfl, rfl, F, I, Kp.rf⟩
  obtain ⟨n1, hn1, en1⟩ := rg_nat ((show okw 0 (C 101 0) from I 101 0).1 rfl) (by decide)
  rw [hC0] at en1
  obtain ⟨n2, hn2, en2⟩ := rg_nat ((show okw 4 (C 101 4) from I 101 4).2.2.2.1 rfl) (by decide)
  rw [hC0] at en2
  obtain ⟨n3, hn3, en3⟩ := rg_nat ((show okw 7 (C 101 7) from I 101 7).2.2.2.2.1 rfl) (by decide)
  rw [hC0] at en3
  refine g_aload_n X dX8_refuses_0 rfl (j := 0) rfl ?_
  refine g_callVI X (s_X8_asksHeath l G F I  ) lk_X8_292 (F.1 100 rfl).2 (F.1 100 rfl).1 rfl rfl dX8_refuses_1 (Nat.le_of_ble_eq_true rfl) ⟨by decide, by decide⟩ ⟨by decide, by decide⟩ (fun r4 L M hp => ?_)
  obtain ⟨C, D, F, I, K1, hr⟩ := hp
  have K := K.step K1 (by decide)
  rcases hr with rfl | rfl
  · skip
    refine g_pop X dX8_refuses_4 rfl ?_
    refine g_aload_n X dX8_refuses_5 rfl (j := 0) rfl ?_
    refine g_iload_n X dX8_refuses_6 rfl (j := 1) rfl ?_
    refine g_i2l X dX8_refuses_7 rfl ?_
    refine g_callVI X (s_X8_isInn l G F I ((Int32.toInt64 p0)) ) lk_X8_118 (F.1 100 rfl).2 (F.1 100 rfl).1 rfl rfl dX8_refuses_8 (Nat.le_of_ble_eq_true rfl) ⟨by decide, by decide⟩ ⟨by decide, by decide⟩ (fun r5 L M hp => ?_)
    obtain ⟨C, D, F, I, K1, hr⟩ := hp
    have K := K.step K1 (by decide)
    rcases hr with rfl | ⟨rfl, hl6a, hl6b⟩
    · skip
      refine g_if_eq X dX8_refuses_11 (tgt := 23) (by decide) (fun _ => ?_) (fun q => absurd (by decide) q)
      refine g_bipush X dX8_refuses_23 (v := -2) (by decide) ?_
      exact g_iret X hrt dX8_refuses_25 (by decide) (by decide) ⟨C, D, F, I, K, trivial⟩
    · skip
      rw [Jvm.Kit.i64_of_i32] at hl6a hl6b
      obtain ⟨n7, hn7a, hn7b, en7⟩ := nI_ofInt (x := p0) (lo := 0) (hi := 3) (by omega) (by omega) (by decide)
      subst en7
      refine g_if_eq X dX8_refuses_11 (tgt := 23) (by decide) (fun q => absurd q (by decide)) (fun _ => ?_)
      refine g_aload_n X dX8_refuses_14 rfl (j := 0) rfl ?_
      refine i_get X F 100 rfl rfl fk_X8_64 dX8_refuses_15 rfl ?_
      refine g_iload_n X dX8_refuses_18 rfl (j := 1) rfl ?_
      refine i_iald X F 128 rfl rfl dX8_refuses_19 (vp_in_nI (by omega) (by decide)) rfl ?_
      refine Go.gen (fun o8 => ?_)
      refine g_goto X dX8_refuses_20 (tgt := 25) (by decide) ?_
      exact g_iret X hrt dX8_refuses_25 (by decide) (by decide) ⟨C, D, F, I, K, trivial⟩
  · skip
    refine g_pop X dX8_refuses_4 rfl ?_
    refine g_aload_n X dX8_refuses_5 rfl (j := 0) rfl ?_
    refine g_iload_n X dX8_refuses_6 rfl (j := 1) rfl ?_
    refine g_i2l X dX8_refuses_7 rfl ?_
    refine g_callVI X (s_X8_isInn l G F I ((Int32.toInt64 p0)) ) lk_X8_118 (F.1 100 rfl).2 (F.1 100 rfl).1 rfl rfl dX8_refuses_8 (Nat.le_of_ble_eq_true rfl) ⟨by decide, by decide⟩ ⟨by decide, by decide⟩ (fun r9 L M hp => ?_)
    obtain ⟨C, D, F, I, K1, hr⟩ := hp
    have K := K.step K1 (by decide)
    rcases hr with rfl | ⟨rfl, hl10a, hl10b⟩
    · skip
      refine g_if_eq X dX8_refuses_11 (tgt := 23) (by decide) (fun _ => ?_) (fun q => absurd (by decide) q)
      refine g_bipush X dX8_refuses_23 (v := -2) (by decide) ?_
      exact g_iret X hrt dX8_refuses_25 (by decide) (by decide) ⟨C, D, F, I, K, trivial⟩
    · skip
      rw [Jvm.Kit.i64_of_i32] at hl10a hl10b
      obtain ⟨n11, hn11a, hn11b, en11⟩ := nI_ofInt (x := p0) (lo := 0) (hi := 3) (by omega) (by omega) (by decide)
      subst en11
      refine g_if_eq X dX8_refuses_11 (tgt := 23) (by decide) (fun q => absurd q (by decide)) (fun _ => ?_)
      refine g_aload_n X dX8_refuses_14 rfl (j := 0) rfl ?_
      refine i_get X F 100 rfl rfl fk_X8_64 dX8_refuses_15 rfl ?_
      refine g_iload_n X dX8_refuses_18 rfl (j := 1) rfl ?_
      refine i_iald X F 128 rfl rfl dX8_refuses_19 (vp_in_nI (by omega) (by decide)) rfl ?_
      refine Go.gen (fun o12 => ?_)
      refine g_goto X dX8_refuses_20 (tgt := 25) (by decide) ?_
      exact g_iret X hrt dX8_refuses_25 (by decide) (by decide) ⟨C, D, F, I, K, trivial⟩
set_option maxHeartbeats 4000000 in
set_option maxRecDepth 100000 in
theorem s_X8_insideAt (l : Launch) (G : va_G) {cy : Nat → ClassId} {L : List Nat} {M : Nat → va_E} {a : Nat → Nat} {act : Nat → Bool} {C0 : Nat → Nat → Int32} {D0 : Nat → Nat → Int64} {R : Nat → Nat → Option Nat} (F : WI L M a act (ent cy a C0 D0 R)) (I : Inv C0) (p0 : Nat) (hp0a : 0 ≤ p0) (hp0b : p0 ≤ 16)  : MI l G cy yX8_insideAt cX8_insideAt 4 (some .int) 2 0 0 [.ref (a 100), .int (nI p0)] L M (fun r L2 M2 => ∃ C2 D2, WI L2 M2 a act (ent cy a C2 D2 R) ∧ Inv C2 ∧ Kp [] C0 D0 C2 D2 ∧ True) := by
  refine MI.of (own := RX8) rfl (by decide) (Nat.le_of_ble_eq_true rfl) ?_
  intro p e s m below meth c A X hrt hnm
  obtain ⟨C, D, hC0, hD0, F, I, K⟩ : ∃ C D, C = C0 ∧ D = D0 ∧ WI L M a act (ent cy a C D R) ∧ Inv C ∧ Kp [] C0 D0 C D := ⟨C0, D0, rfl, rfl, F, I, Kp.rf⟩
  obtain ⟨n1, hn1, en1⟩ := rg_nat ((show okw 0 (C 101 0) from I 101 0).1 rfl) (by decide)
  rw [hC0] at en1
  obtain ⟨n2, hn2, en2⟩ := rg_nat ((show okw 4 (C 101 4) from I 101 4).2.2.2.1 rfl) (by decide)
  rw [hC0] at en2
  obtain ⟨n3, hn3, en3⟩ := rg_nat ((show okw 7 (C 101 7) from I 101 7).2.2.2.2.1 rfl) (by decide)
  rw [hC0] at en3
  refine g_iconst X dX8_insideAt_0 (v := 0) (by decide) ?_
  refine g_istore_n X dX8_insideAt_1 rfl (by decide) (lv2 := [(2, .int 0), (0, .ref (a 100)), (1, .int (nI p0))]) rfl ?_
  refine g_iconst X dX8_insideAt_2 (v := 0) (by decide) ?_
  refine g_istore_n X dX8_insideAt_3 rfl (by decide) (lv2 := [(3, .int 0), (2, .int 0), (0, .ref (a 100)), (1, .int (nI p0))]) rfl ?_
  refine g_lv [0, 1, 2, 3] (lv2 := [(3, .int 0), (2, .int 0), (0, .ref (a 100)), (1, .int (nI p0))]) rfl ?_
  refine i_loop (mods := []) (fun x : Nat × Int32 => 8 - x.1) (fun x => [(3, .int (nI (x.1))), (2, .int (x.2)), (0, .ref (a 100)), (1, .int (nI p0))]) (fun x C => 0 ≤ x.1 ∧ x.1 ≤ 8) (fun x L M C D F I K hP ih4 => ?_) ((0, 0) : Nat × Int32) F I K ⟨by show _ ≤ _; omega, by show _ ≤ _; omega⟩
  rcases x with ⟨i4_3, v4_2⟩
  obtain ⟨hi4_3a, hi4_3b⟩ := hP
  refine g_lv [0, 1, 2, 3] (lv2 := [(3, .int (nI i4_3)), (2, .int v4_2), (0, .ref (a 100)), (1, .int (nI p0))]) rfl ?_
  refine g_iload_n X dX8_insideAt_4 rfl (j := 0) rfl ?_
  refine g_aload_n X dX8_insideAt_5 rfl (j := 2) rfl ?_
  refine g_callVI X (s_X8_walkers l G F I  ) lk_X8_109 (F.1 100 rfl).2 (F.1 100 rfl).1 rfl rfl dX8_insideAt_6 (Nat.le_of_ble_eq_true rfl) ⟨by decide, by decide⟩ ⟨by decide, by decide⟩ (fun r4 L M hp => ?_)
  obtain ⟨C, D, F, I, K1, hr⟩ := hp
  have K := K.step K1 (by decide)
  obtain ⟨n5, hn5, en5, rfl⟩ := hr
  obtain rfl : n3 = n5 := ((nI_eq (by omega) (by omega)).mp (en5.symm.trans ((congrFun (K 101 (by decide)).1 7).trans en3))).symm
  refine g_icmp_ge X dX8_insideAt_9 (tgt := 37) (by decide) (fun q6 => ?_) (fun q6 => ?_)
  · skip
    have q6 : n3 ≤ i4_3 := (nI_leI (a := n3) (b := i4_3) (by omega) (by omega)).mp q6
    refine g_iload_n X dX8_insideAt_37 rfl (j := 1) rfl ?_
    exact g_iret X hrt dX8_insideAt_38 (by decide) (by decide) ⟨C, D, F, I, K, trivial⟩
  · skip
    have q6 : ¬ n3 ≤ i4_3 := fun z => q6 ((nI_leI (a := n3) (b := i4_3) (by omega) (by omega)).mpr z)
    refine g_iload_n X dX8_insideAt_12 rfl (j := 1) rfl ?_
    refine g_aload_n X dX8_insideAt_13 rfl (j := 2) rfl ?_
    refine g_iload_n X dX8_insideAt_14 rfl (j := 0) rfl ?_
    refine g_iload_n X dX8_insideAt_15 rfl (j := 3) rfl ?_
    refine g_callVI X (s_X8_isInside l G F I i4_3 (by omega) (by omega) p0 (by omega) (by omega) ) lk_X8_323 (F.1 100 rfl).2 (F.1 100 rfl).1 rfl rfl dX8_insideAt_16 (Nat.le_of_ble_eq_true rfl) ⟨by decide, by decide⟩ ⟨by decide, by decide⟩ (fun r7 L M hp => ?_)
    obtain ⟨C, D, F, I, K1, hr⟩ := hp
    have K := K.step K1 (by decide)
    rcases hr with rfl | rfl
    · skip
      refine g_if_eq X dX8_insideAt_19 (tgt := 28) (by decide) (fun _ => ?_) (fun q => absurd (by decide) q)
      refine g_iconst X dX8_insideAt_28 (v := 0) (by decide) ?_
      refine g_ior X dX8_insideAt_29 ?_
      refine Go.gen (fun o8 => ?_)
      refine g_istore_n X dX8_insideAt_30 rfl (by decide) (lv2 := [(2, .int o8), (3, .int (nI i4_3)), (0, .ref (a 100)), (1, .int (nI p0))]) rfl ?_
      refine g_iinc X dX8_insideAt_31 (j := 1) rfl (v := nI (i4_3 + 1)) (nI_1 i4_3) (by decide) (lv2 := [(3, .int (nI (i4_3 + 1))), (2, .int o8), (0, .ref (a 100)), (1, .int (nI p0))]) rfl ?_
      refine g_goto X dX8_insideAt_34 (tgt := 4) (by decide) ?_
      refine g_lv [0, 1, 2, 3] (lv2 := [(3, .int (nI (i4_3 + 1))), (2, .int o8), (0, .ref (a 100)), (1, .int (nI p0))]) rfl ?_
      exact ih4 ((i4_3 + 1), o8) L M C D F I K ⟨by omega, by omega⟩ (by show _ < _; omega)
    · skip
      refine g_if_eq X dX8_insideAt_19 (tgt := 28) (by decide) (fun q => absurd q (by decide)) (fun _ => ?_)
      refine g_iconst X dX8_insideAt_22 (v := 1) (by decide) ?_
      refine g_iload_n X dX8_insideAt_23 rfl (j := 0) rfl ?_
      refine g_ishl X dX8_insideAt_24 ?_
      refine Go.gen (fun o9 => ?_)
      refine g_goto X dX8_insideAt_25 (tgt := 29) (by decide) ?_
      refine g_ior X dX8_insideAt_29 ?_
      refine Go.gen (fun o10 => ?_)
      refine g_istore_n X dX8_insideAt_30 rfl (by decide) (lv2 := [(2, .int o10), (3, .int (nI i4_3)), (0, .ref (a 100)), (1, .int (nI p0))]) rfl ?_
      refine g_iinc X dX8_insideAt_31 (j := 1) rfl (v := nI (i4_3 + 1)) (nI_1 i4_3) (by decide) (lv2 := [(3, .int (nI (i4_3 + 1))), (2, .int o10), (0, .ref (a 100)), (1, .int (nI p0))]) rfl ?_
      refine g_goto X dX8_insideAt_34 (tgt := 4) (by decide) ?_
      refine g_lv [0, 1, 2, 3] (lv2 := [(3, .int (nI (i4_3 + 1))), (2, .int o10), (0, .ref (a 100)), (1, .int (nI p0))]) rfl ?_
      exact ih4 ((i4_3 + 1), o10) L M C D F I K ⟨by omega, by omega⟩ (by show _ < _; omega)
set_option maxHeartbeats 4000000 in
set_option maxRecDepth 100000 in
theorem s_X8_insideLast (l : Launch) (G : va_G) {cy : Nat → ClassId} {L : List Nat} {M : Nat → va_E} {a : Nat → Nat} {act : Nat → Bool} {C0 : Nat → Nat → Int32} {D0 : Nat → Nat → Int64} {R : Nat → Nat → Option Nat} (F : WI L M a act (ent cy a C0 D0 R)) (I : Inv C0)   : MI l G cy yX8_insideLast cX8_insideLast 1 (some .int) 3 0 0 [.ref (a 100)] L M (fun r L2 M2 => ∃ C2 D2, WI L2 M2 a act (ent cy a C2 D2 R) ∧ Inv C2 ∧ Kp [] C0 D0 C2 D2 ∧ True) := by
  refine MI.of (own := RX8) rfl (by decide) (Nat.le_of_ble_eq_true rfl) ?_
  intro p e s m below meth c A X hrt hnm
  obtain ⟨C, D, hC0, hD0, F, I, K⟩ : ∃ C D, C = C0 ∧ D = D0 ∧ WI L M a act (ent cy a C D R) ∧ Inv C ∧ Kp [] C0 D0 C D := ⟨C0, D0, rfl, rfl, F, I, Kp.rf⟩
  obtain ⟨n1, hn1, en1⟩ := rg_nat ((show okw 0 (C 101 0) from I 101 0).1 rfl) (by decide)
  rw [hC0] at en1
  obtain ⟨n2, hn2, en2⟩ := rg_nat ((show okw 4 (C 101 4) from I 101 4).2.2.2.1 rfl) (by decide)
  rw [hC0] at en2
  obtain ⟨n3, hn3, en3⟩ := rg_nat ((show okw 7 (C 101 7) from I 101 7).2.2.2.2.1 rfl) (by decide)
  rw [hC0] at en3
  refine g_aload_n X dX8_insideLast_0 rfl (j := 0) rfl ?_
  refine g_aload_n X dX8_insideLast_1 rfl (j := 0) rfl ?_
  refine g_callVI X (s_X8_hours l G F I  ) lk_X8_106 (F.1 100 rfl).2 (F.1 100 rfl).1 rfl rfl dX8_insideLast_2 (Nat.le_of_ble_eq_true rfl) ⟨by decide, by decide⟩ ⟨by decide, by decide⟩ (fun r4 L M hp => ?_)
  obtain ⟨C, D, F, I, K1, hr⟩ := hp
  have K := K.step K1 (by decide)
  obtain ⟨n5, hn5, en5, rfl⟩ := hr
  obtain rfl : n1 = n5 := ((nI_eq (by omega) (by omega)).mp (en5.symm.trans ((congrFun (K 101 (by decide)).1 0).trans en1))).symm
  refine g_callVI X (s_X8_insideAt l G F I n1 (by omega) (by omega) ) lk_X8_340 (F.1 100 rfl).2 (F.1 100 rfl).1 rfl rfl dX8_insideLast_5 (Nat.le_of_ble_eq_true rfl) ⟨by decide, by decide⟩ ⟨by decide, by decide⟩ (fun r6 L M hp => ?_)
  obtain ⟨C, D, F, I, K1, hr⟩ := hp
  have K := K.step K1 (by decide)
  exact g_iret X hrt dX8_insideLast_8 (by decide) (by decide) ⟨C, D, F, I, K, trivial⟩
set_option maxHeartbeats 4000000 in
set_option maxRecDepth 100000 in
theorem s_X8_inside (l : Launch) (G : va_G) {cy : Nat → ClassId} {L : List Nat} {M : Nat → va_E} {a : Nat → Nat} {act : Nat → Bool} {C0 : Nat → Nat → Int32} {D0 : Nat → Nat → Int64} {R : Nat → Nat → Option Nat} (F : WI L M a act (ent cy a C0 D0 R)) (I : Inv C0) (p0 : Int32)  : MI l G cy yX8_inside cX8_inside 2 (some .int) 8 0 0 [.ref (a 100), .int p0] L M (fun r L2 M2 => ∃ C2 D2, WI L2 M2 a act (ent cy a C2 D2 R) ∧ Inv C2 ∧ Kp [100, 115, 116, 120, 121, 122, 123, 124, 125, 126, 127, 128] C0 D0 C2 D2 ∧ True) := by
  refine MI.of (own := RX8) rfl (by decide) (Nat.le_of_ble_eq_true rfl) ?_
  intro p e s m below meth c A X hrt hnm
  obtain ⟨C, D, hC0, hD0, F, I, K⟩ : ∃ C D, C = C0 ∧ D = D0 ∧ WI L M a act (ent cy a C D R) ∧ Inv C ∧ Kp [100, 115, 116, 120, 121, 122, 123, 124, 125, 126, 127, 128] C0 D0 C D := ⟨C0, D0, rfl, rfl, F, I, Kp.rf⟩
  obtain ⟨n1, hn1, en1⟩ := rg_nat ((show okw 0 (C 101 0) from I 101 0).1 rfl) (by decide)
  rw [hC0] at en1
  obtain ⟨n2, hn2, en2⟩ := rg_nat ((show okw 4 (C 101 4) from I 101 4).2.2.2.1 rfl) (by decide)
  rw [hC0] at en2
  obtain ⟨n3, hn3, en3⟩ := rg_nat ((show okw 7 (C 101 7) from I 101 7).2.2.2.2.1 rfl) (by decide)
  rw [hC0] at en3
  refine g_aload_n X dX8_inside_0 rfl (j := 0) rfl ?_
  refine g_iload_n X dX8_inside_1 rfl (j := 1) rfl ?_
  refine g_callVI X (s_X8_asksHour l G F I p0 ) lk_X8_301 (F.1 100 rfl).2 (F.1 100 rfl).1 rfl rfl dX8_inside_2 (Nat.le_of_ble_eq_true rfl) ⟨by decide, by decide⟩ ⟨by decide, by decide⟩ (fun r4 L M hp => ?_)
  obtain ⟨C, D, F, I, K1, hr⟩ := hp
  have K := K.step K1 (by decide)
  rcases hr with rfl | ⟨rfl, n5, hn5, en5⟩
  · skip
    refine g_if_eq X dX8_inside_5 (tgt := 16) (by decide) (fun _ => ?_) (fun q => absurd (by decide) q)
    refine g_bipush X dX8_inside_16 (v := -2) (by decide) ?_
    exact g_iret X hrt dX8_inside_18 (by decide) (by decide) ⟨C, D, F, I, K, trivial⟩
  · skip
    subst en5
    refine g_if_eq X dX8_inside_5 (tgt := 16) (by decide) (fun q => absurd q (by decide)) (fun _ => ?_)
    refine g_aload_n X dX8_inside_8 rfl (j := 0) rfl ?_
    refine g_iload_n X dX8_inside_9 rfl (j := 1) rfl ?_
    refine g_callVI X (s_X8_insideAt l G F I n5 (by omega) (by omega) ) lk_X8_340 (F.1 100 rfl).2 (F.1 100 rfl).1 rfl rfl dX8_inside_10 (Nat.le_of_ble_eq_true rfl) ⟨by decide, by decide⟩ ⟨by decide, by decide⟩ (fun r6 L M hp => ?_)
    obtain ⟨C, D, F, I, K1, hr⟩ := hp
    have K := K.step K1 (by decide)
    refine g_goto X dX8_inside_13 (tgt := 18) (by decide) ?_
    exact g_iret X hrt dX8_inside_18 (by decide) (by decide) ⟨C, D, F, I, K, trivial⟩
set_option maxHeartbeats 4000000 in
set_option maxRecDepth 100000 in
theorem s_X8_outside (l : Launch) (G : va_G) {cy : Nat → ClassId} {L : List Nat} {M : Nat → va_E} {a : Nat → Nat} {act : Nat → Bool} {C0 : Nat → Nat → Int32} {D0 : Nat → Nat → Int64} {R : Nat → Nat → Option Nat} (F : WI L M a act (ent cy a C0 D0 R)) (I : Inv C0) (p0 : Int32)  : MI l G cy yX8_outside cX8_outside 4 (some .int) 8 0 0 [.ref (a 100), .int p0] L M (fun r L2 M2 => ∃ C2 D2, WI L2 M2 a act (ent cy a C2 D2 R) ∧ Inv C2 ∧ Kp [100, 115, 116, 120, 121, 122, 123, 124, 125, 126, 127, 128] C0 D0 C2 D2 ∧ True) := by
  refine MI.of (own := RX8) rfl (by decide) (Nat.le_of_ble_eq_true rfl) ?_
  intro p e s m below meth c A X hrt hnm
  obtain ⟨C, D, hC0, hD0, F, I, K⟩ : ∃ C D, C = C0 ∧ D = D0 ∧ WI L M a act (ent cy a C D R) ∧ Inv C ∧ Kp [100, 115, 116, 120, 121, 122, 123, 124, 125, 126, 127, 128] C0 D0 C D := ⟨C0, D0, rfl, rfl, F, I, Kp.rf⟩
  obtain ⟨n1, hn1, en1⟩ := rg_nat ((show okw 0 (C 101 0) from I 101 0).1 rfl) (by decide)
  rw [hC0] at en1
  obtain ⟨n2, hn2, en2⟩ := rg_nat ((show okw 4 (C 101 4) from I 101 4).2.2.2.1 rfl) (by decide)
  rw [hC0] at en2
  obtain ⟨n3, hn3, en3⟩ := rg_nat ((show okw 7 (C 101 7) from I 101 7).2.2.2.2.1 rfl) (by decide)
  rw [hC0] at en3
  refine g_aload_n X dX8_outside_0 rfl (j := 0) rfl ?_
  refine g_iload_n X dX8_outside_1 rfl (j := 1) rfl ?_
  refine g_callVI X (s_X8_asksHour l G F I p0 ) lk_X8_301 (F.1 100 rfl).2 (F.1 100 rfl).1 rfl rfl dX8_outside_2 (Nat.le_of_ble_eq_true rfl) ⟨by decide, by decide⟩ ⟨by decide, by decide⟩ (fun r4 L M hp => ?_)
  obtain ⟨C, D, F, I, K1, hr⟩ := hp
  have K := K.step K1 (by decide)
  rcases hr with rfl | ⟨rfl, n5, hn5, en5⟩
  · skip
    refine g_if_ne X dX8_outside_5 (tgt := 11) (by decide) (fun q => absurd (by decide) q) (fun _ => ?_)
    refine g_bipush X dX8_outside_8 (v := -2) (by decide) ?_
    exact g_iret X hrt dX8_outside_10 (by decide) (by decide) ⟨C, D, F, I, K, trivial⟩
  · skip
    subst en5
    refine g_if_ne X dX8_outside_5 (tgt := 11) (by decide) (fun _ => ?_) (fun q => absurd q (by decide))
    refine g_iconst X dX8_outside_11 (v := 0) (by decide) ?_
    refine g_istore_n X dX8_outside_12 rfl (by decide) (lv2 := [(2, .int 0), (0, .ref (a 100)), (1, .int (nI n5))]) rfl ?_
    refine g_iconst X dX8_outside_13 (v := 0) (by decide) ?_
    refine g_istore_n X dX8_outside_14 rfl (by decide) (lv2 := [(3, .int 0), (2, .int 0), (0, .ref (a 100)), (1, .int (nI n5))]) rfl ?_
    refine g_lv [0, 1, 2, 3] (lv2 := [(3, .int 0), (2, .int 0), (0, .ref (a 100)), (1, .int (nI n5))]) rfl ?_
    refine i_loop (mods := [100, 115, 116, 120, 121, 122, 123, 124, 125, 126, 127, 128]) (fun x : Nat × Int32 => 8 - x.1) (fun x => [(3, .int (nI (x.1))), (2, .int (x.2)), (0, .ref (a 100)), (1, .int (nI n5))]) (fun x C => 0 ≤ x.1 ∧ x.1 ≤ 8) (fun x L M C D F I K hP ih15 => ?_) ((0, 0) : Nat × Int32) F I K ⟨by show _ ≤ _; omega, by show _ ≤ _; omega⟩
    rcases x with ⟨i15_3, v15_2⟩
    obtain ⟨hi15_3a, hi15_3b⟩ := hP
    refine g_lv [0, 1, 2, 3] (lv2 := [(3, .int (nI i15_3)), (2, .int v15_2), (0, .ref (a 100)), (1, .int (nI n5))]) rfl ?_
    refine g_iload_n X dX8_outside_15 rfl (j := 0) rfl ?_
    refine g_aload_n X dX8_outside_16 rfl (j := 2) rfl ?_
    refine g_callVI X (s_X8_walkers l G F I  ) lk_X8_109 (F.1 100 rfl).2 (F.1 100 rfl).1 rfl rfl dX8_outside_17 (Nat.le_of_ble_eq_true rfl) ⟨by decide, by decide⟩ ⟨by decide, by decide⟩ (fun r6 L M hp => ?_)
    obtain ⟨C, D, F, I, K1, hr⟩ := hp
    have K := K.step K1 (by decide)
    obtain ⟨n7, hn7, en7, rfl⟩ := hr
    obtain rfl : n3 = n7 := ((nI_eq (by omega) (by omega)).mp (en7.symm.trans ((congrFun (K 101 (by decide)).1 7).trans en3))).symm
    refine g_icmp_ge X dX8_outside_20 (tgt := 56) (by decide) (fun q8 => ?_) (fun q8 => ?_)
    · skip
      have q8 : n3 ≤ i15_3 := (nI_leI (a := n3) (b := i15_3) (by omega) (by omega)).mp q8
      refine g_iload_n X dX8_outside_56 rfl (j := 1) rfl ?_
      exact g_iret X hrt dX8_outside_57 (by decide) (by decide) ⟨C, D, F, I, K, trivial⟩
    · skip
      have q8 : ¬ n3 ≤ i15_3 := fun z => q8 ((nI_leI (a := n3) (b := i15_3) (by omega) (by omega)).mpr z)
      refine g_iload_n X dX8_outside_23 rfl (j := 1) rfl ?_
      refine g_aload_n X dX8_outside_24 rfl (j := 2) rfl ?_
      refine g_iload_n X dX8_outside_25 rfl (j := 0) rfl ?_
      refine g_iload_n X dX8_outside_26 rfl (j := 3) rfl ?_
      refine g_callVI X (s_X8_placeOf l G F I i15_3 (by omega) (by omega) n5 (by omega) (by omega) ) lk_X8_298 (F.1 100 rfl).2 (F.1 100 rfl).1 rfl rfl dX8_outside_27 (Nat.le_of_ble_eq_true rfl) ⟨by decide, by decide⟩ ⟨by decide, by decide⟩ (fun r9 L M hp => ?_)
      obtain ⟨C, D, F, I, K1, hr⟩ := hp
      have K := K.step K1 (by decide)
      rcases okp_nat hr with rfl | ⟨n10, hn10, rfl⟩
      · skip
        refine g_i2l X dX8_outside_30 rfl ?_
        refine Go.top (v := .long (-1)) (by decide) ?_
        refine g_lconst X dX8_outside_31 (v := 0) (by decide) ?_
        refine g_ldc2 X (v := 6) wd784 dX8_outside_32 ?_
        refine g_callSI X (s_X8_in l G F I (-1 : Int64) (0 : Int64) (6 : Int64) ) lk_X8_94 rfl rfl dX8_outside_35 (Nat.le_of_ble_eq_true rfl) ⟨by decide, by decide⟩ ⟨by decide, by decide⟩ (fun r11 L M hp => ?_)
        obtain ⟨C, D, F, I, K1, hr⟩ := hp
        have K := K.step K1 (by decide)
        rcases hr with ⟨rfl, hq⟩ | ⟨rfl, hq⟩
        · skip
          refine g_if_eq X dX8_outside_38 (tgt := 47) (by decide) (fun _ => ?_) (fun q => absurd (by decide) q)
          refine g_iconst X dX8_outside_47 (v := 0) (by decide) ?_
          refine g_ior X dX8_outside_48 ?_
          refine Go.gen (fun o12 => ?_)
          refine g_istore_n X dX8_outside_49 rfl (by decide) (lv2 := [(2, .int o12), (3, .int (nI i15_3)), (0, .ref (a 100)), (1, .int (nI n5))]) rfl ?_
          refine g_iinc X dX8_outside_50 (j := 1) rfl (v := nI (i15_3 + 1)) (nI_1 i15_3) (by decide) (lv2 := [(3, .int (nI (i15_3 + 1))), (2, .int o12), (0, .ref (a 100)), (1, .int (nI n5))]) rfl ?_
          refine g_goto X dX8_outside_53 (tgt := 15) (by decide) ?_
          refine g_lv [0, 1, 2, 3] (lv2 := [(3, .int (nI (i15_3 + 1))), (2, .int o12), (0, .ref (a 100)), (1, .int (nI n5))]) rfl ?_
          exact ih15 ((i15_3 + 1), o12) L M C D F I K ⟨by omega, by omega⟩ (by show _ < _; omega)
        · skip
          exact absurd hq (by decide)
      · skip
        refine g_i2l X dX8_outside_30 rfl ?_
        refine g_lconst X dX8_outside_31 (v := 0) (by decide) ?_
        refine g_ldc2 X (v := 6) wd784 dX8_outside_32 ?_
        refine g_callSI X (s_X8_in l G F I ((Int32.toInt64 (nI n10))) (0 : Int64) (6 : Int64) ) lk_X8_94 rfl rfl dX8_outside_35 (Nat.le_of_ble_eq_true rfl) ⟨by decide, by decide⟩ ⟨by decide, by decide⟩ (fun r13 L M hp => ?_)
        obtain ⟨C, D, F, I, K1, hr⟩ := hp
        have K := K.step K1 (by decide)
        rcases hr with ⟨rfl, hq14⟩ | ⟨rfl, hq14⟩
        · skip
          have hq14x := Jvm.Kit.i64_of_i32 (nI n10)
          rw [nI_toInt (by omega)] at hq14x
          have hq14l : (0 : Int64).toInt = 0 := (by decide)
          have hq14h : (6 : Int64).toInt = 6 := (by decide)
          refine g_if_eq X dX8_outside_38 (tgt := 47) (by decide) (fun _ => ?_) (fun q => absurd (by decide) q)
          refine g_iconst X dX8_outside_47 (v := 0) (by decide) ?_
          refine g_ior X dX8_outside_48 ?_
          refine Go.gen (fun o15 => ?_)
          refine g_istore_n X dX8_outside_49 rfl (by decide) (lv2 := [(2, .int o15), (3, .int (nI i15_3)), (0, .ref (a 100)), (1, .int (nI n5))]) rfl ?_
          refine g_iinc X dX8_outside_50 (j := 1) rfl (v := nI (i15_3 + 1)) (nI_1 i15_3) (by decide) (lv2 := [(3, .int (nI (i15_3 + 1))), (2, .int o15), (0, .ref (a 100)), (1, .int (nI n5))]) rfl ?_
          refine g_goto X dX8_outside_53 (tgt := 15) (by decide) ?_
          refine g_lv [0, 1, 2, 3] (lv2 := [(3, .int (nI (i15_3 + 1))), (2, .int o15), (0, .ref (a 100)), (1, .int (nI n5))]) rfl ?_
          exact ih15 ((i15_3 + 1), o15) L M C D F I K ⟨by omega, by omega⟩ (by show _ < _; omega)
        · skip
          have hq14x := Jvm.Kit.i64_of_i32 (nI n10)
          rw [nI_toInt (by omega)] at hq14x
          have hq14l : (0 : Int64).toInt = 0 := (by decide)
          have hq14h : (6 : Int64).toInt = 6 := (by decide)
          refine g_if_eq X dX8_outside_38 (tgt := 47) (by decide) (fun q => absurd q (by decide)) (fun _ => ?_)
          refine g_iconst X dX8_outside_41 (v := 1) (by decide) ?_
          refine g_iload_n X dX8_outside_42 rfl (j := 0) rfl ?_
          refine g_ishl X dX8_outside_43 ?_
          refine Go.gen (fun o16 => ?_)
          refine g_goto X dX8_outside_44 (tgt := 48) (by decide) ?_
          refine g_ior X dX8_outside_48 ?_
          refine Go.gen (fun o17 => ?_)
          refine g_istore_n X dX8_outside_49 rfl (by decide) (lv2 := [(2, .int o17), (3, .int (nI i15_3)), (0, .ref (a 100)), (1, .int (nI n5))]) rfl ?_
          refine g_iinc X dX8_outside_50 (j := 1) rfl (v := nI (i15_3 + 1)) (nI_1 i15_3) (by decide) (lv2 := [(3, .int (nI (i15_3 + 1))), (2, .int o17), (0, .ref (a 100)), (1, .int (nI n5))]) rfl ?_
          refine g_goto X dX8_outside_53 (tgt := 15) (by decide) ?_
          refine g_lv [0, 1, 2, 3] (lv2 := [(3, .int (nI (i15_3 + 1))), (2, .int o17), (0, .ref (a 100)), (1, .int (nI n5))]) rfl ?_
          exact ih15 ((i15_3 + 1), o17) L M C D F I K ⟨by omega, by omega⟩ (by show _ < _; omega)
set_option maxHeartbeats 4000000 in
set_option maxRecDepth 100000 in
theorem s_X8_done (l : Launch) (G : va_G) {cy : Nat → ClassId} {L : List Nat} {M : Nat → va_E} {a : Nat → Nat} {act : Nat → Bool} {C0 : Nat → Nat → Int32} {D0 : Nat → Nat → Int64} {R : Nat → Nat → Option Nat} (F : WI L M a act (ent cy a C0 D0 R)) (I : Inv C0)   : MI l G cy yX8_done cX8_done 2 (some .int) 7 0 0 [.ref (a 100)] L M (fun r L2 M2 => ∃ C2 D2, WI L2 M2 a act (ent cy a C2 D2 R) ∧ Inv C2 ∧ Kp [100, 115, 116, 120, 121, 122, 123, 124, 125, 126, 127, 128] C0 D0 C2 D2 ∧ True) := by
  refine MI.of (own := RX8) rfl (by decide) (Nat.le_of_ble_eq_true rfl) ?_
  intro p e s m below meth c A X hrt hnm
  obtain ⟨C, D, hC0, hD0, F, I, K⟩ : ∃ C D, C = C0 ∧ D = D0 ∧ WI L M a act (ent cy a C D R) ∧ Inv C ∧ Kp [100, 115, 116, 120, 121, 122, 123, 124, 125, 126, 127, 128] C0 D0 C D := ⟨C0, D0, rfl, rfl, F, I, Kp.rf⟩
  obtain ⟨n1, hn1, en1⟩ := rg_nat ((show okw 0 (C 101 0) from I 101 0).1 rfl) (by decide)
  rw [hC0] at en1
  obtain ⟨n2, hn2, en2⟩ := rg_nat ((show okw 4 (C 101 4) from I 101 4).2.2.2.1 rfl) (by decide)
  rw [hC0] at en2
  obtain ⟨n3, hn3, en3⟩ := rg_nat ((show okw 7 (C 101 7) from I 101 7).2.2.2.2.1 rfl) (by decide)
  rw [hC0] at en3
  refine g_aload_n X dX8_done_0 rfl (j := 0) rfl ?_
  refine g_callVI X (s_X8_asksHeath l G F I  ) lk_X8_292 (F.1 100 rfl).2 (F.1 100 rfl).1 rfl rfl dX8_done_1 (Nat.le_of_ble_eq_true rfl) ⟨by decide, by decide⟩ ⟨by decide, by decide⟩ (fun r4 L M hp => ?_)
  obtain ⟨C, D, F, I, K1, hr⟩ := hp
  have K := K.step K1 (by decide)
  rcases hr with rfl | rfl
  · skip
    refine g_if_ne X dX8_done_4 (tgt := 10) (by decide) (fun q => absurd (by decide) q) (fun _ => ?_)
    refine g_bipush X dX8_done_7 (v := -2) (by decide) ?_
    exact g_iret X hrt dX8_done_9 (by decide) (by decide) ⟨C, D, F, I, K, trivial⟩
  · skip
    refine g_if_ne X dX8_done_4 (tgt := 10) (by decide) (fun _ => ?_) (fun q => absurd q (by decide))
    refine g_iconst X dX8_done_10 (v := 0) (by decide) ?_
    refine g_istore_n X dX8_done_11 rfl (by decide) (lv2 := [(1, .int 0), (0, .ref (a 100))]) rfl ?_
    refine g_lv [0, 1] (lv2 := [(1, .int 0), (0, .ref (a 100))]) rfl ?_
    refine i_loop (mods := [100, 115, 116, 120, 121, 122, 123, 124, 125, 126, 127, 128]) (fun x : Nat => 17 - x) (fun x => [(1, .int (nI (x))), (0, .ref (a 100))]) (fun x C => 0 ≤ x ∧ x ≤ 17) (fun x L M C D F I K hP ih12 => ?_) ((0) : Nat) F I K ⟨by show _ ≤ _; omega, by show _ ≤ _; omega⟩
    obtain ⟨i12_1, rfl⟩ : ∃ z, z = x := ⟨_, rfl⟩
    obtain ⟨hi12_1a, hi12_1b⟩ := hP
    refine g_lv [0, 1] (lv2 := [(1, .int (nI i12_1)), (0, .ref (a 100))]) rfl ?_
    refine g_iload_n X dX8_done_12 rfl (j := 0) rfl ?_
    refine g_aload_n X dX8_done_13 rfl (j := 1) rfl ?_
    refine g_callVI X (s_X8_hours l G F I  ) lk_X8_106 (F.1 100 rfl).2 (F.1 100 rfl).1 rfl rfl dX8_done_14 (Nat.le_of_ble_eq_true rfl) ⟨by decide, by decide⟩ ⟨by decide, by decide⟩ (fun r5 L M hp => ?_)
    obtain ⟨C, D, F, I, K1, hr⟩ := hp
    have K := K.step K1 (by decide)
    obtain ⟨n6, hn6, en6, rfl⟩ := hr
    obtain rfl : n1 = n6 := ((nI_eq (by omega) (by omega)).mp (en6.symm.trans ((congrFun (K 101 (by decide)).1 0).trans en1))).symm
    refine g_icmp_gt X dX8_done_17 (tgt := 50) (by decide) (fun q7 => ?_) (fun q7 => ?_)
    · skip
      have q7 : n1 < i12_1 := (nI_ltI (a := n1) (b := i12_1) (by omega) (by omega)).mp q7
      refine g_iconst X dX8_done_50 (v := -1) (by decide) ?_
      exact g_iret X hrt dX8_done_51 (by decide) (by decide) ⟨C, D, F, I, K, trivial⟩
    · skip
      have q7 : ¬ n1 < i12_1 := fun z => q7 ((nI_ltI (a := n1) (b := i12_1) (by omega) (by omega)).mpr z)
      refine g_aload_n X dX8_done_20 rfl (j := 1) rfl ?_
      refine g_callVI X (s_X8_walkers l G F I  ) lk_X8_109 (F.1 100 rfl).2 (F.1 100 rfl).1 rfl rfl dX8_done_21 (Nat.le_of_ble_eq_true rfl) ⟨by decide, by decide⟩ ⟨by decide, by decide⟩ (fun r8 L M hp => ?_)
      obtain ⟨C, D, F, I, K1, hr⟩ := hp
      have K := K.step K1 (by decide)
      obtain ⟨n9, hn9, en9, rfl⟩ := hr
      obtain rfl : n3 = n9 := ((nI_eq (by omega) (by omega)).mp (en9.symm.trans ((congrFun (K 101 (by decide)).1 7).trans en3))).symm
      refine g_if_le X dX8_done_24 (tgt := 50) (by decide) (fun q10 => ?_) (fun q10 => ?_)
      · skip
        have q10 : n3 ≤ 0 := (nI_leI (a := n3) (b := 0) (by omega) (by omega)).mp q10
        refine g_iconst X dX8_done_50 (v := -1) (by decide) ?_
        exact g_iret X hrt dX8_done_51 (by decide) (by decide) ⟨C, D, F, I, K, trivial⟩
      · skip
        have q10 : ¬ n3 ≤ 0 := fun z => q10 ((nI_leI (a := n3) (b := 0) (by omega) (by omega)).mpr z)
        refine g_aload_n X dX8_done_27 rfl (j := 1) rfl ?_
        refine g_iload_n X dX8_done_28 rfl (j := 0) rfl ?_
        refine g_callVI X (s_X8_insideAt l G F I i12_1 (by omega) (by omega) ) lk_X8_340 (F.1 100 rfl).2 (F.1 100 rfl).1 rfl rfl dX8_done_29 (Nat.le_of_ble_eq_true rfl) ⟨by decide, by decide⟩ ⟨by decide, by decide⟩ (fun r11 L M hp => ?_)
        obtain ⟨C, D, F, I, K1, hr⟩ := hp
        have K := K.step K1 (by decide)
        refine g_callSI X (s_X8_bits l G F I r11 ) lk_X8_334 rfl rfl dX8_done_32 (Nat.le_of_ble_eq_true rfl) ⟨by decide, by decide⟩ ⟨by decide, by decide⟩ (fun r12 L M hp => ?_)
        obtain ⟨C, D, F, I, K1, hr⟩ := hp
        have K := K.step K1 (by decide)
        obtain ⟨n13, hn13a, hn13b, rfl⟩ := hr
        refine g_aload_n X dX8_done_35 rfl (j := 1) rfl ?_
        refine g_callVI X (s_X8_walkers l G F I  ) lk_X8_109 (F.1 100 rfl).2 (F.1 100 rfl).1 rfl rfl dX8_done_36 (Nat.le_of_ble_eq_true rfl) ⟨by decide, by decide⟩ ⟨by decide, by decide⟩ (fun r14 L M hp => ?_)
        obtain ⟨C, D, F, I, K1, hr⟩ := hp
        have K := K.step K1 (by decide)
        obtain ⟨n15, hn15, en15, rfl⟩ := hr
        obtain rfl : n3 = n15 := ((nI_eq (by omega) (by omega)).mp (en15.symm.trans ((congrFun (K 101 (by decide)).1 7).trans en3))).symm
        refine g_icmp_ne X dX8_done_39 (tgt := 44) (by decide) (fun q16 => ?_) (fun q16 => ?_)
        · skip
          have q16 : ¬ n13 = n3 := fun z => q16 ((nI_eq (a := n13) (b := n3) (by omega) (by omega)).mpr z)
          refine g_iinc X dX8_done_44 (j := 0) rfl (v := nI (i12_1 + 1)) (nI_1 i12_1) (by decide) (lv2 := [(1, .int (nI (i12_1 + 1))), (0, .ref (a 100))]) rfl ?_
          refine g_goto X dX8_done_47 (tgt := 12) (by decide) ?_
          refine g_lv [0, 1] (lv2 := [(1, .int (nI (i12_1 + 1))), (0, .ref (a 100))]) rfl ?_
          exact ih12 ((i12_1 + 1)) L M C D F I K ⟨by omega, by omega⟩ (by show _ < _; omega)
        · skip
          have q16 : n13 = n3 := (nI_eq (a := n13) (b := n3) (by omega) (by omega)).mp q16
          refine g_iload_n X dX8_done_42 rfl (j := 0) rfl ?_
          exact g_iret X hrt dX8_done_43 (by decide) (by decide) ⟨C, D, F, I, K, trivial⟩
set_option maxHeartbeats 4000000 in
set_option maxRecDepth 100000 in
theorem s_X8_crowd (l : Launch) (G : va_G) {cy : Nat → ClassId} {L : List Nat} {M : Nat → va_E} {a : Nat → Nat} {act : Nat → Bool} {C0 : Nat → Nat → Int32} {D0 : Nat → Nat → Int64} {R : Nat → Nat → Option Nat} (F : WI L M a act (ent cy a C0 D0 R)) (I : Inv C0) (p0 : Int32)  : MI l G cy yX8_crowd cX8_crowd 4 (some .int) 8 0 0 [.ref (a 100), .int p0] L M (fun r L2 M2 => ∃ C2 D2, WI L2 M2 a act (ent cy a C2 D2 R) ∧ Inv C2 ∧ Kp [100, 115, 116, 120, 121, 122, 123, 124, 125, 126, 127, 128] C0 D0 C2 D2 ∧ True) := by
  refine MI.of (own := RX8) rfl (by decide) (Nat.le_of_ble_eq_true rfl) ?_
  intro p e s m below meth c A X hrt hnm
  obtain ⟨C, D, hC0, hD0, F, I, K⟩ : ∃ C D, C = C0 ∧ D = D0 ∧ WI L M a act (ent cy a C D R) ∧ Inv C ∧ Kp [100, 115, 116, 120, 121, 122, 123, 124, 125, 126, 127, 128] C0 D0 C D := ⟨C0, D0, rfl, rfl, F, I, Kp.rf⟩
  obtain ⟨n1, hn1, en1⟩ := rg_nat ((show okw 0 (C 101 0) from I 101 0).1 rfl) (by decide)
  rw [hC0] at en1
  obtain ⟨n2, hn2, en2⟩ := rg_nat ((show okw 4 (C 101 4) from I 101 4).2.2.2.1 rfl) (by decide)
  rw [hC0] at en2
  obtain ⟨n3, hn3, en3⟩ := rg_nat ((show okw 7 (C 101 7) from I 101 7).2.2.2.2.1 rfl) (by decide)
  rw [hC0] at en3
  refine g_aload_n X dX8_crowd_0 rfl (j := 0) rfl ?_
  refine g_iload_n X dX8_crowd_1 rfl (j := 1) rfl ?_
  refine g_callVI X (s_X8_asksHour l G F I p0 ) lk_X8_301 (F.1 100 rfl).2 (F.1 100 rfl).1 rfl rfl dX8_crowd_2 (Nat.le_of_ble_eq_true rfl) ⟨by decide, by decide⟩ ⟨by decide, by decide⟩ (fun r4 L M hp => ?_)
  obtain ⟨C, D, F, I, K1, hr⟩ := hp
  have K := K.step K1 (by decide)
  rcases hr with rfl | ⟨rfl, n5, hn5, en5⟩
  · skip
    refine g_if_ne X dX8_crowd_5 (tgt := 11) (by decide) (fun q => absurd (by decide) q) (fun _ => ?_)
    refine g_bipush X dX8_crowd_8 (v := -2) (by decide) ?_
    exact g_iret X hrt dX8_crowd_10 (by decide) (by decide) ⟨C, D, F, I, K, trivial⟩
  · skip
    subst en5
    refine g_if_ne X dX8_crowd_5 (tgt := 11) (by decide) (fun _ => ?_) (fun q => absurd q (by decide))
    refine g_iconst X dX8_crowd_11 (v := 0) (by decide) ?_
    refine g_istore_n X dX8_crowd_12 rfl (by decide) (lv2 := [(2, .int 0), (0, .ref (a 100)), (1, .int (nI n5))]) rfl ?_
    refine g_iconst X dX8_crowd_13 (v := 0) (by decide) ?_
    refine g_istore_n X dX8_crowd_14 rfl (by decide) (lv2 := [(3, .int 0), (2, .int 0), (0, .ref (a 100)), (1, .int (nI n5))]) rfl ?_
    refine g_lv [0, 1, 2, 3] (lv2 := [(3, .int 0), (2, .int 0), (0, .ref (a 100)), (1, .int (nI n5))]) rfl ?_
    refine i_loop (mods := [100, 115, 116, 120, 121, 122, 123, 124, 125, 126, 127, 128]) (fun x : Nat × Int32 => 7 - x.1) (fun x => [(3, .int (nI (x.1))), (2, .int (x.2)), (0, .ref (a 100)), (1, .int (nI n5))]) (fun x C => 0 ≤ x.1 ∧ x.1 ≤ 7) (fun x L M C D F I K hP ih15 => ?_) ((0, 0) : Nat × Int32) F I K ⟨by show _ ≤ _; omega, by show _ ≤ _; omega⟩
    rcases x with ⟨i15_3, v15_2⟩
    obtain ⟨hi15_3a, hi15_3b⟩ := hP
    refine g_lv [0, 1, 2, 3] (lv2 := [(3, .int (nI i15_3)), (2, .int v15_2), (0, .ref (a 100)), (1, .int (nI n5))]) rfl ?_
    refine g_iload_n X dX8_crowd_15 rfl (j := 0) rfl ?_
    refine g_aload_n X dX8_crowd_16 rfl (j := 2) rfl ?_
    refine g_callVI X (s_X8_posts l G F I  ) lk_X8_98 (F.1 100 rfl).2 (F.1 100 rfl).1 rfl rfl dX8_crowd_17 (Nat.le_of_ble_eq_true rfl) ⟨by decide, by decide⟩ ⟨by decide, by decide⟩ (fun r6 L M hp => ?_)
    obtain ⟨C, D, F, I, K1, hr⟩ := hp
    have K := K.step K1 (by decide)
    obtain ⟨n7, hn7, en7, rfl⟩ := hr
    obtain rfl : n2 = n7 := ((nI_eq (by omega) (by omega)).mp (en7.symm.trans ((congrFun (K 101 (by decide)).1 4).trans en2))).symm
    refine g_icmp_ge X dX8_crowd_20 (tgt := 43) (by decide) (fun q8 => ?_) (fun q8 => ?_)
    · skip
      have q8 : n2 ≤ i15_3 := (nI_leI (a := n2) (b := i15_3) (by omega) (by omega)).mp q8
      refine g_iload_n X dX8_crowd_43 rfl (j := 1) rfl ?_
      exact g_iret X hrt dX8_crowd_44 (by decide) (by decide) ⟨C, D, F, I, K, trivial⟩
    · skip
      have q8 : ¬ n2 ≤ i15_3 := fun z => q8 ((nI_leI (a := n2) (b := i15_3) (by omega) (by omega)).mpr z)
      refine g_iload_n X dX8_crowd_23 rfl (j := 1) rfl ?_
      refine g_aload_n X dX8_crowd_24 rfl (j := 2) rfl ?_
      refine g_iload_n X dX8_crowd_25 rfl (j := 0) rfl ?_
      refine g_iload_n X dX8_crowd_26 rfl (j := 3) rfl ?_
      refine g_callVI X (s_X8_hereOf l G F I (nI i15_3) n5 (by omega) (by omega) ) lk_X8_308 (F.1 100 rfl).2 (F.1 100 rfl).1 rfl rfl dX8_crowd_27 (Nat.le_of_ble_eq_true rfl) ⟨by decide, by decide⟩ ⟨by decide, by decide⟩ (fun r9 L M hp => ?_)
      obtain ⟨C, D, F, I, K1, hr⟩ := hp
      have K := K.step K1 (by decide)
      refine g_callSI X (s_X8_bits l G F I r9 ) lk_X8_334 rfl rfl dX8_crowd_30 (Nat.le_of_ble_eq_true rfl) ⟨by decide, by decide⟩ ⟨by decide, by decide⟩ (fun r10 L M hp => ?_)
      obtain ⟨C, D, F, I, K1, hr⟩ := hp
      have K := K.step K1 (by decide)
      obtain ⟨n11, hn11a, hn11b, rfl⟩ := hr
      refine g_mmax X wd800 wd79 wd80 wd81 (by decide) (Nat.le_of_ble_eq_true rfl) (by decide) (by decide) dX8_crowd_33 (fun o12 => ?_)
      refine g_istore_n X dX8_crowd_36 rfl (by decide) (lv2 := [(2, .int o12), (3, .int (nI i15_3)), (0, .ref (a 100)), (1, .int (nI n5))]) rfl ?_
      refine g_iinc X dX8_crowd_37 (j := 1) rfl (v := nI (i15_3 + 1)) (nI_1 i15_3) (by decide) (lv2 := [(3, .int (nI (i15_3 + 1))), (2, .int o12), (0, .ref (a 100)), (1, .int (nI n5))]) rfl ?_
      refine g_goto X dX8_crowd_40 (tgt := 15) (by decide) ?_
      refine g_lv [0, 1, 2, 3] (lv2 := [(3, .int (nI (i15_3 + 1))), (2, .int o12), (0, .ref (a 100)), (1, .int (nI n5))]) rfl ?_
      exact ih15 ((i15_3 + 1), o12) L M C D F I K ⟨by omega, by omega⟩ (by show _ < _; omega)
