set_option maxHeartbeats 4000000 in
set_option maxRecDepth 100000 in
theorem s_X7_runPointed (l : Launch) (G : va_G) {cy : Nat → ClassId} {L : List Nat} {M : Nat → va_E} {a : Nat → Nat} {act : Nat → Bool} {C0 : Nat → Nat → Int32} {D0 : Nat → Nat → Int64} {R : Nat → Nat → Option Nat} (F : WI L M a act (ent cy a C0 D0 R)) (I : Inv C0) (p0 : Nat) (hp0a : 0 ≤ p0) (hp0b : p0 ≤ 6) (p1 : Nat) (hp1a : 0 ≤ p1) (hp1b : p1 ≤ 3)  : MV l G cy yX7_runPointed cX7_runPointed 3 none 4 0 0 [.ref (a 0), .int (nI p0), .int (nI p1)] L M (fun L2 M2 => ∃ C2 D2, WI L2 M2 a act (ent cy a C2 D2 R) ∧ Inv C2 ∧ Kp [31, 32, 33, 34, 35, 36] C0 D0 C2 D2 ∧ True) := by
  refine MV.of (own := RX7) rfl (by decide) (Nat.le_of_ble_eq_true rfl) ?_
  intro p e s m below meth c A X hrt hnm
  obtain ⟨C, D, hC0, hD0, F, I, K⟩ : ∃ C D, C = C0 ∧ D = D0 ∧ WI L M a act (ent cy a C D R) ∧ Inv C ∧ Kp [31, 32, 33, 34, 35, 36] C0 D0 C D := ⟨C0, D0, rfl, rfl, F, I, Kp.rf⟩
  refine g_aload_n X dX7_runPointed_0 rfl (j := 0) rfl ?_
  refine i_get X F 0 rfl rfl fk_X7_45 dX7_runPointed_1 rfl ?_
  refine g_callVV X (s_X4_prepare_31 l G F I  ) lk_X7_279 (F.1 31 rfl).2 (F.1 31 rfl).1 rfl rfl dX7_runPointed_4 (Nat.le_of_ble_eq_true rfl) ⟨by decide, by decide⟩ ⟨by decide, by decide⟩ (fun L M hp => ?_)
  obtain ⟨C, D, F, I, K1, hr⟩ := hp
  have K := K.step K1 (by decide)
  refine g_aload_n X dX7_runPointed_7 rfl (j := 0) rfl ?_
  refine i_get X F 0 rfl rfl fk_X7_45 dX7_runPointed_8 rfl ?_
  refine g_iload_n X dX7_runPointed_11 rfl (j := 1) rfl ?_
  refine g_iload_n X dX7_runPointed_12 rfl (j := 2) rfl ?_
  refine g_callVV X (s_X4_pointAtFirst_31 l G F I p0 (by omega) (by omega) p1 (by omega) (by omega) ) lk_X7_422 (F.1 31 rfl).2 (F.1 31 rfl).1 rfl rfl dX7_runPointed_13 (Nat.le_of_ble_eq_true rfl) ⟨by decide, by decide⟩ ⟨by decide, by decide⟩ (fun L M hp => ?_)
  obtain ⟨C, D, F, I, K1, hr⟩ := hp
  have K := K.step K1 (by decide)
  refine g_aload_n X dX7_runPointed_16 rfl (j := 0) rfl ?_
  refine i_get X F 0 rfl rfl fk_X7_45 dX7_runPointed_17 rfl ?_
  refine g_callVV X (s_X4_run_31 l G F I  ) lk_X7_285 (F.1 31 rfl).2 (F.1 31 rfl).1 rfl rfl dX7_runPointed_20 (Nat.le_of_ble_eq_true rfl) ⟨by decide, by decide⟩ ⟨by decide, by decide⟩ (fun L M hp => ?_)
  obtain ⟨C, D, F, I, K1, hr⟩ := hp
  have K := K.step K1 (by decide)
  exact g_vret X hrt dX7_runPointed_23 (by decide) (by decide) ⟨C, D, F, I, K, trivial⟩
set_option maxHeartbeats 4000000 in
set_option maxRecDepth 100000 in
theorem s_X7_runByLaw (l : Launch) (G : va_G) {cy : Nat → ClassId} {L : List Nat} {M : Nat → va_E} {a : Nat → Nat} {act : Nat → Bool} {C0 : Nat → Nat → Int32} {D0 : Nat → Nat → Int64} {R : Nat → Nat → Option Nat} (F : WI L M a act (ent cy a C0 D0 R)) (I : Inv C0) (p0 : Int32)  : MV l G cy yX7_runByLaw cX7_runByLaw 2 none 4 0 0 [.ref (a 0), .int p0] L M (fun L2 M2 => ∃ C2 D2, WI L2 M2 a act (ent cy a C2 D2 R) ∧ Inv C2 ∧ Kp [31, 32, 33, 34, 35, 36] C0 D0 C2 D2 ∧ True) := by
  refine MV.of (own := RX7) rfl (by decide) (Nat.le_of_ble_eq_true rfl) ?_
  intro p e s m below meth c A X hrt hnm
  obtain ⟨C, D, hC0, hD0, F, I, K⟩ : ∃ C D, C = C0 ∧ D = D0 ∧ WI L M a act (ent cy a C D R) ∧ Inv C ∧ Kp [31, 32, 33, 34, 35, 36] C0 D0 C D := ⟨C0, D0, rfl, rfl, F, I, Kp.rf⟩
  refine g_aload_n X dX7_runByLaw_0 rfl (j := 0) rfl ?_
  refine i_get X F 0 rfl rfl fk_X7_45 dX7_runByLaw_1 rfl ?_
  refine g_callVV X (s_X4_prepare_31 l G F I  ) lk_X7_279 (F.1 31 rfl).2 (F.1 31 rfl).1 rfl rfl dX7_runByLaw_4 (Nat.le_of_ble_eq_true rfl) ⟨by decide, by decide⟩ ⟨by decide, by decide⟩ (fun L M hp => ?_)
  obtain ⟨C, D, F, I, K1, hr⟩ := hp
  have K := K.step K1 (by decide)
  refine g_aload_n X dX7_runByLaw_7 rfl (j := 0) rfl ?_
  refine i_get X F 0 rfl rfl fk_X7_45 dX7_runByLaw_8 rfl ?_
  refine g_iload_n X dX7_runByLaw_11 rfl (j := 1) rfl ?_
  refine i_put X F I 31 rfl rfl rfl fk_X7_425 dX7_runByLaw_12 rfl rfl (Nat.le_of_ble_eq_true rfl) trivial (fun M C F I K1 hC => ?_)
  have K := K.step K1 (by decide)
  refine g_aload_n X dX7_runByLaw_15 rfl (j := 0) rfl ?_
  refine i_get X F 0 rfl rfl fk_X7_45 dX7_runByLaw_16 rfl ?_
  refine g_callVV X (s_X4_run_31 l G F I  ) lk_X7_285 (F.1 31 rfl).2 (F.1 31 rfl).1 rfl rfl dX7_runByLaw_19 (Nat.le_of_ble_eq_true rfl) ⟨by decide, by decide⟩ ⟨by decide, by decide⟩ (fun L M hp => ?_)
  obtain ⟨C, D, F, I, K1, hr⟩ := hp
  have K := K.step K1 (by decide)
  exact g_vret X hrt dX7_runByLaw_22 (by decide) (by decide) ⟨C, D, F, I, K, trivial⟩
set_option maxHeartbeats 4000000 in
set_option maxRecDepth 100000 in
theorem s_X7_insideByFog (l : Launch) (G : va_G) {cy : Nat → ClassId} {L : List Nat} {M : Nat → va_E} {a : Nat → Nat} {act : Nat → Bool} {C0 : Nat → Nat → Int32} {D0 : Nat → Nat → Int64} {R : Nat → Nat → Option Nat} (F : WI L M a act (ent cy a C0 D0 R)) (I : Inv C0) (p0 : Int32)  : MI l G cy yX7_insideByFog cX7_insideByFog 2 (some .int) 4 0 0 [.ref (a 0), .int p0] L M (fun r L2 M2 => ∃ C2 D2, WI L2 M2 a act (ent cy a C2 D2 R) ∧ Inv C2 ∧ Kp [31, 32, 33, 34, 35, 36] C0 D0 C2 D2 ∧ True) := by
  refine MI.of (own := RX7) rfl (by decide) (Nat.le_of_ble_eq_true rfl) ?_
  intro p e s m below meth c A X hrt hnm
  obtain ⟨C, D, hC0, hD0, F, I, K⟩ : ∃ C D, C = C0 ∧ D = D0 ∧ WI L M a act (ent cy a C D R) ∧ Inv C ∧ Kp [31, 32, 33, 34, 35, 36] C0 D0 C D := ⟨C0, D0, rfl, rfl, F, I, Kp.rf⟩
  refine g_aload_n X dX7_insideByFog_0 rfl (j := 0) rfl ?_
  refine i_get X F 0 rfl rfl fk_X7_45 dX7_insideByFog_1 rfl ?_
  refine g_callVV X (s_X4_prepare_31 l G F I  ) lk_X7_279 (F.1 31 rfl).2 (F.1 31 rfl).1 rfl rfl dX7_insideByFog_4 (Nat.le_of_ble_eq_true rfl) ⟨by decide, by decide⟩ ⟨by decide, by decide⟩ (fun L M hp => ?_)
  obtain ⟨C, D, F, I, K1, hr⟩ := hp
  have K := K.step K1 (by decide)
  refine g_aload_n X dX7_insideByFog_7 rfl (j := 0) rfl ?_
  refine i_get X F 0 rfl rfl fk_X7_45 dX7_insideByFog_8 rfl ?_
  refine g_iload_n X dX7_insideByFog_11 rfl (j := 1) rfl ?_
  refine i_put X F I 31 rfl rfl rfl fk_X7_426 dX7_insideByFog_12 rfl rfl (Nat.le_of_ble_eq_true rfl) trivial (fun M C F I K1 hC => ?_)
  have K := K.step K1 (by decide)
  refine g_aload_n X dX7_insideByFog_15 rfl (j := 0) rfl ?_
  refine i_get X F 0 rfl rfl fk_X7_45 dX7_insideByFog_16 rfl ?_
  refine g_callVV X (s_X4_run_31 l G F I  ) lk_X7_285 (F.1 31 rfl).2 (F.1 31 rfl).1 rfl rfl dX7_insideByFog_19 (Nat.le_of_ble_eq_true rfl) ⟨by decide, by decide⟩ ⟨by decide, by decide⟩ (fun L M hp => ?_)
  obtain ⟨C, D, F, I, K1, hr⟩ := hp
  have K := K.step K1 (by decide)
  refine g_aload_n X dX7_insideByFog_22 rfl (j := 0) rfl ?_
  refine i_get X F 0 rfl rfl fk_X7_45 dX7_insideByFog_23 rfl ?_
  refine g_aload_n X dX7_insideByFog_26 rfl (j := 0) rfl ?_
  refine i_get X F 0 rfl rfl fk_X7_19 dX7_insideByFog_27 rfl ?_
  obtain ⟨n1, hn1, en1⟩ := rg_nat ((I 3 1).1 rfl) (by decide)
  refine i_get X F 3 rfl rfl fk_X7_168 dX7_insideByFog_30 (v := .int (nI n1)) (congrArg (fun z => some (Value.int z)) en1) ?_
  refine g_callVI X (s_X4_walkersInside_31 l G F I n1 (by omega) (by omega) ) lk_X7_192 (F.1 31 rfl).2 (F.1 31 rfl).1 rfl rfl dX7_insideByFog_33 (Nat.le_of_ble_eq_true rfl) ⟨by decide, by decide⟩ ⟨by decide, by decide⟩ (fun r2 L M hp => ?_)
  obtain ⟨C, D, F, I, K1, hr⟩ := hp
  have K := K.step K1 (by decide)
  exact g_iret X hrt dX7_insideByFog_36 (by decide) (by decide) ⟨C, D, F, I, K, trivial⟩
set_option maxHeartbeats 4000000 in
set_option maxRecDepth 100000 in
theorem s_X7_worthOf (l : Launch) (G : va_G) {cy : Nat → ClassId} {L : List Nat} {M : Nat → va_E} {a : Nat → Nat} {act : Nat → Bool} {C0 : Nat → Nat → Int32} {D0 : Nat → Nat → Int64} {R : Nat → Nat → Option Nat} (F : WI L M a act (ent cy a C0 D0 R)) (I : Inv C0) (p0 : Int32)  : MI l G cy yX7_worthOf cX7_worthOf 2 (some .int) 4 0 0 [.ref (a 0), .int p0] L M (fun r L2 M2 => ∃ C2 D2, WI L2 M2 a act (ent cy a C2 D2 R) ∧ Inv C2 ∧ Kp [31, 32, 33, 34, 35, 36] C0 D0 C2 D2 ∧ True) := by
  refine MI.of (own := RX7) rfl (by decide) (Nat.le_of_ble_eq_true rfl) ?_
  intro p e s m below meth c A X hrt hnm
  obtain ⟨C, D, hC0, hD0, F, I, K⟩ : ∃ C D, C = C0 ∧ D = D0 ∧ WI L M a act (ent cy a C D R) ∧ Inv C ∧ Kp [31, 32, 33, 34, 35, 36] C0 D0 C D := ⟨C0, D0, rfl, rfl, F, I, Kp.rf⟩
  refine g_aload_n X dX7_worthOf_0 rfl (j := 0) rfl ?_
  refine i_get X F 0 rfl rfl fk_X7_45 dX7_worthOf_1 rfl ?_
  refine g_callVV X (s_X4_prepare_31 l G F I  ) lk_X7_279 (F.1 31 rfl).2 (F.1 31 rfl).1 rfl rfl dX7_worthOf_4 (Nat.le_of_ble_eq_true rfl) ⟨by decide, by decide⟩ ⟨by decide, by decide⟩ (fun L M hp => ?_)
  obtain ⟨C, D, F, I, K1, hr⟩ := hp
  have K := K.step K1 (by decide)
  refine g_aload_n X dX7_worthOf_7 rfl (j := 0) rfl ?_
  refine i_get X F 0 rfl rfl fk_X7_45 dX7_worthOf_8 rfl ?_
  refine g_iload_n X dX7_worthOf_11 rfl (j := 1) rfl ?_
  refine i_put X F I 31 rfl rfl rfl fk_X7_429 dX7_worthOf_12 rfl rfl (Nat.le_of_ble_eq_true rfl) trivial (fun M C F I K1 hC => ?_)
  have K := K.step K1 (by decide)
  refine g_aload_n X dX7_worthOf_15 rfl (j := 0) rfl ?_
  refine i_get X F 0 rfl rfl fk_X7_45 dX7_worthOf_16 rfl ?_
  refine g_callVV X (s_X4_run_31 l G F I  ) lk_X7_285 (F.1 31 rfl).2 (F.1 31 rfl).1 rfl rfl dX7_worthOf_19 (Nat.le_of_ble_eq_true rfl) ⟨by decide, by decide⟩ ⟨by decide, by decide⟩ (fun L M hp => ?_)
  obtain ⟨C, D, F, I, K1, hr⟩ := hp
  have K := K.step K1 (by decide)
  refine g_aload_n X dX7_worthOf_22 rfl (j := 0) rfl ?_
  refine i_get X F 0 rfl rfl fk_X7_45 dX7_worthOf_23 rfl ?_
  refine g_aload_n X dX7_worthOf_26 rfl (j := 0) rfl ?_
  refine i_get X F 0 rfl rfl fk_X7_19 dX7_worthOf_27 rfl ?_
  obtain ⟨n1, hn1, en1⟩ := rg_nat ((I 3 1).1 rfl) (by decide)
  refine i_get X F 3 rfl rfl fk_X7_168 dX7_worthOf_30 (v := .int (nI n1)) (congrArg (fun z => some (Value.int z)) en1) ?_
  refine g_callVI X (s_X4_walkersInside_31 l G F I n1 (by omega) (by omega) ) lk_X7_192 (F.1 31 rfl).2 (F.1 31 rfl).1 rfl rfl dX7_worthOf_33 (Nat.le_of_ble_eq_true rfl) ⟨by decide, by decide⟩ ⟨by decide, by decide⟩ (fun r2 L M hp => ?_)
  obtain ⟨C, D, F, I, K1, hr⟩ := hp
  have K := K.step K1 (by decide)
  refine g_callSI X (s_J6_bitCount_0f7a4 l G F I r2 ) lk_X7_271 rfl rfl dX7_worthOf_36 (Nat.le_of_ble_eq_true rfl) ⟨by decide, by decide⟩ ⟨by decide, by decide⟩ (fun r3 L M hp => ?_)
  obtain ⟨C, D, F, I, K1, hr⟩ := hp
  have K := K.step K1 (by decide)
  have hbcr3 := hr
  exact g_iret X hrt dX7_worthOf_39 (by decide) (by decide) ⟨C, D, F, I, K, trivial⟩
set_option maxHeartbeats 4000000 in
set_option maxRecDepth 100000 in
theorem s_X7_gain (l : Launch) (G : va_G) {cy : Nat → ClassId} {L : List Nat} {M : Nat → va_E} {a : Nat → Nat} {act : Nat → Bool} {C0 : Nat → Nat → Int32} {D0 : Nat → Nat → Int64} {R : Nat → Nat → Option Nat} (F : WI L M a act (ent cy a C0 D0 R)) (I : Inv C0) (p0 : Nat) (hp0a : 0 ≤ p0) (hp0b : p0 ≤ 7) (p1 : Nat) (hp1a : 0 ≤ p1) (hp1b : p1 ≤ 7) (p2 : Int32) (p3 : Int32)  : MI l G cy yX7_gain cX7_gain 6 (some .int) 4 0 0 [.ref (a 0), .int (nI p0), .int (nI p1), .int p2, .int p3] L M (fun r L2 M2 => ∃ C2 D2, WI L2 M2 a act (ent cy a C2 D2 R) ∧ Inv C2 ∧ Kp [31, 32, 33, 34, 35, 36] C0 D0 C2 D2 ∧ True) := by
  refine MI.of (own := RX7) rfl (by decide) (Nat.le_of_ble_eq_true rfl) ?_
  intro p e s m below meth c A X hrt hnm
  obtain ⟨C, D, hC0, hD0, F, I, K⟩ : ∃ C D, C = C0 ∧ D = D0 ∧ WI L M a act (ent cy a C D R) ∧ Inv C ∧ Kp [31, 32, 33, 34, 35, 36] C0 D0 C D := ⟨C0, D0, rfl, rfl, F, I, Kp.rf⟩
  refine g_aload_n X dX7_gain_0 rfl (j := 0) rfl ?_
  refine i_get X F 0 rfl rfl fk_X7_45 dX7_gain_1 rfl ?_
  refine g_callVV X (s_X4_prepare_31 l G F I  ) lk_X7_279 (F.1 31 rfl).2 (F.1 31 rfl).1 rfl rfl dX7_gain_4 (Nat.le_of_ble_eq_true rfl) ⟨by decide, by decide⟩ ⟨by decide, by decide⟩ (fun L M hp => ?_)
  obtain ⟨C, D, F, I, K1, hr⟩ := hp
  have K := K.step K1 (by decide)
  refine g_aload_n X dX7_gain_7 rfl (j := 0) rfl ?_
  refine i_get X F 0 rfl rfl fk_X7_45 dX7_gain_8 rfl ?_
  refine i_get X F 31 rfl rfl fk_X7_432 dX7_gain_11 rfl ?_
  refine g_iload_n X dX7_gain_14 rfl (j := 1) rfl ?_
  refine g_dup2 X dX7_gain_15 rfl rfl ?_
  refine i_iald X F 32 rfl rfl dX7_gain_16 (vp_in_nI (by omega) (by decide)) rfl ?_
  refine Go.gen (fun o1 => ?_)
  refine g_iload_n X dX7_gain_17 rfl (j := 3) rfl ?_
  refine g_iadd X dX7_gain_18 ?_
  refine Go.gen (fun o2 => ?_)
  refine i_iast X F I 32 rfl (fun _ => rfl) dX7_gain_19 (vp_in_nI (by omega) (by decide)) trivial (fun M C F I K1 hC => ?_)
  have K := K.step K1 (by decide)
  refine g_aload_n X dX7_gain_20 rfl (j := 0) rfl ?_
  refine i_get X F 0 rfl rfl fk_X7_45 dX7_gain_21 rfl ?_
  refine i_get X F 31 rfl rfl fk_X7_432 dX7_gain_24 rfl ?_
  refine g_iload_n X dX7_gain_27 rfl (j := 2) rfl ?_
  refine g_dup2 X dX7_gain_28 rfl rfl ?_
  refine i_iald X F 32 rfl rfl dX7_gain_29 (vp_in_nI (by omega) (by decide)) rfl ?_
  refine Go.gen (fun o3 => ?_)
  refine g_iload X dX7_gain_30 (j := 4) rfl ?_
  refine g_iadd X dX7_gain_32 ?_
  refine Go.gen (fun o4 => ?_)
  refine i_iast X F I 32 rfl (fun _ => rfl) dX7_gain_33 (vp_in_nI (by omega) (by decide)) trivial (fun M C F I K1 hC => ?_)
  have K := K.step K1 (by decide)
  refine g_aload_n X dX7_gain_34 rfl (j := 0) rfl ?_
  refine i_get X F 0 rfl rfl fk_X7_45 dX7_gain_35 rfl ?_
  refine g_callVV X (s_X4_run_31 l G F I  ) lk_X7_285 (F.1 31 rfl).2 (F.1 31 rfl).1 rfl rfl dX7_gain_38 (Nat.le_of_ble_eq_true rfl) ⟨by decide, by decide⟩ ⟨by decide, by decide⟩ (fun L M hp => ?_)
  obtain ⟨C, D, F, I, K1, hr⟩ := hp
  have K := K.step K1 (by decide)
  refine g_aload_n X dX7_gain_41 rfl (j := 0) rfl ?_
  refine i_get X F 0 rfl rfl fk_X7_45 dX7_gain_42 rfl ?_
  refine g_iload_n X dX7_gain_45 rfl (j := 1) rfl ?_
  refine g_callVI X (s_X4_firstHourHome_31 l G F I p0 (by omega) (by omega) ) lk_X7_165 (F.1 31 rfl).2 (F.1 31 rfl).1 rfl rfl dX7_gain_46 (Nat.le_of_ble_eq_true rfl) ⟨by decide, by decide⟩ ⟨by decide, by decide⟩ (fun r5 L M hp => ?_)
  obtain ⟨C, D, F, I, K1, hr⟩ := hp
  have K := K.step K1 (by decide)
  refine g_istore X dX7_gain_49 (by decide) (lv2 := [(5, .int r5), (0, .ref (a 0)), (1, .int (nI p0)), (2, .int (nI p1)), (3, .int p2), (4, .int p3)]) rfl ?_
  refine g_iload X dX7_gain_51 (j := 0) rfl ?_
  refine g_iconst X dX7_gain_53 (v := -1) (by decide) ?_
  refine g_icmp_ne X dX7_gain_54 (tgt := 61) (by decide) (fun q6 => ?_) (fun q6 => ?_)
  · skip
    refine g_bipush X dX7_gain_61 (v := 20) (by decide) ?_
    refine g_iload X dX7_gain_63 (j := 0) rfl ?_
    refine g_isub X dX7_gain_65 ?_
    refine Go.gen (fun o7 => ?_)
    refine g_iload_n X dX7_gain_66 rfl (j := 4) rfl ?_
    refine g_isub X dX7_gain_67 ?_
    refine Go.gen (fun o8 => ?_)
    exact g_iret X hrt dX7_gain_68 (by decide) (by decide) ⟨C, D, F, I, K, trivial⟩
  · skip
    subst q6
    refine g_iconst X dX7_gain_57 (v := 0) (by decide) ?_
    refine g_goto X dX7_gain_58 (tgt := 66) (by decide) ?_
    refine g_iload_n X dX7_gain_66 rfl (j := 4) rfl ?_
    refine g_isub X dX7_gain_67 ?_
    refine Go.gen (fun o9 => ?_)
    exact g_iret X hrt dX7_gain_68 (by decide) (by decide) ⟨C, D, F, I, K, trivial⟩
set_option maxHeartbeats 4000000 in
set_option maxRecDepth 100000 in
theorem s_X7_by (l : Launch) (G : va_G) {cy : Nat → ClassId} {L : List Nat} {M : Nat → va_E} {a : Nat → Nat} {act : Nat → Bool} {C0 : Nat → Nat → Int32} {D0 : Nat → Nat → Int64} {R : Nat → Nat → Option Nat} (F : WI L M a act (ent cy a C0 D0 R)) (I : Inv C0) (p0 : Int32)  : MI l G cy yX7_by cX7_by 2 (some .int) 5 0 0 [.ref (a 0), .int p0] L M (fun r L2 M2 => ∃ C2 D2, WI L2 M2 a act (ent cy a C2 D2 R) ∧ Inv C2 ∧ Kp [31, 32, 33, 34, 35, 36] C0 D0 C2 D2 ∧ True) := by
  refine MI.of (own := RX7) rfl (by decide) (Nat.le_of_ble_eq_true rfl) ?_
  intro p e s m below meth c A X hrt hnm
  obtain ⟨C, D, hC0, hD0, F, I, K⟩ : ∃ C D, C = C0 ∧ D = D0 ∧ WI L M a act (ent cy a C D R) ∧ Inv C ∧ Kp [31, 32, 33, 34, 35, 36] C0 D0 C D := ⟨C0, D0, rfl, rfl, F, I, Kp.rf⟩
  refine g_aload_n X dX7_by_0 rfl (j := 0) rfl ?_
  refine i_get X F 0 rfl rfl fk_X7_19 dX7_by_1 rfl ?_
  refine g_callVI X (s_X2_isTold l G F I  ) lk_X7_198 (F.1 3 rfl).2 (F.1 3 rfl).1 rfl rfl dX7_by_4 (Nat.le_of_ble_eq_true rfl) ⟨by decide, by decide⟩ ⟨by decide, by decide⟩ (fun r1 L M hp => ?_)
  obtain ⟨C, D, F, I, K1, hr⟩ := hp
  have K := K.step K1 (by decide)
  rcases hr with rfl | rfl
  · skip
    refine g_if_eq X dX7_by_7 (tgt := 19) (by decide) (fun _ => ?_) (fun q => absurd (by decide) q)
    refine g_bipush X dX7_by_19 (v := -2) (by decide) ?_
    exact g_iret X hrt dX7_by_21 (by decide) (by decide) ⟨C, D, F, I, K, trivial⟩
  · skip
    refine g_if_eq X dX7_by_7 (tgt := 19) (by decide) (fun q => absurd q (by decide)) (fun _ => ?_)
    refine g_iload_n X dX7_by_10 rfl (j := 1) rfl ?_
    refine g_if_lt X dX7_by_11 (tgt := 19) (by decide) (fun q2 => ?_) (fun q2 => ?_)
    · skip
      have q2t : p0.toInt < (0 : Int32).toInt := Int32.lt_iff_toInt_lt.mp q2
      have q2k : (0 : Int32).toInt = 0 := (by decide)
      have q2b := Int32.toInt_lt p0
      refine g_bipush X dX7_by_19 (v := -2) (by decide) ?_
      exact g_iret X hrt dX7_by_21 (by decide) (by decide) ⟨C, D, F, I, K, trivial⟩
    · skip
      have q2t : ¬ p0.toInt < (0 : Int32).toInt := fun z => q2 (Int32.lt_iff_toInt_lt.mpr z)
      have q2k : (0 : Int32).toInt = 0 := (by decide)
      have q2b := Int32.toInt_lt p0
      obtain ⟨n3, hn3, rfl⟩ := nI_of (x := p0) (fun z => by have z2 := Int32.lt_iff_toInt_lt.mp z; have z3 : (0 : Int32).toInt = 0 := (by decide); omega)
      rw [nI_toInt (by omega)] at q2t
      have tn3 := nI_toInt (n := n3) (by omega)
      refine g_iload_n X dX7_by_14 rfl (j := 1) rfl ?_
      refine g_iconst X dX7_by_15 (v := 3) (by decide) ?_
      refine g_icmp_le X dX7_by_16 (tgt := 22) (by decide) (fun q4 => ?_) (fun q4 => ?_)
      · skip
        have q4 : n3 ≤ 3 := (nI_leI (a := n3) (b := 3) (by omega) (by omega)).mp q4
        refine g_aload_n X dX7_by_22 rfl (j := 0) rfl ?_
        refine g_iload_n X dX7_by_23 rfl (j := 1) rfl ?_
        refine g_callVV X (s_X7_runByLaw l G F I (nI n3) ) lk_X7_303 (F.1 0 rfl).2 (F.1 0 rfl).1 rfl rfl dX7_by_24 (Nat.le_of_ble_eq_true rfl) ⟨by decide, by decide⟩ ⟨by decide, by decide⟩ (fun L M hp => ?_)
        obtain ⟨C, D, F, I, K1, hr⟩ := hp
        have K := K.step K1 (by decide)
        refine g_aload_n X dX7_by_27 rfl (j := 0) rfl ?_
        refine i_get X F 0 rfl rfl fk_X7_45 dX7_by_28 rfl ?_
        refine g_aload_n X dX7_by_31 rfl (j := 0) rfl ?_
        refine i_get X F 0 rfl rfl fk_X7_19 dX7_by_32 rfl ?_
        obtain ⟨n5, hn5, en5⟩ := rg_nat ((I 3 1).1 rfl) (by decide)
        refine i_get X F 3 rfl rfl fk_X7_168 dX7_by_35 (v := .int (nI n5)) (congrArg (fun z => some (Value.int z)) en5) ?_
        refine g_callVI X (s_X4_walkersInside_31 l G F I n5 (by omega) (by omega) ) lk_X7_192 (F.1 31 rfl).2 (F.1 31 rfl).1 rfl rfl dX7_by_38 (Nat.le_of_ble_eq_true rfl) ⟨by decide, by decide⟩ ⟨by decide, by decide⟩ (fun r6 L M hp => ?_)
        obtain ⟨C, D, F, I, K1, hr⟩ := hp
        have K := K.step K1 (by decide)
        exact g_iret X hrt dX7_by_41 (by decide) (by decide) ⟨C, D, F, I, K, trivial⟩
      · skip
        have q4 : ¬ n3 ≤ 3 := fun z => q4 ((nI_leI (a := n3) (b := 3) (by omega) (by omega)).mpr z)
        refine g_bipush X dX7_by_19 (v := -2) (by decide) ?_
        exact g_iret X hrt dX7_by_21 (by decide) (by decide) ⟨C, D, F, I, K, trivial⟩
set_option maxHeartbeats 4000000 in
set_option maxRecDepth 100000 in
theorem s_X7_law (l : Launch) (G : va_G) {cy : Nat → ClassId} {L : List Nat} {M : Nat → va_E} {a : Nat → Nat} {act : Nat → Bool} {C0 : Nat → Nat → Int32} {D0 : Nat → Nat → Int64} {R : Nat → Nat → Option Nat} (F : WI L M a act (ent cy a C0 D0 R)) (I : Inv C0)   : MI l G cy yX7_law cX7_law 5 (some .int) 5 0 0 [.ref (a 0)] L M (fun r L2 M2 => ∃ C2 D2, WI L2 M2 a act (ent cy a C2 D2 R) ∧ Inv C2 ∧ Kp [31, 32, 33, 34, 35, 36] C0 D0 C2 D2 ∧ True) := by
  refine MI.of (own := RX7) rfl (by decide) (Nat.le_of_ble_eq_true rfl) ?_
  intro p e s m below meth c A X hrt hnm
  obtain ⟨C, D, hC0, hD0, F, I, K⟩ : ∃ C D, C = C0 ∧ D = D0 ∧ WI L M a act (ent cy a C D R) ∧ Inv C ∧ Kp [31, 32, 33, 34, 35, 36] C0 D0 C D := ⟨C0, D0, rfl, rfl, F, I, Kp.rf⟩
  refine g_aload_n X dX7_law_0 rfl (j := 0) rfl ?_
  refine i_get X F 0 rfl rfl fk_X7_19 dX7_law_1 rfl ?_
  refine g_callVI X (s_X2_isTold l G F I  ) lk_X7_198 (F.1 3 rfl).2 (F.1 3 rfl).1 rfl rfl dX7_law_4 (Nat.le_of_ble_eq_true rfl) ⟨by decide, by decide⟩ ⟨by decide, by decide⟩ (fun r1 L M hp => ?_)
  obtain ⟨C, D, F, I, K1, hr⟩ := hp
  have K := K.step K1 (by decide)
  rcases hr with rfl | rfl
  · skip
    refine g_if_ne X dX7_law_7 (tgt := 13) (by decide) (fun q => absurd (by decide) q) (fun _ => ?_)
    refine g_bipush X dX7_law_10 (v := -2) (by decide) ?_
    exact g_iret X hrt dX7_law_12 (by decide) (by decide) ⟨C, D, F, I, K, trivial⟩
  · skip
    refine g_if_ne X dX7_law_7 (tgt := 13) (by decide) (fun _ => ?_) (fun q => absurd q (by decide))
    refine g_iconst X dX7_law_13 (v := -1) (by decide) ?_
    refine g_istore_n X dX7_law_14 rfl (by decide) (lv2 := [(1, .int (-1)), (0, .ref (a 0))]) rfl ?_
    refine g_iconst X dX7_law_15 (v := -1) (by decide) ?_
    refine g_istore_n X dX7_law_16 rfl (by decide) (lv2 := [(2, .int (-1)), (1, .int (-1)), (0, .ref (a 0))]) rfl ?_
    refine g_iconst X dX7_law_17 (v := 0) (by decide) ?_
    refine g_istore_n X dX7_law_18 rfl (by decide) (lv2 := [(3, .int 0), (2, .int (-1)), (1, .int (-1)), (0, .ref (a 0))]) rfl ?_
    refine g_lv [0, 2, 1, 3] (lv2 := [(3, .int 0), (1, .int (-1)), (2, .int (-1)), (0, .ref (a 0))]) rfl ?_
    refine i_loop (mods := [31, 32, 33, 34, 35, 36]) (fun x : Nat × Int32 × Int32 => 4 - x.1) (fun x => [(3, .int (nI (x.1))), (1, .int (x.2.1)), (2, .int (x.2.2)), (0, .ref (a 0))]) (fun x C => 0 ≤ x.1 ∧ x.1 ≤ 4) (fun x L M C D F I K hP ih19 => ?_) ((0, (-1), (-1)) : Nat × Int32 × Int32) F I K ⟨by show _ ≤ _; omega, by show _ ≤ _; omega⟩
    rcases x with ⟨i19_3, v19_1, v19_2⟩
    obtain ⟨hi19_3a, hi19_3b⟩ := hP
    refine g_lv [0, 1, 2, 3] (lv2 := [(3, .int (nI i19_3)), (1, .int v19_1), (2, .int v19_2), (0, .ref (a 0))]) rfl ?_
    refine g_iload_n X dX7_law_19 rfl (j := 0) rfl ?_
    refine g_iconst X dX7_law_20 (v := 3) (by decide) ?_
    refine g_icmp_gt X dX7_law_21 (tgt := 65) (by decide) (fun q2 => ?_) (fun q2 => ?_)
    · skip
      have q2 : 3 < i19_3 := (nI_ltI (a := 3) (b := i19_3) (by omega) (by omega)).mp q2
      refine g_iload_n X dX7_law_65 rfl (j := 2) rfl ?_
      exact g_iret X hrt dX7_law_66 (by decide) (by decide) ⟨C, D, F, I, K, trivial⟩
    · skip
      have q2 : ¬ 3 < i19_3 := fun z => q2 ((nI_ltI (a := 3) (b := i19_3) (by omega) (by omega)).mpr z)
      refine g_aload_n X dX7_law_24 rfl (j := 3) rfl ?_
      refine g_iload_n X dX7_law_25 rfl (j := 0) rfl ?_
      refine g_callVV X (s_X7_runByLaw l G F I (nI i19_3) ) lk_X7_303 (F.1 0 rfl).2 (F.1 0 rfl).1 rfl rfl dX7_law_26 (Nat.le_of_ble_eq_true rfl) ⟨by decide, by decide⟩ ⟨by decide, by decide⟩ (fun L M hp => ?_)
      obtain ⟨C, D, F, I, K1, hr⟩ := hp
      have K := K.step K1 (by decide)
      refine g_aload_n X dX7_law_29 rfl (j := 3) rfl ?_
      refine i_get X F 0 rfl rfl fk_X7_45 dX7_law_30 rfl ?_
      refine g_aload_n X dX7_law_33 rfl (j := 3) rfl ?_
      refine i_get X F 0 rfl rfl fk_X7_19 dX7_law_34 rfl ?_
      obtain ⟨n3, hn3, en3⟩ := rg_nat ((I 3 1).1 rfl) (by decide)
      refine i_get X F 3 rfl rfl fk_X7_168 dX7_law_37 (v := .int (nI n3)) (congrArg (fun z => some (Value.int z)) en3) ?_
      refine g_callVI X (s_X4_walkersInside_31 l G F I n3 (by omega) (by omega) ) lk_X7_192 (F.1 31 rfl).2 (F.1 31 rfl).1 rfl rfl dX7_law_40 (Nat.le_of_ble_eq_true rfl) ⟨by decide, by decide⟩ ⟨by decide, by decide⟩ (fun r4 L M hp => ?_)
      obtain ⟨C, D, F, I, K1, hr⟩ := hp
      have K := K.step K1 (by decide)
      refine g_callSI X (s_J6_bitCount_0f7a4 l G F I r4 ) lk_X7_271 rfl rfl dX7_law_43 (Nat.le_of_ble_eq_true rfl) ⟨by decide, by decide⟩ ⟨by decide, by decide⟩ (fun r5 L M hp => ?_)
      obtain ⟨C, D, F, I, K1, hr⟩ := hp
      have K := K.step K1 (by decide)
      have hbcr5 := hr
      refine g_istore X dX7_law_46 (by decide) (lv2 := [(4, .int r5), (3, .int (nI i19_3)), (1, .int v19_1), (2, .int v19_2), (0, .ref (a 0))]) rfl ?_
      refine g_iload X dX7_law_48 (j := 0) rfl ?_
      refine g_iload_n X dX7_law_50 rfl (j := 2) rfl ?_
      refine g_icmp_le X dX7_law_51 (tgt := 59) (by decide) (fun q6 => ?_) (fun q6 => ?_)
      · skip
        refine g_iinc X dX7_law_59 (j := 1) rfl (v := nI (i19_3 + 1)) (nI_1 i19_3) (by decide) (lv2 := [(3, .int (nI (i19_3 + 1))), (4, .int r5), (1, .int v19_1), (2, .int v19_2), (0, .ref (a 0))]) rfl ?_
        refine g_goto X dX7_law_62 (tgt := 19) (by decide) ?_
        refine g_lv [0, 2, 3, 4] (lv2 := [(3, .int (nI (i19_3 + 1))), (1, .int v19_1), (2, .int v19_2), (0, .ref (a 0))]) rfl ?_
        exact ih19 ((i19_3 + 1), v19_1, v19_2) L M C D F I K ⟨by omega, by omega⟩ (by show _ < _; omega)
      · skip
        refine g_iload X dX7_law_54 (j := 0) rfl ?_
        refine g_istore_n X dX7_law_56 rfl (by decide) (lv2 := [(1, .int r5), (4, .int r5), (3, .int (nI i19_3)), (2, .int v19_2), (0, .ref (a 0))]) rfl ?_
        refine g_iload_n X dX7_law_57 rfl (j := 2) rfl ?_
        refine g_istore_n X dX7_law_58 rfl (by decide) (lv2 := [(2, .int (nI i19_3)), (1, .int r5), (4, .int r5), (3, .int (nI i19_3)), (0, .ref (a 0))]) rfl ?_
        refine g_iinc X dX7_law_59 (j := 3) rfl (v := nI (i19_3 + 1)) (nI_1 i19_3) (by decide) (lv2 := [(3, .int (nI (i19_3 + 1))), (2, .int (nI i19_3)), (1, .int r5), (4, .int r5), (0, .ref (a 0))]) rfl ?_
        refine g_goto X dX7_law_62 (tgt := 19) (by decide) ?_
        refine g_lv [0, 2, 1, 4] (lv2 := [(3, .int (nI (i19_3 + 1))), (1, .int r5), (2, .int (nI i19_3)), (0, .ref (a 0))]) rfl ?_
        exact ih19 ((i19_3 + 1), r5, nI i19_3) L M C D F I K ⟨by omega, by omega⟩ (by show _ < _; omega)
set_option maxHeartbeats 4000000 in
set_option maxRecDepth 100000 in
theorem s_X7_worth (l : Launch) (G : va_G) {cy : Nat → ClassId} {L : List Nat} {M : Nat → va_E} {a : Nat → Nat} {act : Nat → Bool} {C0 : Nat → Nat → Int32} {D0 : Nat → Nat → Int64} {R : Nat → Nat → Option Nat} (F : WI L M a act (ent cy a C0 D0 R)) (I : Inv C0) (p0 : Int32)  : MI l G cy yX7_worth cX7_worth 2 (some .int) 5 0 0 [.ref (a 0), .int p0] L M (fun r L2 M2 => ∃ C2 D2, WI L2 M2 a act (ent cy a C2 D2 R) ∧ Inv C2 ∧ Kp [31, 32, 33, 34, 35, 36] C0 D0 C2 D2 ∧ True) := by
  refine MI.of (own := RX7) rfl (by decide) (Nat.le_of_ble_eq_true rfl) ?_
  intro p e s m below meth c A X hrt hnm
  obtain ⟨C, D, hC0, hD0, F, I, K⟩ : ∃ C D, C = C0 ∧ D = D0 ∧ WI L M a act (ent cy a C D R) ∧ Inv C ∧ Kp [31, 32, 33, 34, 35, 36] C0 D0 C D := ⟨C0, D0, rfl, rfl, F, I, Kp.rf⟩
  refine g_aload_n X dX7_worth_0 rfl (j := 0) rfl ?_
  refine i_get X F 0 rfl rfl fk_X7_19 dX7_worth_1 rfl ?_
  refine g_callVI X (s_X2_isTold l G F I  ) lk_X7_198 (F.1 3 rfl).2 (F.1 3 rfl).1 rfl rfl dX7_worth_4 (Nat.le_of_ble_eq_true rfl) ⟨by decide, by decide⟩ ⟨by decide, by decide⟩ (fun r1 L M hp => ?_)
  obtain ⟨C, D, F, I, K1, hr⟩ := hp
  have K := K.step K1 (by decide)
  rcases hr with rfl | rfl
  · skip
    refine g_if_eq X dX7_worth_7 (tgt := 27) (by decide) (fun _ => ?_) (fun q => absurd (by decide) q)
    refine g_bipush X dX7_worth_27 (v := -2) (by decide) ?_
    exact g_iret X hrt dX7_worth_29 (by decide) (by decide) ⟨C, D, F, I, K, trivial⟩
  · skip
    refine g_if_eq X dX7_worth_7 (tgt := 27) (by decide) (fun q => absurd q (by decide)) (fun _ => ?_)
    refine g_iload_n X dX7_worth_10 rfl (j := 1) rfl ?_
    refine g_if_lt X dX7_worth_11 (tgt := 27) (by decide) (fun q2 => ?_) (fun q2 => ?_)
    · skip
      have q2t : p0.toInt < (0 : Int32).toInt := Int32.lt_iff_toInt_lt.mp q2
      have q2k : (0 : Int32).toInt = 0 := (by decide)
      have q2b := Int32.toInt_lt p0
      refine g_bipush X dX7_worth_27 (v := -2) (by decide) ?_
      exact g_iret X hrt dX7_worth_29 (by decide) (by decide) ⟨C, D, F, I, K, trivial⟩
    · skip
      have q2t : ¬ p0.toInt < (0 : Int32).toInt := fun z => q2 (Int32.lt_iff_toInt_lt.mpr z)
      have q2k : (0 : Int32).toInt = 0 := (by decide)
      have q2b := Int32.toInt_lt p0
      obtain ⟨n3, hn3, rfl⟩ := nI_of (x := p0) (fun z => by have z2 := Int32.lt_iff_toInt_lt.mp z; have z3 : (0 : Int32).toInt = 0 := (by decide); omega)
      rw [nI_toInt (by omega)] at q2t
      have tn3 := nI_toInt (n := n3) (by omega)
      refine g_iload_n X dX7_worth_14 rfl (j := 1) rfl ?_
      refine g_iconst X dX7_worth_15 (v := 1) (by decide) ?_
      refine g_aload_n X dX7_worth_16 rfl (j := 0) rfl ?_
      refine i_get X F 0 rfl rfl fk_X7_19 dX7_worth_17 rfl ?_
      obtain ⟨n4, hn4, en4⟩ := rg_nat ((I 3 5).2.2.1 rfl) (by decide)
      refine i_get X F 3 rfl rfl fk_X7_219 dX7_worth_20 (v := .int (nI n4)) (congrArg (fun z => some (Value.int z)) en4) ?_
      refine g_ishl X dX7_worth_23 ?_
      refine Go.gen (fun o5 => ?_)
      refine g_icmp_lt X dX7_worth_24 (tgt := 30) (by decide) (fun q6 => ?_) (fun q6 => ?_)
      · skip
        have q6t : (nI n3).toInt < o5.toInt := Int32.lt_iff_toInt_lt.mp q6
        rw [nI_toInt (by omega)] at q6t
        have q6b := Int32.toInt_lt o5
        refine g_aload_n X dX7_worth_30 rfl (j := 0) rfl ?_
        refine g_iload_n X dX7_worth_31 rfl (j := 1) rfl ?_
        refine g_callVI X (s_X7_worthOf l G F I (nI n3) ) lk_X7_310 (F.1 0 rfl).2 (F.1 0 rfl).1 rfl rfl dX7_worth_32 (Nat.le_of_ble_eq_true rfl) ⟨by decide, by decide⟩ ⟨by decide, by decide⟩ (fun r7 L M hp => ?_)
        obtain ⟨C, D, F, I, K1, hr⟩ := hp
        have K := K.step K1 (by decide)
        exact g_iret X hrt dX7_worth_35 (by decide) (by decide) ⟨C, D, F, I, K, trivial⟩
      · skip
        have q6t : ¬ (nI n3).toInt < o5.toInt := fun z => q6 (Int32.lt_iff_toInt_lt.mpr z)
        rw [nI_toInt (by omega)] at q6t
        have q6b := Int32.toInt_lt o5
        refine g_bipush X dX7_worth_27 (v := -2) (by decide) ?_
        exact g_iret X hrt dX7_worth_29 (by decide) (by decide) ⟨C, D, F, I, K, trivial⟩
set_option maxHeartbeats 4000000 in
set_option maxRecDepth 100000 in
theorem s_X7_best (l : Launch) (G : va_G) {cy : Nat → ClassId} {L : List Nat} {M : Nat → va_E} {a : Nat → Nat} {act : Nat → Bool} {C0 : Nat → Nat → Int32} {D0 : Nat → Nat → Int64} {R : Nat → Nat → Option Nat} (F : WI L M a act (ent cy a C0 D0 R)) (I : Inv C0)   : MI l G cy yX7_best cX7_best 6 (some .int) 5 0 0 [.ref (a 0)] L M (fun r L2 M2 => ∃ C2 D2, WI L2 M2 a act (ent cy a C2 D2 R) ∧ Inv C2 ∧ Kp [31, 32, 33, 34, 35, 36] C0 D0 C2 D2 ∧ True) := by
  refine MI.of (own := RX7) rfl (by decide) (Nat.le_of_ble_eq_true rfl) ?_
  intro p e s m below meth c A X hrt hnm
  obtain ⟨C, D, hC0, hD0, F, I, K⟩ : ∃ C D, C = C0 ∧ D = D0 ∧ WI L M a act (ent cy a C D R) ∧ Inv C ∧ Kp [31, 32, 33, 34, 35, 36] C0 D0 C D := ⟨C0, D0, rfl, rfl, F, I, Kp.rf⟩
  refine g_aload_n X dX7_best_0 rfl (j := 0) rfl ?_
  refine i_get X F 0 rfl rfl fk_X7_19 dX7_best_1 rfl ?_
  refine g_callVI X (s_X2_isTold l G F I  ) lk_X7_198 (F.1 3 rfl).2 (F.1 3 rfl).1 rfl rfl dX7_best_4 (Nat.le_of_ble_eq_true rfl) ⟨by decide, by decide⟩ ⟨by decide, by decide⟩ (fun r1 L M hp => ?_)
  obtain ⟨C, D, F, I, K1, hr⟩ := hp
  have K := K.step K1 (by decide)
  rcases hr with rfl | rfl
  · skip
    refine g_if_ne X dX7_best_7 (tgt := 13) (by decide) (fun q => absurd (by decide) q) (fun _ => ?_)
    refine g_bipush X dX7_best_10 (v := -2) (by decide) ?_
    exact g_iret X hrt dX7_best_12 (by decide) (by decide) ⟨C, D, F, I, K, trivial⟩
  · skip
    refine g_if_ne X dX7_best_7 (tgt := 13) (by decide) (fun _ => ?_) (fun q => absurd q (by decide))
    refine g_aload_n X dX7_best_13 rfl (j := 0) rfl ?_
    refine i_get X F 0 rfl rfl fk_X7_41 dX7_best_14 rfl ?_
    refine g_aload_n X dX7_best_17 rfl (j := 0) rfl ?_
    refine i_get X F 0 rfl rfl fk_X7_19 dX7_best_18 rfl ?_
    obtain ⟨n2, hn2, en2⟩ := rg_nat ((I 3 1).1 rfl) (by decide)
    refine i_get X F 3 rfl rfl fk_X7_168 dX7_best_21 (v := .int (nI n2)) (congrArg (fun z => some (Value.int z)) en2) ?_
    refine g_callVI X (s_X4_walkersInside_25 l G F I n2 (by omega) (by omega) ) lk_X7_192 (F.1 25 rfl).2 (F.1 25 rfl).1 rfl rfl dX7_best_24 (Nat.le_of_ble_eq_true rfl) ⟨by decide, by decide⟩ ⟨by decide, by decide⟩ (fun r3 L M hp => ?_)
    obtain ⟨C, D, F, I, K1, hr⟩ := hp
    have K := K.step K1 (by decide)
    refine g_callSI X (s_J6_bitCount_0f7a4 l G F I r3 ) lk_X7_271 rfl rfl dX7_best_27 (Nat.le_of_ble_eq_true rfl) ⟨by decide, by decide⟩ ⟨by decide, by decide⟩ (fun r4 L M hp => ?_)
    obtain ⟨C, D, F, I, K1, hr⟩ := hp
    have K := K.step K1 (by decide)
    have hbcr4 := hr
    refine g_istore_n X dX7_best_30 rfl (by decide) (lv2 := [(1, .int r4), (0, .ref (a 0))]) rfl ?_
    refine g_iconst X dX7_best_31 (v := -1) (by decide) ?_
    refine g_istore_n X dX7_best_32 rfl (by decide) (lv2 := [(2, .int (-1)), (1, .int r4), (0, .ref (a 0))]) rfl ?_
    refine g_iconst X dX7_best_33 (v := 0) (by decide) ?_
    refine g_istore_n X dX7_best_34 rfl (by decide) (lv2 := [(3, .int 0), (2, .int (-1)), (1, .int r4), (0, .ref (a 0))]) rfl ?_
    refine g_lv [0, 2, 1, 3] (lv2 := [(3, .int 0), (1, .int r4), (2, .int (-1)), (0, .ref (a 0))]) rfl ?_
    refine i_loop (mods := [31, 32, 33, 34, 35, 36]) (fun x : Nat × Int32 × Int32 => 7 - x.1) (fun x => [(3, .int (nI (x.1))), (1, .int (x.2.1)), (2, .int (x.2.2)), (0, .ref (a 0))]) (fun x C => 0 ≤ x.1 ∧ x.1 ≤ 7) (fun x L M C D F I K hP ih35 => ?_) ((0, r4, (-1)) : Nat × Int32 × Int32) F I K ⟨by show _ ≤ _; omega, by show _ ≤ _; omega⟩
    rcases x with ⟨i35_3, v35_1, v35_2⟩
    obtain ⟨hi35_3a, hi35_3b⟩ := hP
    refine g_lv [0, 1, 2, 3] (lv2 := [(3, .int (nI i35_3)), (1, .int v35_1), (2, .int v35_2), (0, .ref (a 0))]) rfl ?_
    refine g_iload_n X dX7_best_35 rfl (j := 0) rfl ?_
    refine g_aload_n X dX7_best_36 rfl (j := 3) rfl ?_
    refine i_get X F 0 rfl rfl fk_X7_19 dX7_best_37 rfl ?_
    obtain ⟨n5, hn5, en5⟩ := rg_nat ((I 3 5).2.2.1 rfl) (by decide)
    refine i_get X F 3 rfl rfl fk_X7_219 dX7_best_40 (v := .int (nI n5)) (congrArg (fun z => some (Value.int z)) en5) ?_
    refine g_icmp_ge X dX7_best_43 (tgt := 118) (by decide) (fun q6 => ?_) (fun q6 => ?_)
    · skip
      have q6 : n5 ≤ i35_3 := (nI_leI (a := n5) (b := i35_3) (by omega) (by omega)).mp q6
      refine g_iload_n X dX7_best_118 rfl (j := 2) rfl ?_
      exact g_iret X hrt dX7_best_119 (by decide) (by decide) ⟨C, D, F, I, K, trivial⟩
    · skip
      have q6 : ¬ n5 ≤ i35_3 := fun z => q6 ((nI_leI (a := n5) (b := i35_3) (by omega) (by omega)).mpr z)
      refine g_iconst X dX7_best_46 (v := 0) (by decide) ?_
      refine g_istore X dX7_best_47 (by decide) (lv2 := [(4, .int 0), (3, .int (nI i35_3)), (1, .int v35_1), (2, .int v35_2), (0, .ref (a 0))]) rfl ?_
      refine g_lv [0, 2, 3, 1, 4] (lv2 := [(4, .int 0), (1, .int v35_1), (2, .int v35_2), (3, .int (nI i35_3)), (0, .ref (a 0))]) rfl ?_
      refine i_loop (mods := [31, 32, 33, 34, 35, 36]) (fun x : Nat × Int32 × Int32 => 4 - x.1) (fun x => [(4, .int (nI (x.1))), (1, .int (x.2.1)), (2, .int (x.2.2)), (3, .int (nI i35_3)), (0, .ref (a 0))]) (fun x C => 0 ≤ x.1 ∧ x.1 ≤ 4) (fun x L M C D F I K hP ih49 => ?_) ((0, v35_1, v35_2) : Nat × Int32 × Int32) F I K ⟨by show _ ≤ _; omega, by show _ ≤ _; omega⟩
      rcases x with ⟨i49_4, v49_1, v49_2⟩
      obtain ⟨hi49_4a, hi49_4b⟩ := hP
      refine g_lv [0, 1, 2, 3, 4] (lv2 := [(4, .int (nI i49_4)), (1, .int v49_1), (2, .int v49_2), (3, .int (nI i35_3)), (0, .ref (a 0))]) rfl ?_
      refine g_iload X dX7_best_49 (j := 0) rfl ?_
      refine g_aload_n X dX7_best_51 rfl (j := 4) rfl ?_
      refine i_get X F 0 rfl rfl fk_X7_19 dX7_best_52 rfl ?_
      refine i_get X F 3 rfl rfl fk_X7_109 dX7_best_55 rfl ?_
      refine g_iload_n X dX7_best_58 rfl (j := 3) rfl ?_
      obtain ⟨n7, hn7, en7⟩ := rg_nat (I 5 i35_3) (by decide)
      refine i_iald X F 5 rfl rfl dX7_best_59 (vp_in_nI (by omega) (by decide)) (v := nI n7) (by rw [nI_clamp (by omega)]; exact en7) ?_
      refine g_icmp_ge X dX7_best_60 (tgt := 112) (by decide) (fun q8 => ?_) (fun q8 => ?_)
      · skip
        have q8 : n7 ≤ i49_4 := (nI_leI (a := n7) (b := i49_4) (by omega) (by omega)).mp q8
        refine g_iinc X dX7_best_112 (j := 3) rfl (v := nI (i35_3 + 1)) (nI_1 i35_3) (by decide) (lv2 := [(3, .int (nI (i35_3 + 1))), (4, .int (nI i49_4)), (1, .int v49_1), (2, .int v49_2), (0, .ref (a 0))]) rfl ?_
        refine g_goto X dX7_best_115 (tgt := 35) (by decide) ?_
        refine g_lv [0, 2, 3, 4] (lv2 := [(3, .int (nI (i35_3 + 1))), (1, .int v49_1), (2, .int v49_2), (0, .ref (a 0))]) rfl ?_
        exact ih35 ((i35_3 + 1), v49_1, v49_2) L M C D F I K ⟨by omega, by omega⟩ (by show _ < _; omega)
      · skip
        have q8 : ¬ n7 ≤ i49_4 := fun z => q8 ((nI_leI (a := n7) (b := i49_4) (by omega) (by omega)).mpr z)
        refine g_aload_n X dX7_best_63 rfl (j := 4) rfl ?_
        refine g_iload_n X dX7_best_64 rfl (j := 3) rfl ?_
        refine g_iload X dX7_best_65 (j := 0) rfl ?_
        refine g_callVV X (s_X7_runPointed l G F I i35_3 (by omega) (by omega) i49_4 (by omega) (by omega) ) lk_X7_267 (F.1 0 rfl).2 (F.1 0 rfl).1 rfl rfl dX7_best_67 (Nat.le_of_ble_eq_true rfl) ⟨by decide, by decide⟩ ⟨by decide, by decide⟩ (fun L M hp => ?_)
        obtain ⟨C, D, F, I, K1, hr⟩ := hp
        have K := K.step K1 (by decide)
        refine g_aload_n X dX7_best_70 rfl (j := 4) rfl ?_
        refine i_get X F 0 rfl rfl fk_X7_45 dX7_best_71 rfl ?_
        refine g_aload_n X dX7_best_74 rfl (j := 4) rfl ?_
        refine i_get X F 0 rfl rfl fk_X7_19 dX7_best_75 rfl ?_
        obtain ⟨n9, hn9, en9⟩ := rg_nat ((I 3 1).1 rfl) (by decide)
        refine i_get X F 3 rfl rfl fk_X7_168 dX7_best_78 (v := .int (nI n9)) (congrArg (fun z => some (Value.int z)) en9) ?_
        refine g_callVI X (s_X4_walkersInside_31 l G F I n9 (by omega) (by omega) ) lk_X7_192 (F.1 31 rfl).2 (F.1 31 rfl).1 rfl rfl dX7_best_81 (Nat.le_of_ble_eq_true rfl) ⟨by decide, by decide⟩ ⟨by decide, by decide⟩ (fun r10 L M hp => ?_)
        obtain ⟨C, D, F, I, K1, hr⟩ := hp
        have K := K.step K1 (by decide)
        refine g_callSI X (s_J6_bitCount_0f7a4 l G F I r10 ) lk_X7_271 rfl rfl dX7_best_84 (Nat.le_of_ble_eq_true rfl) ⟨by decide, by decide⟩ ⟨by decide, by decide⟩ (fun r11 L M hp => ?_)
        obtain ⟨C, D, F, I, K1, hr⟩ := hp
        have K := K.step K1 (by decide)
        have hbcr11 := hr
        refine g_istore X dX7_best_87 (by decide) (lv2 := [(5, .int r11), (4, .int (nI i49_4)), (1, .int v49_1), (2, .int v49_2), (3, .int (nI i35_3)), (0, .ref (a 0))]) rfl ?_
        refine g_iload X dX7_best_89 (j := 0) rfl ?_
        refine g_iload_n X dX7_best_91 rfl (j := 2) rfl ?_
        refine g_icmp_le X dX7_best_92 (tgt := 106) (by decide) (fun q12 => ?_) (fun q12 => ?_)
        · skip
          refine g_iinc X dX7_best_106 (j := 1) rfl (v := nI (i49_4 + 1)) (nI_1 i49_4) (by decide) (lv2 := [(4, .int (nI (i49_4 + 1))), (5, .int r11), (1, .int v49_1), (2, .int v49_2), (3, .int (nI i35_3)), (0, .ref (a 0))]) rfl ?_
          refine g_goto X dX7_best_109 (tgt := 49) (by decide) ?_
          refine g_lv [0, 2, 3, 4, 5] (lv2 := [(4, .int (nI (i49_4 + 1))), (1, .int v49_1), (2, .int v49_2), (3, .int (nI i35_3)), (0, .ref (a 0))]) rfl ?_
          exact ih49 ((i49_4 + 1), v49_1, v49_2) L M C D F I K ⟨by omega, by omega⟩ (by show _ < _; omega)
        · skip
          refine g_iload X dX7_best_95 (j := 0) rfl ?_
          refine g_istore_n X dX7_best_97 rfl (by decide) (lv2 := [(1, .int r11), (5, .int r11), (4, .int (nI i49_4)), (2, .int v49_2), (3, .int (nI i35_3)), (0, .ref (a 0))]) rfl ?_
          refine g_bipush X dX7_best_98 (v := 10) (by decide) ?_
          refine g_iload_n X dX7_best_100 rfl (j := 4) rfl ?_
          refine g_imul X dX7_best_101 ?_
          refine Go.top (v := .int (nI (10 * i35_3))) (congrArg Value.int (pk_mul 10 i35_3)) ?_
          refine g_iload X dX7_best_102 (j := 2) rfl ?_
          refine g_iadd X dX7_best_104 ?_
          refine Go.top (v := .int (nI ((10 * i35_3) + i49_4))) (congrArg Value.int (nI_add (10 * i35_3) i49_4)) ?_
          refine g_istore_n X dX7_best_105 rfl (by decide) (lv2 := [(2, .int (nI ((10 * i35_3) + i49_4))), (1, .int r11), (5, .int r11), (4, .int (nI i49_4)), (3, .int (nI i35_3)), (0, .ref (a 0))]) rfl ?_
          refine g_iinc X dX7_best_106 (j := 3) rfl (v := nI (i49_4 + 1)) (nI_1 i49_4) (by decide) (lv2 := [(4, .int (nI (i49_4 + 1))), (2, .int (nI ((10 * i35_3) + i49_4))), (1, .int r11), (5, .int r11), (3, .int (nI i35_3)), (0, .ref (a 0))]) rfl ?_
          refine g_goto X dX7_best_109 (tgt := 49) (by decide) ?_
          refine g_lv [0, 2, 1, 4, 5] (lv2 := [(4, .int (nI (i49_4 + 1))), (1, .int r11), (2, .int (nI ((10 * i35_3) + i49_4))), (3, .int (nI i35_3)), (0, .ref (a 0))]) rfl ?_
          exact ih49 ((i49_4 + 1), r11, nI ((10 * i35_3) + i49_4)) L M C D F I K ⟨by omega, by omega⟩ (by show _ < _; omega)
set_option maxHeartbeats 4000000 in
set_option maxRecDepth 100000 in
theorem s_X7_crowds (l : Launch) (G : va_G) {cy : Nat → ClassId} {L : List Nat} {M : Nat → va_E} {a : Nat → Nat} {act : Nat → Bool} {C0 : Nat → Nat → Int32} {D0 : Nat → Nat → Int64} {R : Nat → Nat → Option Nat} (F : WI L M a act (ent cy a C0 D0 R)) (I : Inv C0)   : MI l G cy yX7_crowds cX7_crowds 7 (some .int) 4 0 0 [.ref (a 0)] L M (fun r L2 M2 => ∃ C2 D2, WI L2 M2 a act (ent cy a C2 D2 R) ∧ Inv C2 ∧ Kp [31, 32, 33, 34, 35, 36] C0 D0 C2 D2 ∧ True) := by
  refine MI.of (own := RX7) rfl (by decide) (Nat.le_of_ble_eq_true rfl) ?_
  intro p e s m below meth c A X hrt hnm
  obtain ⟨C, D, hC0, hD0, F, I, K⟩ : ∃ C D, C = C0 ∧ D = D0 ∧ WI L M a act (ent cy a C D R) ∧ Inv C ∧ Kp [31, 32, 33, 34, 35, 36] C0 D0 C D := ⟨C0, D0, rfl, rfl, F, I, Kp.rf⟩
  refine g_aload_n X dX7_crowds_0 rfl (j := 0) rfl ?_
  refine i_get X F 0 rfl rfl fk_X7_19 dX7_crowds_1 rfl ?_
  refine g_callVI X (s_X2_isTold l G F I  ) lk_X7_198 (F.1 3 rfl).2 (F.1 3 rfl).1 rfl rfl dX7_crowds_4 (Nat.le_of_ble_eq_true rfl) ⟨by decide, by decide⟩ ⟨by decide, by decide⟩ (fun r1 L M hp => ?_)
  obtain ⟨C, D, F, I, K1, hr⟩ := hp
  have K := K.step K1 (by decide)
  rcases hr with rfl | rfl
  · skip
    refine g_if_ne X dX7_crowds_7 (tgt := 13) (by decide) (fun q => absurd (by decide) q) (fun _ => ?_)
    refine g_bipush X dX7_crowds_10 (v := -2) (by decide) ?_
    exact g_iret X hrt dX7_crowds_12 (by decide) (by decide) ⟨C, D, F, I, K, trivial⟩
  · skip
    refine g_if_ne X dX7_crowds_7 (tgt := 13) (by decide) (fun _ => ?_) (fun q => absurd q (by decide))
    refine g_iconst X dX7_crowds_13 (v := -1) (by decide) ?_
    refine g_istore_n X dX7_crowds_14 rfl (by decide) (lv2 := [(1, .int (-1)), (0, .ref (a 0))]) rfl ?_
    refine g_iconst X dX7_crowds_15 (v := -1) (by decide) ?_
    refine g_istore_n X dX7_crowds_16 rfl (by decide) (lv2 := [(2, .int (-1)), (1, .int (-1)), (0, .ref (a 0))]) rfl ?_
    refine g_iconst X dX7_crowds_17 (v := 0) (by decide) ?_
    refine g_istore_n X dX7_crowds_18 rfl (by decide) (lv2 := [(3, .int 0), (2, .int (-1)), (1, .int (-1)), (0, .ref (a 0))]) rfl ?_
    refine g_lv [0, 2, 1, 3] (lv2 := [(3, .int 0), (1, .int (-1)), (2, .int (-1)), (0, .ref (a 0))]) rfl ?_
    refine i_loop (mods := [31, 32, 33, 34, 35, 36]) (fun x : Nat × Int32 × Int32 => 8 - x.1) (fun x => [(3, .int (nI (x.1))), (1, .int (x.2.1)), (2, .int (x.2.2)), (0, .ref (a 0))]) (fun x C => 0 ≤ x.1 ∧ x.1 ≤ 8) (fun x L M C D F I K hP ih19 => ?_) ((0, (-1), (-1)) : Nat × Int32 × Int32) F I K ⟨by show _ ≤ _; omega, by show _ ≤ _; omega⟩
    rcases x with ⟨i19_3, v19_1, v19_2⟩
    obtain ⟨hi19_3a, hi19_3b⟩ := hP
    refine g_lv [0, 1, 2, 3] (lv2 := [(3, .int (nI i19_3)), (1, .int v19_1), (2, .int v19_2), (0, .ref (a 0))]) rfl ?_
    refine g_iload_n X dX7_crowds_19 rfl (j := 0) rfl ?_
    refine g_aload_n X dX7_crowds_20 rfl (j := 3) rfl ?_
    refine i_get X F 0 rfl rfl fk_X7_19 dX7_crowds_21 rfl ?_
    obtain ⟨n2, hn2, en2⟩ := rg_nat ((I 3 8).2.2.2 rfl) (by decide)
    refine i_get X F 3 rfl rfl fk_X7_276 dX7_crowds_24 (v := .int (nI n2)) (congrArg (fun z => some (Value.int z)) en2) ?_
    refine g_icmp_ge X dX7_crowds_27 (tgt := 127) (by decide) (fun q3 => ?_) (fun q3 => ?_)
    · skip
      have q3 : n2 ≤ i19_3 := (nI_leI (a := n2) (b := i19_3) (by omega) (by omega)).mp q3
      refine g_iload_n X dX7_crowds_127 rfl (j := 2) rfl ?_
      exact g_iret X hrt dX7_crowds_128 (by decide) (by decide) ⟨C, D, F, I, K, trivial⟩
    · skip
      have q3 : ¬ n2 ≤ i19_3 := fun z => q3 ((nI_leI (a := n2) (b := i19_3) (by omega) (by omega)).mpr z)
      refine g_iconst X dX7_crowds_30 (v := 1) (by decide) ?_
      refine g_iload_n X dX7_crowds_31 rfl (j := 0) rfl ?_
      refine g_ishl X dX7_crowds_32 ?_
      refine Go.gen (fun o4 => ?_)
      refine g_iconst X dX7_crowds_33 (v := -1) (by decide) ?_
      refine g_ixor X dX7_crowds_34 ?_
      refine Go.gen (fun o5 => ?_)
      refine g_istore X dX7_crowds_35 (by decide) (lv2 := [(4, .int o5), (3, .int (nI i19_3)), (1, .int v19_1), (2, .int v19_2), (0, .ref (a 0))]) rfl ?_
      refine g_aload_n X dX7_crowds_37 rfl (j := 4) rfl ?_
      refine i_get X F 0 rfl rfl fk_X7_41 dX7_crowds_38 rfl ?_
      refine g_aload_n X dX7_crowds_41 rfl (j := 4) rfl ?_
      refine i_get X F 0 rfl rfl fk_X7_19 dX7_crowds_42 rfl ?_
      obtain ⟨n6, hn6, en6⟩ := rg_nat ((I 3 1).1 rfl) (by decide)
      refine i_get X F 3 rfl rfl fk_X7_168 dX7_crowds_45 (v := .int (nI n6)) (congrArg (fun z => some (Value.int z)) en6) ?_
      refine g_callVI X (s_X4_walkersInside_25 l G F I n6 (by omega) (by omega) ) lk_X7_192 (F.1 25 rfl).2 (F.1 25 rfl).1 rfl rfl dX7_crowds_48 (Nat.le_of_ble_eq_true rfl) ⟨by decide, by decide⟩ ⟨by decide, by decide⟩ (fun r7 L M hp => ?_)
      obtain ⟨C, D, F, I, K1, hr⟩ := hp
      have K := K.step K1 (by decide)
      refine g_iload X dX7_crowds_51 (j := 0) rfl ?_
      refine g_iand X dX7_crowds_53 ?_
      refine Go.gen (fun o8 => ?_)
      refine g_callSI X (s_J6_bitCount_0f7a4 l G F I o8 ) lk_X7_271 rfl rfl dX7_crowds_54 (Nat.le_of_ble_eq_true rfl) ⟨by decide, by decide⟩ ⟨by decide, by decide⟩ (fun r9 L M hp => ?_)
      obtain ⟨C, D, F, I, K1, hr⟩ := hp
      have K := K.step K1 (by decide)
      have hbcr9 := hr
      refine g_istore X dX7_crowds_57 (by decide) (lv2 := [(5, .int r9), (4, .int o5), (3, .int (nI i19_3)), (1, .int v19_1), (2, .int v19_2), (0, .ref (a 0))]) rfl ?_
      refine g_aload_n X dX7_crowds_59 rfl (j := 5) rfl ?_
      refine i_get X F 0 rfl rfl fk_X7_45 dX7_crowds_60 rfl ?_
      refine g_callVV X (s_X4_prepare_31 l G F I  ) lk_X7_279 (F.1 31 rfl).2 (F.1 31 rfl).1 rfl rfl dX7_crowds_63 (Nat.le_of_ble_eq_true rfl) ⟨by decide, by decide⟩ ⟨by decide, by decide⟩ (fun L M hp => ?_)
      obtain ⟨C, D, F, I, K1, hr⟩ := hp
      have K := K.step K1 (by decide)
      refine g_aload_n X dX7_crowds_66 rfl (j := 5) rfl ?_
      refine i_get X F 0 rfl rfl fk_X7_45 dX7_crowds_67 rfl ?_
      refine g_iload_n X dX7_crowds_70 rfl (j := 2) rfl ?_
      refine g_callVV X (s_X4_neverComes_31 l G F I i19_3 (by omega) (by omega) ) lk_X7_282 (F.1 31 rfl).2 (F.1 31 rfl).1 rfl rfl dX7_crowds_71 (Nat.le_of_ble_eq_true rfl) ⟨by decide, by decide⟩ ⟨by decide, by decide⟩ (fun L M hp => ?_)
      obtain ⟨C, D, F, I, K1, hr⟩ := hp
      have K := K.step K1 (by decide)
      refine g_aload_n X dX7_crowds_74 rfl (j := 5) rfl ?_
      refine i_get X F 0 rfl rfl fk_X7_45 dX7_crowds_75 rfl ?_
      refine g_callVV X (s_X4_run_31 l G F I  ) lk_X7_285 (F.1 31 rfl).2 (F.1 31 rfl).1 rfl rfl dX7_crowds_78 (Nat.le_of_ble_eq_true rfl) ⟨by decide, by decide⟩ ⟨by decide, by decide⟩ (fun L M hp => ?_)
      obtain ⟨C, D, F, I, K1, hr⟩ := hp
      have K := K.step K1 (by decide)
      refine g_aload_n X dX7_crowds_81 rfl (j := 5) rfl ?_
      refine i_get X F 0 rfl rfl fk_X7_45 dX7_crowds_82 rfl ?_
      refine g_aload_n X dX7_crowds_85 rfl (j := 5) rfl ?_
      refine i_get X F 0 rfl rfl fk_X7_19 dX7_crowds_86 rfl ?_
      obtain ⟨n10, hn10, en10⟩ := rg_nat ((I 3 1).1 rfl) (by decide)
      refine i_get X F 3 rfl rfl fk_X7_168 dX7_crowds_89 (v := .int (nI n10)) (congrArg (fun z => some (Value.int z)) en10) ?_
      refine g_callVI X (s_X4_walkersInside_31 l G F I n10 (by omega) (by omega) ) lk_X7_192 (F.1 31 rfl).2 (F.1 31 rfl).1 rfl rfl dX7_crowds_92 (Nat.le_of_ble_eq_true rfl) ⟨by decide, by decide⟩ ⟨by decide, by decide⟩ (fun r11 L M hp => ?_)
      obtain ⟨C, D, F, I, K1, hr⟩ := hp
      have K := K.step K1 (by decide)
      refine g_iload X dX7_crowds_95 (j := 1) rfl ?_
      refine g_iand X dX7_crowds_97 ?_
      refine Go.gen (fun o12 => ?_)
      refine g_callSI X (s_J6_bitCount_0f7a4 l G F I o12 ) lk_X7_271 rfl rfl dX7_crowds_98 (Nat.le_of_ble_eq_true rfl) ⟨by decide, by decide⟩ ⟨by decide, by decide⟩ (fun r13 L M hp => ?_)
      obtain ⟨C, D, F, I, K1, hr⟩ := hp
      have K := K.step K1 (by decide)
      have hbcr13 := hr
      refine g_istore X dX7_crowds_101 (by decide) (lv2 := [(6, .int r13), (5, .int r9), (4, .int o5), (3, .int (nI i19_3)), (1, .int v19_1), (2, .int v19_2), (0, .ref (a 0))]) rfl ?_
      refine g_iload X dX7_crowds_103 (j := 0) rfl ?_
      refine g_iload X dX7_crowds_105 (j := 1) rfl ?_
      refine g_icmp_le X dX7_crowds_107 (tgt := 121) (by decide) (fun q14 => ?_) (fun q14 => ?_)
      · skip
        refine g_iinc X dX7_crowds_121 (j := 3) rfl (v := nI (i19_3 + 1)) (nI_1 i19_3) (by decide) (lv2 := [(3, .int (nI (i19_3 + 1))), (6, .int r13), (5, .int r9), (4, .int o5), (1, .int v19_1), (2, .int v19_2), (0, .ref (a 0))]) rfl ?_
        refine g_goto X dX7_crowds_124 (tgt := 19) (by decide) ?_
        refine g_lv [0, 4, 5, 6] (lv2 := [(3, .int (nI (i19_3 + 1))), (1, .int v19_1), (2, .int v19_2), (0, .ref (a 0))]) rfl ?_
        exact ih19 ((i19_3 + 1), v19_1, v19_2) L M C D F I K ⟨by omega, by omega⟩ (by show _ < _; omega)
      · skip
        refine g_iload X dX7_crowds_110 (j := 0) rfl ?_
        refine g_iload_n X dX7_crowds_112 rfl (j := 4) rfl ?_
        refine g_icmp_le X dX7_crowds_113 (tgt := 121) (by decide) (fun q15 => ?_) (fun q15 => ?_)
        · skip
          refine g_iinc X dX7_crowds_121 (j := 3) rfl (v := nI (i19_3 + 1)) (nI_1 i19_3) (by decide) (lv2 := [(3, .int (nI (i19_3 + 1))), (6, .int r13), (5, .int r9), (4, .int o5), (1, .int v19_1), (2, .int v19_2), (0, .ref (a 0))]) rfl ?_
          refine g_goto X dX7_crowds_124 (tgt := 19) (by decide) ?_
          refine g_lv [0, 4, 5, 6] (lv2 := [(3, .int (nI (i19_3 + 1))), (1, .int v19_1), (2, .int v19_2), (0, .ref (a 0))]) rfl ?_
          exact ih19 ((i19_3 + 1), v19_1, v19_2) L M C D F I K ⟨by omega, by omega⟩ (by show _ < _; omega)
        · skip
          refine g_iload X dX7_crowds_116 (j := 0) rfl ?_
          refine g_istore_n X dX7_crowds_118 rfl (by decide) (lv2 := [(1, .int r13), (6, .int r13), (5, .int r9), (4, .int o5), (3, .int (nI i19_3)), (2, .int v19_2), (0, .ref (a 0))]) rfl ?_
          refine g_iload_n X dX7_crowds_119 rfl (j := 4) rfl ?_
          refine g_istore_n X dX7_crowds_120 rfl (by decide) (lv2 := [(2, .int (nI i19_3)), (1, .int r13), (6, .int r13), (5, .int r9), (4, .int o5), (3, .int (nI i19_3)), (0, .ref (a 0))]) rfl ?_
          refine g_iinc X dX7_crowds_121 (j := 5) rfl (v := nI (i19_3 + 1)) (nI_1 i19_3) (by decide) (lv2 := [(3, .int (nI (i19_3 + 1))), (2, .int (nI i19_3)), (1, .int r13), (6, .int r13), (5, .int r9), (4, .int o5), (0, .ref (a 0))]) rfl ?_
          refine g_goto X dX7_crowds_124 (tgt := 19) (by decide) ?_
          refine g_lv [0, 2, 1, 6] (lv2 := [(3, .int (nI (i19_3 + 1))), (1, .int r13), (2, .int (nI i19_3)), (0, .ref (a 0))]) rfl ?_
          exact ih19 ((i19_3 + 1), r13, nI i19_3) L M C D F I K ⟨by omega, by omega⟩ (by show _ < _; omega)
set_option maxHeartbeats 4000000 in
set_option maxRecDepth 100000 in
theorem s_X7_point (l : Launch) (G : va_G) {cy : Nat → ClassId} {L : List Nat} {M : Nat → va_E} {a : Nat → Nat} {act : Nat → Bool} {C0 : Nat → Nat → Int32} {D0 : Nat → Nat → Int64} {R : Nat → Nat → Option Nat} (F : WI L M a act (ent cy a C0 D0 R)) (I : Inv C0) (p0 : Int32) (p1 : Int32)  : MI l G cy yX7_point cX7_point 8 (some .int) 5 0 0 [.ref (a 0), .int p0, .int p1] L M (fun r L2 M2 => ∃ C2 D2, WI L2 M2 a act (ent cy a C2 D2 R) ∧ Inv C2 ∧ Kp [31, 32, 33, 34, 35, 36] C0 D0 C2 D2 ∧ True) := by
  refine MI.of (own := RX7) rfl (by decide) (Nat.le_of_ble_eq_true rfl) ?_
  intro p e s m below meth c A X hrt hnm
  obtain ⟨C, D, hC0, hD0, F, I, K⟩ : ∃ C D, C = C0 ∧ D = D0 ∧ WI L M a act (ent cy a C D R) ∧ Inv C ∧ Kp [31, 32, 33, 34, 35, 36] C0 D0 C D := ⟨C0, D0, rfl, rfl, F, I, Kp.rf⟩
  refine g_aload_n X dX7_point_0 rfl (j := 0) rfl ?_
  refine i_get X F 0 rfl rfl fk_X7_19 dX7_point_1 rfl ?_
  refine g_iload_n X dX7_point_4 rfl (j := 1) rfl ?_
  refine g_callVI X (s_X2_hasWalker l G F I p0 ) lk_X7_122 (F.1 3 rfl).2 (F.1 3 rfl).1 rfl rfl dX7_point_5 (Nat.le_of_ble_eq_true rfl) ⟨by decide, by decide⟩ ⟨by decide, by decide⟩ (fun r1 L M hp => ?_)
  obtain ⟨C, D, F, I, K1, hr⟩ := hp
  have K := K.step K1 (by decide)
  rcases hr with rfl | ⟨rfl, n2, hn2a, hn2b, en2⟩
  · skip
    refine g_if_eq X dX7_point_8 (tgt := 22) (by decide) (fun _ => ?_) (fun q => absurd (by decide) q)
    refine g_bipush X dX7_point_22 (v := -2) (by decide) ?_
    exact g_iret X hrt dX7_point_24 (by decide) (by decide) ⟨C, D, F, I, K, trivial⟩
  · skip
    subst en2
    refine g_if_eq X dX7_point_8 (tgt := 22) (by decide) (fun q => absurd q (by decide)) (fun _ => ?_)
    refine g_aload_n X dX7_point_11 rfl (j := 0) rfl ?_
    refine i_get X F 0 rfl rfl fk_X7_19 dX7_point_12 rfl ?_
    refine g_iload_n X dX7_point_15 rfl (j := 2) rfl ?_
    refine g_callVI X (s_X2_hasInn l G F I p1 ) lk_X7_99 (F.1 3 rfl).2 (F.1 3 rfl).1 rfl rfl dX7_point_16 (Nat.le_of_ble_eq_true rfl) ⟨by decide, by decide⟩ ⟨by decide, by decide⟩ (fun r3 L M hp => ?_)
    obtain ⟨C, D, F, I, K1, hr⟩ := hp
    have K := K.step K1 (by decide)
    rcases hr with rfl | ⟨rfl, n4, hn4a, hn4b, en4⟩
    · skip
      refine g_if_ne X dX7_point_19 (tgt := 25) (by decide) (fun q => absurd (by decide) q) (fun _ => ?_)
      refine g_bipush X dX7_point_22 (v := -2) (by decide) ?_
      exact g_iret X hrt dX7_point_24 (by decide) (by decide) ⟨C, D, F, I, K, trivial⟩
    · skip
      subst en4
      refine g_if_ne X dX7_point_19 (tgt := 25) (by decide) (fun _ => ?_) (fun q => absurd q (by decide))
      refine g_aload_n X dX7_point_25 rfl (j := 0) rfl ?_
      refine i_get X F 0 rfl rfl fk_X7_41 dX7_point_26 rfl ?_
      refine g_iload_n X dX7_point_29 rfl (j := 1) rfl ?_
      refine g_bipush X dX7_point_30 (v := 10) (by decide) ?_
      refine g_iload_n X dX7_point_32 rfl (j := 2) rfl ?_
      refine g_iadd X dX7_point_33 ?_
      refine Go.top (v := .int (nI (10 + n4))) (congrArg Value.int (nI_add 10 n4)) ?_
      refine g_callVI X (s_X4_firstHourIn_25 l G F I n2 (by omega) (by omega) (nI (10 + n4)) ) lk_X7_264 (F.1 25 rfl).2 (F.1 25 rfl).1 rfl rfl dX7_point_34 (Nat.le_of_ble_eq_true rfl) ⟨by decide, by decide⟩ ⟨by decide, by decide⟩ (fun r5 L M hp => ?_)
      obtain ⟨C, D, F, I, K1, hr⟩ := hp
      have K := K.step K1 (by decide)
      refine g_istore_n X dX7_point_37 rfl (by decide) (lv2 := [(3, .int r5), (0, .ref (a 0)), (1, .int (nI n2)), (2, .int (nI n4))]) rfl ?_
      refine g_iconst X dX7_point_38 (v := -1) (by decide) ?_
      refine g_istore X dX7_point_39 (by decide) (lv2 := [(4, .int (-1)), (3, .int r5), (0, .ref (a 0)), (1, .int (nI n2)), (2, .int (nI n4))]) rfl ?_
      refine g_iconst X dX7_point_41 (v := 0) (by decide) ?_
      refine g_istore X dX7_point_42 (by decide) (lv2 := [(5, .int 0), (4, .int (-1)), (3, .int r5), (0, .ref (a 0)), (1, .int (nI n2)), (2, .int (nI n4))]) rfl ?_
      refine g_lv [0, 2, 1, 3, 4, 5] (lv2 := [(5, .int 0), (3, .int r5), (4, .int (-1)), (0, .ref (a 0)), (1, .int (nI n2)), (2, .int (nI n4))]) rfl ?_
      refine i_loop (mods := [31, 32, 33, 34, 35, 36]) (fun x : Nat × Int32 × Int32 => 7 - x.1) (fun x => [(5, .int (nI (x.1))), (3, .int (x.2.1)), (4, .int (x.2.2)), (0, .ref (a 0)), (1, .int (nI n2)), (2, .int (nI n4))]) (fun x C => 0 ≤ x.1 ∧ x.1 ≤ 7) (fun x L M C D F I K hP ih44 => ?_) ((0, r5, (-1)) : Nat × Int32 × Int32) F I K ⟨by show _ ≤ _; omega, by show _ ≤ _; omega⟩
      rcases x with ⟨i44_5, v44_3, v44_4⟩
      obtain ⟨hi44_5a, hi44_5b⟩ := hP
      refine g_lv [0, 1, 2, 3, 4, 5] (lv2 := [(5, .int (nI i44_5)), (3, .int v44_3), (4, .int v44_4), (0, .ref (a 0)), (1, .int (nI n2)), (2, .int (nI n4))]) rfl ?_
      refine g_iload X dX7_point_44 (j := 0) rfl ?_
      refine g_aload_n X dX7_point_46 rfl (j := 3) rfl ?_
      refine i_get X F 0 rfl rfl fk_X7_19 dX7_point_47 rfl ?_
      obtain ⟨n6, hn6, en6⟩ := rg_nat ((I 3 5).2.2.1 rfl) (by decide)
      refine i_get X F 3 rfl rfl fk_X7_219 dX7_point_50 (v := .int (nI n6)) (congrArg (fun z => some (Value.int z)) en6) ?_
      refine g_icmp_ge X dX7_point_53 (tgt := 138) (by decide) (fun q7 => ?_) (fun q7 => ?_)
      · skip
        have q7 : n6 ≤ i44_5 := (nI_leI (a := n6) (b := i44_5) (by omega) (by omega)).mp q7
        refine g_iload X dX7_point_138 (j := 2) rfl ?_
        exact g_iret X hrt dX7_point_140 (by decide) (by decide) ⟨C, D, F, I, K, trivial⟩
      · skip
        have q7 : ¬ n6 ≤ i44_5 := fun z => q7 ((nI_leI (a := n6) (b := i44_5) (by omega) (by omega)).mpr z)
        refine g_iconst X dX7_point_56 (v := 0) (by decide) ?_
        refine g_istore X dX7_point_57 (by decide) (lv2 := [(6, .int 0), (5, .int (nI i44_5)), (3, .int v44_3), (4, .int v44_4), (0, .ref (a 0)), (1, .int (nI n2)), (2, .int (nI n4))]) rfl ?_
        refine g_lv [0, 2, 3, 1, 4, 5, 6] (lv2 := [(6, .int 0), (3, .int v44_3), (4, .int v44_4), (5, .int (nI i44_5)), (0, .ref (a 0)), (1, .int (nI n2)), (2, .int (nI n4))]) rfl ?_
        refine i_loop (mods := [31, 32, 33, 34, 35, 36]) (fun x : Nat × Int32 × Int32 => 4 - x.1) (fun x => [(6, .int (nI (x.1))), (3, .int (x.2.1)), (4, .int (x.2.2)), (5, .int (nI i44_5)), (0, .ref (a 0)), (1, .int (nI n2)), (2, .int (nI n4))]) (fun x C => 0 ≤ x.1 ∧ x.1 ≤ 4) (fun x L M C D F I K hP ih59 => ?_) ((0, v44_3, v44_4) : Nat × Int32 × Int32) F I K ⟨by show _ ≤ _; omega, by show _ ≤ _; omega⟩
        rcases x with ⟨i59_6, v59_3, v59_4⟩
        obtain ⟨hi59_6a, hi59_6b⟩ := hP
        refine g_lv [0, 1, 2, 3, 4, 5, 6] (lv2 := [(6, .int (nI i59_6)), (3, .int v59_3), (4, .int v59_4), (5, .int (nI i44_5)), (0, .ref (a 0)), (1, .int (nI n2)), (2, .int (nI n4))]) rfl ?_
        refine g_iload X dX7_point_59 (j := 0) rfl ?_
        refine g_aload_n X dX7_point_61 rfl (j := 4) rfl ?_
        refine i_get X F 0 rfl rfl fk_X7_19 dX7_point_62 rfl ?_
        refine i_get X F 3 rfl rfl fk_X7_109 dX7_point_65 rfl ?_
        refine g_iload X dX7_point_68 (j := 3) rfl ?_
        obtain ⟨n8, hn8, en8⟩ := rg_nat (I 5 i44_5) (by decide)
        refine i_iald X F 5 rfl rfl dX7_point_70 (vp_in_nI (by omega) (by decide)) (v := nI n8) (by rw [nI_clamp (by omega)]; exact en8) ?_
        refine g_icmp_ge X dX7_point_71 (tgt := 132) (by decide) (fun q9 => ?_) (fun q9 => ?_)
        · skip
          have q9 : n8 ≤ i59_6 := (nI_leI (a := n8) (b := i59_6) (by omega) (by omega)).mp q9
          refine g_iinc X dX7_point_132 (j := 3) rfl (v := nI (i44_5 + 1)) (nI_1 i44_5) (by decide) (lv2 := [(5, .int (nI (i44_5 + 1))), (6, .int (nI i59_6)), (3, .int v59_3), (4, .int v59_4), (0, .ref (a 0)), (1, .int (nI n2)), (2, .int (nI n4))]) rfl ?_
          refine g_goto X dX7_point_135 (tgt := 44) (by decide) ?_
          refine g_lv [0, 2, 3, 4, 5, 6] (lv2 := [(5, .int (nI (i44_5 + 1))), (3, .int v59_3), (4, .int v59_4), (0, .ref (a 0)), (1, .int (nI n2)), (2, .int (nI n4))]) rfl ?_
          exact ih44 ((i44_5 + 1), v59_3, v59_4) L M C D F I K ⟨by omega, by omega⟩ (by show _ < _; omega)
        · skip
          have q9 : ¬ n8 ≤ i59_6 := fun z => q9 ((nI_leI (a := n8) (b := i59_6) (by omega) (by omega)).mpr z)
          refine g_aload_n X dX7_point_74 rfl (j := 4) rfl ?_
          refine g_iload X dX7_point_75 (j := 3) rfl ?_
          refine g_iload X dX7_point_77 (j := 0) rfl ?_
          refine g_callVV X (s_X7_runPointed l G F I i44_5 (by omega) (by omega) i59_6 (by omega) (by omega) ) lk_X7_267 (F.1 0 rfl).2 (F.1 0 rfl).1 rfl rfl dX7_point_79 (Nat.le_of_ble_eq_true rfl) ⟨by decide, by decide⟩ ⟨by decide, by decide⟩ (fun L M hp => ?_)
          obtain ⟨C, D, F, I, K1, hr⟩ := hp
          have K := K.step K1 (by decide)
          refine g_aload_n X dX7_point_82 rfl (j := 4) rfl ?_
          refine i_get X F 0 rfl rfl fk_X7_45 dX7_point_83 rfl ?_
          refine g_iload_n X dX7_point_86 rfl (j := 5) rfl ?_
          refine g_bipush X dX7_point_87 (v := 10) (by decide) ?_
          refine g_iload_n X dX7_point_89 rfl (j := 6) rfl ?_
          refine g_iadd X dX7_point_90 ?_
          refine Go.top (v := .int (nI (10 + n4))) (congrArg Value.int (nI_add 10 n4)) ?_
          refine g_callVI X (s_X4_firstHourIn_31 l G F I n2 (by omega) (by omega) (nI (10 + n4)) ) lk_X7_264 (F.1 31 rfl).2 (F.1 31 rfl).1 rfl rfl dX7_point_91 (Nat.le_of_ble_eq_true rfl) ⟨by decide, by decide⟩ ⟨by decide, by decide⟩ (fun r10 L M hp => ?_)
          obtain ⟨C, D, F, I, K1, hr⟩ := hp
          have K := K.step K1 (by decide)
          refine g_istore X dX7_point_94 (by decide) (lv2 := [(7, .int r10), (6, .int (nI i59_6)), (3, .int v59_3), (4, .int v59_4), (5, .int (nI i44_5)), (0, .ref (a 0)), (1, .int (nI n2)), (2, .int (nI n4))]) rfl ?_
          refine g_iload X dX7_point_96 (j := 0) rfl ?_
          refine g_iconst X dX7_point_98 (v := -1) (by decide) ?_
          refine g_icmp_eq X dX7_point_99 (tgt := 126) (by decide) (fun q11 => ?_) (fun q11 => ?_)
          · skip
            subst q11
            refine g_iinc X dX7_point_126 (j := 1) rfl (v := nI (i59_6 + 1)) (nI_1 i59_6) (by decide) (lv2 := [(6, .int (nI (i59_6 + 1))), (7, .int (-1)), (3, .int v59_3), (4, .int v59_4), (5, .int (nI i44_5)), (0, .ref (a 0)), (1, .int (nI n2)), (2, .int (nI n4))]) rfl ?_
            refine g_goto X dX7_point_129 (tgt := 59) (by decide) ?_
            refine g_lv [0, 2, 3, 4, 5, 6, 7] (lv2 := [(6, .int (nI (i59_6 + 1))), (3, .int v59_3), (4, .int v59_4), (5, .int (nI i44_5)), (0, .ref (a 0)), (1, .int (nI n2)), (2, .int (nI n4))]) rfl ?_
            exact ih59 ((i59_6 + 1), v59_3, v59_4) L M C D F I K ⟨by omega, by omega⟩ (by show _ < _; omega)
          · skip
            refine g_iload_n X dX7_point_102 rfl (j := 2) rfl ?_
            refine g_iconst X dX7_point_103 (v := -1) (by decide) ?_
            refine g_icmp_eq X dX7_point_104 (tgt := 113) (by decide) (fun q12 => ?_) (fun q12 => ?_)
            · skip
              subst q12
              refine g_iload X dX7_point_113 (j := 0) rfl ?_
              refine g_istore_n X dX7_point_115 rfl (by decide) (lv2 := [(3, .int r10), (7, .int r10), (6, .int (nI i59_6)), (4, .int v59_4), (5, .int (nI i44_5)), (0, .ref (a 0)), (1, .int (nI n2)), (2, .int (nI n4))]) rfl ?_
              refine g_bipush X dX7_point_116 (v := 10) (by decide) ?_
              refine g_iload X dX7_point_118 (j := 4) rfl ?_
              refine g_imul X dX7_point_120 ?_
              refine Go.top (v := .int (nI (10 * i44_5))) (congrArg Value.int (pk_mul 10 i44_5)) ?_
              refine g_iload X dX7_point_121 (j := 2) rfl ?_
              refine g_iadd X dX7_point_123 ?_
              refine Go.top (v := .int (nI ((10 * i44_5) + i59_6))) (congrArg Value.int (nI_add (10 * i44_5) i59_6)) ?_
              refine g_istore X dX7_point_124 (by decide) (lv2 := [(4, .int (nI ((10 * i44_5) + i59_6))), (3, .int r10), (7, .int r10), (6, .int (nI i59_6)), (5, .int (nI i44_5)), (0, .ref (a 0)), (1, .int (nI n2)), (2, .int (nI n4))]) rfl ?_
              refine g_iinc X dX7_point_126 (j := 3) rfl (v := nI (i59_6 + 1)) (nI_1 i59_6) (by decide) (lv2 := [(6, .int (nI (i59_6 + 1))), (4, .int (nI ((10 * i44_5) + i59_6))), (3, .int r10), (7, .int r10), (5, .int (nI i44_5)), (0, .ref (a 0)), (1, .int (nI n2)), (2, .int (nI n4))]) rfl ?_
              refine g_goto X dX7_point_129 (tgt := 59) (by decide) ?_
              refine g_lv [0, 2, 1, 4, 5, 6, 7] (lv2 := [(6, .int (nI (i59_6 + 1))), (3, .int r10), (4, .int (nI ((10 * i44_5) + i59_6))), (5, .int (nI i44_5)), (0, .ref (a 0)), (1, .int (nI n2)), (2, .int (nI n4))]) rfl ?_
              exact ih59 ((i59_6 + 1), r10, nI ((10 * i44_5) + i59_6)) L M C D F I K ⟨by omega, by omega⟩ (by show _ < _; omega)
            · skip
              refine g_iload X dX7_point_107 (j := 0) rfl ?_
              refine g_iload_n X dX7_point_109 rfl (j := 2) rfl ?_
              refine g_icmp_ge X dX7_point_110 (tgt := 126) (by decide) (fun q13 => ?_) (fun q13 => ?_)
              · skip
                refine g_iinc X dX7_point_126 (j := 1) rfl (v := nI (i59_6 + 1)) (nI_1 i59_6) (by decide) (lv2 := [(6, .int (nI (i59_6 + 1))), (7, .int r10), (3, .int v59_3), (4, .int v59_4), (5, .int (nI i44_5)), (0, .ref (a 0)), (1, .int (nI n2)), (2, .int (nI n4))]) rfl ?_
                refine g_goto X dX7_point_129 (tgt := 59) (by decide) ?_
                refine g_lv [0, 2, 3, 4, 5, 6, 7] (lv2 := [(6, .int (nI (i59_6 + 1))), (3, .int v59_3), (4, .int v59_4), (5, .int (nI i44_5)), (0, .ref (a 0)), (1, .int (nI n2)), (2, .int (nI n4))]) rfl ?_
                exact ih59 ((i59_6 + 1), v59_3, v59_4) L M C D F I K ⟨by omega, by omega⟩ (by show _ < _; omega)
              · skip
                refine g_iload X dX7_point_113 (j := 0) rfl ?_
                refine g_istore_n X dX7_point_115 rfl (by decide) (lv2 := [(3, .int r10), (7, .int r10), (6, .int (nI i59_6)), (4, .int v59_4), (5, .int (nI i44_5)), (0, .ref (a 0)), (1, .int (nI n2)), (2, .int (nI n4))]) rfl ?_
                refine g_bipush X dX7_point_116 (v := 10) (by decide) ?_
                refine g_iload X dX7_point_118 (j := 4) rfl ?_
                refine g_imul X dX7_point_120 ?_
                refine Go.top (v := .int (nI (10 * i44_5))) (congrArg Value.int (pk_mul 10 i44_5)) ?_
                refine g_iload X dX7_point_121 (j := 2) rfl ?_
                refine g_iadd X dX7_point_123 ?_
                refine Go.top (v := .int (nI ((10 * i44_5) + i59_6))) (congrArg Value.int (nI_add (10 * i44_5) i59_6)) ?_
                refine g_istore X dX7_point_124 (by decide) (lv2 := [(4, .int (nI ((10 * i44_5) + i59_6))), (3, .int r10), (7, .int r10), (6, .int (nI i59_6)), (5, .int (nI i44_5)), (0, .ref (a 0)), (1, .int (nI n2)), (2, .int (nI n4))]) rfl ?_
                refine g_iinc X dX7_point_126 (j := 3) rfl (v := nI (i59_6 + 1)) (nI_1 i59_6) (by decide) (lv2 := [(6, .int (nI (i59_6 + 1))), (4, .int (nI ((10 * i44_5) + i59_6))), (3, .int r10), (7, .int r10), (5, .int (nI i44_5)), (0, .ref (a 0)), (1, .int (nI n2)), (2, .int (nI n4))]) rfl ?_
                refine g_goto X dX7_point_129 (tgt := 59) (by decide) ?_
                refine g_lv [0, 2, 1, 4, 5, 6, 7] (lv2 := [(6, .int (nI (i59_6 + 1))), (3, .int r10), (4, .int (nI ((10 * i44_5) + i59_6))), (5, .int (nI i44_5)), (0, .ref (a 0)), (1, .int (nI n2)), (2, .int (nI n4))]) rfl ?_
                exact ih59 ((i59_6 + 1), r10, nI ((10 * i44_5) + i59_6)) L M C D F I K ⟨by omega, by omega⟩ (by show _ < _; omega)
