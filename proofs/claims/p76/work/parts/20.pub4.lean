set_option maxHeartbeats 4000000 in
set_option maxRecDepth 100000 in
theorem s_X7_changed (l : Launch) (G : va_G) {cy : Nat → ClassId} {L : List Nat} {M : Nat → va_E} {a : Nat → Nat} {act : Nat → Bool} {C0 : Nat → Nat → Int32} {D0 : Nat → Nat → Int64} {R : Nat → Nat → Option Nat} (F : WI L M a act (ent cy a C0 D0 R)) (I : Inv C0)   : MV l G cy yX7_changed cX7_changed 1 none 4 0 0 [.ref (a 0)] L M (fun L2 M2 => ∃ C2 D2, WI L2 M2 a act (ent cy a C2 D2 R) ∧ Inv C2 ∧ Kp [0, 25, 26, 27, 28, 29, 30, 39] C0 D0 C2 D2 ∧ NowOk (C2 3) (C2 27) (C2 29)) := by
  refine MV.of (own := RX7) rfl (by decide) (Nat.le_of_ble_eq_true rfl) ?_
  intro p e s m below meth c A X hrt hnm
  obtain ⟨C, D, hC0, hD0, F, I, K⟩ : ∃ C D, C = C0 ∧ D = D0 ∧ WI L M a act (ent cy a C D R) ∧ Inv C ∧ Kp [0, 25, 26, 27, 28, 29, 30, 39] C0 D0 C D := ⟨C0, D0, rfl, rfl, F, I, Kp.rf⟩
  refine g_aload_n X dX7_changed_0 rfl (j := 0) rfl ?_
  refine g_iconst X dX7_changed_1 (v := 0) (by decide) ?_
  refine i_put X F I 0 rfl rfl rfl fk_X7_66 dX7_changed_2 rfl rfl (Nat.le_of_ble_eq_true rfl) trivial (fun M C F I K1 hC => ?_)
  have K := K.step K1 (by decide)
  refine g_aload_n X dX7_changed_5 rfl (j := 0) rfl ?_
  refine i_get X F 0 rfl rfl fk_X7_58 dX7_changed_6 rfl ?_
  refine g_callVV X (s_X1_forget l G F I  ) lk_X7_415 (F.1 39 rfl).2 (F.1 39 rfl).1 rfl rfl dX7_changed_9 (Nat.le_of_ble_eq_true rfl) ⟨by decide, by decide⟩ ⟨by decide, by decide⟩ (fun L M hp => ?_)
  obtain ⟨C, D, F, I, K1, hr⟩ := hp
  have K := K.step K1 (by decide)
  refine g_aload_n X dX7_changed_12 rfl (j := 0) rfl ?_
  refine i_get X F 0 rfl rfl fk_X7_41 dX7_changed_13 rfl ?_
  refine g_callVV X (s_X4_prepare_25 l G F I  ) lk_X7_279 (F.1 25 rfl).2 (F.1 25 rfl).1 rfl rfl dX7_changed_16 (Nat.le_of_ble_eq_true rfl) ⟨by decide, by decide⟩ ⟨by decide, by decide⟩ (fun L M hp => ?_)
  obtain ⟨C, D, F, I, K1, hr⟩ := hp
  have K := K.step K1 (by decide)
  refine g_aload_n X dX7_changed_19 rfl (j := 0) rfl ?_
  refine i_get X F 0 rfl rfl fk_X7_41 dX7_changed_20 rfl ?_
  refine g_callVV X (s_X4_run_25 l G F I  ) lk_X7_285 (F.1 25 rfl).2 (F.1 25 rfl).1 rfl rfl dX7_changed_23 (Nat.le_of_ble_eq_true rfl) ⟨by decide, by decide⟩ ⟨by decide, by decide⟩ (fun L M hp => ?_)
  obtain ⟨C, D, F, I, K1, hr⟩ := hp
  have K := K.step K1 (by decide)
  have hN := hr
  exact g_vret X hrt dX7_changed_26 (by decide) (by decide) ⟨C, D, F, I, K, hN⟩
set_option maxHeartbeats 4000000 in
set_option maxRecDepth 100000 in
theorem s_X7_twists (l : Launch) (G : va_G) {cy : Nat → ClassId} {L : List Nat} {M : Nat → va_E} {a : Nat → Nat} {act : Nat → Bool} {C0 : Nat → Nat → Int32} {D0 : Nat → Nat → Int64} {R : Nat → Nat → Option Nat} (F : WI L M a act (ent cy a C0 D0 R)) (I : Inv C0) (p0 : Int32) (p1 : Int32) (hN : NowOk (C0 3) (C0 27) (C0 29)) : MI l G cy yX7_twists cX7_twists 3 (some .int) 5 0 0 [.ref (a 0), .int p0, .int p1] L M (fun r L2 M2 => ∃ C2 D2, WI L2 M2 a act (ent cy a C2 D2 R) ∧ Inv C2 ∧ Kp [0, 10, 11, 12, 25, 26, 27, 28, 29, 30, 39] C0 D0 C2 D2 ∧ NowOk (C2 3) (C2 27) (C2 29)) := by
  refine MI.of (own := RX7) rfl (by decide) (Nat.le_of_ble_eq_true rfl) ?_
  intro p e s m below meth c A X hrt hnm
  obtain ⟨C, D, hC0, hD0, F, I, K⟩ : ∃ C D, C = C0 ∧ D = D0 ∧ WI L M a act (ent cy a C D R) ∧ Inv C ∧ Kp [0, 10, 11, 12, 25, 26, 27, 28, 29, 30, 39] C0 D0 C D := ⟨C0, D0, rfl, rfl, F, I, Kp.rf⟩
  rw [← hC0] at hN
  refine g_aload_n X dX7_twists_0 rfl (j := 0) rfl ?_
  refine i_get X F 0 rfl rfl fk_X7_19 dX7_twists_1 rfl ?_
  refine g_iload_n X dX7_twists_4 rfl (j := 1) rfl ?_
  refine g_callVI X (s_X2_hasPost l G F I p0 ) lk_X7_106 (F.1 3 rfl).2 (F.1 3 rfl).1 rfl rfl dX7_twists_5 (Nat.le_of_ble_eq_true rfl) ⟨by decide, by decide⟩ ⟨by decide, by decide⟩ (fun r1 L M hp => ?_)
  obtain ⟨C, D, F, I, K1, hr⟩ := hp
  have K := K.step K1 (by decide)
  have hN : NowOk (C 3) (C 27) (C 29) := by rw [(K1 3 (by decide)).1, (K1 27 (by decide)).1, (K1 29 (by decide)).1]; exact hN
  rcases hr with rfl | ⟨rfl, n2, hn2a, hn2b, en2⟩
  · skip
    refine g_if_eq X dX7_twists_8 (tgt := 22) (by decide) (fun _ => ?_) (fun q => absurd (by decide) q)
    refine g_bipush X dX7_twists_22 (v := -2) (by decide) ?_
    exact g_iret X hrt dX7_twists_24 (by decide) (by decide) ⟨C, D, F, I, K, hN⟩
  · skip
    subst en2
    refine g_if_eq X dX7_twists_8 (tgt := 22) (by decide) (fun q => absurd q (by decide)) (fun _ => ?_)
    refine g_aload_n X dX7_twists_11 rfl (j := 0) rfl ?_
    refine i_get X F 0 rfl rfl fk_X7_19 dX7_twists_12 rfl ?_
    refine g_iload_n X dX7_twists_15 rfl (j := 2) rfl ?_
    refine g_callVI X (s_X2_hasHourAhead l G F I p1 ) lk_X7_149 (F.1 3 rfl).2 (F.1 3 rfl).1 rfl rfl dX7_twists_16 (Nat.le_of_ble_eq_true rfl) ⟨by decide, by decide⟩ ⟨by decide, by decide⟩ (fun r3 L M hp => ?_)
    obtain ⟨C, D, F, I, K1, hr⟩ := hp
    have K := K.step K1 (by decide)
    have hN : NowOk (C 3) (C 27) (C 29) := by rw [(K1 3 (by decide)).1, (K1 27 (by decide)).1, (K1 29 (by decide)).1]; exact hN
    rcases hr with rfl | ⟨rfl, n4, hn4a, hn4b, en4⟩
    · skip
      refine g_if_ne X dX7_twists_19 (tgt := 25) (by decide) (fun q => absurd (by decide) q) (fun _ => ?_)
      refine g_bipush X dX7_twists_22 (v := -2) (by decide) ?_
      exact g_iret X hrt dX7_twists_24 (by decide) (by decide) ⟨C, D, F, I, K, hN⟩
    · skip
      subst en4
      refine g_if_ne X dX7_twists_19 (tgt := 25) (by decide) (fun _ => ?_) (fun q => absurd q (by decide))
      refine g_aload_n X dX7_twists_25 rfl (j := 0) rfl ?_
      refine i_get X F 0 rfl rfl fk_X7_19 dX7_twists_26 rfl ?_
      refine i_get X F 3 rfl rfl fk_X7_344 dX7_twists_29 rfl ?_
      refine g_iconst X dX7_twists_32 (v := 0) (by decide) ?_
      refine g_iload_n X dX7_twists_33 rfl (j := 1) rfl ?_
      refine g_iload_n X dX7_twists_34 rfl (j := 2) rfl ?_
      refine g_callVI X (s_X0_add_10 l G F I n2 (by omega) (by omega) n4 (by omega) (by omega) ) lk_X7_350 (F.1 10 rfl).2 (F.1 10 rfl).1 rfl rfl dX7_twists_35 (Nat.le_of_ble_eq_true rfl) ⟨by decide, by decide⟩ ⟨by decide, by decide⟩ (fun r5 L M hp => ?_)
      obtain ⟨C, D, F, I, K1, hr⟩ := hp
      have K := K.step K1 (by decide)
      have hN : NowOk (C 3) (C 27) (C 29) := by rw [(K1 3 (by decide)).1, (K1 27 (by decide)).1, (K1 29 (by decide)).1]; exact hN
      rcases hr with rfl | rfl
      · skip
        refine g_if_ne X dX7_twists_38 (tgt := 44) (by decide) (fun q => absurd (by decide) q) (fun _ => ?_)
        refine g_bipush X dX7_twists_41 (v := -5) (by decide) ?_
        exact g_iret X hrt dX7_twists_43 (by decide) (by decide) ⟨C, D, F, I, K, hN⟩
      · skip
        refine g_if_ne X dX7_twists_38 (tgt := 44) (by decide) (fun _ => ?_) (fun q => absurd q (by decide))
        refine g_aload_n X dX7_twists_44 rfl (j := 0) rfl ?_
        refine g_callVV X (s_X7_changed l G F I  ) lk_X7_90 (F.1 0 rfl).2 (F.1 0 rfl).1 rfl rfl dX7_twists_45 (Nat.le_of_ble_eq_true rfl) ⟨by decide, by decide⟩ ⟨by decide, by decide⟩ (fun L M hp => ?_)
        obtain ⟨C, D, F, I, K1, hr⟩ := hp
        have K := K.step K1 (by decide)
        have hN := hr
        refine g_aload_n X dX7_twists_48 rfl (j := 0) rfl ?_
        refine i_get X F 0 rfl rfl fk_X7_41 dX7_twists_49 rfl ?_
        refine g_iload_n X dX7_twists_52 rfl (j := 1) rfl ?_
        refine g_aload_n X dX7_twists_53 rfl (j := 0) rfl ?_
        refine i_get X F 0 rfl rfl fk_X7_19 dX7_twists_54 rfl ?_
        obtain ⟨n6, hn6, en6⟩ := rg_nat ((I 3 1).1 rfl) (by decide)
        refine i_get X F 3 rfl rfl fk_X7_168 dX7_twists_57 (v := .int (nI n6)) (congrArg (fun z => some (Value.int z)) en6) ?_
        refine g_callVI X (s_X4_armOf_25 l G F I n2 (by omega) (by omega) n6 (by omega) (by omega) ) lk_X7_140 (F.1 25 rfl).2 (F.1 25 rfl).1 rfl rfl dX7_twists_60 (Nat.le_of_ble_eq_true rfl) ⟨by decide, by decide⟩ ⟨by decide, by decide⟩ (fun r7 L M hp => ?_)
        obtain ⟨C, D, F, I, K1, hr⟩ := hp
        have K := K.step K1 (by decide)
        have hN : NowOk (C 3) (C 27) (C 29) := by rw [(K1 3 (by decide)).1, (K1 27 (by decide)).1, (K1 29 (by decide)).1]; exact hN
        exact g_iret X hrt dX7_twists_63 (by decide) (by decide) ⟨C, D, F, I, K, hN⟩
set_option maxHeartbeats 4000000 in
set_option maxRecDepth 100000 in
theorem s_X7_holds (l : Launch) (G : va_G) {cy : Nat → ClassId} {L : List Nat} {M : Nat → va_E} {a : Nat → Nat} {act : Nat → Bool} {C0 : Nat → Nat → Int32} {D0 : Nat → Nat → Int64} {R : Nat → Nat → Option Nat} (F : WI L M a act (ent cy a C0 D0 R)) (I : Inv C0) (p0 : Int32) (p1 : Int32) (hN : NowOk (C0 3) (C0 27) (C0 29)) : MI l G cy yX7_holds cX7_holds 3 (some .int) 5 0 0 [.ref (a 0), .int p0, .int p1] L M (fun r L2 M2 => ∃ C2 D2, WI L2 M2 a act (ent cy a C2 D2 R) ∧ Inv C2 ∧ Kp [0, 10, 11, 12, 25, 26, 27, 28, 29, 30, 39] C0 D0 C2 D2 ∧ NowOk (C2 3) (C2 27) (C2 29)) := by
  refine MI.of (own := RX7) rfl (by decide) (Nat.le_of_ble_eq_true rfl) ?_
  intro p e s m below meth c A X hrt hnm
  obtain ⟨C, D, hC0, hD0, F, I, K⟩ : ∃ C D, C = C0 ∧ D = D0 ∧ WI L M a act (ent cy a C D R) ∧ Inv C ∧ Kp [0, 10, 11, 12, 25, 26, 27, 28, 29, 30, 39] C0 D0 C D := ⟨C0, D0, rfl, rfl, F, I, Kp.rf⟩
  rw [← hC0] at hN
  refine g_aload_n X dX7_holds_0 rfl (j := 0) rfl ?_
  refine i_get X F 0 rfl rfl fk_X7_19 dX7_holds_1 rfl ?_
  refine g_iload_n X dX7_holds_4 rfl (j := 1) rfl ?_
  refine g_callVI X (s_X2_hasWalker l G F I p0 ) lk_X7_122 (F.1 3 rfl).2 (F.1 3 rfl).1 rfl rfl dX7_holds_5 (Nat.le_of_ble_eq_true rfl) ⟨by decide, by decide⟩ ⟨by decide, by decide⟩ (fun r1 L M hp => ?_)
  obtain ⟨C, D, F, I, K1, hr⟩ := hp
  have K := K.step K1 (by decide)
  have hN : NowOk (C 3) (C 27) (C 29) := by rw [(K1 3 (by decide)).1, (K1 27 (by decide)).1, (K1 29 (by decide)).1]; exact hN
  rcases hr with rfl | ⟨rfl, n2, hn2a, hn2b, en2⟩
  · skip
    refine g_if_eq X dX7_holds_8 (tgt := 22) (by decide) (fun _ => ?_) (fun q => absurd (by decide) q)
    refine g_bipush X dX7_holds_22 (v := -2) (by decide) ?_
    exact g_iret X hrt dX7_holds_24 (by decide) (by decide) ⟨C, D, F, I, K, hN⟩
  · skip
    subst en2
    refine g_if_eq X dX7_holds_8 (tgt := 22) (by decide) (fun q => absurd q (by decide)) (fun _ => ?_)
    refine g_aload_n X dX7_holds_11 rfl (j := 0) rfl ?_
    refine i_get X F 0 rfl rfl fk_X7_19 dX7_holds_12 rfl ?_
    refine g_iload_n X dX7_holds_15 rfl (j := 2) rfl ?_
    refine g_callVI X (s_X2_hasHourAhead l G F I p1 ) lk_X7_149 (F.1 3 rfl).2 (F.1 3 rfl).1 rfl rfl dX7_holds_16 (Nat.le_of_ble_eq_true rfl) ⟨by decide, by decide⟩ ⟨by decide, by decide⟩ (fun r3 L M hp => ?_)
    obtain ⟨C, D, F, I, K1, hr⟩ := hp
    have K := K.step K1 (by decide)
    have hN : NowOk (C 3) (C 27) (C 29) := by rw [(K1 3 (by decide)).1, (K1 27 (by decide)).1, (K1 29 (by decide)).1]; exact hN
    rcases hr with rfl | ⟨rfl, n4, hn4a, hn4b, en4⟩
    · skip
      refine g_if_ne X dX7_holds_19 (tgt := 25) (by decide) (fun q => absurd (by decide) q) (fun _ => ?_)
      refine g_bipush X dX7_holds_22 (v := -2) (by decide) ?_
      exact g_iret X hrt dX7_holds_24 (by decide) (by decide) ⟨C, D, F, I, K, hN⟩
    · skip
      subst en4
      refine g_if_ne X dX7_holds_19 (tgt := 25) (by decide) (fun _ => ?_) (fun q => absurd q (by decide))
      refine g_aload_n X dX7_holds_25 rfl (j := 0) rfl ?_
      refine i_get X F 0 rfl rfl fk_X7_19 dX7_holds_26 rfl ?_
      refine i_get X F 3 rfl rfl fk_X7_344 dX7_holds_29 rfl ?_
      refine g_bipush X dX7_holds_32 (v := 112) (by decide) ?_
      refine g_iload_n X dX7_holds_34 rfl (j := 1) rfl ?_
      refine g_iload_n X dX7_holds_35 rfl (j := 2) rfl ?_
      refine g_callVI X (s_X0_add_10h l G F I n2 (by omega) (by omega) n4 (by omega) (by omega) ) lk_X7_350 (F.1 10 rfl).2 (F.1 10 rfl).1 rfl rfl dX7_holds_36 (Nat.le_of_ble_eq_true rfl) ⟨by decide, by decide⟩ ⟨by decide, by decide⟩ (fun r5 L M hp => ?_)
      obtain ⟨C, D, F, I, K1, hr⟩ := hp
      have K := K.step K1 (by decide)
      have hN : NowOk (C 3) (C 27) (C 29) := by rw [(K1 3 (by decide)).1, (K1 27 (by decide)).1, (K1 29 (by decide)).1]; exact hN
      rcases hr with rfl | rfl
      · skip
        refine g_if_ne X dX7_holds_39 (tgt := 45) (by decide) (fun q => absurd (by decide) q) (fun _ => ?_)
        refine g_bipush X dX7_holds_42 (v := -5) (by decide) ?_
        exact g_iret X hrt dX7_holds_44 (by decide) (by decide) ⟨C, D, F, I, K, hN⟩
      · skip
        refine g_if_ne X dX7_holds_39 (tgt := 45) (by decide) (fun _ => ?_) (fun q => absurd q (by decide))
        refine g_aload_n X dX7_holds_45 rfl (j := 0) rfl ?_
        refine g_callVV X (s_X7_changed l G F I  ) lk_X7_90 (F.1 0 rfl).2 (F.1 0 rfl).1 rfl rfl dX7_holds_46 (Nat.le_of_ble_eq_true rfl) ⟨by decide, by decide⟩ ⟨by decide, by decide⟩ (fun L M hp => ?_)
        obtain ⟨C, D, F, I, K1, hr⟩ := hp
        have K := K.step K1 (by decide)
        have hN := hr
        refine g_aload_n X dX7_holds_49 rfl (j := 0) rfl ?_
        refine i_get X F 0 rfl rfl fk_X7_41 dX7_holds_50 rfl ?_
        refine g_iload_n X dX7_holds_53 rfl (j := 1) rfl ?_
        refine g_aload_n X dX7_holds_54 rfl (j := 0) rfl ?_
        refine i_get X F 0 rfl rfl fk_X7_19 dX7_holds_55 rfl ?_
        obtain ⟨n6, hn6, en6⟩ := rg_nat ((I 3 1).1 rfl) (by decide)
        refine i_get X F 3 rfl rfl fk_X7_168 dX7_holds_58 (v := .int (nI n6)) (congrArg (fun z => some (Value.int z)) en6) ?_
        refine g_callVI X (s_X4_placeOf_25 l G F I n2 (by omega) (by omega) n6 (by omega) (by omega) ) lk_X7_137 (F.1 25 rfl).2 (F.1 25 rfl).1 rfl rfl dX7_holds_61 (Nat.le_of_ble_eq_true rfl) ⟨by decide, by decide⟩ ⟨by decide, by decide⟩ (fun r7 L M hp => ?_)
        obtain ⟨C, D, F, I, K1, hr⟩ := hp
        have K := K.step K1 (by decide)
        have hN : NowOk (C 3) (C 27) (C 29) := by rw [(K1 3 (by decide)).1, (K1 27 (by decide)).1, (K1 29 (by decide)).1]; exact hN
        obtain ⟨hr, hpln8⟩ := hr
        rcases okp_nat hr with rfl | ⟨n8, hn8, rfl⟩
        · skip
          exact g_iret X hrt dX7_holds_64 (by decide) (by decide) ⟨C, D, F, I, K, hN⟩
        · skip
          exact g_iret X hrt dX7_holds_64 (by decide) (by decide) ⟨C, D, F, I, K, hN⟩
set_option maxHeartbeats 4000000 in
set_option maxRecDepth 100000 in
theorem s_X7_undo (l : Launch) (G : va_G) {cy : Nat → ClassId} {L : List Nat} {M : Nat → va_E} {a : Nat → Nat} {act : Nat → Bool} {C0 : Nat → Nat → Int32} {D0 : Nat → Nat → Int64} {R : Nat → Nat → Option Nat} (F : WI L M a act (ent cy a C0 D0 R)) (I : Inv C0)  (hN : NowOk (C0 3) (C0 27) (C0 29)) : MI l G cy yX7_undo cX7_undo 1 (some .int) 5 0 0 [.ref (a 0)] L M (fun r L2 M2 => ∃ C2 D2, WI L2 M2 a act (ent cy a C2 D2 R) ∧ Inv C2 ∧ Kp [0, 10, 11, 12, 25, 26, 27, 28, 29, 30, 39] C0 D0 C2 D2 ∧ NowOk (C2 3) (C2 27) (C2 29)) := by
  refine MI.of (own := RX7) rfl (by decide) (Nat.le_of_ble_eq_true rfl) ?_
  intro p e s m below meth c A X hrt hnm
  obtain ⟨C, D, hC0, hD0, F, I, K⟩ : ∃ C D, C = C0 ∧ D = D0 ∧ WI L M a act (ent cy a C D R) ∧ Inv C ∧ Kp [0, 10, 11, 12, 25, 26, 27, 28, 29, 30, 39] C0 D0 C D := ⟨C0, D0, rfl, rfl, F, I, Kp.rf⟩
  rw [← hC0] at hN
  refine g_aload_n X dX7_undo_0 rfl (j := 0) rfl ?_
  refine i_get X F 0 rfl rfl fk_X7_19 dX7_undo_1 rfl ?_
  refine g_callVI X (s_X2_isTold l G F I  ) lk_X7_198 (F.1 3 rfl).2 (F.1 3 rfl).1 rfl rfl dX7_undo_4 (Nat.le_of_ble_eq_true rfl) ⟨by decide, by decide⟩ ⟨by decide, by decide⟩ (fun r1 L M hp => ?_)
  obtain ⟨C, D, F, I, K1, hr⟩ := hp
  have K := K.step K1 (by decide)
  have hN : NowOk (C 3) (C 27) (C 29) := by rw [(K1 3 (by decide)).1, (K1 27 (by decide)).1, (K1 29 (by decide)).1]; exact hN
  rcases hr with rfl | rfl
  · skip
    refine g_if_ne X dX7_undo_7 (tgt := 13) (by decide) (fun q => absurd (by decide) q) (fun _ => ?_)
    refine g_bipush X dX7_undo_10 (v := -2) (by decide) ?_
    exact g_iret X hrt dX7_undo_12 (by decide) (by decide) ⟨C, D, F, I, K, hN⟩
  · skip
    refine g_if_ne X dX7_undo_7 (tgt := 13) (by decide) (fun _ => ?_) (fun q => absurd q (by decide))
    refine g_aload_n X dX7_undo_13 rfl (j := 0) rfl ?_
    refine i_get X F 0 rfl rfl fk_X7_19 dX7_undo_14 rfl ?_
    refine i_get X F 3 rfl rfl fk_X7_344 dX7_undo_17 rfl ?_
    obtain ⟨n2, hn2, en2⟩ := rg_nat (I 10 0 rfl) (by decide)
    refine i_get X F 10 rfl rfl fk_X7_354 dX7_undo_20 (v := .int (nI n2)) (congrArg (fun z => some (Value.int z)) en2) ?_
    refine g_if_ne X dX7_undo_23 (tgt := 29) (by decide) (fun q3 => ?_) (fun q3 => ?_)
    · skip
      have q3 : ¬ n2 = 0 := fun z => q3 ((nI_eq (a := n2) (b := 0) (by omega) (by omega)).mpr z)
      refine g_aload_n X dX7_undo_29 rfl (j := 0) rfl ?_
      refine i_get X F 0 rfl rfl fk_X7_19 dX7_undo_30 rfl ?_
      refine i_get X F 3 rfl rfl fk_X7_344 dX7_undo_33 rfl ?_
      refine g_callVV X (s_X0_takeBack_10 l G F I  ) lk_X7_355 (F.1 10 rfl).2 (F.1 10 rfl).1 rfl rfl dX7_undo_36 (Nat.le_of_ble_eq_true rfl) ⟨by decide, by decide⟩ ⟨by decide, by decide⟩ (fun L M hp => ?_)
      obtain ⟨C, D, F, I, K1, hr⟩ := hp
      have K := K.step K1 (by decide)
      have hN : NowOk (C 3) (C 27) (C 29) := by rw [(K1 3 (by decide)).1, (K1 27 (by decide)).1, (K1 29 (by decide)).1]; exact hN
      refine g_aload_n X dX7_undo_39 rfl (j := 0) rfl ?_
      refine g_callVV X (s_X7_changed l G F I  ) lk_X7_90 (F.1 0 rfl).2 (F.1 0 rfl).1 rfl rfl dX7_undo_40 (Nat.le_of_ble_eq_true rfl) ⟨by decide, by decide⟩ ⟨by decide, by decide⟩ (fun L M hp => ?_)
      obtain ⟨C, D, F, I, K1, hr⟩ := hp
      have K := K.step K1 (by decide)
      have hN := hr
      refine g_aload_n X dX7_undo_43 rfl (j := 0) rfl ?_
      refine i_get X F 0 rfl rfl fk_X7_19 dX7_undo_44 rfl ?_
      refine i_get X F 3 rfl rfl fk_X7_344 dX7_undo_47 rfl ?_
      obtain ⟨n4, hn4, en4⟩ := rg_nat (I 10 0 rfl) (by decide)
      refine i_get X F 10 rfl rfl fk_X7_354 dX7_undo_50 (v := .int (nI n4)) (congrArg (fun z => some (Value.int z)) en4) ?_
      exact g_iret X hrt dX7_undo_53 (by decide) (by decide) ⟨C, D, F, I, K, hN⟩
    · skip
      have q3 : n2 = 0 := (nI_eq (a := n2) (b := 0) (by omega) (by omega)).mp q3
      refine g_bipush X dX7_undo_26 (v := -5) (by decide) ?_
      exact g_iret X hrt dX7_undo_28 (by decide) (by decide) ⟨C, D, F, I, K, hN⟩
set_option maxHeartbeats 4000000 in
set_option maxRecDepth 100000 in
theorem s_X7_anew (l : Launch) (G : va_G) {cy : Nat → ClassId} {L : List Nat} {M : Nat → va_E} {a : Nat → Nat} {act : Nat → Bool} {C0 : Nat → Nat → Int32} {D0 : Nat → Nat → Int64} {R : Nat → Nat → Option Nat} (F : WI L M a act (ent cy a C0 D0 R)) (I : Inv C0)  (hN : NowOk (C0 3) (C0 27) (C0 29)) : MI l G cy yX7_anew cX7_anew 2 (some .int) 5 0 0 [.ref (a 0)] L M (fun r L2 M2 => ∃ C2 D2, WI L2 M2 a act (ent cy a C2 D2 R) ∧ Inv C2 ∧ Kp [0, 10, 12, 25, 26, 27, 28, 29, 30, 39] C0 D0 C2 D2 ∧ NowOk (C2 3) (C2 27) (C2 29)) := by
  refine MI.of (own := RX7) rfl (by decide) (Nat.le_of_ble_eq_true rfl) ?_
  intro p e s m below meth c A X hrt hnm
  obtain ⟨C, D, hC0, hD0, F, I, K⟩ : ∃ C D, C = C0 ∧ D = D0 ∧ WI L M a act (ent cy a C D R) ∧ Inv C ∧ Kp [0, 10, 12, 25, 26, 27, 28, 29, 30, 39] C0 D0 C D := ⟨C0, D0, rfl, rfl, F, I, Kp.rf⟩
  rw [← hC0] at hN
  refine g_aload_n X dX7_anew_0 rfl (j := 0) rfl ?_
  refine i_get X F 0 rfl rfl fk_X7_19 dX7_anew_1 rfl ?_
  refine g_callVI X (s_X2_isTold l G F I  ) lk_X7_198 (F.1 3 rfl).2 (F.1 3 rfl).1 rfl rfl dX7_anew_4 (Nat.le_of_ble_eq_true rfl) ⟨by decide, by decide⟩ ⟨by decide, by decide⟩ (fun r1 L M hp => ?_)
  obtain ⟨C, D, F, I, K1, hr⟩ := hp
  have K := K.step K1 (by decide)
  have hN : NowOk (C 3) (C 27) (C 29) := by rw [(K1 3 (by decide)).1, (K1 27 (by decide)).1, (K1 29 (by decide)).1]; exact hN
  rcases hr with rfl | rfl
  · skip
    refine g_if_ne X dX7_anew_7 (tgt := 13) (by decide) (fun q => absurd (by decide) q) (fun _ => ?_)
    refine g_bipush X dX7_anew_10 (v := -2) (by decide) ?_
    exact g_iret X hrt dX7_anew_12 (by decide) (by decide) ⟨C, D, F, I, K, hN⟩
  · skip
    refine g_if_ne X dX7_anew_7 (tgt := 13) (by decide) (fun _ => ?_) (fun q => absurd q (by decide))
    refine g_aload_n X dX7_anew_13 rfl (j := 0) rfl ?_
    refine i_get X F 0 rfl rfl fk_X7_19 dX7_anew_14 rfl ?_
    refine i_get X F 3 rfl rfl fk_X7_344 dX7_anew_17 rfl ?_
    obtain ⟨n2, hn2, en2⟩ := rg_nat (I 10 0 rfl) (by decide)
    refine i_get X F 10 rfl rfl fk_X7_354 dX7_anew_20 (v := .int (nI n2)) (congrArg (fun z => some (Value.int z)) en2) ?_
    refine g_istore_n X dX7_anew_23 rfl (by decide) (lv2 := [(1, .int (nI n2)), (0, .ref (a 0))]) rfl ?_
    refine g_aload_n X dX7_anew_24 rfl (j := 1) rfl ?_
    refine i_get X F 0 rfl rfl fk_X7_19 dX7_anew_25 rfl ?_
    refine i_get X F 3 rfl rfl fk_X7_344 dX7_anew_28 rfl ?_
    refine g_callVV X (s_X0_clear_10 l G F I  ) lk_X7_358 (F.1 10 rfl).2 (F.1 10 rfl).1 rfl rfl dX7_anew_31 (Nat.le_of_ble_eq_true rfl) ⟨by decide, by decide⟩ ⟨by decide, by decide⟩ (fun L M hp => ?_)
    obtain ⟨C, D, F, I, K1, hr⟩ := hp
    have K := K.step K1 (by decide)
    have hN : NowOk (C 3) (C 27) (C 29) := by rw [(K1 3 (by decide)).1, (K1 27 (by decide)).1, (K1 29 (by decide)).1]; exact hN
    refine g_aload_n X dX7_anew_34 rfl (j := 1) rfl ?_
    refine g_callVV X (s_X7_changed l G F I  ) lk_X7_90 (F.1 0 rfl).2 (F.1 0 rfl).1 rfl rfl dX7_anew_35 (Nat.le_of_ble_eq_true rfl) ⟨by decide, by decide⟩ ⟨by decide, by decide⟩ (fun L M hp => ?_)
    obtain ⟨C, D, F, I, K1, hr⟩ := hp
    have K := K.step K1 (by decide)
    have hN := hr
    refine g_iload_n X dX7_anew_38 rfl (j := 0) rfl ?_
    exact g_iret X hrt dX7_anew_39 (by decide) (by decide) ⟨C, D, F, I, K, hN⟩
set_option maxHeartbeats 4000000 in
set_option maxRecDepth 100000 in
theorem s_X7_rate (l : Launch) (G : va_G) {cy : Nat → ClassId} {L : List Nat} {M : Nat → va_E} {a : Nat → Nat} {act : Nat → Bool} {C0 : Nat → Nat → Int32} {D0 : Nat → Nat → Int64} {R : Nat → Nat → Option Nat} (F : WI L M a act (ent cy a C0 D0 R)) (I : Inv C0) (p0 : Int32) (p1 : Int32) (hN : NowOk (C0 3) (C0 27) (C0 29)) : MI l G cy yX7_rate cX7_rate 4 (some .int) 5 0 0 [.ref (a 0), .int p0, .int p1] L M (fun r L2 M2 => ∃ C2 D2, WI L2 M2 a act (ent cy a C2 D2 R) ∧ Inv C2 ∧ Kp [0, 4, 25, 26, 27, 28, 29, 30, 39] C0 D0 C2 D2 ∧ NowOk (C2 3) (C2 27) (C2 29)) := by
  refine MI.of (own := RX7) rfl (by decide) (Nat.le_of_ble_eq_true rfl) ?_
  intro p e s m below meth c A X hrt hnm
  obtain ⟨C, D, hC0, hD0, F, I, K⟩ : ∃ C D, C = C0 ∧ D = D0 ∧ WI L M a act (ent cy a C D R) ∧ Inv C ∧ Kp [0, 4, 25, 26, 27, 28, 29, 30, 39] C0 D0 C D := ⟨C0, D0, rfl, rfl, F, I, Kp.rf⟩
  rw [← hC0] at hN
  refine g_aload_n X dX7_rate_0 rfl (j := 0) rfl ?_
  refine i_get X F 0 rfl rfl fk_X7_19 dX7_rate_1 rfl ?_
  refine g_iload_n X dX7_rate_4 rfl (j := 1) rfl ?_
  refine g_callVI X (s_X2_hasInn l G F I p0 ) lk_X7_99 (F.1 3 rfl).2 (F.1 3 rfl).1 rfl rfl dX7_rate_5 (Nat.le_of_ble_eq_true rfl) ⟨by decide, by decide⟩ ⟨by decide, by decide⟩ (fun r1 L M hp => ?_)
  obtain ⟨C, D, F, I, K1, hr⟩ := hp
  have K := K.step K1 (by decide)
  have hN : NowOk (C 3) (C 27) (C 29) := by rw [(K1 3 (by decide)).1, (K1 27 (by decide)).1, (K1 29 (by decide)).1]; exact hN
  rcases hr with rfl | ⟨rfl, n2, hn2a, hn2b, en2⟩
  · skip
    refine g_if_eq X dX7_rate_8 (tgt := 21) (by decide) (fun _ => ?_) (fun q => absurd (by decide) q)
    refine g_bipush X dX7_rate_21 (v := -2) (by decide) ?_
    exact g_iret X hrt dX7_rate_23 (by decide) (by decide) ⟨C, D, F, I, K, hN⟩
  · skip
    subst en2
    refine g_if_eq X dX7_rate_8 (tgt := 21) (by decide) (fun q => absurd q (by decide)) (fun _ => ?_)
    refine g_iload_n X dX7_rate_11 rfl (j := 2) rfl ?_
    refine g_if_lt X dX7_rate_12 (tgt := 21) (by decide) (fun q3 => ?_) (fun q3 => ?_)
    · skip
      have q3t : p1.toInt < (0 : Int32).toInt := Int32.lt_iff_toInt_lt.mp q3
      have q3k : (0 : Int32).toInt = 0 := (by decide)
      have q3b := Int32.toInt_lt p1
      refine g_bipush X dX7_rate_21 (v := -2) (by decide) ?_
      exact g_iret X hrt dX7_rate_23 (by decide) (by decide) ⟨C, D, F, I, K, hN⟩
    · skip
      have q3t : ¬ p1.toInt < (0 : Int32).toInt := fun z => q3 (Int32.lt_iff_toInt_lt.mpr z)
      have q3k : (0 : Int32).toInt = 0 := (by decide)
      have q3b := Int32.toInt_lt p1
      obtain ⟨n4, hn4, rfl⟩ := nI_of (x := p1) (fun z => by have z2 := Int32.lt_iff_toInt_lt.mp z; have z3 : (0 : Int32).toInt = 0 := (by decide); omega)
      rw [nI_toInt (by omega)] at q3t
      have tn4 := nI_toInt (n := n4) (by omega)
      refine g_iload_n X dX7_rate_15 rfl (j := 2) rfl ?_
      refine g_bipush X dX7_rate_16 (v := 9) (by decide) ?_
      refine g_icmp_le X dX7_rate_18 (tgt := 24) (by decide) (fun q5 => ?_) (fun q5 => ?_)
      · skip
        have q5 : n4 ≤ 9 := (nI_leI (a := n4) (b := 9) (by omega) (by omega)).mp q5
        refine g_aload_n X dX7_rate_24 rfl (j := 0) rfl ?_
        refine i_get X F 0 rfl rfl fk_X7_19 dX7_rate_25 rfl ?_
        refine i_get X F 3 rfl rfl fk_X7_344 dX7_rate_28 rfl ?_
        obtain ⟨n6, hn6, en6⟩ := rg_nat (I 10 0 rfl) (by decide)
        refine i_get X F 10 rfl rfl fk_X7_354 dX7_rate_31 (v := .int (nI n6)) (congrArg (fun z => some (Value.int z)) en6) ?_
        refine g_if_le X dX7_rate_34 (tgt := 40) (by decide) (fun q7 => ?_) (fun q7 => ?_)
        · skip
          have q7 : n6 ≤ 0 := (nI_leI (a := n6) (b := 0) (by omega) (by omega)).mp q7
          refine g_aload_n X dX7_rate_40 rfl (j := 0) rfl ?_
          refine i_get X F 0 rfl rfl fk_X7_19 dX7_rate_41 rfl ?_
          refine i_get X F 3 rfl rfl fk_X7_103 dX7_rate_44 rfl ?_
          refine g_iload_n X dX7_rate_47 rfl (j := 1) rfl ?_
          refine i_iald X F 4 rfl rfl dX7_rate_48 (vp_in_nI (by omega) (by decide)) rfl ?_
          refine Go.gen (fun o8 => ?_)
          refine g_istore_n X dX7_rate_49 rfl (by decide) (lv2 := [(3, .int o8), (0, .ref (a 0)), (1, .int (nI n2)), (2, .int (nI n4))]) rfl ?_
          refine g_aload_n X dX7_rate_50 rfl (j := 1) rfl ?_
          refine i_get X F 0 rfl rfl fk_X7_19 dX7_rate_51 rfl ?_
          refine i_get X F 3 rfl rfl fk_X7_103 dX7_rate_54 rfl ?_
          refine g_iload_n X dX7_rate_57 rfl (j := 2) rfl ?_
          refine g_iload_n X dX7_rate_58 rfl (j := 3) rfl ?_
          refine i_iast X F I 4 rfl (fun _ => rfl) dX7_rate_59 (vp_in_nI (by omega) (by decide)) trivial (fun M C F I K1 hC => ?_)
          have K := K.step K1 (by decide)
          have hN : NowOk (C 3) (C 27) (C 29) := by rw [(K1 3 (by decide)).1, (K1 27 (by decide)).1, (K1 29 (by decide)).1]; exact hN
          refine g_aload_n X dX7_rate_60 rfl (j := 1) rfl ?_
          refine g_callVV X (s_X7_changed l G F I  ) lk_X7_90 (F.1 0 rfl).2 (F.1 0 rfl).1 rfl rfl dX7_rate_61 (Nat.le_of_ble_eq_true rfl) ⟨by decide, by decide⟩ ⟨by decide, by decide⟩ (fun L M hp => ?_)
          obtain ⟨C, D, F, I, K1, hr⟩ := hp
          have K := K.step K1 (by decide)
          have hN := hr
          refine g_iload_n X dX7_rate_64 rfl (j := 0) rfl ?_
          exact g_iret X hrt dX7_rate_65 (by decide) (by decide) ⟨C, D, F, I, K, hN⟩
        · skip
          have q7 : ¬ n6 ≤ 0 := fun z => q7 ((nI_leI (a := n6) (b := 0) (by omega) (by omega)).mpr z)
          refine g_bipush X dX7_rate_37 (v := -5) (by decide) ?_
          exact g_iret X hrt dX7_rate_39 (by decide) (by decide) ⟨C, D, F, I, K, hN⟩
      · skip
        have q5 : ¬ n4 ≤ 9 := fun z => q5 ((nI_leI (a := n4) (b := 9) (by omega) (by omega)).mpr z)
        refine g_bipush X dX7_rate_21 (v := -2) (by decide) ?_
        exact g_iret X hrt dX7_rate_23 (by decide) (by decide) ⟨C, D, F, I, K, hN⟩
set_option maxHeartbeats 4000000 in
set_option maxRecDepth 100000 in
theorem s_X7_heath (l : Launch) (G : va_G) {cy : Nat → ClassId} {L : List Nat} {M : Nat → va_E} {a : Nat → Nat} {act : Nat → Bool} {C0 : Nat → Nat → Int32} {D0 : Nat → Nat → Int64} {R : Nat → Nat → Option Nat} (F : WI L M a act (ent cy a C0 D0 R)) (I : Inv C0)  (hN : NowOk (C0 3) (C0 27) (C0 29)) : MI l G cy yX7_heath cX7_heath 1 (some .int) 9 0 0 [.ref (a 0)] L M (fun r L2 M2 => ∃ C2 D2, WI L2 M2 a act (ent cy a C2 D2 R) ∧ Inv C2 ∧ Kp [0, 1, 3, 4, 5, 6, 7, 8, 9, 10, 11, 12, 13, 14, 15, 16, 17, 18, 19, 20, 21, 22, 25, 26, 27, 28, 29, 30, 39] C0 D0 C2 D2 ∧ NowOk (C2 3) (C2 27) (C2 29)) := by
  refine MI.of (own := RX7) rfl (by decide) (Nat.le_of_ble_eq_true rfl) ?_
  intro p e s m below meth c A X hrt hnm
  obtain ⟨C, D, hC0, hD0, F, I, K⟩ : ∃ C D, C = C0 ∧ D = D0 ∧ WI L M a act (ent cy a C D R) ∧ Inv C ∧ Kp [0, 1, 3, 4, 5, 6, 7, 8, 9, 10, 11, 12, 13, 14, 15, 16, 17, 18, 19, 20, 21, 22, 25, 26, 27, 28, 29, 30, 39] C0 D0 C D := ⟨C0, D0, rfl, rfl, F, I, Kp.rf⟩
  rw [← hC0] at hN
  refine g_aload_n X dX7_heath_0 rfl (j := 0) rfl ?_
  refine i_get X F 0 rfl rfl fk_X7_12 dX7_heath_1 rfl ?_
  refine g_aload_n X dX7_heath_4 rfl (j := 0) rfl ?_
  refine i_get X F 0 rfl rfl fk_X7_23 dX7_heath_5 rfl ?_
  refine g_callVV X (s_X6_readInto l G F I  ) lk_X7_81 (F.1 1 rfl).2 (F.1 1 rfl).1 rfl rfl dX7_heath_8 (Nat.le_of_ble_eq_true rfl) ⟨by decide, by decide⟩ ⟨by decide, by decide⟩ (fun L M hp => ?_)
  obtain ⟨C, D, F, I, K1, hr⟩ := hp
  have K := K.step K1 (by decide)
  have hN : NowOk (C 3) (C 27) (C 29) := by rw [(K1 3 (by decide)).1, (K1 27 (by decide)).1, (K1 29 (by decide)).1]; exact hN
  refine g_aload_n X dX7_heath_11 rfl (j := 0) rfl ?_
  refine i_get X F 0 rfl rfl fk_X7_12 dX7_heath_12 rfl ?_
  refine i_get X F 1 rfl rfl fk_X7_84 dX7_heath_15 rfl ?_
  refine Go.gen (fun o1 => ?_)
  refine g_if_eq X dX7_heath_18 (tgt := 24) (by decide) (fun q2 => ?_) (fun q2 => ?_)
  · skip
    subst q2
    refine g_aload_n X dX7_heath_24 rfl (j := 0) rfl ?_
    refine i_get X F 0 rfl rfl fk_X7_12 dX7_heath_25 rfl ?_
    refine g_iconst X dX7_heath_28 (v := 0) (by decide) ?_
    refine i_put X F I 1 rfl rfl rfl fk_X7_73 dX7_heath_29 rfl rfl (Nat.le_of_ble_eq_true rfl) (fun _ => (rg_of (n := 0) (by omega) (by omega) (by omega))) (fun M C F I K1 hC => ?_)
    have K := K.step K1 (by decide)
    have hN : NowOk (C 3) (C 27) (C 29) := by rw [(K1 3 (by decide)).1, (K1 27 (by decide)).1, (K1 29 (by decide)).1]; exact hN
    refine g_aload_n X dX7_heath_32 rfl (j := 0) rfl ?_
    refine i_get X F 0 rfl rfl fk_X7_19 dX7_heath_33 rfl ?_
    refine g_aload_n X dX7_heath_36 rfl (j := 0) rfl ?_
    refine i_get X F 0 rfl rfl fk_X7_23 dX7_heath_37 rfl ?_
    refine g_callVV X (s_X2_copyFrom_3_13 l G F I  ) lk_X7_87 (F.1 3 rfl).2 (F.1 3 rfl).1 rfl rfl dX7_heath_40 (Nat.le_of_ble_eq_true rfl) ⟨by decide, by decide⟩ ⟨by decide, by decide⟩ (fun L M hp => ?_)
    obtain ⟨C, D, F, I, K1, hr⟩ := hp
    have K := K.step K1 (by decide)
    refine g_aload_n X dX7_heath_43 rfl (j := 0) rfl ?_
    refine g_callVV X (s_X7_changed l G F I  ) lk_X7_90 (F.1 0 rfl).2 (F.1 0 rfl).1 rfl rfl dX7_heath_44 (Nat.le_of_ble_eq_true rfl) ⟨by decide, by decide⟩ ⟨by decide, by decide⟩ (fun L M hp => ?_)
    obtain ⟨C, D, F, I, K1, hr⟩ := hp
    have K := K.step K1 (by decide)
    have hN := hr
    refine g_aload_n X dX7_heath_47 rfl (j := 0) rfl ?_
    refine i_get X F 0 rfl rfl fk_X7_19 dX7_heath_48 rfl ?_
    refine i_get X F 3 rfl rfl fk_X7_93 dX7_heath_51 rfl ?_
    refine Go.gen (fun o3 => ?_)
    exact g_iret X hrt dX7_heath_54 (by decide) (by decide) ⟨C, D, F, I, K, hN⟩
  · skip
    refine g_bipush X dX7_heath_21 (v := -4) (by decide) ?_
    exact g_iret X hrt dX7_heath_23 (by decide) (by decide) ⟨C, D, F, I, K, hN⟩
set_option maxHeartbeats 4000000 in
set_option maxRecDepth 100000 in
theorem s_X7_refuses (l : Launch) (G : va_G) {cy : Nat → ClassId} {L : List Nat} {M : Nat → va_E} {a : Nat → Nat} {act : Nat → Bool} {C0 : Nat → Nat → Int32} {D0 : Nat → Nat → Int64} {R : Nat → Nat → Option Nat} (F : WI L M a act (ent cy a C0 D0 R)) (I : Inv C0) (p0 : Int32) (hN : NowOk (C0 3) (C0 27) (C0 29)) : MI l G cy yX7_refuses cX7_refuses 2 (some .int) 3 0 0 [.ref (a 0), .int p0] L M (fun r L2 M2 => ∃ C2 D2, WI L2 M2 a act (ent cy a C2 D2 R) ∧ Inv C2 ∧ Kp [] C0 D0 C2 D2 ∧ True) := by
  refine MI.of (own := RX7) rfl (by decide) (Nat.le_of_ble_eq_true rfl) ?_
  intro p e s m below meth c A X hrt hnm
  obtain ⟨C, D, hC0, hD0, F, I, K⟩ : ∃ C D, C = C0 ∧ D = D0 ∧ WI L M a act (ent cy a C D R) ∧ Inv C ∧ Kp [] C0 D0 C D := ⟨C0, D0, rfl, rfl, F, I, Kp.rf⟩
  rw [← hC0] at hN
  refine g_aload_n X dX7_refuses_0 rfl (j := 0) rfl ?_
  refine i_get X F 0 rfl rfl fk_X7_19 dX7_refuses_1 rfl ?_
  refine g_iload_n X dX7_refuses_4 rfl (j := 1) rfl ?_
  refine g_callVI X (s_X2_hasInn l G F I p0 ) lk_X7_99 (F.1 3 rfl).2 (F.1 3 rfl).1 rfl rfl dX7_refuses_5 (Nat.le_of_ble_eq_true rfl) ⟨by decide, by decide⟩ ⟨by decide, by decide⟩ (fun r1 L M hp => ?_)
  obtain ⟨C, D, F, I, K1, hr⟩ := hp
  have K := K.step K1 (by decide)
  have hN : NowOk (C 3) (C 27) (C 29) := by rw [(K1 3 (by decide)).1, (K1 27 (by decide)).1, (K1 29 (by decide)).1]; exact hN
  rcases hr with rfl | ⟨rfl, n2, hn2a, hn2b, en2⟩
  · skip
    refine g_if_eq X dX7_refuses_8 (tgt := 22) (by decide) (fun _ => ?_) (fun q => absurd (by decide) q)
    refine g_bipush X dX7_refuses_22 (v := -2) (by decide) ?_
    exact g_iret X hrt dX7_refuses_24 (by decide) (by decide) ⟨C, D, F, I, K, trivial⟩
  · skip
    subst en2
    refine g_if_eq X dX7_refuses_8 (tgt := 22) (by decide) (fun q => absurd q (by decide)) (fun _ => ?_)
    refine g_aload_n X dX7_refuses_11 rfl (j := 0) rfl ?_
    refine i_get X F 0 rfl rfl fk_X7_41 dX7_refuses_12 rfl ?_
    refine g_iload_n X dX7_refuses_15 rfl (j := 1) rfl ?_
    refine g_callVI X (s_X4_timesRefused_25 l G F I (nI n2) hN) lk_X7_189 (F.1 25 rfl).2 (F.1 25 rfl).1 rfl rfl dX7_refuses_16 (Nat.le_of_ble_eq_true rfl) ⟨by decide, by decide⟩ ⟨by decide, by decide⟩ (fun r3 L M hp => ?_)
    obtain ⟨C, D, F, I, K1, hr⟩ := hp
    have K := K.step K1 (by decide)
    have hN : NowOk (C 3) (C 27) (C 29) := by rw [(K1 3 (by decide)).1, (K1 27 (by decide)).1, (K1 29 (by decide)).1]; exact hN
    refine g_goto X dX7_refuses_19 (tgt := 24) (by decide) ?_
    exact g_iret X hrt dX7_refuses_24 (by decide) (by decide) ⟨C, D, F, I, K, trivial⟩
set_option maxHeartbeats 4000000 in
set_option maxRecDepth 100000 in
theorem s_X7_slotsWithRow (l : Launch) (G : va_G) {cy : Nat → ClassId} {L : List Nat} {M : Nat → va_E} {a : Nat → Nat} {act : Nat → Bool} {C0 : Nat → Nat → Int32} {D0 : Nat → Nat → Int64} {R : Nat → Nat → Option Nat} (F : WI L M a act (ent cy a C0 D0 R)) (I : Inv C0)  (HR : RA a act R) : MI l G cy yX7_slotsWithRow cX7_slotsWithRow 3 (some .int) 0 0 0 [.ref (a 0)] L M (fun r L2 M2 => ∃ C2 D2, WI L2 M2 a act (ent cy a C2 D2 R) ∧ Inv C2 ∧ Kp [] C0 D0 C2 D2 ∧ True) := by
  refine MI.of (own := RX7) rfl (by decide) (Nat.le_of_ble_eq_true rfl) ?_
  intro p e s m below meth c A X hrt hnm
  obtain ⟨C, D, hC0, hD0, F, I, K⟩ : ∃ C D, C = C0 ∧ D = D0 ∧ WI L M a act (ent cy a C D R) ∧ Inv C ∧ Kp [] C0 D0 C D := ⟨C0, D0, rfl, rfl, F, I, Kp.rf⟩
  refine g_iconst X dX7_slotsWithRow_0 (v := 0) (by decide) ?_
  refine g_istore_n X dX7_slotsWithRow_1 rfl (by decide) (lv2 := [(1, .int 0), (0, .ref (a 0))]) rfl ?_
  refine g_iconst X dX7_slotsWithRow_2 (v := 0) (by decide) ?_
  refine g_istore_n X dX7_slotsWithRow_3 rfl (by decide) (lv2 := [(2, .int 0), (1, .int 0), (0, .ref (a 0))]) rfl ?_
  refine g_iload_n X dX7_slotsWithRow_4 rfl (j := 0) rfl ?_
  refine g_iconst X dX7_slotsWithRow_5 (v := 4) (by decide) ?_
  refine g_icmp_ge X dX7_slotsWithRow_6 (tgt := 27) (by decide) (fun q => absurd q (by decide)) (fun _ => ?_)
  refine g_aload_n X dX7_slotsWithRow_9 rfl (j := 2) rfl ?_
  refine i_get X F 0 rfl rfl fk_X7_32 dX7_slotsWithRow_10 rfl ?_
  refine g_iload_n X dX7_slotsWithRow_13 rfl (j := 0) rfl ?_
  rcases (Bool.eq_false_or_eq_true (act 80)).symm with hA80 | hA80
  · skip
    refine i_aald X F 24 rfl (t0 := 5) rfl rfl dX7_slotsWithRow_14 (vp_in_iff.mpr (by decide)) (v := .null) (by show va_rf (R 24 0) = _; rw [HR.1 0 (by decide)]; rw [if_neg (by rw [hA80]; decide)]; rfl) ?_
    refine g_ifnullN X dX7_slotsWithRow_15 (tgt := 21) (by decide) ?_
    refine g_iinc X dX7_slotsWithRow_21 (j := 0) rfl (v := 1) (by decide) (by decide) (lv2 := [(2, .int 1), (1, .int 0), (0, .ref (a 0))]) rfl ?_
    refine g_goto X dX7_slotsWithRow_24 (tgt := 4) (by decide) ?_
    refine g_iload_n X dX7_slotsWithRow_4 rfl (j := 0) rfl ?_
    refine g_iconst X dX7_slotsWithRow_5 (v := 4) (by decide) ?_
    refine g_icmp_ge X dX7_slotsWithRow_6 (tgt := 27) (by decide) (fun q => absurd q (by decide)) (fun _ => ?_)
    refine g_aload_n X dX7_slotsWithRow_9 rfl (j := 2) rfl ?_
    refine i_get X F 0 rfl rfl fk_X7_32 dX7_slotsWithRow_10 rfl ?_
    refine g_iload_n X dX7_slotsWithRow_13 rfl (j := 0) rfl ?_
    rcases (Bool.eq_false_or_eq_true (act 82)).symm with hA82 | hA82
    · skip
      refine i_aald X F 24 rfl (t0 := 5) rfl rfl dX7_slotsWithRow_14 (vp_in_iff.mpr (by decide)) (v := .null) (by show va_rf (R 24 1) = _; rw [HR.1 1 (by decide)]; rw [if_neg (by rw [hA82]; decide)]; rfl) ?_
      refine g_ifnullN X dX7_slotsWithRow_15 (tgt := 21) (by decide) ?_
      refine g_iinc X dX7_slotsWithRow_21 (j := 0) rfl (v := 2) (by decide) (by decide) (lv2 := [(2, .int 2), (1, .int 0), (0, .ref (a 0))]) rfl ?_
      refine g_goto X dX7_slotsWithRow_24 (tgt := 4) (by decide) ?_
      refine g_iload_n X dX7_slotsWithRow_4 rfl (j := 0) rfl ?_
      refine g_iconst X dX7_slotsWithRow_5 (v := 4) (by decide) ?_
      refine g_icmp_ge X dX7_slotsWithRow_6 (tgt := 27) (by decide) (fun q => absurd q (by decide)) (fun _ => ?_)
      refine g_aload_n X dX7_slotsWithRow_9 rfl (j := 2) rfl ?_
      refine i_get X F 0 rfl rfl fk_X7_32 dX7_slotsWithRow_10 rfl ?_
      refine g_iload_n X dX7_slotsWithRow_13 rfl (j := 0) rfl ?_
      rcases (Bool.eq_false_or_eq_true (act 84)).symm with hA84 | hA84
      · skip
        refine i_aald X F 24 rfl (t0 := 5) rfl rfl dX7_slotsWithRow_14 (vp_in_iff.mpr (by decide)) (v := .null) (by show va_rf (R 24 2) = _; rw [HR.1 2 (by decide)]; rw [if_neg (by rw [hA84]; decide)]; rfl) ?_
        refine g_ifnullN X dX7_slotsWithRow_15 (tgt := 21) (by decide) ?_
        refine g_iinc X dX7_slotsWithRow_21 (j := 0) rfl (v := 3) (by decide) (by decide) (lv2 := [(2, .int 3), (1, .int 0), (0, .ref (a 0))]) rfl ?_
        refine g_goto X dX7_slotsWithRow_24 (tgt := 4) (by decide) ?_
        refine g_iload_n X dX7_slotsWithRow_4 rfl (j := 0) rfl ?_
        refine g_iconst X dX7_slotsWithRow_5 (v := 4) (by decide) ?_
        refine g_icmp_ge X dX7_slotsWithRow_6 (tgt := 27) (by decide) (fun q => absurd q (by decide)) (fun _ => ?_)
        refine g_aload_n X dX7_slotsWithRow_9 rfl (j := 2) rfl ?_
        refine i_get X F 0 rfl rfl fk_X7_32 dX7_slotsWithRow_10 rfl ?_
        refine g_iload_n X dX7_slotsWithRow_13 rfl (j := 0) rfl ?_
        rcases (Bool.eq_false_or_eq_true (act 86)).symm with hA86 | hA86
        · skip
          refine i_aald X F 24 rfl (t0 := 5) rfl rfl dX7_slotsWithRow_14 (vp_in_iff.mpr (by decide)) (v := .null) (by show va_rf (R 24 3) = _; rw [HR.1 3 (by decide)]; rw [if_neg (by rw [hA86]; decide)]; rfl) ?_
          refine g_ifnullN X dX7_slotsWithRow_15 (tgt := 21) (by decide) ?_
          refine g_iinc X dX7_slotsWithRow_21 (j := 0) rfl (v := 4) (by decide) (by decide) (lv2 := [(2, .int 4), (1, .int 0), (0, .ref (a 0))]) rfl ?_
          refine g_goto X dX7_slotsWithRow_24 (tgt := 4) (by decide) ?_
          refine g_iload_n X dX7_slotsWithRow_4 rfl (j := 0) rfl ?_
          refine g_iconst X dX7_slotsWithRow_5 (v := 4) (by decide) ?_
          refine g_icmp_ge X dX7_slotsWithRow_6 (tgt := 27) (by decide) (fun _ => ?_) (fun q => absurd (by decide) q)
          refine g_iload_n X dX7_slotsWithRow_27 rfl (j := 1) rfl ?_
          exact g_iret X hrt dX7_slotsWithRow_28 (by decide) (by decide) ⟨C, D, F, I, K, trivial⟩
        · skip
          have act86 : (baseact 86 || act 86) = true := by rw [hA86]; rfl
          have act87 : (baseact 87 || act 87) = true := by rw [((HR.2.2.1 3 (by decide)).trans hA86)]; rfl
          refine i_aald X F 24 rfl (t0 := 5) rfl rfl dX7_slotsWithRow_14 (vp_in_iff.mpr (by decide)) (v := .ref (a 86)) (by show va_rf (R 24 3) = _; rw [HR.1 3 (by decide)]; rw [if_pos hA86]; rfl) ?_
          refine g_ifnull X dX7_slotsWithRow_15 ?_
          refine g_iinc X dX7_slotsWithRow_18 (j := 1) rfl (v := 1) (by decide) (by decide) (lv2 := [(1, .int 1), (2, .int 3), (0, .ref (a 0))]) rfl ?_
          refine g_iinc X dX7_slotsWithRow_21 (j := 1) rfl (v := 4) (by decide) (by decide) (lv2 := [(2, .int 4), (1, .int 1), (0, .ref (a 0))]) rfl ?_
          refine g_goto X dX7_slotsWithRow_24 (tgt := 4) (by decide) ?_
          refine g_iload_n X dX7_slotsWithRow_4 rfl (j := 0) rfl ?_
          refine g_iconst X dX7_slotsWithRow_5 (v := 4) (by decide) ?_
          refine g_icmp_ge X dX7_slotsWithRow_6 (tgt := 27) (by decide) (fun _ => ?_) (fun q => absurd (by decide) q)
          refine g_iload_n X dX7_slotsWithRow_27 rfl (j := 1) rfl ?_
          exact g_iret X hrt dX7_slotsWithRow_28 (by decide) (by decide) ⟨C, D, F, I, K, trivial⟩
      · skip
        have act84 : (baseact 84 || act 84) = true := by rw [hA84]; rfl
        have act85 : (baseact 85 || act 85) = true := by rw [((HR.2.2.1 2 (by decide)).trans hA84)]; rfl
        refine i_aald X F 24 rfl (t0 := 5) rfl rfl dX7_slotsWithRow_14 (vp_in_iff.mpr (by decide)) (v := .ref (a 84)) (by show va_rf (R 24 2) = _; rw [HR.1 2 (by decide)]; rw [if_pos hA84]; rfl) ?_
        refine g_ifnull X dX7_slotsWithRow_15 ?_
        refine g_iinc X dX7_slotsWithRow_18 (j := 1) rfl (v := 1) (by decide) (by decide) (lv2 := [(1, .int 1), (2, .int 2), (0, .ref (a 0))]) rfl ?_
        refine g_iinc X dX7_slotsWithRow_21 (j := 1) rfl (v := 3) (by decide) (by decide) (lv2 := [(2, .int 3), (1, .int 1), (0, .ref (a 0))]) rfl ?_
        refine g_goto X dX7_slotsWithRow_24 (tgt := 4) (by decide) ?_
        refine g_iload_n X dX7_slotsWithRow_4 rfl (j := 0) rfl ?_
        refine g_iconst X dX7_slotsWithRow_5 (v := 4) (by decide) ?_
        refine g_icmp_ge X dX7_slotsWithRow_6 (tgt := 27) (by decide) (fun q => absurd q (by decide)) (fun _ => ?_)
        refine g_aload_n X dX7_slotsWithRow_9 rfl (j := 2) rfl ?_
        refine i_get X F 0 rfl rfl fk_X7_32 dX7_slotsWithRow_10 rfl ?_
        refine g_iload_n X dX7_slotsWithRow_13 rfl (j := 0) rfl ?_
        rcases (Bool.eq_false_or_eq_true (act 86)).symm with hA86 | hA86
        · skip
          refine i_aald X F 24 rfl (t0 := 5) rfl rfl dX7_slotsWithRow_14 (vp_in_iff.mpr (by decide)) (v := .null) (by show va_rf (R 24 3) = _; rw [HR.1 3 (by decide)]; rw [if_neg (by rw [hA86]; decide)]; rfl) ?_
          refine g_ifnullN X dX7_slotsWithRow_15 (tgt := 21) (by decide) ?_
          refine g_iinc X dX7_slotsWithRow_21 (j := 0) rfl (v := 4) (by decide) (by decide) (lv2 := [(2, .int 4), (1, .int 1), (0, .ref (a 0))]) rfl ?_
          refine g_goto X dX7_slotsWithRow_24 (tgt := 4) (by decide) ?_
          refine g_iload_n X dX7_slotsWithRow_4 rfl (j := 0) rfl ?_
          refine g_iconst X dX7_slotsWithRow_5 (v := 4) (by decide) ?_
          refine g_icmp_ge X dX7_slotsWithRow_6 (tgt := 27) (by decide) (fun _ => ?_) (fun q => absurd (by decide) q)
          refine g_iload_n X dX7_slotsWithRow_27 rfl (j := 1) rfl ?_
          exact g_iret X hrt dX7_slotsWithRow_28 (by decide) (by decide) ⟨C, D, F, I, K, trivial⟩
        · skip
          have act86 : (baseact 86 || act 86) = true := by rw [hA86]; rfl
          have act87 : (baseact 87 || act 87) = true := by rw [((HR.2.2.1 3 (by decide)).trans hA86)]; rfl
          refine i_aald X F 24 rfl (t0 := 5) rfl rfl dX7_slotsWithRow_14 (vp_in_iff.mpr (by decide)) (v := .ref (a 86)) (by show va_rf (R 24 3) = _; rw [HR.1 3 (by decide)]; rw [if_pos hA86]; rfl) ?_
          refine g_ifnull X dX7_slotsWithRow_15 ?_
          refine g_iinc X dX7_slotsWithRow_18 (j := 1) rfl (v := 2) (by decide) (by decide) (lv2 := [(1, .int 2), (2, .int 3), (0, .ref (a 0))]) rfl ?_
          refine g_iinc X dX7_slotsWithRow_21 (j := 1) rfl (v := 4) (by decide) (by decide) (lv2 := [(2, .int 4), (1, .int 2), (0, .ref (a 0))]) rfl ?_
          refine g_goto X dX7_slotsWithRow_24 (tgt := 4) (by decide) ?_
          refine g_iload_n X dX7_slotsWithRow_4 rfl (j := 0) rfl ?_
          refine g_iconst X dX7_slotsWithRow_5 (v := 4) (by decide) ?_
          refine g_icmp_ge X dX7_slotsWithRow_6 (tgt := 27) (by decide) (fun _ => ?_) (fun q => absurd (by decide) q)
          refine g_iload_n X dX7_slotsWithRow_27 rfl (j := 1) rfl ?_
          exact g_iret X hrt dX7_slotsWithRow_28 (by decide) (by decide) ⟨C, D, F, I, K, trivial⟩
    · skip
      have act82 : (baseact 82 || act 82) = true := by rw [hA82]; rfl
      have act83 : (baseact 83 || act 83) = true := by rw [((HR.2.2.1 1 (by decide)).trans hA82)]; rfl
      refine i_aald X F 24 rfl (t0 := 5) rfl rfl dX7_slotsWithRow_14 (vp_in_iff.mpr (by decide)) (v := .ref (a 82)) (by show va_rf (R 24 1) = _; rw [HR.1 1 (by decide)]; rw [if_pos hA82]; rfl) ?_
      refine g_ifnull X dX7_slotsWithRow_15 ?_
      refine g_iinc X dX7_slotsWithRow_18 (j := 1) rfl (v := 1) (by decide) (by decide) (lv2 := [(1, .int 1), (2, .int 1), (0, .ref (a 0))]) rfl ?_
      refine g_iinc X dX7_slotsWithRow_21 (j := 1) rfl (v := 2) (by decide) (by decide) (lv2 := [(2, .int 2), (1, .int 1), (0, .ref (a 0))]) rfl ?_
      refine g_goto X dX7_slotsWithRow_24 (tgt := 4) (by decide) ?_
      refine g_iload_n X dX7_slotsWithRow_4 rfl (j := 0) rfl ?_
      refine g_iconst X dX7_slotsWithRow_5 (v := 4) (by decide) ?_
      refine g_icmp_ge X dX7_slotsWithRow_6 (tgt := 27) (by decide) (fun q => absurd q (by decide)) (fun _ => ?_)
      refine g_aload_n X dX7_slotsWithRow_9 rfl (j := 2) rfl ?_
      refine i_get X F 0 rfl rfl fk_X7_32 dX7_slotsWithRow_10 rfl ?_
      refine g_iload_n X dX7_slotsWithRow_13 rfl (j := 0) rfl ?_
      rcases (Bool.eq_false_or_eq_true (act 84)).symm with hA84 | hA84
      · skip
        refine i_aald X F 24 rfl (t0 := 5) rfl rfl dX7_slotsWithRow_14 (vp_in_iff.mpr (by decide)) (v := .null) (by show va_rf (R 24 2) = _; rw [HR.1 2 (by decide)]; rw [if_neg (by rw [hA84]; decide)]; rfl) ?_
        refine g_ifnullN X dX7_slotsWithRow_15 (tgt := 21) (by decide) ?_
        refine g_iinc X dX7_slotsWithRow_21 (j := 0) rfl (v := 3) (by decide) (by decide) (lv2 := [(2, .int 3), (1, .int 1), (0, .ref (a 0))]) rfl ?_
        refine g_goto X dX7_slotsWithRow_24 (tgt := 4) (by decide) ?_
        refine g_iload_n X dX7_slotsWithRow_4 rfl (j := 0) rfl ?_
        refine g_iconst X dX7_slotsWithRow_5 (v := 4) (by decide) ?_
        refine g_icmp_ge X dX7_slotsWithRow_6 (tgt := 27) (by decide) (fun q => absurd q (by decide)) (fun _ => ?_)
        refine g_aload_n X dX7_slotsWithRow_9 rfl (j := 2) rfl ?_
        refine i_get X F 0 rfl rfl fk_X7_32 dX7_slotsWithRow_10 rfl ?_
        refine g_iload_n X dX7_slotsWithRow_13 rfl (j := 0) rfl ?_
        rcases (Bool.eq_false_or_eq_true (act 86)).symm with hA86 | hA86
        · skip
          refine i_aald X F 24 rfl (t0 := 5) rfl rfl dX7_slotsWithRow_14 (vp_in_iff.mpr (by decide)) (v := .null) (by show va_rf (R 24 3) = _; rw [HR.1 3 (by decide)]; rw [if_neg (by rw [hA86]; decide)]; rfl) ?_
          refine g_ifnullN X dX7_slotsWithRow_15 (tgt := 21) (by decide) ?_
          refine g_iinc X dX7_slotsWithRow_21 (j := 0) rfl (v := 4) (by decide) (by decide) (lv2 := [(2, .int 4), (1, .int 1), (0, .ref (a 0))]) rfl ?_
          refine g_goto X dX7_slotsWithRow_24 (tgt := 4) (by decide) ?_
          refine g_iload_n X dX7_slotsWithRow_4 rfl (j := 0) rfl ?_
          refine g_iconst X dX7_slotsWithRow_5 (v := 4) (by decide) ?_
          refine g_icmp_ge X dX7_slotsWithRow_6 (tgt := 27) (by decide) (fun _ => ?_) (fun q => absurd (by decide) q)
          refine g_iload_n X dX7_slotsWithRow_27 rfl (j := 1) rfl ?_
          exact g_iret X hrt dX7_slotsWithRow_28 (by decide) (by decide) ⟨C, D, F, I, K, trivial⟩
        · skip
          have act86 : (baseact 86 || act 86) = true := by rw [hA86]; rfl
          have act87 : (baseact 87 || act 87) = true := by rw [((HR.2.2.1 3 (by decide)).trans hA86)]; rfl
          refine i_aald X F 24 rfl (t0 := 5) rfl rfl dX7_slotsWithRow_14 (vp_in_iff.mpr (by decide)) (v := .ref (a 86)) (by show va_rf (R 24 3) = _; rw [HR.1 3 (by decide)]; rw [if_pos hA86]; rfl) ?_
          refine g_ifnull X dX7_slotsWithRow_15 ?_
          refine g_iinc X dX7_slotsWithRow_18 (j := 1) rfl (v := 2) (by decide) (by decide) (lv2 := [(1, .int 2), (2, .int 3), (0, .ref (a 0))]) rfl ?_
          refine g_iinc X dX7_slotsWithRow_21 (j := 1) rfl (v := 4) (by decide) (by decide) (lv2 := [(2, .int 4), (1, .int 2), (0, .ref (a 0))]) rfl ?_
          refine g_goto X dX7_slotsWithRow_24 (tgt := 4) (by decide) ?_
          refine g_iload_n X dX7_slotsWithRow_4 rfl (j := 0) rfl ?_
          refine g_iconst X dX7_slotsWithRow_5 (v := 4) (by decide) ?_
          refine g_icmp_ge X dX7_slotsWithRow_6 (tgt := 27) (by decide) (fun _ => ?_) (fun q => absurd (by decide) q)
          refine g_iload_n X dX7_slotsWithRow_27 rfl (j := 1) rfl ?_
          exact g_iret X hrt dX7_slotsWithRow_28 (by decide) (by decide) ⟨C, D, F, I, K, trivial⟩
      · skip
        have act84 : (baseact 84 || act 84) = true := by rw [hA84]; rfl
        have act85 : (baseact 85 || act 85) = true := by rw [((HR.2.2.1 2 (by decide)).trans hA84)]; rfl
        refine i_aald X F 24 rfl (t0 := 5) rfl rfl dX7_slotsWithRow_14 (vp_in_iff.mpr (by decide)) (v := .ref (a 84)) (by show va_rf (R 24 2) = _; rw [HR.1 2 (by decide)]; rw [if_pos hA84]; rfl) ?_
        refine g_ifnull X dX7_slotsWithRow_15 ?_
        refine g_iinc X dX7_slotsWithRow_18 (j := 1) rfl (v := 2) (by decide) (by decide) (lv2 := [(1, .int 2), (2, .int 2), (0, .ref (a 0))]) rfl ?_
        refine g_iinc X dX7_slotsWithRow_21 (j := 1) rfl (v := 3) (by decide) (by decide) (lv2 := [(2, .int 3), (1, .int 2), (0, .ref (a 0))]) rfl ?_
        refine g_goto X dX7_slotsWithRow_24 (tgt := 4) (by decide) ?_
        refine g_iload_n X dX7_slotsWithRow_4 rfl (j := 0) rfl ?_
        refine g_iconst X dX7_slotsWithRow_5 (v := 4) (by decide) ?_
        refine g_icmp_ge X dX7_slotsWithRow_6 (tgt := 27) (by decide) (fun q => absurd q (by decide)) (fun _ => ?_)
        refine g_aload_n X dX7_slotsWithRow_9 rfl (j := 2) rfl ?_
        refine i_get X F 0 rfl rfl fk_X7_32 dX7_slotsWithRow_10 rfl ?_
        refine g_iload_n X dX7_slotsWithRow_13 rfl (j := 0) rfl ?_
        rcases (Bool.eq_false_or_eq_true (act 86)).symm with hA86 | hA86
        · skip
          refine i_aald X F 24 rfl (t0 := 5) rfl rfl dX7_slotsWithRow_14 (vp_in_iff.mpr (by decide)) (v := .null) (by show va_rf (R 24 3) = _; rw [HR.1 3 (by decide)]; rw [if_neg (by rw [hA86]; decide)]; rfl) ?_
          refine g_ifnullN X dX7_slotsWithRow_15 (tgt := 21) (by decide) ?_
          refine g_iinc X dX7_slotsWithRow_21 (j := 0) rfl (v := 4) (by decide) (by decide) (lv2 := [(2, .int 4), (1, .int 2), (0, .ref (a 0))]) rfl ?_
          refine g_goto X dX7_slotsWithRow_24 (tgt := 4) (by decide) ?_
          refine g_iload_n X dX7_slotsWithRow_4 rfl (j := 0) rfl ?_
          refine g_iconst X dX7_slotsWithRow_5 (v := 4) (by decide) ?_
          refine g_icmp_ge X dX7_slotsWithRow_6 (tgt := 27) (by decide) (fun _ => ?_) (fun q => absurd (by decide) q)
          refine g_iload_n X dX7_slotsWithRow_27 rfl (j := 1) rfl ?_
          exact g_iret X hrt dX7_slotsWithRow_28 (by decide) (by decide) ⟨C, D, F, I, K, trivial⟩
        · skip
          have act86 : (baseact 86 || act 86) = true := by rw [hA86]; rfl
          have act87 : (baseact 87 || act 87) = true := by rw [((HR.2.2.1 3 (by decide)).trans hA86)]; rfl
          refine i_aald X F 24 rfl (t0 := 5) rfl rfl dX7_slotsWithRow_14 (vp_in_iff.mpr (by decide)) (v := .ref (a 86)) (by show va_rf (R 24 3) = _; rw [HR.1 3 (by decide)]; rw [if_pos hA86]; rfl) ?_
          refine g_ifnull X dX7_slotsWithRow_15 ?_
          refine g_iinc X dX7_slotsWithRow_18 (j := 1) rfl (v := 3) (by decide) (by decide) (lv2 := [(1, .int 3), (2, .int 3), (0, .ref (a 0))]) rfl ?_
          refine g_iinc X dX7_slotsWithRow_21 (j := 1) rfl (v := 4) (by decide) (by decide) (lv2 := [(2, .int 4), (1, .int 3), (0, .ref (a 0))]) rfl ?_
          refine g_goto X dX7_slotsWithRow_24 (tgt := 4) (by decide) ?_
          refine g_iload_n X dX7_slotsWithRow_4 rfl (j := 0) rfl ?_
          refine g_iconst X dX7_slotsWithRow_5 (v := 4) (by decide) ?_
          refine g_icmp_ge X dX7_slotsWithRow_6 (tgt := 27) (by decide) (fun _ => ?_) (fun q => absurd (by decide) q)
          refine g_iload_n X dX7_slotsWithRow_27 rfl (j := 1) rfl ?_
          exact g_iret X hrt dX7_slotsWithRow_28 (by decide) (by decide) ⟨C, D, F, I, K, trivial⟩
  · skip
    have act80 : (baseact 80 || act 80) = true := by rw [hA80]; rfl
    have act81 : (baseact 81 || act 81) = true := by rw [((HR.2.2.1 0 (by decide)).trans hA80)]; rfl
    refine i_aald X F 24 rfl (t0 := 5) rfl rfl dX7_slotsWithRow_14 (vp_in_iff.mpr (by decide)) (v := .ref (a 80)) (by show va_rf (R 24 0) = _; rw [HR.1 0 (by decide)]; rw [if_pos hA80]; rfl) ?_
    refine g_ifnull X dX7_slotsWithRow_15 ?_
    refine g_iinc X dX7_slotsWithRow_18 (j := 1) rfl (v := 1) (by decide) (by decide) (lv2 := [(1, .int 1), (2, .int 0), (0, .ref (a 0))]) rfl ?_
    refine g_iinc X dX7_slotsWithRow_21 (j := 1) rfl (v := 1) (by decide) (by decide) (lv2 := [(2, .int 1), (1, .int 1), (0, .ref (a 0))]) rfl ?_
    refine g_goto X dX7_slotsWithRow_24 (tgt := 4) (by decide) ?_
    refine g_iload_n X dX7_slotsWithRow_4 rfl (j := 0) rfl ?_
    refine g_iconst X dX7_slotsWithRow_5 (v := 4) (by decide) ?_
    refine g_icmp_ge X dX7_slotsWithRow_6 (tgt := 27) (by decide) (fun q => absurd q (by decide)) (fun _ => ?_)
    refine g_aload_n X dX7_slotsWithRow_9 rfl (j := 2) rfl ?_
    refine i_get X F 0 rfl rfl fk_X7_32 dX7_slotsWithRow_10 rfl ?_
    refine g_iload_n X dX7_slotsWithRow_13 rfl (j := 0) rfl ?_
    rcases (Bool.eq_false_or_eq_true (act 82)).symm with hA82 | hA82
    · skip
      refine i_aald X F 24 rfl (t0 := 5) rfl rfl dX7_slotsWithRow_14 (vp_in_iff.mpr (by decide)) (v := .null) (by show va_rf (R 24 1) = _; rw [HR.1 1 (by decide)]; rw [if_neg (by rw [hA82]; decide)]; rfl) ?_
      refine g_ifnullN X dX7_slotsWithRow_15 (tgt := 21) (by decide) ?_
      refine g_iinc X dX7_slotsWithRow_21 (j := 0) rfl (v := 2) (by decide) (by decide) (lv2 := [(2, .int 2), (1, .int 1), (0, .ref (a 0))]) rfl ?_
      refine g_goto X dX7_slotsWithRow_24 (tgt := 4) (by decide) ?_
      refine g_iload_n X dX7_slotsWithRow_4 rfl (j := 0) rfl ?_
      refine g_iconst X dX7_slotsWithRow_5 (v := 4) (by decide) ?_
      refine g_icmp_ge X dX7_slotsWithRow_6 (tgt := 27) (by decide) (fun q => absurd q (by decide)) (fun _ => ?_)
      refine g_aload_n X dX7_slotsWithRow_9 rfl (j := 2) rfl ?_
      refine i_get X F 0 rfl rfl fk_X7_32 dX7_slotsWithRow_10 rfl ?_
      refine g_iload_n X dX7_slotsWithRow_13 rfl (j := 0) rfl ?_
      rcases (Bool.eq_false_or_eq_true (act 84)).symm with hA84 | hA84
      · skip
        refine i_aald X F 24 rfl (t0 := 5) rfl rfl dX7_slotsWithRow_14 (vp_in_iff.mpr (by decide)) (v := .null) (by show va_rf (R 24 2) = _; rw [HR.1 2 (by decide)]; rw [if_neg (by rw [hA84]; decide)]; rfl) ?_
        refine g_ifnullN X dX7_slotsWithRow_15 (tgt := 21) (by decide) ?_
        refine g_iinc X dX7_slotsWithRow_21 (j := 0) rfl (v := 3) (by decide) (by decide) (lv2 := [(2, .int 3), (1, .int 1), (0, .ref (a 0))]) rfl ?_
        refine g_goto X dX7_slotsWithRow_24 (tgt := 4) (by decide) ?_
        refine g_iload_n X dX7_slotsWithRow_4 rfl (j := 0) rfl ?_
        refine g_iconst X dX7_slotsWithRow_5 (v := 4) (by decide) ?_
        refine g_icmp_ge X dX7_slotsWithRow_6 (tgt := 27) (by decide) (fun q => absurd q (by decide)) (fun _ => ?_)
        refine g_aload_n X dX7_slotsWithRow_9 rfl (j := 2) rfl ?_
        refine i_get X F 0 rfl rfl fk_X7_32 dX7_slotsWithRow_10 rfl ?_
        refine g_iload_n X dX7_slotsWithRow_13 rfl (j := 0) rfl ?_
        rcases (Bool.eq_false_or_eq_true (act 86)).symm with hA86 | hA86
        · skip
          refine i_aald X F 24 rfl (t0 := 5) rfl rfl dX7_slotsWithRow_14 (vp_in_iff.mpr (by decide)) (v := .null) (by show va_rf (R 24 3) = _; rw [HR.1 3 (by decide)]; rw [if_neg (by rw [hA86]; decide)]; rfl) ?_
          refine g_ifnullN X dX7_slotsWithRow_15 (tgt := 21) (by decide) ?_
          refine g_iinc X dX7_slotsWithRow_21 (j := 0) rfl (v := 4) (by decide) (by decide) (lv2 := [(2, .int 4), (1, .int 1), (0, .ref (a 0))]) rfl ?_
          refine g_goto X dX7_slotsWithRow_24 (tgt := 4) (by decide) ?_
          refine g_iload_n X dX7_slotsWithRow_4 rfl (j := 0) rfl ?_
          refine g_iconst X dX7_slotsWithRow_5 (v := 4) (by decide) ?_
          refine g_icmp_ge X dX7_slotsWithRow_6 (tgt := 27) (by decide) (fun _ => ?_) (fun q => absurd (by decide) q)
          refine g_iload_n X dX7_slotsWithRow_27 rfl (j := 1) rfl ?_
          exact g_iret X hrt dX7_slotsWithRow_28 (by decide) (by decide) ⟨C, D, F, I, K, trivial⟩
        · skip
          have act86 : (baseact 86 || act 86) = true := by rw [hA86]; rfl
          have act87 : (baseact 87 || act 87) = true := by rw [((HR.2.2.1 3 (by decide)).trans hA86)]; rfl
          refine i_aald X F 24 rfl (t0 := 5) rfl rfl dX7_slotsWithRow_14 (vp_in_iff.mpr (by decide)) (v := .ref (a 86)) (by show va_rf (R 24 3) = _; rw [HR.1 3 (by decide)]; rw [if_pos hA86]; rfl) ?_
          refine g_ifnull X dX7_slotsWithRow_15 ?_
          refine g_iinc X dX7_slotsWithRow_18 (j := 1) rfl (v := 2) (by decide) (by decide) (lv2 := [(1, .int 2), (2, .int 3), (0, .ref (a 0))]) rfl ?_
          refine g_iinc X dX7_slotsWithRow_21 (j := 1) rfl (v := 4) (by decide) (by decide) (lv2 := [(2, .int 4), (1, .int 2), (0, .ref (a 0))]) rfl ?_
          refine g_goto X dX7_slotsWithRow_24 (tgt := 4) (by decide) ?_
          refine g_iload_n X dX7_slotsWithRow_4 rfl (j := 0) rfl ?_
          refine g_iconst X dX7_slotsWithRow_5 (v := 4) (by decide) ?_
          refine g_icmp_ge X dX7_slotsWithRow_6 (tgt := 27) (by decide) (fun _ => ?_) (fun q => absurd (by decide) q)
          refine g_iload_n X dX7_slotsWithRow_27 rfl (j := 1) rfl ?_
          exact g_iret X hrt dX7_slotsWithRow_28 (by decide) (by decide) ⟨C, D, F, I, K, trivial⟩
      · skip
        have act84 : (baseact 84 || act 84) = true := by rw [hA84]; rfl
        have act85 : (baseact 85 || act 85) = true := by rw [((HR.2.2.1 2 (by decide)).trans hA84)]; rfl
        refine i_aald X F 24 rfl (t0 := 5) rfl rfl dX7_slotsWithRow_14 (vp_in_iff.mpr (by decide)) (v := .ref (a 84)) (by show va_rf (R 24 2) = _; rw [HR.1 2 (by decide)]; rw [if_pos hA84]; rfl) ?_
        refine g_ifnull X dX7_slotsWithRow_15 ?_
        refine g_iinc X dX7_slotsWithRow_18 (j := 1) rfl (v := 2) (by decide) (by decide) (lv2 := [(1, .int 2), (2, .int 2), (0, .ref (a 0))]) rfl ?_
        refine g_iinc X dX7_slotsWithRow_21 (j := 1) rfl (v := 3) (by decide) (by decide) (lv2 := [(2, .int 3), (1, .int 2), (0, .ref (a 0))]) rfl ?_
        refine g_goto X dX7_slotsWithRow_24 (tgt := 4) (by decide) ?_
        refine g_iload_n X dX7_slotsWithRow_4 rfl (j := 0) rfl ?_
        refine g_iconst X dX7_slotsWithRow_5 (v := 4) (by decide) ?_
        refine g_icmp_ge X dX7_slotsWithRow_6 (tgt := 27) (by decide) (fun q => absurd q (by decide)) (fun _ => ?_)
        refine g_aload_n X dX7_slotsWithRow_9 rfl (j := 2) rfl ?_
        refine i_get X F 0 rfl rfl fk_X7_32 dX7_slotsWithRow_10 rfl ?_
        refine g_iload_n X dX7_slotsWithRow_13 rfl (j := 0) rfl ?_
        rcases (Bool.eq_false_or_eq_true (act 86)).symm with hA86 | hA86
        · skip
          refine i_aald X F 24 rfl (t0 := 5) rfl rfl dX7_slotsWithRow_14 (vp_in_iff.mpr (by decide)) (v := .null) (by show va_rf (R 24 3) = _; rw [HR.1 3 (by decide)]; rw [if_neg (by rw [hA86]; decide)]; rfl) ?_
          refine g_ifnullN X dX7_slotsWithRow_15 (tgt := 21) (by decide) ?_
          refine g_iinc X dX7_slotsWithRow_21 (j := 0) rfl (v := 4) (by decide) (by decide) (lv2 := [(2, .int 4), (1, .int 2), (0, .ref (a 0))]) rfl ?_
          refine g_goto X dX7_slotsWithRow_24 (tgt := 4) (by decide) ?_
          refine g_iload_n X dX7_slotsWithRow_4 rfl (j := 0) rfl ?_
          refine g_iconst X dX7_slotsWithRow_5 (v := 4) (by decide) ?_
          refine g_icmp_ge X dX7_slotsWithRow_6 (tgt := 27) (by decide) (fun _ => ?_) (fun q => absurd (by decide) q)
          refine g_iload_n X dX7_slotsWithRow_27 rfl (j := 1) rfl ?_
          exact g_iret X hrt dX7_slotsWithRow_28 (by decide) (by decide) ⟨C, D, F, I, K, trivial⟩
        · skip
          have act86 : (baseact 86 || act 86) = true := by rw [hA86]; rfl
          have act87 : (baseact 87 || act 87) = true := by rw [((HR.2.2.1 3 (by decide)).trans hA86)]; rfl
          refine i_aald X F 24 rfl (t0 := 5) rfl rfl dX7_slotsWithRow_14 (vp_in_iff.mpr (by decide)) (v := .ref (a 86)) (by show va_rf (R 24 3) = _; rw [HR.1 3 (by decide)]; rw [if_pos hA86]; rfl) ?_
          refine g_ifnull X dX7_slotsWithRow_15 ?_
          refine g_iinc X dX7_slotsWithRow_18 (j := 1) rfl (v := 3) (by decide) (by decide) (lv2 := [(1, .int 3), (2, .int 3), (0, .ref (a 0))]) rfl ?_
          refine g_iinc X dX7_slotsWithRow_21 (j := 1) rfl (v := 4) (by decide) (by decide) (lv2 := [(2, .int 4), (1, .int 3), (0, .ref (a 0))]) rfl ?_
          refine g_goto X dX7_slotsWithRow_24 (tgt := 4) (by decide) ?_
          refine g_iload_n X dX7_slotsWithRow_4 rfl (j := 0) rfl ?_
          refine g_iconst X dX7_slotsWithRow_5 (v := 4) (by decide) ?_
          refine g_icmp_ge X dX7_slotsWithRow_6 (tgt := 27) (by decide) (fun _ => ?_) (fun q => absurd (by decide) q)
          refine g_iload_n X dX7_slotsWithRow_27 rfl (j := 1) rfl ?_
          exact g_iret X hrt dX7_slotsWithRow_28 (by decide) (by decide) ⟨C, D, F, I, K, trivial⟩
    · skip
      have act82 : (baseact 82 || act 82) = true := by rw [hA82]; rfl
      have act83 : (baseact 83 || act 83) = true := by rw [((HR.2.2.1 1 (by decide)).trans hA82)]; rfl
      refine i_aald X F 24 rfl (t0 := 5) rfl rfl dX7_slotsWithRow_14 (vp_in_iff.mpr (by decide)) (v := .ref (a 82)) (by show va_rf (R 24 1) = _; rw [HR.1 1 (by decide)]; rw [if_pos hA82]; rfl) ?_
      refine g_ifnull X dX7_slotsWithRow_15 ?_
      refine g_iinc X dX7_slotsWithRow_18 (j := 1) rfl (v := 2) (by decide) (by decide) (lv2 := [(1, .int 2), (2, .int 1), (0, .ref (a 0))]) rfl ?_
      refine g_iinc X dX7_slotsWithRow_21 (j := 1) rfl (v := 2) (by decide) (by decide) (lv2 := [(2, .int 2), (1, .int 2), (0, .ref (a 0))]) rfl ?_
      refine g_goto X dX7_slotsWithRow_24 (tgt := 4) (by decide) ?_
      refine g_iload_n X dX7_slotsWithRow_4 rfl (j := 0) rfl ?_
      refine g_iconst X dX7_slotsWithRow_5 (v := 4) (by decide) ?_
      refine g_icmp_ge X dX7_slotsWithRow_6 (tgt := 27) (by decide) (fun q => absurd q (by decide)) (fun _ => ?_)
      refine g_aload_n X dX7_slotsWithRow_9 rfl (j := 2) rfl ?_
      refine i_get X F 0 rfl rfl fk_X7_32 dX7_slotsWithRow_10 rfl ?_
      refine g_iload_n X dX7_slotsWithRow_13 rfl (j := 0) rfl ?_
      rcases (Bool.eq_false_or_eq_true (act 84)).symm with hA84 | hA84
      · skip
        refine i_aald X F 24 rfl (t0 := 5) rfl rfl dX7_slotsWithRow_14 (vp_in_iff.mpr (by decide)) (v := .null) (by show va_rf (R 24 2) = _; rw [HR.1 2 (by decide)]; rw [if_neg (by rw [hA84]; decide)]; rfl) ?_
        refine g_ifnullN X dX7_slotsWithRow_15 (tgt := 21) (by decide) ?_
        refine g_iinc X dX7_slotsWithRow_21 (j := 0) rfl (v := 3) (by decide) (by decide) (lv2 := [(2, .int 3), (1, .int 2), (0, .ref (a 0))]) rfl ?_
        refine g_goto X dX7_slotsWithRow_24 (tgt := 4) (by decide) ?_
        refine g_iload_n X dX7_slotsWithRow_4 rfl (j := 0) rfl ?_
        refine g_iconst X dX7_slotsWithRow_5 (v := 4) (by decide) ?_
        refine g_icmp_ge X dX7_slotsWithRow_6 (tgt := 27) (by decide) (fun q => absurd q (by decide)) (fun _ => ?_)
        refine g_aload_n X dX7_slotsWithRow_9 rfl (j := 2) rfl ?_
        refine i_get X F 0 rfl rfl fk_X7_32 dX7_slotsWithRow_10 rfl ?_
        refine g_iload_n X dX7_slotsWithRow_13 rfl (j := 0) rfl ?_
        rcases (Bool.eq_false_or_eq_true (act 86)).symm with hA86 | hA86
        · skip
          refine i_aald X F 24 rfl (t0 := 5) rfl rfl dX7_slotsWithRow_14 (vp_in_iff.mpr (by decide)) (v := .null) (by show va_rf (R 24 3) = _; rw [HR.1 3 (by decide)]; rw [if_neg (by rw [hA86]; decide)]; rfl) ?_
          refine g_ifnullN X dX7_slotsWithRow_15 (tgt := 21) (by decide) ?_
          refine g_iinc X dX7_slotsWithRow_21 (j := 0) rfl (v := 4) (by decide) (by decide) (lv2 := [(2, .int 4), (1, .int 2), (0, .ref (a 0))]) rfl ?_
          refine g_goto X dX7_slotsWithRow_24 (tgt := 4) (by decide) ?_
          refine g_iload_n X dX7_slotsWithRow_4 rfl (j := 0) rfl ?_
          refine g_iconst X dX7_slotsWithRow_5 (v := 4) (by decide) ?_
          refine g_icmp_ge X dX7_slotsWithRow_6 (tgt := 27) (by decide) (fun _ => ?_) (fun q => absurd (by decide) q)
          refine g_iload_n X dX7_slotsWithRow_27 rfl (j := 1) rfl ?_
          exact g_iret X hrt dX7_slotsWithRow_28 (by decide) (by decide) ⟨C, D, F, I, K, trivial⟩
        · skip
          have act86 : (baseact 86 || act 86) = true := by rw [hA86]; rfl
          have act87 : (baseact 87 || act 87) = true := by rw [((HR.2.2.1 3 (by decide)).trans hA86)]; rfl
          refine i_aald X F 24 rfl (t0 := 5) rfl rfl dX7_slotsWithRow_14 (vp_in_iff.mpr (by decide)) (v := .ref (a 86)) (by show va_rf (R 24 3) = _; rw [HR.1 3 (by decide)]; rw [if_pos hA86]; rfl) ?_
          refine g_ifnull X dX7_slotsWithRow_15 ?_
          refine g_iinc X dX7_slotsWithRow_18 (j := 1) rfl (v := 3) (by decide) (by decide) (lv2 := [(1, .int 3), (2, .int 3), (0, .ref (a 0))]) rfl ?_
          refine g_iinc X dX7_slotsWithRow_21 (j := 1) rfl (v := 4) (by decide) (by decide) (lv2 := [(2, .int 4), (1, .int 3), (0, .ref (a 0))]) rfl ?_
          refine g_goto X dX7_slotsWithRow_24 (tgt := 4) (by decide) ?_
          refine g_iload_n X dX7_slotsWithRow_4 rfl (j := 0) rfl ?_
          refine g_iconst X dX7_slotsWithRow_5 (v := 4) (by decide) ?_
          refine g_icmp_ge X dX7_slotsWithRow_6 (tgt := 27) (by decide) (fun _ => ?_) (fun q => absurd (by decide) q)
          refine g_iload_n X dX7_slotsWithRow_27 rfl (j := 1) rfl ?_
          exact g_iret X hrt dX7_slotsWithRow_28 (by decide) (by decide) ⟨C, D, F, I, K, trivial⟩
      · skip
        have act84 : (baseact 84 || act 84) = true := by rw [hA84]; rfl
        have act85 : (baseact 85 || act 85) = true := by rw [((HR.2.2.1 2 (by decide)).trans hA84)]; rfl
        refine i_aald X F 24 rfl (t0 := 5) rfl rfl dX7_slotsWithRow_14 (vp_in_iff.mpr (by decide)) (v := .ref (a 84)) (by show va_rf (R 24 2) = _; rw [HR.1 2 (by decide)]; rw [if_pos hA84]; rfl) ?_
        refine g_ifnull X dX7_slotsWithRow_15 ?_
        refine g_iinc X dX7_slotsWithRow_18 (j := 1) rfl (v := 3) (by decide) (by decide) (lv2 := [(1, .int 3), (2, .int 2), (0, .ref (a 0))]) rfl ?_
        refine g_iinc X dX7_slotsWithRow_21 (j := 1) rfl (v := 3) (by decide) (by decide) (lv2 := [(2, .int 3), (1, .int 3), (0, .ref (a 0))]) rfl ?_
        refine g_goto X dX7_slotsWithRow_24 (tgt := 4) (by decide) ?_
        refine g_iload_n X dX7_slotsWithRow_4 rfl (j := 0) rfl ?_
        refine g_iconst X dX7_slotsWithRow_5 (v := 4) (by decide) ?_
        refine g_icmp_ge X dX7_slotsWithRow_6 (tgt := 27) (by decide) (fun q => absurd q (by decide)) (fun _ => ?_)
        refine g_aload_n X dX7_slotsWithRow_9 rfl (j := 2) rfl ?_
        refine i_get X F 0 rfl rfl fk_X7_32 dX7_slotsWithRow_10 rfl ?_
        refine g_iload_n X dX7_slotsWithRow_13 rfl (j := 0) rfl ?_
        rcases (Bool.eq_false_or_eq_true (act 86)).symm with hA86 | hA86
        · skip
          refine i_aald X F 24 rfl (t0 := 5) rfl rfl dX7_slotsWithRow_14 (vp_in_iff.mpr (by decide)) (v := .null) (by show va_rf (R 24 3) = _; rw [HR.1 3 (by decide)]; rw [if_neg (by rw [hA86]; decide)]; rfl) ?_
          refine g_ifnullN X dX7_slotsWithRow_15 (tgt := 21) (by decide) ?_
          refine g_iinc X dX7_slotsWithRow_21 (j := 0) rfl (v := 4) (by decide) (by decide) (lv2 := [(2, .int 4), (1, .int 3), (0, .ref (a 0))]) rfl ?_
          refine g_goto X dX7_slotsWithRow_24 (tgt := 4) (by decide) ?_
          refine g_iload_n X dX7_slotsWithRow_4 rfl (j := 0) rfl ?_
          refine g_iconst X dX7_slotsWithRow_5 (v := 4) (by decide) ?_
          refine g_icmp_ge X dX7_slotsWithRow_6 (tgt := 27) (by decide) (fun _ => ?_) (fun q => absurd (by decide) q)
          refine g_iload_n X dX7_slotsWithRow_27 rfl (j := 1) rfl ?_
          exact g_iret X hrt dX7_slotsWithRow_28 (by decide) (by decide) ⟨C, D, F, I, K, trivial⟩
        · skip
          have act86 : (baseact 86 || act 86) = true := by rw [hA86]; rfl
          have act87 : (baseact 87 || act 87) = true := by rw [((HR.2.2.1 3 (by decide)).trans hA86)]; rfl
          refine i_aald X F 24 rfl (t0 := 5) rfl rfl dX7_slotsWithRow_14 (vp_in_iff.mpr (by decide)) (v := .ref (a 86)) (by show va_rf (R 24 3) = _; rw [HR.1 3 (by decide)]; rw [if_pos hA86]; rfl) ?_
          refine g_ifnull X dX7_slotsWithRow_15 ?_
          refine g_iinc X dX7_slotsWithRow_18 (j := 1) rfl (v := 4) (by decide) (by decide) (lv2 := [(1, .int 4), (2, .int 3), (0, .ref (a 0))]) rfl ?_
          refine g_iinc X dX7_slotsWithRow_21 (j := 1) rfl (v := 4) (by decide) (by decide) (lv2 := [(2, .int 4), (1, .int 4), (0, .ref (a 0))]) rfl ?_
          refine g_goto X dX7_slotsWithRow_24 (tgt := 4) (by decide) ?_
          refine g_iload_n X dX7_slotsWithRow_4 rfl (j := 0) rfl ?_
          refine g_iconst X dX7_slotsWithRow_5 (v := 4) (by decide) ?_
          refine g_icmp_ge X dX7_slotsWithRow_6 (tgt := 27) (by decide) (fun _ => ?_) (fun q => absurd (by decide) q)
          refine g_iload_n X dX7_slotsWithRow_27 rfl (j := 1) rfl ?_
          exact g_iret X hrt dX7_slotsWithRow_28 (by decide) (by decide) ⟨C, D, F, I, K, trivial⟩
set_option maxHeartbeats 4000000 in
set_option maxRecDepth 100000 in
theorem s_X7_count (l : Launch) (G : va_G) {cy : Nat → ClassId} {L : List Nat} {M : Nat → va_E} {a : Nat → Nat} {act : Nat → Bool} {C0 : Nat → Nat → Int32} {D0 : Nat → Nat → Int64} {R : Nat → Nat → Option Nat} (F : WI L M a act (ent cy a C0 D0 R)) (I : Inv C0) (p0 : Int32) (HR : RA a act R) : MI l G cy yX7_count cX7_count 2 (some .int) 1 0 0 [.ref (a 0), .int p0] L M (fun r L2 M2 => ∃ C2 D2, WI L2 M2 a act (ent cy a C2 D2 R) ∧ Inv C2 ∧ Kp [] C0 D0 C2 D2 ∧ True) := by
  refine MI.of (own := RX7) rfl (by decide) (Nat.le_of_ble_eq_true rfl) ?_
  intro p e s m below meth c A X hrt hnm
  obtain ⟨C, D, hC0, hD0, F, I, K⟩ : ∃ C D, C = C0 ∧ D = D0 ∧ WI L M a act (ent cy a C D R) ∧ Inv C ∧ Kp [] C0 D0 C D := ⟨C0, D0, rfl, rfl, F, I, Kp.rf⟩
  refine g_iload_n X dX7_count_0 rfl (j := 1) rfl ?_
  rcases sc12 p0 with h1 | h2 | rfl | rfl | rfl | rfl | rfl | rfl | rfl | rfl | rfl | rfl | rfl | rfl
  · skip
    refine g_tableOut X dX7_count_1 (Or.inl (by have z := Int32.lt_iff_toInt_lt.mp h1; have k : (0 : Int32).toInt = 0 := (by decide); omega)) (tgt := 160) (by decide) ?_
    refine g_iconst X dX7_count_160 (v := -1) (by decide) ?_
    exact g_iret X hrt dX7_count_161 (by decide) (by decide) ⟨C, D, F, I, K, trivial⟩
  · skip
    refine g_tableOut X dX7_count_1 (Or.inr (by have z := Int32.le_iff_toInt_le.mp h2; have k : (12 : Int32).toInt = 12 := (by decide); omega)) (tgt := 160) (by decide) ?_
    refine g_iconst X dX7_count_160 (v := -1) (by decide) ?_
    exact g_iret X hrt dX7_count_161 (by decide) (by decide) ⟨C, D, F, I, K, trivial⟩
  · skip
    refine g_tableIn X dX7_count_1 (by decide) (by decide) (off := 63) (by decide) (tgt := 64) (by decide) ?_
    refine g_aload_n X dX7_count_64 rfl (j := 0) rfl ?_
    refine i_get X F 0 rfl rfl fk_X7_19 dX7_count_65 rfl ?_
    obtain ⟨n3, hn3, en3⟩ := rg_nat ((I 3 1).1 rfl) (by decide)
    refine i_get X F 3 rfl rfl fk_X7_168 dX7_count_68 (v := .int (nI n3)) (congrArg (fun z => some (Value.int z)) en3) ?_
    exact g_iret X hrt dX7_count_71 (by decide) (by decide) ⟨C, D, F, I, K, trivial⟩
  · skip
    refine g_tableIn X dX7_count_1 (by decide) (by decide) (off := 71) (by decide) (tgt := 72) (by decide) ?_
    refine g_aload_n X dX7_count_72 rfl (j := 0) rfl ?_
    refine i_get X F 0 rfl rfl fk_X7_19 dX7_count_73 rfl ?_
    refine i_get X F 3 rfl rfl fk_X7_371 dX7_count_76 rfl ?_
    refine Go.gen (fun o4 => ?_)
    exact g_iret X hrt dX7_count_79 (by decide) (by decide) ⟨C, D, F, I, K, trivial⟩
  · skip
    refine g_tableIn X dX7_count_1 (by decide) (by decide) (off := 79) (by decide) (tgt := 80) (by decide) ?_
    refine g_aload_n X dX7_count_80 rfl (j := 0) rfl ?_
    refine i_get X F 0 rfl rfl fk_X7_19 dX7_count_81 rfl ?_
    refine i_get X F 3 rfl rfl fk_X7_374 dX7_count_84 rfl ?_
    refine Go.gen (fun o5 => ?_)
    exact g_iret X hrt dX7_count_87 (by decide) (by decide) ⟨C, D, F, I, K, trivial⟩
  · skip
    refine g_tableIn X dX7_count_1 (by decide) (by decide) (off := 87) (by decide) (tgt := 88) (by decide) ?_
    refine g_aload_n X dX7_count_88 rfl (j := 0) rfl ?_
    refine i_get X F 0 rfl rfl fk_X7_19 dX7_count_89 rfl ?_
    obtain ⟨n6, hn6, en6⟩ := rg_nat ((I 3 4).2.1 rfl) (by decide)
    refine i_get X F 3 rfl rfl fk_X7_377 dX7_count_92 (v := .int (nI n6)) (congrArg (fun z => some (Value.int z)) en6) ?_
    exact g_iret X hrt dX7_count_95 (by decide) (by decide) ⟨C, D, F, I, K, trivial⟩
  · skip
    refine g_tableIn X dX7_count_1 (by decide) (by decide) (off := 95) (by decide) (tgt := 96) (by decide) ?_
    refine g_aload_n X dX7_count_96 rfl (j := 0) rfl ?_
    refine i_get X F 0 rfl rfl fk_X7_19 dX7_count_97 rfl ?_
    obtain ⟨n7, hn7, en7⟩ := rg_nat ((I 3 5).2.2.1 rfl) (by decide)
    refine i_get X F 3 rfl rfl fk_X7_219 dX7_count_100 (v := .int (nI n7)) (congrArg (fun z => some (Value.int z)) en7) ?_
    exact g_iret X hrt dX7_count_103 (by decide) (by decide) ⟨C, D, F, I, K, trivial⟩
  · skip
    refine g_tableIn X dX7_count_1 (by decide) (by decide) (off := 103) (by decide) (tgt := 104) (by decide) ?_
    refine g_aload_n X dX7_count_104 rfl (j := 0) rfl ?_
    refine i_get X F 0 rfl rfl fk_X7_19 dX7_count_105 rfl ?_
    refine i_get X F 3 rfl rfl fk_X7_380 dX7_count_108 rfl ?_
    refine Go.gen (fun o8 => ?_)
    exact g_iret X hrt dX7_count_111 (by decide) (by decide) ⟨C, D, F, I, K, trivial⟩
  · skip
    refine g_tableIn X dX7_count_1 (by decide) (by decide) (off := 111) (by decide) (tgt := 112) (by decide) ?_
    refine g_aload_n X dX7_count_112 rfl (j := 0) rfl ?_
    refine i_get X F 0 rfl rfl fk_X7_19 dX7_count_113 rfl ?_
    refine i_get X F 3 rfl rfl fk_X7_383 dX7_count_116 rfl ?_
    refine Go.gen (fun o9 => ?_)
    exact g_iret X hrt dX7_count_119 (by decide) (by decide) ⟨C, D, F, I, K, trivial⟩
  · skip
    refine g_tableIn X dX7_count_1 (by decide) (by decide) (off := 119) (by decide) (tgt := 120) (by decide) ?_
    refine g_aload_n X dX7_count_120 rfl (j := 0) rfl ?_
    refine i_get X F 0 rfl rfl fk_X7_19 dX7_count_121 rfl ?_
    obtain ⟨n10, hn10, en10⟩ := rg_nat ((I 3 8).2.2.2 rfl) (by decide)
    refine i_get X F 3 rfl rfl fk_X7_276 dX7_count_124 (v := .int (nI n10)) (congrArg (fun z => some (Value.int z)) en10) ?_
    exact g_iret X hrt dX7_count_127 (by decide) (by decide) ⟨C, D, F, I, K, trivial⟩
  · skip
    refine g_tableIn X dX7_count_1 (by decide) (by decide) (off := 127) (by decide) (tgt := 128) (by decide) ?_
    refine g_aload_n X dX7_count_128 rfl (j := 0) rfl ?_
    refine i_get X F 0 rfl rfl fk_X7_19 dX7_count_129 rfl ?_
    refine i_get X F 3 rfl rfl fk_X7_344 dX7_count_132 rfl ?_
    obtain ⟨n11, hn11, en11⟩ := rg_nat (I 10 0 rfl) (by decide)
    refine i_get X F 10 rfl rfl fk_X7_354 dX7_count_135 (v := .int (nI n11)) (congrArg (fun z => some (Value.int z)) en11) ?_
    exact g_iret X hrt dX7_count_138 (by decide) (by decide) ⟨C, D, F, I, K, trivial⟩
  · skip
    refine g_tableIn X dX7_count_1 (by decide) (by decide) (off := 138) (by decide) (tgt := 139) (by decide) ?_
    refine g_aload_n X dX7_count_139 rfl (j := 0) rfl ?_
    refine i_get X F 0 rfl rfl fk_X7_19 dX7_count_140 rfl ?_
    refine i_get X F 3 rfl rfl fk_X7_93 dX7_count_143 rfl ?_
    refine Go.gen (fun o12 => ?_)
    exact g_iret X hrt dX7_count_146 (by decide) (by decide) ⟨C, D, F, I, K, trivial⟩
  · skip
    refine g_tableIn X dX7_count_1 (by decide) (by decide) (off := 146) (by decide) (tgt := 147) (by decide) ?_
    refine g_aload_n X dX7_count_147 rfl (j := 0) rfl ?_
    refine i_get X F 0 rfl rfl fk_X7_12 dX7_count_148 rfl ?_
    obtain ⟨n13, hn13, en13⟩ := rg_nat (I 1 1 (by decide)) (by decide)
    refine i_get X F 1 rfl rfl fk_X7_73 dX7_count_151 (v := .int (nI n13)) (congrArg (fun z => some (Value.int z)) en13) ?_
    exact g_iret X hrt dX7_count_154 (by decide) (by decide) ⟨C, D, F, I, K, trivial⟩
  · skip
    refine g_tableIn X dX7_count_1 (by decide) (by decide) (off := 154) (by decide) (tgt := 155) (by decide) ?_
    refine g_aload_n X dX7_count_155 rfl (j := 0) rfl ?_
    refine g_callVI X (s_X7_slotsWithRow l G F I  HR) lk_X7_386 (F.1 0 rfl).2 (F.1 0 rfl).1 rfl rfl dX7_count_156 (Nat.le_of_ble_eq_true rfl) ⟨by decide, by decide⟩ ⟨by decide, by decide⟩ (fun r14 L M hp => ?_)
    obtain ⟨C, D, F, I, K1, hr⟩ := hp
    have K := K.step K1 (by decide)
    exact g_iret X hrt dX7_count_159 (by decide) (by decide) ⟨C, D, F, I, K, trivial⟩
set_option maxHeartbeats 4000000 in
set_option maxRecDepth 100000 in
theorem s_X7_learnWorths (l : Launch) (G : va_G) {cy : Nat → ClassId} {L : List Nat} {M : Nat → va_E} {a : Nat → Nat} {act : Nat → Bool} {C0 : Nat → Nat → Int32} {D0 : Nat → Nat → Int64} {R : Nat → Nat → Option Nat} (F : WI L M a act (ent cy a C0 D0 R)) (I : Inv C0)   : MV l G cy yX7_learnWorths cX7_learnWorths 2 none 5 0 0 [.ref (a 0)] L M (fun L2 M2 => ∃ C2 D2, WI L2 M2 a act (ent cy a C2 D2 R) ∧ Inv C2 ∧ Kp [0, 31, 32, 33, 34, 35, 36, 41] C0 D0 C2 D2 ∧ True) := by
  refine MV.of (own := RX7) rfl (by decide) (Nat.le_of_ble_eq_true rfl) ?_
  intro p e s m below meth c A X hrt hnm
  obtain ⟨C, D, hC0, hD0, F, I, K⟩ : ∃ C D, C = C0 ∧ D = D0 ∧ WI L M a act (ent cy a C D R) ∧ Inv C ∧ Kp [0, 31, 32, 33, 34, 35, 36, 41] C0 D0 C D := ⟨C0, D0, rfl, rfl, F, I, Kp.rf⟩
  refine g_aload_n X dX7_learnWorths_0 rfl (j := 0) rfl ?_
  refine i_get X F 0 rfl rfl fk_X7_66 dX7_learnWorths_1 rfl ?_
  refine Go.gen (fun o1 => ?_)
  refine g_if_eq X dX7_learnWorths_4 (tgt := 8) (by decide) (fun q2 => ?_) (fun q2 => ?_)
  · skip
    subst q2
    refine g_iconst X dX7_learnWorths_8 (v := 0) (by decide) ?_
    refine g_istore_n X dX7_learnWorths_9 rfl (by decide) (lv2 := [(1, .int 0), (0, .ref (a 0))]) rfl ?_
    refine g_lv [0, 1] (lv2 := [(1, .int 0), (0, .ref (a 0))]) rfl ?_
    refine i_loop (mods := [0, 31, 32, 33, 34, 35, 36, 41]) (fun x : Nat => 128 - x) (fun x => [(1, .int (nI (x))), (0, .ref (a 0))]) (fun x C => 0 ≤ x ∧ x ≤ 128) (fun x L M C D F I K hP ih10 => ?_) ((0) : Nat) F I K ⟨by show _ ≤ _; omega, by show _ ≤ _; omega⟩
    obtain ⟨i10_1, rfl⟩ : ∃ z, z = x := ⟨_, rfl⟩
    obtain ⟨hi10_1a, hi10_1b⟩ := hP
    refine g_lv [0, 1] (lv2 := [(1, .int (nI i10_1)), (0, .ref (a 0))]) rfl ?_
    refine g_iload_n X dX7_learnWorths_10 rfl (j := 0) rfl ?_
    refine g_iconst X dX7_learnWorths_11 (v := 1) (by decide) ?_
    refine g_aload_n X dX7_learnWorths_12 rfl (j := 1) rfl ?_
    refine i_get X F 0 rfl rfl fk_X7_19 dX7_learnWorths_13 rfl ?_
    obtain ⟨n3, hn3, en3⟩ := rg_nat ((I 3 5).2.2.1 rfl) (by decide)
    refine i_get X F 3 rfl rfl fk_X7_219 dX7_learnWorths_16 (v := .int (nI n3)) (congrArg (fun z => some (Value.int z)) en3) ?_
    refine g_ishl X dX7_learnWorths_19 ?_
    refine Go.top (v := .int (nI (2 ^ n3))) (congrArg Value.int (shl_pow n3 (by omega))) ?_
    have hpow : 2 ^ n3 ≤ 2 ^ 7 := Nat.pow_le_pow_right (by decide) (by omega)
    have hpow7 : (2 : Nat) ^ 7 = 128 := rfl
    refine g_icmp_ge X dX7_learnWorths_20 (tgt := 40) (by decide) (fun q4 => ?_) (fun q4 => ?_)
    · skip
      have q4 : (2 ^ n3) ≤ i10_1 := (nI_leI (a := (2 ^ n3)) (b := i10_1) (by omega) (by omega)).mp q4
      refine g_aload_n X dX7_learnWorths_40 rfl (j := 1) rfl ?_
      refine g_iconst X dX7_learnWorths_41 (v := 1) (by decide) ?_
      refine i_put X F I 0 rfl rfl rfl fk_X7_66 dX7_learnWorths_42 rfl rfl (Nat.le_of_ble_eq_true rfl) trivial (fun M C F I K1 hC => ?_)
      have K := K.step K1 (by decide)
      exact g_vret X hrt dX7_learnWorths_45 (by decide) (by decide) ⟨C, D, F, I, K, trivial⟩
    · skip
      have q4 : ¬ (2 ^ n3) ≤ i10_1 := fun z => q4 ((nI_leI (a := (2 ^ n3)) (b := i10_1) (by omega) (by omega)).mpr z)
      refine g_aload_n X dX7_learnWorths_23 rfl (j := 1) rfl ?_
      refine i_get X F 0 rfl rfl fk_X7_62 dX7_learnWorths_24 rfl ?_
      refine g_iload_n X dX7_learnWorths_27 rfl (j := 0) rfl ?_
      refine g_aload_n X dX7_learnWorths_28 rfl (j := 1) rfl ?_
      refine g_iload_n X dX7_learnWorths_29 rfl (j := 0) rfl ?_
      refine g_callVI X (s_X7_worthOf l G F I (nI i10_1) ) lk_X7_310 (F.1 0 rfl).2 (F.1 0 rfl).1 rfl rfl dX7_learnWorths_30 (Nat.le_of_ble_eq_true rfl) ⟨by decide, by decide⟩ ⟨by decide, by decide⟩ (fun r5 L M hp => ?_)
      obtain ⟨C, D, F, I, K1, hr⟩ := hp
      have K := K.step K1 (by decide)
      refine i_iast X F I 41 rfl (fun _ => rfl) dX7_learnWorths_33 (vp_in_nI (by omega) (by decide)) trivial (fun M C F I K1 hC => ?_)
      have K := K.step K1 (by decide)
      refine g_iinc X dX7_learnWorths_34 (j := 0) rfl (v := nI (i10_1 + 1)) (nI_1 i10_1) (by decide) (lv2 := [(1, .int (nI (i10_1 + 1))), (0, .ref (a 0))]) rfl ?_
      refine g_goto X dX7_learnWorths_37 (tgt := 10) (by decide) ?_
      refine g_lv [0, 1] (lv2 := [(1, .int (nI (i10_1 + 1))), (0, .ref (a 0))]) rfl ?_
      exact ih10 ((i10_1 + 1)) L M C D F I K ⟨by omega, by omega⟩ (by show _ < _; omega)
  · skip
    exact g_vret X hrt dX7_learnWorths_7 (by decide) (by decide) ⟨C, D, F, I, K, trivial⟩
set_option maxHeartbeats 4000000 in
set_option maxRecDepth 100000 in
theorem s_X2_hasPost_s (l : Launch) (G : va_G) {cy : Nat → ClassId} {L : List Nat} {M : Nat → va_E} {a : Nat → Nat} {act : Nat → Bool} {C0 : Nat → Nat → Int32} {D0 : Nat → Nat → Int64} {R : Nat → Nat → Option Nat} (F : WI L M a act (ent cy a C0 D0 R)) (I : Inv C0) (p0 : Int32)  : MI l G cy yX2_hasPost cX2_hasPost 2 (some .boolean) 0 0 0 [.ref (a 3), .int p0] L M (fun r L2 M2 => ∃ C2 D2, WI L2 M2 a act (ent cy a C2 D2 R) ∧ Inv C2 ∧ Kp [] C0 D0 C2 D2 ∧ (r = 0 ∨ (r = 1 ∧ ∃ n : Nat, n ≤ 6 ∧ (n : Int) < (C2 3 5).toInt ∧ p0 = nI n))) := by
  refine MI.of (own := RX2) rfl (by decide) (Nat.le_of_ble_eq_true rfl) ?_
  intro p e s m below meth c A X hrt hnm
  obtain ⟨C, D, hC0, hD0, F, I, K⟩ : ∃ C D, C = C0 ∧ D = D0 ∧ WI L M a act (ent cy a C D R) ∧ Inv C ∧ Kp [] C0 D0 C D := ⟨C0, D0, rfl, rfl, F, I, Kp.rf⟩
  obtain ⟨n1, hn1, en1⟩ := rg_nat ((I 3 5).2.2.1 rfl) (by decide)
  rw [hC0] at en1
  refine g_iload_n X dX2_hasPost_0 rfl (j := 1) rfl ?_
  refine g_if_lt X dX2_hasPost_1 (tgt := 16) (by decide) (fun q2 => ?_) (fun q2 => ?_)
  · skip
    have q2t : p0.toInt < (0 : Int32).toInt := Int32.lt_iff_toInt_lt.mp q2
    have q2k : (0 : Int32).toInt = 0 := (by decide)
    have q2b := Int32.toInt_lt p0
    refine g_iconst X dX2_hasPost_16 (v := 0) (by decide) ?_
    exact g_zret X hrt rfl dX2_hasPost_17 (by decide) (by decide) ⟨C, D, F, I, K, Or.inl rfl⟩
  · skip
    have q2t : ¬ p0.toInt < (0 : Int32).toInt := fun z => q2 (Int32.lt_iff_toInt_lt.mpr z)
    have q2k : (0 : Int32).toInt = 0 := (by decide)
    have q2b := Int32.toInt_lt p0
    obtain ⟨n3, hn3, rfl⟩ := nI_of (x := p0) (fun z => by have z2 := Int32.lt_iff_toInt_lt.mp z; have z3 : (0 : Int32).toInt = 0 := (by decide); omega)
    rw [nI_toInt (by omega)] at q2t
    have tn3 := nI_toInt (n := n3) (by omega)
    refine g_iload_n X dX2_hasPost_4 rfl (j := 1) rfl ?_
    refine g_aload_n X dX2_hasPost_5 rfl (j := 0) rfl ?_
    refine i_get X F 3 rfl rfl fk_X2_27 dX2_hasPost_6 (v := .int (nI n1)) (congrArg (fun z => some (Value.int z)) ((congrFun (K 3 (by decide)).1 5).trans en1)) ?_
    refine g_icmp_ge X dX2_hasPost_9 (tgt := 16) (by decide) (fun q4 => ?_) (fun q4 => ?_)
    · skip
      have q4 : n1 ≤ n3 := (nI_leI (a := n1) (b := n3) (by omega) (by omega)).mp q4
      refine g_iconst X dX2_hasPost_16 (v := 0) (by decide) ?_
      exact g_zret X hrt rfl dX2_hasPost_17 (by decide) (by decide) ⟨C, D, F, I, K, Or.inl rfl⟩
    · skip
      have q4 : ¬ n1 ≤ n3 := fun z => q4 ((nI_leI (a := n1) (b := n3) (by omega) (by omega)).mpr z)
      refine g_iconst X dX2_hasPost_12 (v := 1) (by decide) ?_
      refine g_goto X dX2_hasPost_13 (tgt := 17) (by decide) ?_
      exact g_zret X hrt rfl dX2_hasPost_17 (by decide) (by decide) ⟨C, D, F, I, K, Or.inr ⟨rfl, n3, by omega, by rw [(K 3 (by decide)).1, en1, nI_toInt (by omega)]; omega, rfl⟩⟩
set_option maxHeartbeats 4000000 in
set_option maxRecDepth 100000 in
theorem s_X7_share (l : Launch) (G : va_G) {cy : Nat → ClassId} {L : List Nat} {M : Nat → va_E} {a : Nat → Nat} {act : Nat → Bool} {C0 : Nat → Nat → Int32} {D0 : Nat → Nat → Int64} {R : Nat → Nat → Option Nat} (F : WI L M a act (ent cy a C0 D0 R)) (I : Inv C0) (p0 : Int32) (p1 : Int32)  : MI l G cy yX7_share cX7_share 7 (some .int) 6 0 0 [.ref (a 0), .int p0, .int p1] L M (fun r L2 M2 => ∃ C2 D2, WI L2 M2 a act (ent cy a C2 D2 R) ∧ Inv C2 ∧ Kp [0, 31, 32, 33, 34, 35, 36, 41] C0 D0 C2 D2 ∧ True) := by
  refine MI.of (own := RX7) rfl (by decide) (Nat.le_of_ble_eq_true rfl) ?_
  intro p e s m below meth c A X hrt hnm
  obtain ⟨C, D, hC0, hD0, F, I, K⟩ : ∃ C D, C = C0 ∧ D = D0 ∧ WI L M a act (ent cy a C D R) ∧ Inv C ∧ Kp [0, 31, 32, 33, 34, 35, 36, 41] C0 D0 C D := ⟨C0, D0, rfl, rfl, F, I, Kp.rf⟩
  obtain ⟨n1, hn1, en1⟩ := rg_nat ((I 3 5).2.2.1 rfl) (by decide)
  rw [hC0] at en1
  refine g_aload_n X dX7_share_0 rfl (j := 0) rfl ?_
  refine i_get X F 0 rfl rfl fk_X7_19 dX7_share_1 rfl ?_
  refine g_iload_n X dX7_share_4 rfl (j := 1) rfl ?_
  refine g_callVI X (s_X2_hasPost_s l G F I p0 ) lk_X7_106 (F.1 3 rfl).2 (F.1 3 rfl).1 rfl rfl dX7_share_5 (Nat.le_of_ble_eq_true rfl) ⟨by decide, by decide⟩ ⟨by decide, by decide⟩ (fun r2 L M hp => ?_)
  obtain ⟨C, D, F, I, K1, hr⟩ := hp
  have K := K.step K1 (by decide)
  rcases hr with rfl | ⟨rfl, n3, hn3, hltn3, en3⟩
  · skip
    refine g_if_eq X dX7_share_8 (tgt := 18) (by decide) (fun _ => ?_) (fun q => absurd (by decide) q)
    refine g_sipush X dX7_share_18 (v := -1000) (by decide) ?_
    exact g_iret X hrt dX7_share_21 (by decide) (by decide) ⟨C, D, F, I, K, trivial⟩
  · skip
    subst en3
    rw [(K 3 (by decide)).1, en1, nI_toInt (by omega)] at hltn3
    refine g_if_eq X dX7_share_8 (tgt := 18) (by decide) (fun q => absurd q (by decide)) (fun _ => ?_)
    refine g_iload_n X dX7_share_11 rfl (j := 2) rfl ?_
    refine g_callSI X (s_X7_isEither l G F I p1 ) lk_X7_125 rfl rfl dX7_share_12 (Nat.le_of_ble_eq_true rfl) ⟨by decide, by decide⟩ ⟨by decide, by decide⟩ (fun r4 L M hp => ?_)
    obtain ⟨C, D, F, I, K1, hr⟩ := hp
    have K := K.step K1 (by decide)
    rcases hr with rfl | rfl
    · skip
      refine g_if_ne X dX7_share_15 (tgt := 22) (by decide) (fun q => absurd (by decide) q) (fun _ => ?_)
      refine g_sipush X dX7_share_18 (v := -1000) (by decide) ?_
      exact g_iret X hrt dX7_share_21 (by decide) (by decide) ⟨C, D, F, I, K, trivial⟩
    · skip
      refine g_if_ne X dX7_share_15 (tgt := 22) (by decide) (fun _ => ?_) (fun q => absurd q (by decide))
      refine g_aload_n X dX7_share_22 rfl (j := 0) rfl ?_
      refine g_callVV X (s_X7_learnWorths l G F I  ) lk_X7_313 (F.1 0 rfl).2 (F.1 0 rfl).1 rfl rfl dX7_share_23 (Nat.le_of_ble_eq_true rfl) ⟨by decide, by decide⟩ ⟨by decide, by decide⟩ (fun L M hp => ?_)
      obtain ⟨C, D, F, I, K1, hr⟩ := hp
      have K := K.step K1 (by decide)
      refine g_iconst X dX7_share_26 (v := 0) (by decide) ?_
      refine g_istore_n X dX7_share_27 rfl (by decide) (lv2 := [(3, .int 0), (0, .ref (a 0)), (1, .int (nI n3)), (2, .int p1)]) rfl ?_
      refine g_iconst X dX7_share_28 (v := 0) (by decide) ?_
      refine g_istore X dX7_share_29 (by decide) (lv2 := [(4, .int 0), (3, .int 0), (0, .ref (a 0)), (1, .int (nI n3)), (2, .int p1)]) rfl ?_
      refine g_lv [0, 1, 2, 3, 4] (lv2 := [(4, .int 0), (3, .int 0), (0, .ref (a 0)), (1, .int (nI n3)), (2, .int p1)]) rfl ?_
      refine i_loop (mods := [0, 31, 32, 33, 34, 35, 36, 41]) (fun x : Nat × Int32 => 128 - x.1) (fun x => [(4, .int (nI (x.1))), (3, .int (x.2)), (0, .ref (a 0)), (1, .int (nI n3)), (2, .int p1)]) (fun x C => 0 ≤ x.1 ∧ x.1 ≤ 128) (fun x L M C D F I K hP ih31 => ?_) ((0, 0) : Nat × Int32) F I K ⟨by show _ ≤ _; omega, by show _ ≤ _; omega⟩
      rcases x with ⟨i31_4, v31_3⟩
      obtain ⟨hi31_4a, hi31_4b⟩ := hP
      refine g_lv [0, 1, 2, 3, 4] (lv2 := [(4, .int (nI i31_4)), (3, .int v31_3), (0, .ref (a 0)), (1, .int (nI n3)), (2, .int p1)]) rfl ?_
      refine g_iload X dX7_share_31 (j := 0) rfl ?_
      refine g_iconst X dX7_share_33 (v := 1) (by decide) ?_
      refine g_aload_n X dX7_share_34 rfl (j := 2) rfl ?_
      refine i_get X F 0 rfl rfl fk_X7_19 dX7_share_35 rfl ?_
      refine i_get X F 3 rfl rfl fk_X7_219 dX7_share_38 (v := .int (nI n1)) (congrArg (fun z => some (Value.int z)) ((congrFun (K 3 (by decide)).1 5).trans en1)) ?_
      refine g_ishl X dX7_share_41 ?_
      refine Go.top (v := .int (nI (2 ^ n1))) (congrArg Value.int (shl_pow n1 (by omega))) ?_
      have hpow : 2 ^ n1 ≤ 2 ^ 7 := Nat.pow_le_pow_right (by decide) (by omega)
      have hpow7 : (2 : Nat) ^ 7 = 128 := rfl
      refine g_icmp_ge X dX7_share_42 (tgt := 117) (by decide) (fun q5 => ?_) (fun q5 => ?_)
      · skip
        have q5 : (2 ^ n1) ≤ i31_4 := (nI_leI (a := (2 ^ n1)) (b := i31_4) (by omega) (by omega)).mp q5
        refine g_iload_n X dX7_share_117 rfl (j := 1) rfl ?_
        refine g_i2l X dX7_share_118 rfl ?_
        refine g_facs X wd601 dX7_share_119 ?_
        refine g_aload_n X dX7_share_122 rfl (j := 2) rfl ?_
        refine i_get X F 0 rfl rfl fk_X7_19 dX7_share_123 rfl ?_
        refine i_get X F 3 rfl rfl fk_X7_219 dX7_share_126 (v := .int (nI n1)) (congrArg (fun z => some (Value.int z)) ((congrFun (K 3 (by decide)).1 5).trans en1)) ?_
        refine g_fact X (vp_in_nI (by omega) (by decide)) rfl dX7_share_129 ?_
        refine Go.gen (fun o6 => ?_)
        refine g_i2l X dX7_share_130 rfl ?_
        refine g_iload_n X dX7_share_131 rfl (j := 4) rfl ?_
        refine g_callSJ X (s_X7_partOfFraction l G F I ((Int32.toInt64 v31_3)) ((Int32.toInt64 o6)) p1 ) lk_X7_319 rfl rfl dX7_share_132 (Nat.le_of_ble_eq_true rfl) ⟨by decide, by decide⟩ ⟨by decide, by decide⟩ (fun r7 L M hp => ?_)
        obtain ⟨C, D, F, I, K1, hr⟩ := hp
        have K := K.step K1 (by decide)
        refine g_l2i X dX7_share_135 rfl ?_
        refine Go.gen (fun o8 => ?_)
        exact g_iret X hrt dX7_share_136 (by decide) (by decide) ⟨C, D, F, I, K, trivial⟩
      · skip
        have q5 : ¬ (2 ^ n1) ≤ i31_4 := fun z => q5 ((nI_leI (a := (2 ^ n1)) (b := i31_4) (by omega) (by omega)).mpr z)
        refine g_iload X dX7_share_45 (j := 0) rfl ?_
        refine g_iload_n X dX7_share_47 rfl (j := 3) rfl ?_
        refine g_ishr X dX7_share_48 ?_
        refine g_iconst X dX7_share_49 (v := 1) (by decide) ?_
        refine g_iand X dX7_share_50 ?_
        refine g_if_ne X dX7_share_51 (tgt := 111) (by decide) (fun _ => ?_) (fun q9 => ?_)
        · skip
          refine g_iinc X dX7_share_111 (j := 0) rfl (v := nI (i31_4 + 1)) (nI_1 i31_4) (by decide) (lv2 := [(4, .int (nI (i31_4 + 1))), (3, .int v31_3), (0, .ref (a 0)), (1, .int (nI n3)), (2, .int p1)]) rfl ?_
          refine g_goto X dX7_share_114 (tgt := 31) (by decide) ?_
          refine g_lv [0, 1, 2, 3, 4] (lv2 := [(4, .int (nI (i31_4 + 1))), (3, .int v31_3), (0, .ref (a 0)), (1, .int (nI n3)), (2, .int p1)]) rfl ?_
          exact ih31 ((i31_4 + 1), v31_3) L M C D F I K ⟨by omega, by omega⟩ (by show _ < _; omega)
        · skip
          refine g_iload X dX7_share_54 (j := 0) rfl ?_
          refine g_callSI X (s_J6_bitCount_0f7a4 l G F I (nI i31_4) ) lk_X7_271 rfl rfl dX7_share_56 (Nat.le_of_ble_eq_true rfl) ⟨by decide, by decide⟩ ⟨by decide, by decide⟩ (fun r10 L M hp => ?_)
          obtain ⟨C, D, F, I, K1, hr⟩ := hp
          have K := K.step K1 (by decide)
          have hbcr10 := hr
          obtain ⟨n11, hn11, en11⟩ := bc_le (n := n1) (t := i31_4) (q := n3) (by omega) (by omega) (by omega) q9
          rw [en11] at hbcr10
          subst hbcr10
          refine g_istore X dX7_share_59 (by decide) (lv2 := [(5, .int (nI n11)), (4, .int (nI i31_4)), (3, .int v31_3), (0, .ref (a 0)), (1, .int (nI n3)), (2, .int p1)]) rfl ?_
          refine g_facs X wd601 dX7_share_61 ?_
          refine g_iload X dX7_share_64 (j := 0) rfl ?_
          refine g_fact X (vp_in_nI (by omega) (by decide)) rfl dX7_share_66 ?_
          refine Go.gen (fun o12 => ?_)
          refine g_facs X wd601 dX7_share_67 ?_
          refine g_aload_n X dX7_share_70 rfl (j := 3) rfl ?_
          refine i_get X F 0 rfl rfl fk_X7_19 dX7_share_71 rfl ?_
          refine i_get X F 3 rfl rfl fk_X7_219 dX7_share_74 (v := .int (nI n1)) (congrArg (fun z => some (Value.int z)) ((congrFun (K 3 (by decide)).1 5).trans en1)) ?_
          refine g_iconst X dX7_share_77 (v := 1) (by decide) ?_
          refine g_isub X dX7_share_78 ?_
          refine Go.top (v := .int (nI (n1 - 1))) (congrArg Value.int (pk_sub (a := n1) (b := 1) (by omega))) ?_
          refine g_iload X dX7_share_79 (j := 0) rfl ?_
          refine g_isub X dX7_share_81 ?_
          refine Go.top (v := .int (nI ((n1 - 1) - n11))) (congrArg Value.int (pk_sub (a := (n1 - 1)) (b := n11) (by omega))) ?_
          refine g_fact X (vp_in_nI (by omega) (by decide)) rfl dX7_share_82 ?_
          refine Go.gen (fun o13 => ?_)
          refine g_imul X dX7_share_83 ?_
          refine Go.gen (fun o14 => ?_)
          refine g_istore X dX7_share_84 (by decide) (lv2 := [(6, .int o14), (5, .int (nI n11)), (4, .int (nI i31_4)), (3, .int v31_3), (0, .ref (a 0)), (1, .int (nI n3)), (2, .int p1)]) rfl ?_
          refine g_iload_n X dX7_share_86 rfl (j := 3) rfl ?_
          refine g_iload X dX7_share_87 (j := 0) rfl ?_
          refine g_aload_n X dX7_share_89 rfl (j := 4) rfl ?_
          refine i_get X F 0 rfl rfl fk_X7_62 dX7_share_90 rfl ?_
          refine g_iload X dX7_share_93 (j := 2) rfl ?_
          refine g_iconst X dX7_share_95 (v := 1) (by decide) ?_
          refine g_iload_n X dX7_share_96 rfl (j := 5) rfl ?_
          refine g_ishl X dX7_share_97 ?_
          refine g_ior X dX7_share_98 ?_
          obtain ⟨n15, hn15, en15⟩ := or_pow (t := i31_4) (q := n3) (by omega) (by omega)
          refine Go.top (v := .int (nI n15)) (congrArg Value.int en15) ?_
          refine i_iald X F 41 rfl rfl dX7_share_99 (vp_in_nI (by omega) (by decide)) rfl ?_
          refine Go.gen (fun o16 => ?_)
          refine g_aload_n X dX7_share_100 rfl (j := 4) rfl ?_
          refine i_get X F 0 rfl rfl fk_X7_62 dX7_share_101 rfl ?_
          refine g_iload X dX7_share_104 (j := 2) rfl ?_
          refine i_iald X F 41 rfl rfl dX7_share_106 (vp_in_nI (by omega) (by decide)) rfl ?_
          refine Go.gen (fun o17 => ?_)
          refine g_isub X dX7_share_107 ?_
          refine Go.gen (fun o18 => ?_)
          refine g_imul X dX7_share_108 ?_
          refine Go.gen (fun o19 => ?_)
          refine g_iadd X dX7_share_109 ?_
          refine Go.gen (fun o20 => ?_)
          refine g_istore_n X dX7_share_110 rfl (by decide) (lv2 := [(3, .int o20), (6, .int o14), (5, .int (nI n11)), (4, .int (nI i31_4)), (0, .ref (a 0)), (1, .int (nI n3)), (2, .int p1)]) rfl ?_
          refine g_iinc X dX7_share_111 (j := 3) rfl (v := nI (i31_4 + 1)) (nI_1 i31_4) (by decide) (lv2 := [(4, .int (nI (i31_4 + 1))), (3, .int o20), (6, .int o14), (5, .int (nI n11)), (0, .ref (a 0)), (1, .int (nI n3)), (2, .int p1)]) rfl ?_
          refine g_goto X dX7_share_114 (tgt := 31) (by decide) ?_
          refine g_lv [0, 1, 4, 5, 6] (lv2 := [(4, .int (nI (i31_4 + 1))), (3, .int o20), (0, .ref (a 0)), (1, .int (nI n3)), (2, .int p1)]) rfl ?_
          exact ih31 ((i31_4 + 1), o20) L M C D F I K ⟨by omega, by omega⟩ (by show _ < _; omega)
