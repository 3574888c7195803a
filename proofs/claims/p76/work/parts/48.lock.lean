set_option maxHeartbeats 4000000 in
set_option maxRecDepth 100000 in
theorem s_X7_back_x (l : Launch) (G : va_G) {cy : Nat → ClassId} {L : List Nat} {M : Nat → va_E} {a : Nat → Nat} {act : Nat → Bool} {C0 : Nat → Nat → Int32} {D0 : Nat → Nat → Int64} {R : Nat → Nat → Option Nat} (F : WI L M a act (ent cy a C0 D0 R)) (I : Inv C0) (p0 : Int32) (hN : NowOk (C0 3) (C0 27) (C0 29)) (HR : RA a act R) : MI l G cy yX7_back cX7_back 2 (some .int) 5 0 0 [.ref (a 0), .int p0] L M (fun r L2 M2 => ∃ C2 D2, WI L2 M2 a act (ent cy a C2 D2 R) ∧ Inv C2 ∧ Kp [0, 3, 4, 5, 6, 7, 8, 9, 10, 11, 12, 25, 26, 27, 28, 29, 30, 39] C0 D0 C2 D2 ∧ NowOk (C2 3) (C2 27) (C2 29) ∧ r = bkS p0 (fun c => act (50 + 10 * c))) := by
  refine MI.of (own := RX7) rfl (by decide) (Nat.le_of_ble_eq_true rfl) ?_
  intro p e s m below meth c A X hrt hnm
  obtain ⟨C, D, hC0, hD0, F, I, K⟩ : ∃ C D, C = C0 ∧ D = D0 ∧ WI L M a act (ent cy a C D R) ∧ Inv C ∧ Kp [0, 3, 4, 5, 6, 7, 8, 9, 10, 11, 12, 25, 26, 27, 28, 29, 30, 39] C0 D0 C D := ⟨C0, D0, rfl, rfl, F, I, Kp.rf⟩
  rw [← hC0] at hN
  rcases sc3 p0 with hx1 | hx1 | rfl | rfl | rfl
  · skip
    have hno1 : p0 < 0 ∨ 3 ≤ p0 := Or.inl hx1
    refine g_iload_n X dX7_back_0 rfl (j := 1) rfl ?_
    refine g_if_lt X dX7_back_1 (tgt := 9) (by decide) (fun q2 => ?_) (fun q2 => ?_)
    · skip
      have q2t : p0.toInt < (0 : Int32).toInt := Int32.lt_iff_toInt_lt.mp q2
      have q2k : (0 : Int32).toInt = 0 := (by decide)
      have q2b := Int32.toInt_lt p0
      refine g_bipush X dX7_back_9 (v := -2) (by decide) ?_
      exact g_iret X hrt dX7_back_11 (by decide) (by decide) ⟨C, D, F, I, K, hN, (bk_out hno1)⟩
    · skip
      have q2t : ¬ p0.toInt < (0 : Int32).toInt := fun z => q2 (Int32.lt_iff_toInt_lt.mpr z)
      have q2k : (0 : Int32).toInt = 0 := (by decide)
      have q2b := Int32.toInt_lt p0
      obtain ⟨n3, hn3, rfl⟩ := nI_of (x := p0) (fun z => by have z2 := Int32.lt_iff_toInt_lt.mp z; have z3 : (0 : Int32).toInt = 0 := (by decide); omega)
      rw [nI_toInt (by omega)] at q2t
      have tn3 := nI_toInt (n := n3) (by omega)
      refine g_iload_n X dX7_back_4 rfl (j := 1) rfl ?_
      refine g_iconst X dX7_back_5 (v := 3) (by decide) ?_
      refine g_icmp_lt X dX7_back_6 (tgt := 12) (by decide) (fun q4 => ?_) (fun q4 => ?_)
      · skip
        have q4 : n3 < 3 := (nI_ltI (a := n3) (b := 3) (by omega) (by omega)).mp q4
        exact absurd hno1 (no3 (by omega))
      · skip
        have q4 : ¬ n3 < 3 := fun z => q4 ((nI_ltI (a := n3) (b := 3) (by omega) (by omega)).mpr z)
        refine g_bipush X dX7_back_9 (v := -2) (by decide) ?_
        exact g_iret X hrt dX7_back_11 (by decide) (by decide) ⟨C, D, F, I, K, hN, (bk_out hno1)⟩
  · skip
    have hno1 : p0 < 0 ∨ 3 ≤ p0 := Or.inr hx1
    refine g_iload_n X dX7_back_0 rfl (j := 1) rfl ?_
    refine g_if_lt X dX7_back_1 (tgt := 9) (by decide) (fun q5 => ?_) (fun q5 => ?_)
    · skip
      have q5t : p0.toInt < (0 : Int32).toInt := Int32.lt_iff_toInt_lt.mp q5
      have q5k : (0 : Int32).toInt = 0 := (by decide)
      have q5b := Int32.toInt_lt p0
      refine g_bipush X dX7_back_9 (v := -2) (by decide) ?_
      exact g_iret X hrt dX7_back_11 (by decide) (by decide) ⟨C, D, F, I, K, hN, (bk_out hno1)⟩
    · skip
      have q5t : ¬ p0.toInt < (0 : Int32).toInt := fun z => q5 (Int32.lt_iff_toInt_lt.mpr z)
      have q5k : (0 : Int32).toInt = 0 := (by decide)
      have q5b := Int32.toInt_lt p0
      obtain ⟨n6, hn6, rfl⟩ := nI_of (x := p0) (fun z => by have z2 := Int32.lt_iff_toInt_lt.mp z; have z3 : (0 : Int32).toInt = 0 := (by decide); omega)
      rw [nI_toInt (by omega)] at q5t
      have tn6 := nI_toInt (n := n6) (by omega)
      refine g_iload_n X dX7_back_4 rfl (j := 1) rfl ?_
      refine g_iconst X dX7_back_5 (v := 3) (by decide) ?_
      refine g_icmp_lt X dX7_back_6 (tgt := 12) (by decide) (fun q7 => ?_) (fun q7 => ?_)
      · skip
        have q7 : n6 < 3 := (nI_ltI (a := n6) (b := 3) (by omega) (by omega)).mp q7
        exact absurd hno1 (no3 (by omega))
      · skip
        have q7 : ¬ n6 < 3 := fun z => q7 ((nI_ltI (a := n6) (b := 3) (by omega) (by omega)).mpr z)
        refine g_bipush X dX7_back_9 (v := -2) (by decide) ?_
        exact g_iret X hrt dX7_back_11 (by decide) (by decide) ⟨C, D, F, I, K, hN, (bk_out hno1)⟩
  · skip
    refine g_iload_n X dX7_back_0 rfl (j := 1) rfl ?_
    refine g_if_lt X dX7_back_1 (tgt := 9) (by decide) (fun q => absurd q (by decide)) (fun _ => ?_)
    refine g_iload_n X dX7_back_4 rfl (j := 1) rfl ?_
    refine g_iconst X dX7_back_5 (v := 3) (by decide) ?_
    refine g_icmp_lt X dX7_back_6 (tgt := 12) (by decide) (fun _ => ?_) (fun q => absurd (by decide) q)
    refine g_aload_n X dX7_back_12 rfl (j := 0) rfl ?_
    refine i_get X F 0 rfl rfl fk_X7_26 dX7_back_13 rfl ?_
    refine g_iload_n X dX7_back_16 rfl (j := 1) rfl ?_
    rcases (Bool.eq_false_or_eq_true (act 50)).symm with hA50 | hA50
    · skip
      refine i_aald X F 23 rfl (t0 := 4) rfl rfl dX7_back_17 (vp_in_iff.mpr (by decide)) (v := .null) (by show va_rf (R 23 0) = _; rw [HR.2.1 0 (by decide)]; rw [if_neg (by rw [hA50]; decide)]; rfl) ?_
      refine g_ifnonnullN X dX7_back_18 ?_
      refine g_bipush X dX7_back_21 (v := -6) (by decide) ?_
      exact g_iret X hrt dX7_back_23 (by decide) (by decide) ⟨C, D, F, I, K, hN, (bk_f (c := 0) (by decide) hA50)⟩
    · skip
      have act50 : (baseact 50 || act 50) = true := by rw [hA50]; rfl
      have act51 : (baseact 51 || act 51) = true := by rw [((HR.2.2.2 0 (by decide) 1 (by decide)).trans hA50)]; rfl
      have act52 : (baseact 52 || act 52) = true := by rw [((HR.2.2.2 0 (by decide) 2 (by decide)).trans hA50)]; rfl
      have act53 : (baseact 53 || act 53) = true := by rw [((HR.2.2.2 0 (by decide) 3 (by decide)).trans hA50)]; rfl
      have act54 : (baseact 54 || act 54) = true := by rw [((HR.2.2.2 0 (by decide) 4 (by decide)).trans hA50)]; rfl
      have act55 : (baseact 55 || act 55) = true := by rw [((HR.2.2.2 0 (by decide) 5 (by decide)).trans hA50)]; rfl
      have act56 : (baseact 56 || act 56) = true := by rw [((HR.2.2.2 0 (by decide) 6 (by decide)).trans hA50)]; rfl
      have act57 : (baseact 57 || act 57) = true := by rw [((HR.2.2.2 0 (by decide) 7 (by decide)).trans hA50)]; rfl
      have act58 : (baseact 58 || act 58) = true := by rw [((HR.2.2.2 0 (by decide) 8 (by decide)).trans hA50)]; rfl
      have act59 : (baseact 59 || act 59) = true := by rw [((HR.2.2.2 0 (by decide) 9 (by decide)).trans hA50)]; rfl
      refine i_aald X F 23 rfl (t0 := 4) rfl rfl dX7_back_17 (vp_in_iff.mpr (by decide)) (v := .ref (a 50)) (by show va_rf (R 23 0) = _; rw [HR.2.1 0 (by decide)]; rw [if_pos hA50]; rfl) ?_
      refine g_ifnonnull X dX7_back_18 (tgt := 24) (by decide) ?_
      refine g_aload_n X dX7_back_24 rfl (j := 0) rfl ?_
      refine i_get X F 0 rfl rfl fk_X7_19 dX7_back_25 rfl ?_
      refine g_aload_n X dX7_back_28 rfl (j := 0) rfl ?_
      refine i_get X F 0 rfl rfl fk_X7_26 dX7_back_29 rfl ?_
      refine g_iload_n X dX7_back_32 rfl (j := 1) rfl ?_
      refine i_aald X F 23 rfl (t0 := 4) rfl rfl dX7_back_33 (vp_in_iff.mpr (by decide)) (v := .ref (a 50)) (by show va_rf (R 23 0) = _; rw [HR.2.1 0 (by decide)]; rw [if_pos hA50]; rfl) ?_
      refine g_callVV X (s_X2_copyFrom_b0 l G F I  act50 act51 act52 act53 act54 act55 act56 act57 act58 act59) lk_X7_87 (F.1 3 rfl).2 (F.1 3 rfl).1 rfl rfl dX7_back_34 (Nat.le_of_ble_eq_true rfl) ⟨by decide, by decide⟩ ⟨by decide, by decide⟩ (fun L M hp => ?_)
      obtain ⟨C, D, F, I, K1, hr⟩ := hp
      have K := K.step K1 (by decide)
      refine g_aload_n X dX7_back_37 rfl (j := 0) rfl ?_
      refine g_callVV X (s_X7_changed l G F I  ) lk_X7_90 (F.1 0 rfl).2 (F.1 0 rfl).1 rfl rfl dX7_back_38 (Nat.le_of_ble_eq_true rfl) ⟨by decide, by decide⟩ ⟨by decide, by decide⟩ (fun L M hp => ?_)
      obtain ⟨C, D, F, I, K1, hr⟩ := hp
      have K := K.step K1 (by decide)
      have hN := hr
      refine g_iconst X dX7_back_41 (v := 0) (by decide) ?_
      exact g_iret X hrt dX7_back_42 (by decide) (by decide) ⟨C, D, F, I, K, hN, (bk_t (c := 0) (by decide) hA50)⟩
  · skip
    refine g_iload_n X dX7_back_0 rfl (j := 1) rfl ?_
    refine g_if_lt X dX7_back_1 (tgt := 9) (by decide) (fun q => absurd q (by decide)) (fun _ => ?_)
    refine g_iload_n X dX7_back_4 rfl (j := 1) rfl ?_
    refine g_iconst X dX7_back_5 (v := 3) (by decide) ?_
    refine g_icmp_lt X dX7_back_6 (tgt := 12) (by decide) (fun _ => ?_) (fun q => absurd (by decide) q)
    refine g_aload_n X dX7_back_12 rfl (j := 0) rfl ?_
    refine i_get X F 0 rfl rfl fk_X7_26 dX7_back_13 rfl ?_
    refine g_iload_n X dX7_back_16 rfl (j := 1) rfl ?_
    rcases (Bool.eq_false_or_eq_true (act 60)).symm with hA60 | hA60
    · skip
      refine i_aald X F 23 rfl (t0 := 4) rfl rfl dX7_back_17 (vp_in_iff.mpr (by decide)) (v := .null) (by show va_rf (R 23 1) = _; rw [HR.2.1 1 (by decide)]; rw [if_neg (by rw [hA60]; decide)]; rfl) ?_
      refine g_ifnonnullN X dX7_back_18 ?_
      refine g_bipush X dX7_back_21 (v := -6) (by decide) ?_
      exact g_iret X hrt dX7_back_23 (by decide) (by decide) ⟨C, D, F, I, K, hN, (bk_f (c := 1) (by decide) hA60)⟩
    · skip
      have act60 : (baseact 60 || act 60) = true := by rw [hA60]; rfl
      have act61 : (baseact 61 || act 61) = true := by rw [((HR.2.2.2 1 (by decide) 1 (by decide)).trans hA60)]; rfl
      have act62 : (baseact 62 || act 62) = true := by rw [((HR.2.2.2 1 (by decide) 2 (by decide)).trans hA60)]; rfl
      have act63 : (baseact 63 || act 63) = true := by rw [((HR.2.2.2 1 (by decide) 3 (by decide)).trans hA60)]; rfl
      have act64 : (baseact 64 || act 64) = true := by rw [((HR.2.2.2 1 (by decide) 4 (by decide)).trans hA60)]; rfl
      have act65 : (baseact 65 || act 65) = true := by rw [((HR.2.2.2 1 (by decide) 5 (by decide)).trans hA60)]; rfl
      have act66 : (baseact 66 || act 66) = true := by rw [((HR.2.2.2 1 (by decide) 6 (by decide)).trans hA60)]; rfl
      have act67 : (baseact 67 || act 67) = true := by rw [((HR.2.2.2 1 (by decide) 7 (by decide)).trans hA60)]; rfl
      have act68 : (baseact 68 || act 68) = true := by rw [((HR.2.2.2 1 (by decide) 8 (by decide)).trans hA60)]; rfl
      have act69 : (baseact 69 || act 69) = true := by rw [((HR.2.2.2 1 (by decide) 9 (by decide)).trans hA60)]; rfl
      refine i_aald X F 23 rfl (t0 := 4) rfl rfl dX7_back_17 (vp_in_iff.mpr (by decide)) (v := .ref (a 60)) (by show va_rf (R 23 1) = _; rw [HR.2.1 1 (by decide)]; rw [if_pos hA60]; rfl) ?_
      refine g_ifnonnull X dX7_back_18 (tgt := 24) (by decide) ?_
      refine g_aload_n X dX7_back_24 rfl (j := 0) rfl ?_
      refine i_get X F 0 rfl rfl fk_X7_19 dX7_back_25 rfl ?_
      refine g_aload_n X dX7_back_28 rfl (j := 0) rfl ?_
      refine i_get X F 0 rfl rfl fk_X7_26 dX7_back_29 rfl ?_
      refine g_iload_n X dX7_back_32 rfl (j := 1) rfl ?_
      refine i_aald X F 23 rfl (t0 := 4) rfl rfl dX7_back_33 (vp_in_iff.mpr (by decide)) (v := .ref (a 60)) (by show va_rf (R 23 1) = _; rw [HR.2.1 1 (by decide)]; rw [if_pos hA60]; rfl) ?_
      refine g_callVV X (s_X2_copyFrom_b1 l G F I  act60 act61 act62 act63 act64 act65 act66 act67 act68 act69) lk_X7_87 (F.1 3 rfl).2 (F.1 3 rfl).1 rfl rfl dX7_back_34 (Nat.le_of_ble_eq_true rfl) ⟨by decide, by decide⟩ ⟨by decide, by decide⟩ (fun L M hp => ?_)
      obtain ⟨C, D, F, I, K1, hr⟩ := hp
      have K := K.step K1 (by decide)
      refine g_aload_n X dX7_back_37 rfl (j := 0) rfl ?_
      refine g_callVV X (s_X7_changed l G F I  ) lk_X7_90 (F.1 0 rfl).2 (F.1 0 rfl).1 rfl rfl dX7_back_38 (Nat.le_of_ble_eq_true rfl) ⟨by decide, by decide⟩ ⟨by decide, by decide⟩ (fun L M hp => ?_)
      obtain ⟨C, D, F, I, K1, hr⟩ := hp
      have K := K.step K1 (by decide)
      have hN := hr
      refine g_iconst X dX7_back_41 (v := 0) (by decide) ?_
      exact g_iret X hrt dX7_back_42 (by decide) (by decide) ⟨C, D, F, I, K, hN, (bk_t (c := 1) (by decide) hA60)⟩
  · skip
    refine g_iload_n X dX7_back_0 rfl (j := 1) rfl ?_
    refine g_if_lt X dX7_back_1 (tgt := 9) (by decide) (fun q => absurd q (by decide)) (fun _ => ?_)
    refine g_iload_n X dX7_back_4 rfl (j := 1) rfl ?_
    refine g_iconst X dX7_back_5 (v := 3) (by decide) ?_
    refine g_icmp_lt X dX7_back_6 (tgt := 12) (by decide) (fun _ => ?_) (fun q => absurd (by decide) q)
    refine g_aload_n X dX7_back_12 rfl (j := 0) rfl ?_
    refine i_get X F 0 rfl rfl fk_X7_26 dX7_back_13 rfl ?_
    refine g_iload_n X dX7_back_16 rfl (j := 1) rfl ?_
    rcases (Bool.eq_false_or_eq_true (act 70)).symm with hA70 | hA70
    · skip
      refine i_aald X F 23 rfl (t0 := 4) rfl rfl dX7_back_17 (vp_in_iff.mpr (by decide)) (v := .null) (by show va_rf (R 23 2) = _; rw [HR.2.1 2 (by decide)]; rw [if_neg (by rw [hA70]; decide)]; rfl) ?_
      refine g_ifnonnullN X dX7_back_18 ?_
      refine g_bipush X dX7_back_21 (v := -6) (by decide) ?_
      exact g_iret X hrt dX7_back_23 (by decide) (by decide) ⟨C, D, F, I, K, hN, (bk_f (c := 2) (by decide) hA70)⟩
    · skip
      have act70 : (baseact 70 || act 70) = true := by rw [hA70]; rfl
      have act71 : (baseact 71 || act 71) = true := by rw [((HR.2.2.2 2 (by decide) 1 (by decide)).trans hA70)]; rfl
      have act72 : (baseact 72 || act 72) = true := by rw [((HR.2.2.2 2 (by decide) 2 (by decide)).trans hA70)]; rfl
      have act73 : (baseact 73 || act 73) = true := by rw [((HR.2.2.2 2 (by decide) 3 (by decide)).trans hA70)]; rfl
      have act74 : (baseact 74 || act 74) = true := by rw [((HR.2.2.2 2 (by decide) 4 (by decide)).trans hA70)]; rfl
      have act75 : (baseact 75 || act 75) = true := by rw [((HR.2.2.2 2 (by decide) 5 (by decide)).trans hA70)]; rfl
      have act76 : (baseact 76 || act 76) = true := by rw [((HR.2.2.2 2 (by decide) 6 (by decide)).trans hA70)]; rfl
      have act77 : (baseact 77 || act 77) = true := by rw [((HR.2.2.2 2 (by decide) 7 (by decide)).trans hA70)]; rfl
      have act78 : (baseact 78 || act 78) = true := by rw [((HR.2.2.2 2 (by decide) 8 (by decide)).trans hA70)]; rfl
      have act79 : (baseact 79 || act 79) = true := by rw [((HR.2.2.2 2 (by decide) 9 (by decide)).trans hA70)]; rfl
      refine i_aald X F 23 rfl (t0 := 4) rfl rfl dX7_back_17 (vp_in_iff.mpr (by decide)) (v := .ref (a 70)) (by show va_rf (R 23 2) = _; rw [HR.2.1 2 (by decide)]; rw [if_pos hA70]; rfl) ?_
      refine g_ifnonnull X dX7_back_18 (tgt := 24) (by decide) ?_
      refine g_aload_n X dX7_back_24 rfl (j := 0) rfl ?_
      refine i_get X F 0 rfl rfl fk_X7_19 dX7_back_25 rfl ?_
      refine g_aload_n X dX7_back_28 rfl (j := 0) rfl ?_
      refine i_get X F 0 rfl rfl fk_X7_26 dX7_back_29 rfl ?_
      refine g_iload_n X dX7_back_32 rfl (j := 1) rfl ?_
      refine i_aald X F 23 rfl (t0 := 4) rfl rfl dX7_back_33 (vp_in_iff.mpr (by decide)) (v := .ref (a 70)) (by show va_rf (R 23 2) = _; rw [HR.2.1 2 (by decide)]; rw [if_pos hA70]; rfl) ?_
      refine g_callVV X (s_X2_copyFrom_b2 l G F I  act70 act71 act72 act73 act74 act75 act76 act77 act78 act79) lk_X7_87 (F.1 3 rfl).2 (F.1 3 rfl).1 rfl rfl dX7_back_34 (Nat.le_of_ble_eq_true rfl) ⟨by decide, by decide⟩ ⟨by decide, by decide⟩ (fun L M hp => ?_)
      obtain ⟨C, D, F, I, K1, hr⟩ := hp
      have K := K.step K1 (by decide)
      refine g_aload_n X dX7_back_37 rfl (j := 0) rfl ?_
      refine g_callVV X (s_X7_changed l G F I  ) lk_X7_90 (F.1 0 rfl).2 (F.1 0 rfl).1 rfl rfl dX7_back_38 (Nat.le_of_ble_eq_true rfl) ⟨by decide, by decide⟩ ⟨by decide, by decide⟩ (fun L M hp => ?_)
      obtain ⟨C, D, F, I, K1, hr⟩ := hp
      have K := K.step K1 (by decide)
      have hN := hr
      refine g_iconst X dX7_back_41 (v := 0) (by decide) ?_
      exact g_iret X hrt dX7_back_42 (by decide) (by decide) ⟨C, D, F, I, K, hN, (bk_t (c := 2) (by decide) hA70)⟩
set_option maxHeartbeats 4000000 in
set_option maxRecDepth 100000 in
theorem s_X7_write_x (l : Launch) (G : va_G) {cy : Nat → ClassId} {L : List Nat} {M : Nat → va_E} {a : Nat → Nat} {act : Nat → Bool} {C0 : Nat → Nat → Int32} {D0 : Nat → Nat → Int64} {R : Nat → Nat → Option Nat} (F : WI L M a act (ent cy a C0 D0 R)) (I : Inv C0) (p0 : Int32) (p1 : Int32) (p2 : Int64) (HR : RA a act R) : MI l G cy yX7_write cX7_write 5 (some .int) 2 0 0 [.ref (a 0), .int p0, .int p1, .long p2] L M (fun r L2 M2 => ∃ C2 D2, WI L2 M2 a act (ent cy a C2 D2 R) ∧ Inv C2 ∧ Kp [81, 83, 85, 87] C0 D0 C2 D2 ∧ r = wrS p0 p1 (fun c => act (80 + 2 * c)) (fun c => C0 (80 + 2 * c) 2)) := by
  refine MI.of (own := RX7) rfl (by decide) (Nat.le_of_ble_eq_true rfl) ?_
  intro p e s m below meth c A X hrt hnm
  obtain ⟨C, D, hC0, hD0, F, I, K⟩ : ∃ C D, C = C0 ∧ D = D0 ∧ WI L M a act (ent cy a C D R) ∧ Inv C ∧ Kp [81, 83, 85, 87] C0 D0 C D := ⟨C0, D0, rfl, rfl, F, I, Kp.rf⟩
  obtain ⟨n1, hn1, en1⟩ := rg_nat (I 80 2 rfl) (by decide)
  rw [hC0] at en1
  obtain ⟨n2, hn2, en2⟩ := rg_nat (I 82 2 rfl) (by decide)
  rw [hC0] at en2
  obtain ⟨n3, hn3, en3⟩ := rg_nat (I 84 2 rfl) (by decide)
  rw [hC0] at en3
  obtain ⟨n4, hn4, en4⟩ := rg_nat (I 86 2 rfl) (by decide)
  rw [hC0] at en4
  rcases sc4 p0 with hx5 | hx5 | rfl | rfl | rfl | rfl
  · skip
    have hno1 : p0 < 0 ∨ 4 ≤ p0 := Or.inl hx5
    refine g_iload_n X dX7_write_0 rfl (j := 1) rfl ?_
    refine g_callSI X (s_X7_isSlot_x l G F I p0 hno1) lk_X7_389 rfl rfl dX7_write_1 (Nat.le_of_ble_eq_true rfl) ⟨by decide, by decide⟩ ⟨by decide, by decide⟩ (fun r6 L M hp => ?_)
    obtain ⟨C, D, F, I, K1, hr⟩ := hp
    have K := K.step K1 (by decide)
    subst hr
    refine g_if_ne X dX7_write_4 (tgt := 10) (by decide) (fun q => absurd (by decide) q) (fun _ => ?_)
    refine g_bipush X dX7_write_7 (v := -2) (by decide) ?_
    exact g_iret X hrt dX7_write_9 (by decide) (by decide) ⟨C, D, F, I, K, (wr_out hno1)⟩
  · skip
    have hno1 : p0 < 0 ∨ 4 ≤ p0 := Or.inr hx5
    refine g_iload_n X dX7_write_0 rfl (j := 1) rfl ?_
    refine g_callSI X (s_X7_isSlot_x l G F I p0 hno1) lk_X7_389 rfl rfl dX7_write_1 (Nat.le_of_ble_eq_true rfl) ⟨by decide, by decide⟩ ⟨by decide, by decide⟩ (fun r7 L M hp => ?_)
    obtain ⟨C, D, F, I, K1, hr⟩ := hp
    have K := K.step K1 (by decide)
    subst hr
    refine g_if_ne X dX7_write_4 (tgt := 10) (by decide) (fun q => absurd (by decide) q) (fun _ => ?_)
    refine g_bipush X dX7_write_7 (v := -2) (by decide) ?_
    exact g_iret X hrt dX7_write_9 (by decide) (by decide) ⟨C, D, F, I, K, (wr_out hno1)⟩
  · skip
    refine g_iload_n X dX7_write_0 rfl (j := 1) rfl ?_
    refine g_callSI X (s_X7_isSlot_0 l G F I  ) lk_X7_389 rfl rfl dX7_write_1 (Nat.le_of_ble_eq_true rfl) ⟨by decide, by decide⟩ ⟨by decide, by decide⟩ (fun r8 L M hp => ?_)
    obtain ⟨C, D, F, I, K1, hr⟩ := hp
    have K := K.step K1 (by decide)
    subst hr
    refine g_if_ne X dX7_write_4 (tgt := 10) (by decide) (fun _ => ?_) (fun q => absurd q (by decide))
    refine g_aload_n X dX7_write_10 rfl (j := 0) rfl ?_
    refine i_get X F 0 rfl rfl fk_X7_32 dX7_write_11 rfl ?_
    refine g_iload_n X dX7_write_14 rfl (j := 1) rfl ?_
    rcases (Bool.eq_false_or_eq_true (act 80)).symm with hA80 | hA80
    · skip
      refine i_aald X F 24 rfl (t0 := 5) rfl rfl dX7_write_15 (vp_in_iff.mpr (by decide)) (v := .null) (by show va_rf (R 24 0) = _; rw [HR.1 0 (by decide)]; rw [if_neg (by rw [hA80]; decide)]; rfl) ?_
      refine g_ifnonnullN X dX7_write_16 ?_
      refine g_bipush X dX7_write_19 (v := -6) (by decide) ?_
      exact g_iret X hrt dX7_write_21 (by decide) (by decide) ⟨C, D, F, I, K, (wr_no (c := 0) (by decide) hA80)⟩
    · skip
      have act80 : (baseact 80 || act 80) = true := by rw [hA80]; rfl
      have act81 : (baseact 81 || act 81) = true := by rw [((HR.2.2.1 0 (by decide)).trans hA80)]; rfl
      refine i_aald X F 24 rfl (t0 := 5) rfl rfl dX7_write_15 (vp_in_iff.mpr (by decide)) (v := .ref (a 80)) (by show va_rf (R 24 0) = _; rw [HR.1 0 (by decide)]; rw [if_pos hA80]; rfl) ?_
      refine g_ifnonnull X dX7_write_16 (tgt := 22) (by decide) ?_
      refine g_iload_n X dX7_write_22 rfl (j := 2) rfl ?_
      refine g_if_lt X dX7_write_23 (tgt := 39) (by decide) (fun q10 => ?_) (fun q10 => ?_)
      · skip
        have q10t : p1.toInt < (0 : Int32).toInt := Int32.lt_iff_toInt_lt.mp q10
        have q10k : (0 : Int32).toInt = 0 := (by decide)
        have q10b := Int32.toInt_lt p1
        refine g_bipush X dX7_write_39 (v := -7) (by decide) ?_
        exact g_iret X hrt dX7_write_41 (by decide) (by decide) ⟨C, D, F, I, K, (wr_b (c := 0) (by decide) hA80 (by have tz := nI_toInt (n := n1) (by omega); show ¬ (0 ≤ _ ∧ _ < (C0 80 2).toInt); rw [en1]; omega))⟩
      · skip
        have q10t : ¬ p1.toInt < (0 : Int32).toInt := fun z => q10 (Int32.lt_iff_toInt_lt.mpr z)
        have q10k : (0 : Int32).toInt = 0 := (by decide)
        have q10b := Int32.toInt_lt p1
        obtain ⟨n11, hn11, rfl⟩ := nI_of (x := p1) (fun z => by have z2 := Int32.lt_iff_toInt_lt.mp z; have z3 : (0 : Int32).toInt = 0 := (by decide); omega)
        rw [nI_toInt (by omega)] at q10t
        have tn11 := nI_toInt (n := n11) (by omega)
        refine g_iload_n X dX7_write_26 rfl (j := 2) rfl ?_
        refine g_aload_n X dX7_write_27 rfl (j := 0) rfl ?_
        refine i_get X F 0 rfl rfl fk_X7_32 dX7_write_28 rfl ?_
        refine g_iload_n X dX7_write_31 rfl (j := 1) rfl ?_
        refine i_aald X F 24 rfl (t0 := 5) rfl rfl dX7_write_32 (vp_in_iff.mpr (by decide)) (v := .ref (a 80)) (by show va_rf (R 24 0) = _; rw [HR.1 0 (by decide)]; rw [if_pos hA80]; rfl) ?_
        refine i_get X F 80 (act80) rfl fk_X7_395 dX7_write_33 (v := .int (nI n1)) (congrArg (fun z => some (Value.int z)) ((congrFun (K 80 (by decide)).1 2).trans en1)) ?_
        refine g_icmp_lt X dX7_write_36 (tgt := 42) (by decide) (fun q13 => ?_) (fun q13 => ?_)
        · skip
          have q13 : n11 < n1 := (nI_ltI (a := n11) (b := n1) (by omega) (by omega)).mp q13
          refine g_aload_n X dX7_write_42 rfl (j := 0) rfl ?_
          refine i_get X F 0 rfl rfl fk_X7_32 dX7_write_43 rfl ?_
          refine g_iload_n X dX7_write_46 rfl (j := 1) rfl ?_
          refine i_aald X F 24 rfl (t0 := 5) rfl rfl dX7_write_47 (vp_in_iff.mpr (by decide)) (v := .ref (a 80)) (by show va_rf (R 24 0) = _; rw [HR.1 0 (by decide)]; rw [if_pos hA80]; rfl) ?_
          refine g_iload_n X dX7_write_48 rfl (j := 2) rfl ?_
          refine g_lload_n X dX7_write_49 rfl (j := 3) rfl ?_
          refine g_callVV X (s_X5_put_80 l G F I n11 (by omega) (by omega) p2 act80 act81) lk_X7_396 (F.1 80 (act80)).2 (F.1 80 (act80)).1 rfl rfl dX7_write_50 (Nat.le_of_ble_eq_true rfl) ⟨by decide, by decide⟩ ⟨by decide, by decide⟩ (fun L M hp => ?_)
          obtain ⟨C, D, F, I, K1, hr⟩ := hp
          have K := K.step K1 (by decide)
          refine g_iconst X dX7_write_53 (v := 0) (by decide) ?_
          exact g_iret X hrt dX7_write_54 (by decide) (by decide) ⟨C, D, F, I, K, (wr_k (c := 0) (by decide) hA80 (by have tz := nI_toInt (n := n1) (by omega); show  (0 ≤ _ ∧ _ < (C0 80 2).toInt); rw [en1]; omega))⟩
        · skip
          have q13 : ¬ n11 < n1 := fun z => q13 ((nI_ltI (a := n11) (b := n1) (by omega) (by omega)).mpr z)
          refine g_bipush X dX7_write_39 (v := -7) (by decide) ?_
          exact g_iret X hrt dX7_write_41 (by decide) (by decide) ⟨C, D, F, I, K, (wr_b (c := 0) (by decide) hA80 (by have tz := nI_toInt (n := n1) (by omega); show ¬ (0 ≤ _ ∧ _ < (C0 80 2).toInt); rw [en1]; omega))⟩
  · skip
    refine g_iload_n X dX7_write_0 rfl (j := 1) rfl ?_
    refine g_callSI X (s_X7_isSlot_1 l G F I  ) lk_X7_389 rfl rfl dX7_write_1 (Nat.le_of_ble_eq_true rfl) ⟨by decide, by decide⟩ ⟨by decide, by decide⟩ (fun r15 L M hp => ?_)
    obtain ⟨C, D, F, I, K1, hr⟩ := hp
    have K := K.step K1 (by decide)
    subst hr
    refine g_if_ne X dX7_write_4 (tgt := 10) (by decide) (fun _ => ?_) (fun q => absurd q (by decide))
    refine g_aload_n X dX7_write_10 rfl (j := 0) rfl ?_
    refine i_get X F 0 rfl rfl fk_X7_32 dX7_write_11 rfl ?_
    refine g_iload_n X dX7_write_14 rfl (j := 1) rfl ?_
    rcases (Bool.eq_false_or_eq_true (act 82)).symm with hA82 | hA82
    · skip
      refine i_aald X F 24 rfl (t0 := 5) rfl rfl dX7_write_15 (vp_in_iff.mpr (by decide)) (v := .null) (by show va_rf (R 24 1) = _; rw [HR.1 1 (by decide)]; rw [if_neg (by rw [hA82]; decide)]; rfl) ?_
      refine g_ifnonnullN X dX7_write_16 ?_
      refine g_bipush X dX7_write_19 (v := -6) (by decide) ?_
      exact g_iret X hrt dX7_write_21 (by decide) (by decide) ⟨C, D, F, I, K, (wr_no (c := 1) (by decide) hA82)⟩
    · skip
      have act82 : (baseact 82 || act 82) = true := by rw [hA82]; rfl
      have act83 : (baseact 83 || act 83) = true := by rw [((HR.2.2.1 1 (by decide)).trans hA82)]; rfl
      refine i_aald X F 24 rfl (t0 := 5) rfl rfl dX7_write_15 (vp_in_iff.mpr (by decide)) (v := .ref (a 82)) (by show va_rf (R 24 1) = _; rw [HR.1 1 (by decide)]; rw [if_pos hA82]; rfl) ?_
      refine g_ifnonnull X dX7_write_16 (tgt := 22) (by decide) ?_
      refine g_iload_n X dX7_write_22 rfl (j := 2) rfl ?_
      refine g_if_lt X dX7_write_23 (tgt := 39) (by decide) (fun q17 => ?_) (fun q17 => ?_)
      · skip
        have q17t : p1.toInt < (0 : Int32).toInt := Int32.lt_iff_toInt_lt.mp q17
        have q17k : (0 : Int32).toInt = 0 := (by decide)
        have q17b := Int32.toInt_lt p1
        refine g_bipush X dX7_write_39 (v := -7) (by decide) ?_
        exact g_iret X hrt dX7_write_41 (by decide) (by decide) ⟨C, D, F, I, K, (wr_b (c := 1) (by decide) hA82 (by have tz := nI_toInt (n := n2) (by omega); show ¬ (0 ≤ _ ∧ _ < (C0 82 2).toInt); rw [en2]; omega))⟩
      · skip
        have q17t : ¬ p1.toInt < (0 : Int32).toInt := fun z => q17 (Int32.lt_iff_toInt_lt.mpr z)
        have q17k : (0 : Int32).toInt = 0 := (by decide)
        have q17b := Int32.toInt_lt p1
        obtain ⟨n18, hn18, rfl⟩ := nI_of (x := p1) (fun z => by have z2 := Int32.lt_iff_toInt_lt.mp z; have z3 : (0 : Int32).toInt = 0 := (by decide); omega)
        rw [nI_toInt (by omega)] at q17t
        have tn18 := nI_toInt (n := n18) (by omega)
        refine g_iload_n X dX7_write_26 rfl (j := 2) rfl ?_
        refine g_aload_n X dX7_write_27 rfl (j := 0) rfl ?_
        refine i_get X F 0 rfl rfl fk_X7_32 dX7_write_28 rfl ?_
        refine g_iload_n X dX7_write_31 rfl (j := 1) rfl ?_
        refine i_aald X F 24 rfl (t0 := 5) rfl rfl dX7_write_32 (vp_in_iff.mpr (by decide)) (v := .ref (a 82)) (by show va_rf (R 24 1) = _; rw [HR.1 1 (by decide)]; rw [if_pos hA82]; rfl) ?_
        refine i_get X F 82 (act82) rfl fk_X7_395 dX7_write_33 (v := .int (nI n2)) (congrArg (fun z => some (Value.int z)) ((congrFun (K 82 (by decide)).1 2).trans en2)) ?_
        refine g_icmp_lt X dX7_write_36 (tgt := 42) (by decide) (fun q20 => ?_) (fun q20 => ?_)
        · skip
          have q20 : n18 < n2 := (nI_ltI (a := n18) (b := n2) (by omega) (by omega)).mp q20
          refine g_aload_n X dX7_write_42 rfl (j := 0) rfl ?_
          refine i_get X F 0 rfl rfl fk_X7_32 dX7_write_43 rfl ?_
          refine g_iload_n X dX7_write_46 rfl (j := 1) rfl ?_
          refine i_aald X F 24 rfl (t0 := 5) rfl rfl dX7_write_47 (vp_in_iff.mpr (by decide)) (v := .ref (a 82)) (by show va_rf (R 24 1) = _; rw [HR.1 1 (by decide)]; rw [if_pos hA82]; rfl) ?_
          refine g_iload_n X dX7_write_48 rfl (j := 2) rfl ?_
          refine g_lload_n X dX7_write_49 rfl (j := 3) rfl ?_
          refine g_callVV X (s_X5_put_82 l G F I n18 (by omega) (by omega) p2 act82 act83) lk_X7_396 (F.1 82 (act82)).2 (F.1 82 (act82)).1 rfl rfl dX7_write_50 (Nat.le_of_ble_eq_true rfl) ⟨by decide, by decide⟩ ⟨by decide, by decide⟩ (fun L M hp => ?_)
          obtain ⟨C, D, F, I, K1, hr⟩ := hp
          have K := K.step K1 (by decide)
          refine g_iconst X dX7_write_53 (v := 0) (by decide) ?_
          exact g_iret X hrt dX7_write_54 (by decide) (by decide) ⟨C, D, F, I, K, (wr_k (c := 1) (by decide) hA82 (by have tz := nI_toInt (n := n2) (by omega); show  (0 ≤ _ ∧ _ < (C0 82 2).toInt); rw [en2]; omega))⟩
        · skip
          have q20 : ¬ n18 < n2 := fun z => q20 ((nI_ltI (a := n18) (b := n2) (by omega) (by omega)).mpr z)
          refine g_bipush X dX7_write_39 (v := -7) (by decide) ?_
          exact g_iret X hrt dX7_write_41 (by decide) (by decide) ⟨C, D, F, I, K, (wr_b (c := 1) (by decide) hA82 (by have tz := nI_toInt (n := n2) (by omega); show ¬ (0 ≤ _ ∧ _ < (C0 82 2).toInt); rw [en2]; omega))⟩
  · skip
    refine g_iload_n X dX7_write_0 rfl (j := 1) rfl ?_
    refine g_callSI X (s_X7_isSlot_2 l G F I  ) lk_X7_389 rfl rfl dX7_write_1 (Nat.le_of_ble_eq_true rfl) ⟨by decide, by decide⟩ ⟨by decide, by decide⟩ (fun r22 L M hp => ?_)
    obtain ⟨C, D, F, I, K1, hr⟩ := hp
    have K := K.step K1 (by decide)
    subst hr
    refine g_if_ne X dX7_write_4 (tgt := 10) (by decide) (fun _ => ?_) (fun q => absurd q (by decide))
    refine g_aload_n X dX7_write_10 rfl (j := 0) rfl ?_
    refine i_get X F 0 rfl rfl fk_X7_32 dX7_write_11 rfl ?_
    refine g_iload_n X dX7_write_14 rfl (j := 1) rfl ?_
    rcases (Bool.eq_false_or_eq_true (act 84)).symm with hA84 | hA84
    · skip
      refine i_aald X F 24 rfl (t0 := 5) rfl rfl dX7_write_15 (vp_in_iff.mpr (by decide)) (v := .null) (by show va_rf (R 24 2) = _; rw [HR.1 2 (by decide)]; rw [if_neg (by rw [hA84]; decide)]; rfl) ?_
      refine g_ifnonnullN X dX7_write_16 ?_
      refine g_bipush X dX7_write_19 (v := -6) (by decide) ?_
      exact g_iret X hrt dX7_write_21 (by decide) (by decide) ⟨C, D, F, I, K, (wr_no (c := 2) (by decide) hA84)⟩
    · skip
      have act84 : (baseact 84 || act 84) = true := by rw [hA84]; rfl
      have act85 : (baseact 85 || act 85) = true := by rw [((HR.2.2.1 2 (by decide)).trans hA84)]; rfl
      refine i_aald X F 24 rfl (t0 := 5) rfl rfl dX7_write_15 (vp_in_iff.mpr (by decide)) (v := .ref (a 84)) (by show va_rf (R 24 2) = _; rw [HR.1 2 (by decide)]; rw [if_pos hA84]; rfl) ?_
      refine g_ifnonnull X dX7_write_16 (tgt := 22) (by decide) ?_
      refine g_iload_n X dX7_write_22 rfl (j := 2) rfl ?_
      refine g_if_lt X dX7_write_23 (tgt := 39) (by decide) (fun q24 => ?_) (fun q24 => ?_)
      · skip
        have q24t : p1.toInt < (0 : Int32).toInt := Int32.lt_iff_toInt_lt.mp q24
        have q24k : (0 : Int32).toInt = 0 := (by decide)
        have q24b := Int32.toInt_lt p1
        refine g_bipush X dX7_write_39 (v := -7) (by decide) ?_
        exact g_iret X hrt dX7_write_41 (by decide) (by decide) ⟨C, D, F, I, K, (wr_b (c := 2) (by decide) hA84 (by have tz := nI_toInt (n := n3) (by omega); show ¬ (0 ≤ _ ∧ _ < (C0 84 2).toInt); rw [en3]; omega))⟩
      · skip
        have q24t : ¬ p1.toInt < (0 : Int32).toInt := fun z => q24 (Int32.lt_iff_toInt_lt.mpr z)
        have q24k : (0 : Int32).toInt = 0 := (by decide)
        have q24b := Int32.toInt_lt p1
        obtain ⟨n25, hn25, rfl⟩ := nI_of (x := p1) (fun z => by have z2 := Int32.lt_iff_toInt_lt.mp z; have z3 : (0 : Int32).toInt = 0 := (by decide); omega)
        rw [nI_toInt (by omega)] at q24t
        have tn25 := nI_toInt (n := n25) (by omega)
        refine g_iload_n X dX7_write_26 rfl (j := 2) rfl ?_
        refine g_aload_n X dX7_write_27 rfl (j := 0) rfl ?_
        refine i_get X F 0 rfl rfl fk_X7_32 dX7_write_28 rfl ?_
        refine g_iload_n X dX7_write_31 rfl (j := 1) rfl ?_
        refine i_aald X F 24 rfl (t0 := 5) rfl rfl dX7_write_32 (vp_in_iff.mpr (by decide)) (v := .ref (a 84)) (by show va_rf (R 24 2) = _; rw [HR.1 2 (by decide)]; rw [if_pos hA84]; rfl) ?_
        refine i_get X F 84 (act84) rfl fk_X7_395 dX7_write_33 (v := .int (nI n3)) (congrArg (fun z => some (Value.int z)) ((congrFun (K 84 (by decide)).1 2).trans en3)) ?_
        refine g_icmp_lt X dX7_write_36 (tgt := 42) (by decide) (fun q27 => ?_) (fun q27 => ?_)
        · skip
          have q27 : n25 < n3 := (nI_ltI (a := n25) (b := n3) (by omega) (by omega)).mp q27
          refine g_aload_n X dX7_write_42 rfl (j := 0) rfl ?_
          refine i_get X F 0 rfl rfl fk_X7_32 dX7_write_43 rfl ?_
          refine g_iload_n X dX7_write_46 rfl (j := 1) rfl ?_
          refine i_aald X F 24 rfl (t0 := 5) rfl rfl dX7_write_47 (vp_in_iff.mpr (by decide)) (v := .ref (a 84)) (by show va_rf (R 24 2) = _; rw [HR.1 2 (by decide)]; rw [if_pos hA84]; rfl) ?_
          refine g_iload_n X dX7_write_48 rfl (j := 2) rfl ?_
          refine g_lload_n X dX7_write_49 rfl (j := 3) rfl ?_
          refine g_callVV X (s_X5_put_84 l G F I n25 (by omega) (by omega) p2 act84 act85) lk_X7_396 (F.1 84 (act84)).2 (F.1 84 (act84)).1 rfl rfl dX7_write_50 (Nat.le_of_ble_eq_true rfl) ⟨by decide, by decide⟩ ⟨by decide, by decide⟩ (fun L M hp => ?_)
          obtain ⟨C, D, F, I, K1, hr⟩ := hp
          have K := K.step K1 (by decide)
          refine g_iconst X dX7_write_53 (v := 0) (by decide) ?_
          exact g_iret X hrt dX7_write_54 (by decide) (by decide) ⟨C, D, F, I, K, (wr_k (c := 2) (by decide) hA84 (by have tz := nI_toInt (n := n3) (by omega); show  (0 ≤ _ ∧ _ < (C0 84 2).toInt); rw [en3]; omega))⟩
        · skip
          have q27 : ¬ n25 < n3 := fun z => q27 ((nI_ltI (a := n25) (b := n3) (by omega) (by omega)).mpr z)
          refine g_bipush X dX7_write_39 (v := -7) (by decide) ?_
          exact g_iret X hrt dX7_write_41 (by decide) (by decide) ⟨C, D, F, I, K, (wr_b (c := 2) (by decide) hA84 (by have tz := nI_toInt (n := n3) (by omega); show ¬ (0 ≤ _ ∧ _ < (C0 84 2).toInt); rw [en3]; omega))⟩
  · skip
    refine g_iload_n X dX7_write_0 rfl (j := 1) rfl ?_
    refine g_callSI X (s_X7_isSlot_3 l G F I  ) lk_X7_389 rfl rfl dX7_write_1 (Nat.le_of_ble_eq_true rfl) ⟨by decide, by decide⟩ ⟨by decide, by decide⟩ (fun r29 L M hp => ?_)
    obtain ⟨C, D, F, I, K1, hr⟩ := hp
    have K := K.step K1 (by decide)
    subst hr
    refine g_if_ne X dX7_write_4 (tgt := 10) (by decide) (fun _ => ?_) (fun q => absurd q (by decide))
    refine g_aload_n X dX7_write_10 rfl (j := 0) rfl ?_
    refine i_get X F 0 rfl rfl fk_X7_32 dX7_write_11 rfl ?_
    refine g_iload_n X dX7_write_14 rfl (j := 1) rfl ?_
    rcases (Bool.eq_false_or_eq_true (act 86)).symm with hA86 | hA86
    · skip
      refine i_aald X F 24 rfl (t0 := 5) rfl rfl dX7_write_15 (vp_in_iff.mpr (by decide)) (v := .null) (by show va_rf (R 24 3) = _; rw [HR.1 3 (by decide)]; rw [if_neg (by rw [hA86]; decide)]; rfl) ?_
      refine g_ifnonnullN X dX7_write_16 ?_
      refine g_bipush X dX7_write_19 (v := -6) (by decide) ?_
      exact g_iret X hrt dX7_write_21 (by decide) (by decide) ⟨C, D, F, I, K, (wr_no (c := 3) (by decide) hA86)⟩
    · skip
      have act86 : (baseact 86 || act 86) = true := by rw [hA86]; rfl
      have act87 : (baseact 87 || act 87) = true := by rw [((HR.2.2.1 3 (by decide)).trans hA86)]; rfl
      refine i_aald X F 24 rfl (t0 := 5) rfl rfl dX7_write_15 (vp_in_iff.mpr (by decide)) (v := .ref (a 86)) (by show va_rf (R 24 3) = _; rw [HR.1 3 (by decide)]; rw [if_pos hA86]; rfl) ?_
      refine g_ifnonnull X dX7_write_16 (tgt := 22) (by decide) ?_
      refine g_iload_n X dX7_write_22 rfl (j := 2) rfl ?_
      refine g_if_lt X dX7_write_23 (tgt := 39) (by decide) (fun q31 => ?_) (fun q31 => ?_)
      · skip
        have q31t : p1.toInt < (0 : Int32).toInt := Int32.lt_iff_toInt_lt.mp q31
        have q31k : (0 : Int32).toInt = 0 := (by decide)
        have q31b := Int32.toInt_lt p1
        refine g_bipush X dX7_write_39 (v := -7) (by decide) ?_
        exact g_iret X hrt dX7_write_41 (by decide) (by decide) ⟨C, D, F, I, K, (wr_b (c := 3) (by decide) hA86 (by have tz := nI_toInt (n := n4) (by omega); show ¬ (0 ≤ _ ∧ _ < (C0 86 2).toInt); rw [en4]; omega))⟩
      · skip
        have q31t : ¬ p1.toInt < (0 : Int32).toInt := fun z => q31 (Int32.lt_iff_toInt_lt.mpr z)
        have q31k : (0 : Int32).toInt = 0 := (by decide)
        have q31b := Int32.toInt_lt p1
        obtain ⟨n32, hn32, rfl⟩ := nI_of (x := p1) (fun z => by have z2 := Int32.lt_iff_toInt_lt.mp z; have z3 : (0 : Int32).toInt = 0 := (by decide); omega)
        rw [nI_toInt (by omega)] at q31t
        have tn32 := nI_toInt (n := n32) (by omega)
        refine g_iload_n X dX7_write_26 rfl (j := 2) rfl ?_
        refine g_aload_n X dX7_write_27 rfl (j := 0) rfl ?_
        refine i_get X F 0 rfl rfl fk_X7_32 dX7_write_28 rfl ?_
        refine g_iload_n X dX7_write_31 rfl (j := 1) rfl ?_
        refine i_aald X F 24 rfl (t0 := 5) rfl rfl dX7_write_32 (vp_in_iff.mpr (by decide)) (v := .ref (a 86)) (by show va_rf (R 24 3) = _; rw [HR.1 3 (by decide)]; rw [if_pos hA86]; rfl) ?_
        refine i_get X F 86 (act86) rfl fk_X7_395 dX7_write_33 (v := .int (nI n4)) (congrArg (fun z => some (Value.int z)) ((congrFun (K 86 (by decide)).1 2).trans en4)) ?_
        refine g_icmp_lt X dX7_write_36 (tgt := 42) (by decide) (fun q34 => ?_) (fun q34 => ?_)
        · skip
          have q34 : n32 < n4 := (nI_ltI (a := n32) (b := n4) (by omega) (by omega)).mp q34
          refine g_aload_n X dX7_write_42 rfl (j := 0) rfl ?_
          refine i_get X F 0 rfl rfl fk_X7_32 dX7_write_43 rfl ?_
          refine g_iload_n X dX7_write_46 rfl (j := 1) rfl ?_
          refine i_aald X F 24 rfl (t0 := 5) rfl rfl dX7_write_47 (vp_in_iff.mpr (by decide)) (v := .ref (a 86)) (by show va_rf (R 24 3) = _; rw [HR.1 3 (by decide)]; rw [if_pos hA86]; rfl) ?_
          refine g_iload_n X dX7_write_48 rfl (j := 2) rfl ?_
          refine g_lload_n X dX7_write_49 rfl (j := 3) rfl ?_
          refine g_callVV X (s_X5_put_86 l G F I n32 (by omega) (by omega) p2 act86 act87) lk_X7_396 (F.1 86 (act86)).2 (F.1 86 (act86)).1 rfl rfl dX7_write_50 (Nat.le_of_ble_eq_true rfl) ⟨by decide, by decide⟩ ⟨by decide, by decide⟩ (fun L M hp => ?_)
          obtain ⟨C, D, F, I, K1, hr⟩ := hp
          have K := K.step K1 (by decide)
          refine g_iconst X dX7_write_53 (v := 0) (by decide) ?_
          exact g_iret X hrt dX7_write_54 (by decide) (by decide) ⟨C, D, F, I, K, (wr_k (c := 3) (by decide) hA86 (by have tz := nI_toInt (n := n4) (by omega); show  (0 ≤ _ ∧ _ < (C0 86 2).toInt); rw [en4]; omega))⟩
        · skip
          have q34 : ¬ n32 < n4 := fun z => q34 ((nI_ltI (a := n32) (b := n4) (by omega) (by omega)).mpr z)
          refine g_bipush X dX7_write_39 (v := -7) (by decide) ?_
          exact g_iret X hrt dX7_write_41 (by decide) (by decide) ⟨C, D, F, I, K, (wr_b (c := 3) (by decide) hA86 (by have tz := nI_toInt (n := n4) (by omega); show ¬ (0 ≤ _ ∧ _ < (C0 86 2).toInt); rw [en4]; omega))⟩
set_option maxHeartbeats 4000000 in
set_option maxRecDepth 100000 in
theorem s_X7_paste_x (l : Launch) (G : va_G) {cy : Nat → ClassId} {L : List Nat} {M : Nat → va_E} {a : Nat → Nat} {act : Nat → Bool} {C0 : Nat → Nat → Int32} {D0 : Nat → Nat → Int64} {R : Nat → Nat → Option Nat} (F : WI L M a act (ent cy a C0 D0 R)) (I : Inv C0) (p0 : Int32) (p1 : Int32) (p2 : Int32) (p3 : Int32) (p4 : Int32) (HR : RA a act R) : MI l G cy yX7_paste cX7_paste 8 (some .int) 1 0 0 [.ref (a 0), .int p0, .int p1, .int p2, .int p3, .int p4] L M (fun r L2 M2 => ∃ C2 D2, WI L2 M2 a act (ent cy a C2 D2 R) ∧ Inv C2 ∧ Kp [81, 83, 85, 87] C0 D0 C2 D2 ∧ r = paS p0 p1 p2 p3 p4 (fun c => act (80 + 2 * c)) (fun c => C0 (80 + 2 * c) 2) (fun c => C0 (80 + 2 * c) 1)) := by
  refine MI.of (own := RX7) rfl (by decide) (Nat.le_of_ble_eq_true rfl) ?_
  intro p e s m below meth c A X hrt hnm
  obtain ⟨C, D, hC0, hD0, F, I, K⟩ : ∃ C D, C = C0 ∧ D = D0 ∧ WI L M a act (ent cy a C D R) ∧ Inv C ∧ Kp [81, 83, 85, 87] C0 D0 C D := ⟨C0, D0, rfl, rfl, F, I, Kp.rf⟩
  obtain ⟨o1, eo1⟩ : ∃ z, C0 80 1 = z := ⟨_, rfl⟩
  obtain ⟨o2, eo2⟩ : ∃ z, C0 82 1 = z := ⟨_, rfl⟩
  obtain ⟨o3, eo3⟩ : ∃ z, C0 84 1 = z := ⟨_, rfl⟩
  obtain ⟨o4, eo4⟩ : ∃ z, C0 86 1 = z := ⟨_, rfl⟩
  rcases sc4 p0 with hx5 | hx5 | rfl | rfl | rfl | rfl
  · skip
    have hno1 : p0 < 0 ∨ 4 ≤ p0 := Or.inl hx5
    rcases sc4 p2 with hx6 | hx6 | rfl | rfl | rfl | rfl
    · skip
      have hno3 : p2 < 0 ∨ 4 ≤ p2 := Or.inl hx6
      refine g_iload_n X dX7_paste_0 rfl (j := 1) rfl ?_
      refine g_callSI X (s_X7_isSlot_x l G F I p0 hno1) lk_X7_389 rfl rfl dX7_paste_1 (Nat.le_of_ble_eq_true rfl) ⟨by decide, by decide⟩ ⟨by decide, by decide⟩ (fun r7 L M hp => ?_)
      obtain ⟨C, D, F, I, K1, hr⟩ := hp
      have K := K.step K1 (by decide)
      subst hr
      refine g_if_eq X dX7_paste_4 (tgt := 14) (by decide) (fun _ => ?_) (fun q => absurd (by decide) q)
      refine g_bipush X dX7_paste_14 (v := -2) (by decide) ?_
      exact g_iret X hrt dX7_paste_16 (by decide) (by decide) ⟨C, D, F, I, K, (pa_out (Or.inl hno1))⟩
    · skip
      have hno3 : p2 < 0 ∨ 4 ≤ p2 := Or.inr hx6
      refine g_iload_n X dX7_paste_0 rfl (j := 1) rfl ?_
      refine g_callSI X (s_X7_isSlot_x l G F I p0 hno1) lk_X7_389 rfl rfl dX7_paste_1 (Nat.le_of_ble_eq_true rfl) ⟨by decide, by decide⟩ ⟨by decide, by decide⟩ (fun r8 L M hp => ?_)
      obtain ⟨C, D, F, I, K1, hr⟩ := hp
      have K := K.step K1 (by decide)
      subst hr
      refine g_if_eq X dX7_paste_4 (tgt := 14) (by decide) (fun _ => ?_) (fun q => absurd (by decide) q)
      refine g_bipush X dX7_paste_14 (v := -2) (by decide) ?_
      exact g_iret X hrt dX7_paste_16 (by decide) (by decide) ⟨C, D, F, I, K, (pa_out (Or.inl hno1))⟩
    · skip
      refine g_iload_n X dX7_paste_0 rfl (j := 1) rfl ?_
      refine g_callSI X (s_X7_isSlot_x l G F I p0 hno1) lk_X7_389 rfl rfl dX7_paste_1 (Nat.le_of_ble_eq_true rfl) ⟨by decide, by decide⟩ ⟨by decide, by decide⟩ (fun r9 L M hp => ?_)
      obtain ⟨C, D, F, I, K1, hr⟩ := hp
      have K := K.step K1 (by decide)
      subst hr
      refine g_if_eq X dX7_paste_4 (tgt := 14) (by decide) (fun _ => ?_) (fun q => absurd (by decide) q)
      refine g_bipush X dX7_paste_14 (v := -2) (by decide) ?_
      exact g_iret X hrt dX7_paste_16 (by decide) (by decide) ⟨C, D, F, I, K, (pa_out (Or.inl hno1))⟩
    · skip
      refine g_iload_n X dX7_paste_0 rfl (j := 1) rfl ?_
      refine g_callSI X (s_X7_isSlot_x l G F I p0 hno1) lk_X7_389 rfl rfl dX7_paste_1 (Nat.le_of_ble_eq_true rfl) ⟨by decide, by decide⟩ ⟨by decide, by decide⟩ (fun r10 L M hp => ?_)
      obtain ⟨C, D, F, I, K1, hr⟩ := hp
      have K := K.step K1 (by decide)
      subst hr
      refine g_if_eq X dX7_paste_4 (tgt := 14) (by decide) (fun _ => ?_) (fun q => absurd (by decide) q)
      refine g_bipush X dX7_paste_14 (v := -2) (by decide) ?_
      exact g_iret X hrt dX7_paste_16 (by decide) (by decide) ⟨C, D, F, I, K, (pa_out (Or.inl hno1))⟩
    · skip
      refine g_iload_n X dX7_paste_0 rfl (j := 1) rfl ?_
      refine g_callSI X (s_X7_isSlot_x l G F I p0 hno1) lk_X7_389 rfl rfl dX7_paste_1 (Nat.le_of_ble_eq_true rfl) ⟨by decide, by decide⟩ ⟨by decide, by decide⟩ (fun r11 L M hp => ?_)
      obtain ⟨C, D, F, I, K1, hr⟩ := hp
      have K := K.step K1 (by decide)
      subst hr
      refine g_if_eq X dX7_paste_4 (tgt := 14) (by decide) (fun _ => ?_) (fun q => absurd (by decide) q)
      refine g_bipush X dX7_paste_14 (v := -2) (by decide) ?_
      exact g_iret X hrt dX7_paste_16 (by decide) (by decide) ⟨C, D, F, I, K, (pa_out (Or.inl hno1))⟩
    · skip
      refine g_iload_n X dX7_paste_0 rfl (j := 1) rfl ?_
      refine g_callSI X (s_X7_isSlot_x l G F I p0 hno1) lk_X7_389 rfl rfl dX7_paste_1 (Nat.le_of_ble_eq_true rfl) ⟨by decide, by decide⟩ ⟨by decide, by decide⟩ (fun r12 L M hp => ?_)
      obtain ⟨C, D, F, I, K1, hr⟩ := hp
      have K := K.step K1 (by decide)
      subst hr
      refine g_if_eq X dX7_paste_4 (tgt := 14) (by decide) (fun _ => ?_) (fun q => absurd (by decide) q)
      refine g_bipush X dX7_paste_14 (v := -2) (by decide) ?_
      exact g_iret X hrt dX7_paste_16 (by decide) (by decide) ⟨C, D, F, I, K, (pa_out (Or.inl hno1))⟩
  · skip
    have hno1 : p0 < 0 ∨ 4 ≤ p0 := Or.inr hx5
    rcases sc4 p2 with hx13 | hx13 | rfl | rfl | rfl | rfl
    · skip
      have hno3 : p2 < 0 ∨ 4 ≤ p2 := Or.inl hx13
      refine g_iload_n X dX7_paste_0 rfl (j := 1) rfl ?_
      refine g_callSI X (s_X7_isSlot_x l G F I p0 hno1) lk_X7_389 rfl rfl dX7_paste_1 (Nat.le_of_ble_eq_true rfl) ⟨by decide, by decide⟩ ⟨by decide, by decide⟩ (fun r14 L M hp => ?_)
      obtain ⟨C, D, F, I, K1, hr⟩ := hp
      have K := K.step K1 (by decide)
      subst hr
      refine g_if_eq X dX7_paste_4 (tgt := 14) (by decide) (fun _ => ?_) (fun q => absurd (by decide) q)
      refine g_bipush X dX7_paste_14 (v := -2) (by decide) ?_
      exact g_iret X hrt dX7_paste_16 (by decide) (by decide) ⟨C, D, F, I, K, (pa_out (Or.inl hno1))⟩
    · skip
      have hno3 : p2 < 0 ∨ 4 ≤ p2 := Or.inr hx13
      refine g_iload_n X dX7_paste_0 rfl (j := 1) rfl ?_
      refine g_callSI X (s_X7_isSlot_x l G F I p0 hno1) lk_X7_389 rfl rfl dX7_paste_1 (Nat.le_of_ble_eq_true rfl) ⟨by decide, by decide⟩ ⟨by decide, by decide⟩ (fun r15 L M hp => ?_)
      obtain ⟨C, D, F, I, K1, hr⟩ := hp
      have K := K.step K1 (by decide)
      subst hr
      refine g_if_eq X dX7_paste_4 (tgt := 14) (by decide) (fun _ => ?_) (fun q => absurd (by decide) q)
      refine g_bipush X dX7_paste_14 (v := -2) (by decide) ?_
      exact g_iret X hrt dX7_paste_16 (by decide) (by decide) ⟨C, D, F, I, K, (pa_out (Or.inl hno1))⟩
    · skip
      refine g_iload_n X dX7_paste_0 rfl (j := 1) rfl ?_
      refine g_callSI X (s_X7_isSlot_x l G F I p0 hno1) lk_X7_389 rfl rfl dX7_paste_1 (Nat.le_of_ble_eq_true rfl) ⟨by decide, by decide⟩ ⟨by decide, by decide⟩ (fun r16 L M hp => ?_)
      obtain ⟨C, D, F, I, K1, hr⟩ := hp
      have K := K.step K1 (by decide)
      subst hr
      refine g_if_eq X dX7_paste_4 (tgt := 14) (by decide) (fun _ => ?_) (fun q => absurd (by decide) q)
      refine g_bipush X dX7_paste_14 (v := -2) (by decide) ?_
      exact g_iret X hrt dX7_paste_16 (by decide) (by decide) ⟨C, D, F, I, K, (pa_out (Or.inl hno1))⟩
    · skip
      refine g_iload_n X dX7_paste_0 rfl (j := 1) rfl ?_
      refine g_callSI X (s_X7_isSlot_x l G F I p0 hno1) lk_X7_389 rfl rfl dX7_paste_1 (Nat.le_of_ble_eq_true rfl) ⟨by decide, by decide⟩ ⟨by decide, by decide⟩ (fun r17 L M hp => ?_)
      obtain ⟨C, D, F, I, K1, hr⟩ := hp
      have K := K.step K1 (by decide)
      subst hr
      refine g_if_eq X dX7_paste_4 (tgt := 14) (by decide) (fun _ => ?_) (fun q => absurd (by decide) q)
      refine g_bipush X dX7_paste_14 (v := -2) (by decide) ?_
      exact g_iret X hrt dX7_paste_16 (by decide) (by decide) ⟨C, D, F, I, K, (pa_out (Or.inl hno1))⟩
    · skip
      refine g_iload_n X dX7_paste_0 rfl (j := 1) rfl ?_
      refine g_callSI X (s_X7_isSlot_x l G F I p0 hno1) lk_X7_389 rfl rfl dX7_paste_1 (Nat.le_of_ble_eq_true rfl) ⟨by decide, by decide⟩ ⟨by decide, by decide⟩ (fun r18 L M hp => ?_)
      obtain ⟨C, D, F, I, K1, hr⟩ := hp
      have K := K.step K1 (by decide)
      subst hr
      refine g_if_eq X dX7_paste_4 (tgt := 14) (by decide) (fun _ => ?_) (fun q => absurd (by decide) q)
      refine g_bipush X dX7_paste_14 (v := -2) (by decide) ?_
      exact g_iret X hrt dX7_paste_16 (by decide) (by decide) ⟨C, D, F, I, K, (pa_out (Or.inl hno1))⟩
    · skip
      refine g_iload_n X dX7_paste_0 rfl (j := 1) rfl ?_
      refine g_callSI X (s_X7_isSlot_x l G F I p0 hno1) lk_X7_389 rfl rfl dX7_paste_1 (Nat.le_of_ble_eq_true rfl) ⟨by decide, by decide⟩ ⟨by decide, by decide⟩ (fun r19 L M hp => ?_)
      obtain ⟨C, D, F, I, K1, hr⟩ := hp
      have K := K.step K1 (by decide)
      subst hr
      refine g_if_eq X dX7_paste_4 (tgt := 14) (by decide) (fun _ => ?_) (fun q => absurd (by decide) q)
      refine g_bipush X dX7_paste_14 (v := -2) (by decide) ?_
      exact g_iret X hrt dX7_paste_16 (by decide) (by decide) ⟨C, D, F, I, K, (pa_out (Or.inl hno1))⟩
  · skip
    rcases sc4 p2 with hx20 | hx20 | rfl | rfl | rfl | rfl
    · skip
      have hno3 : p2 < 0 ∨ 4 ≤ p2 := Or.inl hx20
      refine g_iload_n X dX7_paste_0 rfl (j := 1) rfl ?_
      refine g_callSI X (s_X7_isSlot_0 l G F I  ) lk_X7_389 rfl rfl dX7_paste_1 (Nat.le_of_ble_eq_true rfl) ⟨by decide, by decide⟩ ⟨by decide, by decide⟩ (fun r21 L M hp => ?_)
      obtain ⟨C, D, F, I, K1, hr⟩ := hp
      have K := K.step K1 (by decide)
      subst hr
      refine g_if_eq X dX7_paste_4 (tgt := 14) (by decide) (fun q => absurd q (by decide)) (fun _ => ?_)
      refine g_iload_n X dX7_paste_7 rfl (j := 3) rfl ?_
      refine g_callSI X (s_X7_isSlot_x l G F I p2 hno3) lk_X7_389 rfl rfl dX7_paste_8 (Nat.le_of_ble_eq_true rfl) ⟨by decide, by decide⟩ ⟨by decide, by decide⟩ (fun r22 L M hp => ?_)
      obtain ⟨C, D, F, I, K1, hr⟩ := hp
      have K := K.step K1 (by decide)
      subst hr
      refine g_if_ne X dX7_paste_11 (tgt := 17) (by decide) (fun q => absurd (by decide) q) (fun _ => ?_)
      refine g_bipush X dX7_paste_14 (v := -2) (by decide) ?_
      exact g_iret X hrt dX7_paste_16 (by decide) (by decide) ⟨C, D, F, I, K, (pa_out (Or.inr hno3))⟩
    · skip
      have hno3 : p2 < 0 ∨ 4 ≤ p2 := Or.inr hx20
      refine g_iload_n X dX7_paste_0 rfl (j := 1) rfl ?_
      refine g_callSI X (s_X7_isSlot_0 l G F I  ) lk_X7_389 rfl rfl dX7_paste_1 (Nat.le_of_ble_eq_true rfl) ⟨by decide, by decide⟩ ⟨by decide, by decide⟩ (fun r23 L M hp => ?_)
      obtain ⟨C, D, F, I, K1, hr⟩ := hp
      have K := K.step K1 (by decide)
      subst hr
      refine g_if_eq X dX7_paste_4 (tgt := 14) (by decide) (fun q => absurd q (by decide)) (fun _ => ?_)
      refine g_iload_n X dX7_paste_7 rfl (j := 3) rfl ?_
      refine g_callSI X (s_X7_isSlot_x l G F I p2 hno3) lk_X7_389 rfl rfl dX7_paste_8 (Nat.le_of_ble_eq_true rfl) ⟨by decide, by decide⟩ ⟨by decide, by decide⟩ (fun r24 L M hp => ?_)
      obtain ⟨C, D, F, I, K1, hr⟩ := hp
      have K := K.step K1 (by decide)
      subst hr
      refine g_if_ne X dX7_paste_11 (tgt := 17) (by decide) (fun q => absurd (by decide) q) (fun _ => ?_)
      refine g_bipush X dX7_paste_14 (v := -2) (by decide) ?_
      exact g_iret X hrt dX7_paste_16 (by decide) (by decide) ⟨C, D, F, I, K, (pa_out (Or.inr hno3))⟩
    · skip
      refine g_iload_n X dX7_paste_0 rfl (j := 1) rfl ?_
      refine g_callSI X (s_X7_isSlot_0 l G F I  ) lk_X7_389 rfl rfl dX7_paste_1 (Nat.le_of_ble_eq_true rfl) ⟨by decide, by decide⟩ ⟨by decide, by decide⟩ (fun r25 L M hp => ?_)
      obtain ⟨C, D, F, I, K1, hr⟩ := hp
      have K := K.step K1 (by decide)
      subst hr
      refine g_if_eq X dX7_paste_4 (tgt := 14) (by decide) (fun q => absurd q (by decide)) (fun _ => ?_)
      refine g_iload_n X dX7_paste_7 rfl (j := 3) rfl ?_
      refine g_callSI X (s_X7_isSlot_0 l G F I  ) lk_X7_389 rfl rfl dX7_paste_8 (Nat.le_of_ble_eq_true rfl) ⟨by decide, by decide⟩ ⟨by decide, by decide⟩ (fun r26 L M hp => ?_)
      obtain ⟨C, D, F, I, K1, hr⟩ := hp
      have K := K.step K1 (by decide)
      subst hr
      refine g_if_ne X dX7_paste_11 (tgt := 17) (by decide) (fun _ => ?_) (fun q => absurd q (by decide))
      refine g_aload_n X dX7_paste_17 rfl (j := 0) rfl ?_
      refine i_get X F 0 rfl rfl fk_X7_32 dX7_paste_18 rfl ?_
      refine g_iload_n X dX7_paste_21 rfl (j := 1) rfl ?_
      rcases (Bool.eq_false_or_eq_true (act 80)).symm with hA80 | hA80
      · skip
        refine i_aald X F 24 rfl (t0 := 5) rfl rfl dX7_paste_22 (vp_in_iff.mpr (by decide)) (v := .null) (by show va_rf (R 24 0) = _; rw [HR.1 0 (by decide)]; rw [if_neg (by rw [hA80]; decide)]; rfl) ?_
        refine g_astoreN X dX7_paste_23 (by decide) (lv2 := [(6, .null), (0, .ref (a 0)), (1, .int 0), (2, .int p1), (3, .int 0), (4, .int p3), (5, .int p4)]) rfl ?_
        refine g_aload_n X dX7_paste_25 rfl (j := 1) rfl ?_
        refine i_get X F 0 rfl rfl fk_X7_32 dX7_paste_26 rfl ?_
        refine g_iload_n X dX7_paste_29 rfl (j := 4) rfl ?_
        refine i_aald X F 24 rfl (t0 := 5) rfl rfl dX7_paste_30 (vp_in_iff.mpr (by decide)) (v := .null) (by show va_rf (R 24 0) = _; rw [HR.1 0 (by decide)]; rw [if_neg (by rw [hA80]; decide)]; rfl) ?_
        refine g_astoreN X dX7_paste_31 (by decide) (lv2 := [(7, .null), (6, .null), (0, .ref (a 0)), (1, .int 0), (2, .int p1), (3, .int 0), (4, .int p3), (5, .int p4)]) rfl ?_
        refine g_aloadN X dX7_paste_33 (j := 1) rfl ?_
        refine g_ifnullN X dX7_paste_35 (tgt := 43) (by decide) ?_
        refine g_bipush X dX7_paste_43 (v := -6) (by decide) ?_
        exact g_iret X hrt dX7_paste_45 (by decide) (by decide) ⟨C, D, F, I, K, (pa_no (c := 0) (d := 0) (by decide) (by decide) (Or.inl hA80))⟩
      · skip
        have act80 : (baseact 80 || act 80) = true := by rw [hA80]; rfl
        have act81 : (baseact 81 || act 81) = true := by rw [((HR.2.2.1 0 (by decide)).trans hA80)]; rfl
        refine i_aald X F 24 rfl (t0 := 5) rfl rfl dX7_paste_22 (vp_in_iff.mpr (by decide)) (v := .ref (a 80)) (by show va_rf (R 24 0) = _; rw [HR.1 0 (by decide)]; rw [if_pos hA80]; rfl) ?_
        refine g_astore X dX7_paste_23 (by decide) (lv2 := [(6, .ref (a 80)), (0, .ref (a 0)), (1, .int 0), (2, .int p1), (3, .int 0), (4, .int p3), (5, .int p4)]) rfl ?_
        refine g_aload_n X dX7_paste_25 rfl (j := 1) rfl ?_
        refine i_get X F 0 rfl rfl fk_X7_32 dX7_paste_26 rfl ?_
        refine g_iload_n X dX7_paste_29 rfl (j := 4) rfl ?_
        refine i_aald X F 24 rfl (t0 := 5) rfl rfl dX7_paste_30 (vp_in_iff.mpr (by decide)) (v := .ref (a 80)) (by show va_rf (R 24 0) = _; rw [HR.1 0 (by decide)]; rw [if_pos hA80]; rfl) ?_
        refine g_astore X dX7_paste_31 (by decide) (lv2 := [(7, .ref (a 80)), (6, .ref (a 80)), (0, .ref (a 0)), (1, .int 0), (2, .int p1), (3, .int 0), (4, .int p3), (5, .int p4)]) rfl ?_
        refine g_aload X dX7_paste_33 (j := 1) rfl ?_
        refine g_ifnull X dX7_paste_35 ?_
        refine g_aload X dX7_paste_38 (j := 0) rfl ?_
        refine g_ifnonnull X dX7_paste_40 (tgt := 46) (by decide) ?_
        refine g_aload X dX7_paste_46 (j := 1) rfl ?_
        refine i_get X F 80 (act80) rfl fk_X7_400 dX7_paste_48 (v := .int o1) (congrArg (fun z => some (Value.int z)) ((congrFun (K 80 (by decide)).1 1).trans eo1)) ?_
        refine g_aload X dX7_paste_51 (j := 0) rfl ?_
        refine i_get X F 80 (act80) rfl fk_X7_400 dX7_paste_53 (v := .int o1) (congrArg (fun z => some (Value.int z)) ((congrFun (K 80 (by decide)).1 1).trans eo1)) ?_
        refine g_icmp_eq X dX7_paste_56 (tgt := 62) (by decide) (fun q30 => ?_) (fun q30 => ?_)
        · skip
          refine g_aload X dX7_paste_62 (j := 1) rfl ?_
          refine g_iload_n X dX7_paste_64 rfl (j := 4) rfl ?_
          refine g_iload X dX7_paste_65 (j := 7) rfl ?_
          refine g_callVI X (s_X5_hasPart_80 l G F I p1 p4 act80) lk_X7_403 (F.1 80 (act80)).2 (F.1 80 (act80)).1 rfl rfl dX7_paste_67 (Nat.le_of_ble_eq_true rfl) ⟨by decide, by decide⟩ ⟨by decide, by decide⟩ (fun r31 L M hp => ?_)
          obtain ⟨C, D, F, I, K1, hr⟩ := hp
          have K := K.step K1 (by decide)
          rcases hr with ⟨rfl, hp32⟩ | ⟨rfl, hp32⟩
          · skip
            rw [(K 80 (by decide)).1] at hp32
            refine g_if_eq X dX7_paste_70 (tgt := 85) (by decide) (fun _ => ?_) (fun q => absurd (by decide) q)
            refine g_bipush X dX7_paste_85 (v := -7) (by decide) ?_
            exact g_iret X hrt dX7_paste_87 (by decide) (by decide) ⟨C, D, F, I, K, (pa_b (c := 0) (d := 0) (by decide) (by decide) hA80 hA80 (eo1.trans (q30.trans eo1.symm)) (fun z => hp32 ⟨z.1.1, z.1.2.1, z.1.2.2⟩))⟩
          · skip
            rw [(K 80 (by decide)).1] at hp32
            refine g_if_eq X dX7_paste_70 (tgt := 85) (by decide) (fun q => absurd q (by decide)) (fun _ => ?_)
            refine g_aload X dX7_paste_73 (j := 0) rfl ?_
            refine g_iload X dX7_paste_75 (j := 6) rfl ?_
            refine g_iload X dX7_paste_77 (j := 7) rfl ?_
            refine g_callVI X (s_X5_hasPart_80 l G F I p3 p4 act80) lk_X7_403 (F.1 80 (act80)).2 (F.1 80 (act80)).1 rfl rfl dX7_paste_79 (Nat.le_of_ble_eq_true rfl) ⟨by decide, by decide⟩ ⟨by decide, by decide⟩ (fun r33 L M hp => ?_)
            obtain ⟨C, D, F, I, K1, hr⟩ := hp
            have K := K.step K1 (by decide)
            rcases hr with ⟨rfl, hp34⟩ | ⟨rfl, hp34⟩
            · skip
              rw [(K 80 (by decide)).1] at hp34
              refine g_if_ne X dX7_paste_82 (tgt := 88) (by decide) (fun q => absurd (by decide) q) (fun _ => ?_)
              refine g_bipush X dX7_paste_85 (v := -7) (by decide) ?_
              exact g_iret X hrt dX7_paste_87 (by decide) (by decide) ⟨C, D, F, I, K, (pa_b (c := 0) (d := 0) (by decide) (by decide) hA80 hA80 (eo1.trans (q30.trans eo1.symm)) (fun z => hp34 ⟨z.2.1, z.1.2.1, z.2.2⟩))⟩
            · skip
              rw [(K 80 (by decide)).1] at hp34
              refine g_if_ne X dX7_paste_82 (tgt := 88) (by decide) (fun _ => ?_) (fun q => absurd q (by decide))
              have hz80 := (show (C0 80 2).toInt ≤ 60 from (by have z := I 80 2 rfl; rw [(K 80 (by decide)).1] at z; exact z.2))
              have hz80 := (show (C0 80 2).toInt ≤ 60 from (by have z := I 80 2 rfl; rw [(K 80 (by decide)).1] at z; exact z.2))
              obtain ⟨n35, hn35a, hn35b, en35⟩ := nI_ofInt (x := p1) (lo := 0) (hi := 60) (by omega) (by omega) (by decide)
              subst en35
              have tn35 := nI_toInt (n := n35) (by omega)
              obtain ⟨n36, hn36a, hn36b, en36⟩ := nI_ofInt (x := p3) (lo := 0) (hi := 60) (by omega) (by omega) (by decide)
              subst en36
              have tn36 := nI_toInt (n := n36) (by omega)
              obtain ⟨n37, hn37a, hn37b, en37⟩ := nI_ofInt (x := p4) (lo := 0) (hi := 60) (by omega) (by omega) (by decide)
              subst en37
              have tn37 := nI_toInt (n := n37) (by omega)
              refine g_aload X dX7_paste_88 (j := 1) rfl ?_
              refine i_get X F 80 (act80) rfl fk_X7_406 dX7_paste_90 rfl ?_
              refine g_iload_n X dX7_paste_93 rfl (j := 4) rfl ?_
              refine g_aload X dX7_paste_94 (j := 0) rfl ?_
              refine i_get X F 80 (act80) rfl fk_X7_406 dX7_paste_96 rfl ?_
              refine g_iload X dX7_paste_99 (j := 6) rfl ?_
              refine g_iload X dX7_paste_101 (j := 7) rfl ?_
              refine i_copyl X F 81 (act81) 81 (act81) rfl (fun _ => rfl) (t0 := 2) rfl rfl wd604 wd87 wd88 wd89 (nI_pos (by omega)) (nI_pos (by omega)) (nI_pos (by omega)) (by rw [nI_clamp (show n35 < 2 ^ 31 by omega), nI_clamp (show n37 < 2 ^ 31 by omega)]; omega) (by rw [nI_clamp (show n36 < 2 ^ 31 by omega), nI_clamp (show n37 < 2 ^ 31 by omega)]; omega) (fun _ _ => rfl) (by decide) (Nat.le_of_ble_eq_true rfl) dX7_paste_103 (fun M D F K1 => ?_)
              have K := K.step K1 (by decide)
              refine g_iconst X dX7_paste_106 (v := 0) (by decide) ?_
              exact g_iret X hrt dX7_paste_107 (by decide) (by decide) ⟨C, D, F, I, K, (pa_k (c := 0) (d := 0) (by decide) (by decide) hA80 hA80 (eo1.trans (q30.trans eo1.symm)) ⟨hp32, hp34.1, hp34.2.2⟩)⟩
        · skip
          refine g_bipush X dX7_paste_59 (v := -8) (by decide) ?_
          exact g_iret X hrt dX7_paste_61 (by decide) (by decide) ⟨C, D, F, I, K, (pa_w (c := 0) (d := 0) (by decide) (by decide) hA80 hA80 (fun h => q30 (eo1.symm.trans (h.trans eo1))))⟩
    · skip
      refine g_iload_n X dX7_paste_0 rfl (j := 1) rfl ?_
      refine g_callSI X (s_X7_isSlot_0 l G F I  ) lk_X7_389 rfl rfl dX7_paste_1 (Nat.le_of_ble_eq_true rfl) ⟨by decide, by decide⟩ ⟨by decide, by decide⟩ (fun r38 L M hp => ?_)
      obtain ⟨C, D, F, I, K1, hr⟩ := hp
      have K := K.step K1 (by decide)
      subst hr
      refine g_if_eq X dX7_paste_4 (tgt := 14) (by decide) (fun q => absurd q (by decide)) (fun _ => ?_)
      refine g_iload_n X dX7_paste_7 rfl (j := 3) rfl ?_
      refine g_callSI X (s_X7_isSlot_1 l G F I  ) lk_X7_389 rfl rfl dX7_paste_8 (Nat.le_of_ble_eq_true rfl) ⟨by decide, by decide⟩ ⟨by decide, by decide⟩ (fun r39 L M hp => ?_)
      obtain ⟨C, D, F, I, K1, hr⟩ := hp
      have K := K.step K1 (by decide)
      subst hr
      refine g_if_ne X dX7_paste_11 (tgt := 17) (by decide) (fun _ => ?_) (fun q => absurd q (by decide))
      refine g_aload_n X dX7_paste_17 rfl (j := 0) rfl ?_
      refine i_get X F 0 rfl rfl fk_X7_32 dX7_paste_18 rfl ?_
      refine g_iload_n X dX7_paste_21 rfl (j := 1) rfl ?_
      rcases (Bool.eq_false_or_eq_true (act 80)).symm with hA80 | hA80
      · skip
        refine i_aald X F 24 rfl (t0 := 5) rfl rfl dX7_paste_22 (vp_in_iff.mpr (by decide)) (v := .null) (by show va_rf (R 24 0) = _; rw [HR.1 0 (by decide)]; rw [if_neg (by rw [hA80]; decide)]; rfl) ?_
        refine g_astoreN X dX7_paste_23 (by decide) (lv2 := [(6, .null), (0, .ref (a 0)), (1, .int 0), (2, .int p1), (3, .int 1), (4, .int p3), (5, .int p4)]) rfl ?_
        refine g_aload_n X dX7_paste_25 rfl (j := 1) rfl ?_
        refine i_get X F 0 rfl rfl fk_X7_32 dX7_paste_26 rfl ?_
        refine g_iload_n X dX7_paste_29 rfl (j := 4) rfl ?_
        rcases (Bool.eq_false_or_eq_true (act 82)).symm with hA82 | hA82
        · skip
          refine i_aald X F 24 rfl (t0 := 5) rfl rfl dX7_paste_30 (vp_in_iff.mpr (by decide)) (v := .null) (by show va_rf (R 24 1) = _; rw [HR.1 1 (by decide)]; rw [if_neg (by rw [hA82]; decide)]; rfl) ?_
          refine g_astoreN X dX7_paste_31 (by decide) (lv2 := [(7, .null), (6, .null), (0, .ref (a 0)), (1, .int 0), (2, .int p1), (3, .int 1), (4, .int p3), (5, .int p4)]) rfl ?_
          refine g_aloadN X dX7_paste_33 (j := 1) rfl ?_
          refine g_ifnullN X dX7_paste_35 (tgt := 43) (by decide) ?_
          refine g_bipush X dX7_paste_43 (v := -6) (by decide) ?_
          exact g_iret X hrt dX7_paste_45 (by decide) (by decide) ⟨C, D, F, I, K, (pa_no (c := 0) (d := 1) (by decide) (by decide) (Or.inl hA80))⟩
        · skip
          have act82 : (baseact 82 || act 82) = true := by rw [hA82]; rfl
          have act83 : (baseact 83 || act 83) = true := by rw [((HR.2.2.1 1 (by decide)).trans hA82)]; rfl
          refine i_aald X F 24 rfl (t0 := 5) rfl rfl dX7_paste_30 (vp_in_iff.mpr (by decide)) (v := .ref (a 82)) (by show va_rf (R 24 1) = _; rw [HR.1 1 (by decide)]; rw [if_pos hA82]; rfl) ?_
          refine g_astore X dX7_paste_31 (by decide) (lv2 := [(7, .ref (a 82)), (6, .null), (0, .ref (a 0)), (1, .int 0), (2, .int p1), (3, .int 1), (4, .int p3), (5, .int p4)]) rfl ?_
          refine g_aloadN X dX7_paste_33 (j := 1) rfl ?_
          refine g_ifnullN X dX7_paste_35 (tgt := 43) (by decide) ?_
          refine g_bipush X dX7_paste_43 (v := -6) (by decide) ?_
          exact g_iret X hrt dX7_paste_45 (by decide) (by decide) ⟨C, D, F, I, K, (pa_no (c := 0) (d := 1) (by decide) (by decide) (Or.inl hA80))⟩
      · skip
        have act80 : (baseact 80 || act 80) = true := by rw [hA80]; rfl
        have act81 : (baseact 81 || act 81) = true := by rw [((HR.2.2.1 0 (by decide)).trans hA80)]; rfl
        refine i_aald X F 24 rfl (t0 := 5) rfl rfl dX7_paste_22 (vp_in_iff.mpr (by decide)) (v := .ref (a 80)) (by show va_rf (R 24 0) = _; rw [HR.1 0 (by decide)]; rw [if_pos hA80]; rfl) ?_
        refine g_astore X dX7_paste_23 (by decide) (lv2 := [(6, .ref (a 80)), (0, .ref (a 0)), (1, .int 0), (2, .int p1), (3, .int 1), (4, .int p3), (5, .int p4)]) rfl ?_
        refine g_aload_n X dX7_paste_25 rfl (j := 1) rfl ?_
        refine i_get X F 0 rfl rfl fk_X7_32 dX7_paste_26 rfl ?_
        refine g_iload_n X dX7_paste_29 rfl (j := 4) rfl ?_
        rcases (Bool.eq_false_or_eq_true (act 82)).symm with hA82 | hA82
        · skip
          refine i_aald X F 24 rfl (t0 := 5) rfl rfl dX7_paste_30 (vp_in_iff.mpr (by decide)) (v := .null) (by show va_rf (R 24 1) = _; rw [HR.1 1 (by decide)]; rw [if_neg (by rw [hA82]; decide)]; rfl) ?_
          refine g_astoreN X dX7_paste_31 (by decide) (lv2 := [(7, .null), (6, .ref (a 80)), (0, .ref (a 0)), (1, .int 0), (2, .int p1), (3, .int 1), (4, .int p3), (5, .int p4)]) rfl ?_
          refine g_aload X dX7_paste_33 (j := 1) rfl ?_
          refine g_ifnull X dX7_paste_35 ?_
          refine g_aloadN X dX7_paste_38 (j := 0) rfl ?_
          refine g_ifnonnullN X dX7_paste_40 ?_
          refine g_bipush X dX7_paste_43 (v := -6) (by decide) ?_
          exact g_iret X hrt dX7_paste_45 (by decide) (by decide) ⟨C, D, F, I, K, (pa_no (c := 0) (d := 1) (by decide) (by decide) (Or.inr hA82))⟩
        · skip
          have act82 : (baseact 82 || act 82) = true := by rw [hA82]; rfl
          have act83 : (baseact 83 || act 83) = true := by rw [((HR.2.2.1 1 (by decide)).trans hA82)]; rfl
          refine i_aald X F 24 rfl (t0 := 5) rfl rfl dX7_paste_30 (vp_in_iff.mpr (by decide)) (v := .ref (a 82)) (by show va_rf (R 24 1) = _; rw [HR.1 1 (by decide)]; rw [if_pos hA82]; rfl) ?_
          refine g_astore X dX7_paste_31 (by decide) (lv2 := [(7, .ref (a 82)), (6, .ref (a 80)), (0, .ref (a 0)), (1, .int 0), (2, .int p1), (3, .int 1), (4, .int p3), (5, .int p4)]) rfl ?_
          refine g_aload X dX7_paste_33 (j := 1) rfl ?_
          refine g_ifnull X dX7_paste_35 ?_
          refine g_aload X dX7_paste_38 (j := 0) rfl ?_
          refine g_ifnonnull X dX7_paste_40 (tgt := 46) (by decide) ?_
          refine g_aload X dX7_paste_46 (j := 1) rfl ?_
          refine i_get X F 80 (act80) rfl fk_X7_400 dX7_paste_48 (v := .int o1) (congrArg (fun z => some (Value.int z)) ((congrFun (K 80 (by decide)).1 1).trans eo1)) ?_
          refine g_aload X dX7_paste_51 (j := 0) rfl ?_
          refine i_get X F 82 (act82) rfl fk_X7_400 dX7_paste_53 (v := .int o2) (congrArg (fun z => some (Value.int z)) ((congrFun (K 82 (by decide)).1 1).trans eo2)) ?_
          refine g_icmp_eq X dX7_paste_56 (tgt := 62) (by decide) (fun q43 => ?_) (fun q43 => ?_)
          · skip
            refine g_aload X dX7_paste_62 (j := 1) rfl ?_
            refine g_iload_n X dX7_paste_64 rfl (j := 4) rfl ?_
            refine g_iload X dX7_paste_65 (j := 7) rfl ?_
            refine g_callVI X (s_X5_hasPart_80 l G F I p1 p4 act80) lk_X7_403 (F.1 80 (act80)).2 (F.1 80 (act80)).1 rfl rfl dX7_paste_67 (Nat.le_of_ble_eq_true rfl) ⟨by decide, by decide⟩ ⟨by decide, by decide⟩ (fun r44 L M hp => ?_)
            obtain ⟨C, D, F, I, K1, hr⟩ := hp
            have K := K.step K1 (by decide)
            rcases hr with ⟨rfl, hp45⟩ | ⟨rfl, hp45⟩
            · skip
              rw [(K 80 (by decide)).1] at hp45
              refine g_if_eq X dX7_paste_70 (tgt := 85) (by decide) (fun _ => ?_) (fun q => absurd (by decide) q)
              refine g_bipush X dX7_paste_85 (v := -7) (by decide) ?_
              exact g_iret X hrt dX7_paste_87 (by decide) (by decide) ⟨C, D, F, I, K, (pa_b (c := 0) (d := 1) (by decide) (by decide) hA80 hA82 (eo1.trans (q43.trans eo2.symm)) (fun z => hp45 ⟨z.1.1, z.1.2.1, z.1.2.2⟩))⟩
            · skip
              rw [(K 80 (by decide)).1] at hp45
              refine g_if_eq X dX7_paste_70 (tgt := 85) (by decide) (fun q => absurd q (by decide)) (fun _ => ?_)
              refine g_aload X dX7_paste_73 (j := 0) rfl ?_
              refine g_iload X dX7_paste_75 (j := 6) rfl ?_
              refine g_iload X dX7_paste_77 (j := 7) rfl ?_
              refine g_callVI X (s_X5_hasPart_82 l G F I p3 p4 act82) lk_X7_403 (F.1 82 (act82)).2 (F.1 82 (act82)).1 rfl rfl dX7_paste_79 (Nat.le_of_ble_eq_true rfl) ⟨by decide, by decide⟩ ⟨by decide, by decide⟩ (fun r46 L M hp => ?_)
              obtain ⟨C, D, F, I, K1, hr⟩ := hp
              have K := K.step K1 (by decide)
              rcases hr with ⟨rfl, hp47⟩ | ⟨rfl, hp47⟩
              · skip
                rw [(K 82 (by decide)).1] at hp47
                refine g_if_ne X dX7_paste_82 (tgt := 88) (by decide) (fun q => absurd (by decide) q) (fun _ => ?_)
                refine g_bipush X dX7_paste_85 (v := -7) (by decide) ?_
                exact g_iret X hrt dX7_paste_87 (by decide) (by decide) ⟨C, D, F, I, K, (pa_b (c := 0) (d := 1) (by decide) (by decide) hA80 hA82 (eo1.trans (q43.trans eo2.symm)) (fun z => hp47 ⟨z.2.1, z.1.2.1, z.2.2⟩))⟩
              · skip
                rw [(K 82 (by decide)).1] at hp47
                refine g_if_ne X dX7_paste_82 (tgt := 88) (by decide) (fun _ => ?_) (fun q => absurd q (by decide))
                have hz80 := (show (C0 80 2).toInt ≤ 60 from (by have z := I 80 2 rfl; rw [(K 80 (by decide)).1] at z; exact z.2))
                have hz82 := (show (C0 82 2).toInt ≤ 60 from (by have z := I 82 2 rfl; rw [(K 82 (by decide)).1] at z; exact z.2))
                obtain ⟨n48, hn48a, hn48b, en48⟩ := nI_ofInt (x := p1) (lo := 0) (hi := 60) (by omega) (by omega) (by decide)
                subst en48
                have tn48 := nI_toInt (n := n48) (by omega)
                obtain ⟨n49, hn49a, hn49b, en49⟩ := nI_ofInt (x := p3) (lo := 0) (hi := 60) (by omega) (by omega) (by decide)
                subst en49
                have tn49 := nI_toInt (n := n49) (by omega)
                obtain ⟨n50, hn50a, hn50b, en50⟩ := nI_ofInt (x := p4) (lo := 0) (hi := 60) (by omega) (by omega) (by decide)
                subst en50
                have tn50 := nI_toInt (n := n50) (by omega)
                refine g_aload X dX7_paste_88 (j := 1) rfl ?_
                refine i_get X F 80 (act80) rfl fk_X7_406 dX7_paste_90 rfl ?_
                refine g_iload_n X dX7_paste_93 rfl (j := 4) rfl ?_
                refine g_aload X dX7_paste_94 (j := 0) rfl ?_
                refine i_get X F 82 (act82) rfl fk_X7_406 dX7_paste_96 rfl ?_
                refine g_iload X dX7_paste_99 (j := 6) rfl ?_
                refine g_iload X dX7_paste_101 (j := 7) rfl ?_
                refine i_copyl X F 81 (act81) 83 (act83) rfl (fun _ => rfl) (t0 := 2) rfl rfl wd604 wd87 wd88 wd89 (nI_pos (by omega)) (nI_pos (by omega)) (nI_pos (by omega)) (by rw [nI_clamp (show n48 < 2 ^ 31 by omega), nI_clamp (show n50 < 2 ^ 31 by omega)]; omega) (by rw [nI_clamp (show n49 < 2 ^ 31 by omega), nI_clamp (show n50 < 2 ^ 31 by omega)]; omega) (fun _ _ => rfl) (by decide) (Nat.le_of_ble_eq_true rfl) dX7_paste_103 (fun M D F K1 => ?_)
                have K := K.step K1 (by decide)
                refine g_iconst X dX7_paste_106 (v := 0) (by decide) ?_
                exact g_iret X hrt dX7_paste_107 (by decide) (by decide) ⟨C, D, F, I, K, (pa_k (c := 0) (d := 1) (by decide) (by decide) hA80 hA82 (eo1.trans (q43.trans eo2.symm)) ⟨hp45, hp47.1, hp47.2.2⟩)⟩
          · skip
            refine g_bipush X dX7_paste_59 (v := -8) (by decide) ?_
            exact g_iret X hrt dX7_paste_61 (by decide) (by decide) ⟨C, D, F, I, K, (pa_w (c := 0) (d := 1) (by decide) (by decide) hA80 hA82 (fun h => q43 (eo1.symm.trans (h.trans eo2))))⟩
    · skip
      refine g_iload_n X dX7_paste_0 rfl (j := 1) rfl ?_
      refine g_callSI X (s_X7_isSlot_0 l G F I  ) lk_X7_389 rfl rfl dX7_paste_1 (Nat.le_of_ble_eq_true rfl) ⟨by decide, by decide⟩ ⟨by decide, by decide⟩ (fun r51 L M hp => ?_)
      obtain ⟨C, D, F, I, K1, hr⟩ := hp
      have K := K.step K1 (by decide)
      subst hr
      refine g_if_eq X dX7_paste_4 (tgt := 14) (by decide) (fun q => absurd q (by decide)) (fun _ => ?_)
      refine g_iload_n X dX7_paste_7 rfl (j := 3) rfl ?_
      refine g_callSI X (s_X7_isSlot_2 l G F I  ) lk_X7_389 rfl rfl dX7_paste_8 (Nat.le_of_ble_eq_true rfl) ⟨by decide, by decide⟩ ⟨by decide, by decide⟩ (fun r52 L M hp => ?_)
      obtain ⟨C, D, F, I, K1, hr⟩ := hp
      have K := K.step K1 (by decide)
      subst hr
      refine g_if_ne X dX7_paste_11 (tgt := 17) (by decide) (fun _ => ?_) (fun q => absurd q (by decide))
      refine g_aload_n X dX7_paste_17 rfl (j := 0) rfl ?_
      refine i_get X F 0 rfl rfl fk_X7_32 dX7_paste_18 rfl ?_
      refine g_iload_n X dX7_paste_21 rfl (j := 1) rfl ?_
      rcases (Bool.eq_false_or_eq_true (act 80)).symm with hA80 | hA80
      · skip
        refine i_aald X F 24 rfl (t0 := 5) rfl rfl dX7_paste_22 (vp_in_iff.mpr (by decide)) (v := .null) (by show va_rf (R 24 0) = _; rw [HR.1 0 (by decide)]; rw [if_neg (by rw [hA80]; decide)]; rfl) ?_
        refine g_astoreN X dX7_paste_23 (by decide) (lv2 := [(6, .null), (0, .ref (a 0)), (1, .int 0), (2, .int p1), (3, .int 2), (4, .int p3), (5, .int p4)]) rfl ?_
        refine g_aload_n X dX7_paste_25 rfl (j := 1) rfl ?_
        refine i_get X F 0 rfl rfl fk_X7_32 dX7_paste_26 rfl ?_
        refine g_iload_n X dX7_paste_29 rfl (j := 4) rfl ?_
        rcases (Bool.eq_false_or_eq_true (act 84)).symm with hA84 | hA84
        · skip
          refine i_aald X F 24 rfl (t0 := 5) rfl rfl dX7_paste_30 (vp_in_iff.mpr (by decide)) (v := .null) (by show va_rf (R 24 2) = _; rw [HR.1 2 (by decide)]; rw [if_neg (by rw [hA84]; decide)]; rfl) ?_
          refine g_astoreN X dX7_paste_31 (by decide) (lv2 := [(7, .null), (6, .null), (0, .ref (a 0)), (1, .int 0), (2, .int p1), (3, .int 2), (4, .int p3), (5, .int p4)]) rfl ?_
          refine g_aloadN X dX7_paste_33 (j := 1) rfl ?_
          refine g_ifnullN X dX7_paste_35 (tgt := 43) (by decide) ?_
          refine g_bipush X dX7_paste_43 (v := -6) (by decide) ?_
          exact g_iret X hrt dX7_paste_45 (by decide) (by decide) ⟨C, D, F, I, K, (pa_no (c := 0) (d := 2) (by decide) (by decide) (Or.inl hA80))⟩
        · skip
          have act84 : (baseact 84 || act 84) = true := by rw [hA84]; rfl
          have act85 : (baseact 85 || act 85) = true := by rw [((HR.2.2.1 2 (by decide)).trans hA84)]; rfl
          refine i_aald X F 24 rfl (t0 := 5) rfl rfl dX7_paste_30 (vp_in_iff.mpr (by decide)) (v := .ref (a 84)) (by show va_rf (R 24 2) = _; rw [HR.1 2 (by decide)]; rw [if_pos hA84]; rfl) ?_
          refine g_astore X dX7_paste_31 (by decide) (lv2 := [(7, .ref (a 84)), (6, .null), (0, .ref (a 0)), (1, .int 0), (2, .int p1), (3, .int 2), (4, .int p3), (5, .int p4)]) rfl ?_
          refine g_aloadN X dX7_paste_33 (j := 1) rfl ?_
          refine g_ifnullN X dX7_paste_35 (tgt := 43) (by decide) ?_
          refine g_bipush X dX7_paste_43 (v := -6) (by decide) ?_
          exact g_iret X hrt dX7_paste_45 (by decide) (by decide) ⟨C, D, F, I, K, (pa_no (c := 0) (d := 2) (by decide) (by decide) (Or.inl hA80))⟩
      · skip
        have act80 : (baseact 80 || act 80) = true := by rw [hA80]; rfl
        have act81 : (baseact 81 || act 81) = true := by rw [((HR.2.2.1 0 (by decide)).trans hA80)]; rfl
        refine i_aald X F 24 rfl (t0 := 5) rfl rfl dX7_paste_22 (vp_in_iff.mpr (by decide)) (v := .ref (a 80)) (by show va_rf (R 24 0) = _; rw [HR.1 0 (by decide)]; rw [if_pos hA80]; rfl) ?_
        refine g_astore X dX7_paste_23 (by decide) (lv2 := [(6, .ref (a 80)), (0, .ref (a 0)), (1, .int 0), (2, .int p1), (3, .int 2), (4, .int p3), (5, .int p4)]) rfl ?_
        refine g_aload_n X dX7_paste_25 rfl (j := 1) rfl ?_
        refine i_get X F 0 rfl rfl fk_X7_32 dX7_paste_26 rfl ?_
        refine g_iload_n X dX7_paste_29 rfl (j := 4) rfl ?_
        rcases (Bool.eq_false_or_eq_true (act 84)).symm with hA84 | hA84
        · skip
          refine i_aald X F 24 rfl (t0 := 5) rfl rfl dX7_paste_30 (vp_in_iff.mpr (by decide)) (v := .null) (by show va_rf (R 24 2) = _; rw [HR.1 2 (by decide)]; rw [if_neg (by rw [hA84]; decide)]; rfl) ?_
          refine g_astoreN X dX7_paste_31 (by decide) (lv2 := [(7, .null), (6, .ref (a 80)), (0, .ref (a 0)), (1, .int 0), (2, .int p1), (3, .int 2), (4, .int p3), (5, .int p4)]) rfl ?_
          refine g_aload X dX7_paste_33 (j := 1) rfl ?_
          refine g_ifnull X dX7_paste_35 ?_
          refine g_aloadN X dX7_paste_38 (j := 0) rfl ?_
          refine g_ifnonnullN X dX7_paste_40 ?_
          refine g_bipush X dX7_paste_43 (v := -6) (by decide) ?_
          exact g_iret X hrt dX7_paste_45 (by decide) (by decide) ⟨C, D, F, I, K, (pa_no (c := 0) (d := 2) (by decide) (by decide) (Or.inr hA84))⟩
        · skip
          have act84 : (baseact 84 || act 84) = true := by rw [hA84]; rfl
          have act85 : (baseact 85 || act 85) = true := by rw [((HR.2.2.1 2 (by decide)).trans hA84)]; rfl
          refine i_aald X F 24 rfl (t0 := 5) rfl rfl dX7_paste_30 (vp_in_iff.mpr (by decide)) (v := .ref (a 84)) (by show va_rf (R 24 2) = _; rw [HR.1 2 (by decide)]; rw [if_pos hA84]; rfl) ?_
          refine g_astore X dX7_paste_31 (by decide) (lv2 := [(7, .ref (a 84)), (6, .ref (a 80)), (0, .ref (a 0)), (1, .int 0), (2, .int p1), (3, .int 2), (4, .int p3), (5, .int p4)]) rfl ?_
          refine g_aload X dX7_paste_33 (j := 1) rfl ?_
          refine g_ifnull X dX7_paste_35 ?_
          refine g_aload X dX7_paste_38 (j := 0) rfl ?_
          refine g_ifnonnull X dX7_paste_40 (tgt := 46) (by decide) ?_
          refine g_aload X dX7_paste_46 (j := 1) rfl ?_
          refine i_get X F 80 (act80) rfl fk_X7_400 dX7_paste_48 (v := .int o1) (congrArg (fun z => some (Value.int z)) ((congrFun (K 80 (by decide)).1 1).trans eo1)) ?_
          refine g_aload X dX7_paste_51 (j := 0) rfl ?_
          refine i_get X F 84 (act84) rfl fk_X7_400 dX7_paste_53 (v := .int o3) (congrArg (fun z => some (Value.int z)) ((congrFun (K 84 (by decide)).1 1).trans eo3)) ?_
          refine g_icmp_eq X dX7_paste_56 (tgt := 62) (by decide) (fun q56 => ?_) (fun q56 => ?_)
          · skip
            refine g_aload X dX7_paste_62 (j := 1) rfl ?_
            refine g_iload_n X dX7_paste_64 rfl (j := 4) rfl ?_
            refine g_iload X dX7_paste_65 (j := 7) rfl ?_
            refine g_callVI X (s_X5_hasPart_80 l G F I p1 p4 act80) lk_X7_403 (F.1 80 (act80)).2 (F.1 80 (act80)).1 rfl rfl dX7_paste_67 (Nat.le_of_ble_eq_true rfl) ⟨by decide, by decide⟩ ⟨by decide, by decide⟩ (fun r57 L M hp => ?_)
            obtain ⟨C, D, F, I, K1, hr⟩ := hp
            have K := K.step K1 (by decide)
            rcases hr with ⟨rfl, hp58⟩ | ⟨rfl, hp58⟩
            · skip
              rw [(K 80 (by decide)).1] at hp58
              refine g_if_eq X dX7_paste_70 (tgt := 85) (by decide) (fun _ => ?_) (fun q => absurd (by decide) q)
              refine g_bipush X dX7_paste_85 (v := -7) (by decide) ?_
              exact g_iret X hrt dX7_paste_87 (by decide) (by decide) ⟨C, D, F, I, K, (pa_b (c := 0) (d := 2) (by decide) (by decide) hA80 hA84 (eo1.trans (q56.trans eo3.symm)) (fun z => hp58 ⟨z.1.1, z.1.2.1, z.1.2.2⟩))⟩
            · skip
              rw [(K 80 (by decide)).1] at hp58
              refine g_if_eq X dX7_paste_70 (tgt := 85) (by decide) (fun q => absurd q (by decide)) (fun _ => ?_)
              refine g_aload X dX7_paste_73 (j := 0) rfl ?_
              refine g_iload X dX7_paste_75 (j := 6) rfl ?_
              refine g_iload X dX7_paste_77 (j := 7) rfl ?_
              refine g_callVI X (s_X5_hasPart_84 l G F I p3 p4 act84) lk_X7_403 (F.1 84 (act84)).2 (F.1 84 (act84)).1 rfl rfl dX7_paste_79 (Nat.le_of_ble_eq_true rfl) ⟨by decide, by decide⟩ ⟨by decide, by decide⟩ (fun r59 L M hp => ?_)
              obtain ⟨C, D, F, I, K1, hr⟩ := hp
              have K := K.step K1 (by decide)
              rcases hr with ⟨rfl, hp60⟩ | ⟨rfl, hp60⟩
              · skip
                rw [(K 84 (by decide)).1] at hp60
                refine g_if_ne X dX7_paste_82 (tgt := 88) (by decide) (fun q => absurd (by decide) q) (fun _ => ?_)
                refine g_bipush X dX7_paste_85 (v := -7) (by decide) ?_
                exact g_iret X hrt dX7_paste_87 (by decide) (by decide) ⟨C, D, F, I, K, (pa_b (c := 0) (d := 2) (by decide) (by decide) hA80 hA84 (eo1.trans (q56.trans eo3.symm)) (fun z => hp60 ⟨z.2.1, z.1.2.1, z.2.2⟩))⟩
              · skip
                rw [(K 84 (by decide)).1] at hp60
                refine g_if_ne X dX7_paste_82 (tgt := 88) (by decide) (fun _ => ?_) (fun q => absurd q (by decide))
                have hz80 := (show (C0 80 2).toInt ≤ 60 from (by have z := I 80 2 rfl; rw [(K 80 (by decide)).1] at z; exact z.2))
                have hz84 := (show (C0 84 2).toInt ≤ 60 from (by have z := I 84 2 rfl; rw [(K 84 (by decide)).1] at z; exact z.2))
                obtain ⟨n61, hn61a, hn61b, en61⟩ := nI_ofInt (x := p1) (lo := 0) (hi := 60) (by omega) (by omega) (by decide)
                subst en61
                have tn61 := nI_toInt (n := n61) (by omega)
                obtain ⟨n62, hn62a, hn62b, en62⟩ := nI_ofInt (x := p3) (lo := 0) (hi := 60) (by omega) (by omega) (by decide)
                subst en62
                have tn62 := nI_toInt (n := n62) (by omega)
                obtain ⟨n63, hn63a, hn63b, en63⟩ := nI_ofInt (x := p4) (lo := 0) (hi := 60) (by omega) (by omega) (by decide)
                subst en63
                have tn63 := nI_toInt (n := n63) (by omega)
                refine g_aload X dX7_paste_88 (j := 1) rfl ?_
                refine i_get X F 80 (act80) rfl fk_X7_406 dX7_paste_90 rfl ?_
                refine g_iload_n X dX7_paste_93 rfl (j := 4) rfl ?_
                refine g_aload X dX7_paste_94 (j := 0) rfl ?_
                refine i_get X F 84 (act84) rfl fk_X7_406 dX7_paste_96 rfl ?_
                refine g_iload X dX7_paste_99 (j := 6) rfl ?_
                refine g_iload X dX7_paste_101 (j := 7) rfl ?_
                refine i_copyl X F 81 (act81) 85 (act85) rfl (fun _ => rfl) (t0 := 2) rfl rfl wd604 wd87 wd88 wd89 (nI_pos (by omega)) (nI_pos (by omega)) (nI_pos (by omega)) (by rw [nI_clamp (show n61 < 2 ^ 31 by omega), nI_clamp (show n63 < 2 ^ 31 by omega)]; omega) (by rw [nI_clamp (show n62 < 2 ^ 31 by omega), nI_clamp (show n63 < 2 ^ 31 by omega)]; omega) (fun _ _ => rfl) (by decide) (Nat.le_of_ble_eq_true rfl) dX7_paste_103 (fun M D F K1 => ?_)
                have K := K.step K1 (by decide)
                refine g_iconst X dX7_paste_106 (v := 0) (by decide) ?_
                exact g_iret X hrt dX7_paste_107 (by decide) (by decide) ⟨C, D, F, I, K, (pa_k (c := 0) (d := 2) (by decide) (by decide) hA80 hA84 (eo1.trans (q56.trans eo3.symm)) ⟨hp58, hp60.1, hp60.2.2⟩)⟩
          · skip
            refine g_bipush X dX7_paste_59 (v := -8) (by decide) ?_
            exact g_iret X hrt dX7_paste_61 (by decide) (by decide) ⟨C, D, F, I, K, (pa_w (c := 0) (d := 2) (by decide) (by decide) hA80 hA84 (fun h => q56 (eo1.symm.trans (h.trans eo3))))⟩
    · skip
      refine g_iload_n X dX7_paste_0 rfl (j := 1) rfl ?_
      refine g_callSI X (s_X7_isSlot_0 l G F I  ) lk_X7_389 rfl rfl dX7_paste_1 (Nat.le_of_ble_eq_true rfl) ⟨by decide, by decide⟩ ⟨by decide, by decide⟩ (fun r64 L M hp => ?_)
      obtain ⟨C, D, F, I, K1, hr⟩ := hp
      have K := K.step K1 (by decide)
      subst hr
      refine g_if_eq X dX7_paste_4 (tgt := 14) (by decide) (fun q => absurd q (by decide)) (fun _ => ?_)
      refine g_iload_n X dX7_paste_7 rfl (j := 3) rfl ?_
      refine g_callSI X (s_X7_isSlot_3 l G F I  ) lk_X7_389 rfl rfl dX7_paste_8 (Nat.le_of_ble_eq_true rfl) ⟨by decide, by decide⟩ ⟨by decide, by decide⟩ (fun r65 L M hp => ?_)
      obtain ⟨C, D, F, I, K1, hr⟩ := hp
      have K := K.step K1 (by decide)
      subst hr
      refine g_if_ne X dX7_paste_11 (tgt := 17) (by decide) (fun _ => ?_) (fun q => absurd q (by decide))
      refine g_aload_n X dX7_paste_17 rfl (j := 0) rfl ?_
      refine i_get X F 0 rfl rfl fk_X7_32 dX7_paste_18 rfl ?_
      refine g_iload_n X dX7_paste_21 rfl (j := 1) rfl ?_
      rcases (Bool.eq_false_or_eq_true (act 80)).symm with hA80 | hA80
      · skip
        refine i_aald X F 24 rfl (t0 := 5) rfl rfl dX7_paste_22 (vp_in_iff.mpr (by decide)) (v := .null) (by show va_rf (R 24 0) = _; rw [HR.1 0 (by decide)]; rw [if_neg (by rw [hA80]; decide)]; rfl) ?_
        refine g_astoreN X dX7_paste_23 (by decide) (lv2 := [(6, .null), (0, .ref (a 0)), (1, .int 0), (2, .int p1), (3, .int 3), (4, .int p3), (5, .int p4)]) rfl ?_
        refine g_aload_n X dX7_paste_25 rfl (j := 1) rfl ?_
        refine i_get X F 0 rfl rfl fk_X7_32 dX7_paste_26 rfl ?_
        refine g_iload_n X dX7_paste_29 rfl (j := 4) rfl ?_
        rcases (Bool.eq_false_or_eq_true (act 86)).symm with hA86 | hA86
        · skip
          refine i_aald X F 24 rfl (t0 := 5) rfl rfl dX7_paste_30 (vp_in_iff.mpr (by decide)) (v := .null) (by show va_rf (R 24 3) = _; rw [HR.1 3 (by decide)]; rw [if_neg (by rw [hA86]; decide)]; rfl) ?_
          refine g_astoreN X dX7_paste_31 (by decide) (lv2 := [(7, .null), (6, .null), (0, .ref (a 0)), (1, .int 0), (2, .int p1), (3, .int 3), (4, .int p3), (5, .int p4)]) rfl ?_
          refine g_aloadN X dX7_paste_33 (j := 1) rfl ?_
          refine g_ifnullN X dX7_paste_35 (tgt := 43) (by decide) ?_
          refine g_bipush X dX7_paste_43 (v := -6) (by decide) ?_
          exact g_iret X hrt dX7_paste_45 (by decide) (by decide) ⟨C, D, F, I, K, (pa_no (c := 0) (d := 3) (by decide) (by decide) (Or.inl hA80))⟩
        · skip
          have act86 : (baseact 86 || act 86) = true := by rw [hA86]; rfl
          have act87 : (baseact 87 || act 87) = true := by rw [((HR.2.2.1 3 (by decide)).trans hA86)]; rfl
          refine i_aald X F 24 rfl (t0 := 5) rfl rfl dX7_paste_30 (vp_in_iff.mpr (by decide)) (v := .ref (a 86)) (by show va_rf (R 24 3) = _; rw [HR.1 3 (by decide)]; rw [if_pos hA86]; rfl) ?_
          refine g_astore X dX7_paste_31 (by decide) (lv2 := [(7, .ref (a 86)), (6, .null), (0, .ref (a 0)), (1, .int 0), (2, .int p1), (3, .int 3), (4, .int p3), (5, .int p4)]) rfl ?_
          refine g_aloadN X dX7_paste_33 (j := 1) rfl ?_
          refine g_ifnullN X dX7_paste_35 (tgt := 43) (by decide) ?_
          refine g_bipush X dX7_paste_43 (v := -6) (by decide) ?_
          exact g_iret X hrt dX7_paste_45 (by decide) (by decide) ⟨C, D, F, I, K, (pa_no (c := 0) (d := 3) (by decide) (by decide) (Or.inl hA80))⟩
      · skip
        have act80 : (baseact 80 || act 80) = true := by rw [hA80]; rfl
        have act81 : (baseact 81 || act 81) = true := by rw [((HR.2.2.1 0 (by decide)).trans hA80)]; rfl
        refine i_aald X F 24 rfl (t0 := 5) rfl rfl dX7_paste_22 (vp_in_iff.mpr (by decide)) (v := .ref (a 80)) (by show va_rf (R 24 0) = _; rw [HR.1 0 (by decide)]; rw [if_pos hA80]; rfl) ?_
        refine g_astore X dX7_paste_23 (by decide) (lv2 := [(6, .ref (a 80)), (0, .ref (a 0)), (1, .int 0), (2, .int p1), (3, .int 3), (4, .int p3), (5, .int p4)]) rfl ?_
        refine g_aload_n X dX7_paste_25 rfl (j := 1) rfl ?_
        refine i_get X F 0 rfl rfl fk_X7_32 dX7_paste_26 rfl ?_
        refine g_iload_n X dX7_paste_29 rfl (j := 4) rfl ?_
        rcases (Bool.eq_false_or_eq_true (act 86)).symm with hA86 | hA86
        · skip
          refine i_aald X F 24 rfl (t0 := 5) rfl rfl dX7_paste_30 (vp_in_iff.mpr (by decide)) (v := .null) (by show va_rf (R 24 3) = _; rw [HR.1 3 (by decide)]; rw [if_neg (by rw [hA86]; decide)]; rfl) ?_
          refine g_astoreN X dX7_paste_31 (by decide) (lv2 := [(7, .null), (6, .ref (a 80)), (0, .ref (a 0)), (1, .int 0), (2, .int p1), (3, .int 3), (4, .int p3), (5, .int p4)]) rfl ?_
          refine g_aload X dX7_paste_33 (j := 1) rfl ?_
          refine g_ifnull X dX7_paste_35 ?_
          refine g_aloadN X dX7_paste_38 (j := 0) rfl ?_
          refine g_ifnonnullN X dX7_paste_40 ?_
          refine g_bipush X dX7_paste_43 (v := -6) (by decide) ?_
          exact g_iret X hrt dX7_paste_45 (by decide) (by decide) ⟨C, D, F, I, K, (pa_no (c := 0) (d := 3) (by decide) (by decide) (Or.inr hA86))⟩
        · skip
          have act86 : (baseact 86 || act 86) = true := by rw [hA86]; rfl
          have act87 : (baseact 87 || act 87) = true := by rw [((HR.2.2.1 3 (by decide)).trans hA86)]; rfl
          refine i_aald X F 24 rfl (t0 := 5) rfl rfl dX7_paste_30 (vp_in_iff.mpr (by decide)) (v := .ref (a 86)) (by show va_rf (R 24 3) = _; rw [HR.1 3 (by decide)]; rw [if_pos hA86]; rfl) ?_
          refine g_astore X dX7_paste_31 (by decide) (lv2 := [(7, .ref (a 86)), (6, .ref (a 80)), (0, .ref (a 0)), (1, .int 0), (2, .int p1), (3, .int 3), (4, .int p3), (5, .int p4)]) rfl ?_
          refine g_aload X dX7_paste_33 (j := 1) rfl ?_
          refine g_ifnull X dX7_paste_35 ?_
          refine g_aload X dX7_paste_38 (j := 0) rfl ?_
          refine g_ifnonnull X dX7_paste_40 (tgt := 46) (by decide) ?_
          refine g_aload X dX7_paste_46 (j := 1) rfl ?_
          refine i_get X F 80 (act80) rfl fk_X7_400 dX7_paste_48 (v := .int o1) (congrArg (fun z => some (Value.int z)) ((congrFun (K 80 (by decide)).1 1).trans eo1)) ?_
          refine g_aload X dX7_paste_51 (j := 0) rfl ?_
          refine i_get X F 86 (act86) rfl fk_X7_400 dX7_paste_53 (v := .int o4) (congrArg (fun z => some (Value.int z)) ((congrFun (K 86 (by decide)).1 1).trans eo4)) ?_
          refine g_icmp_eq X dX7_paste_56 (tgt := 62) (by decide) (fun q69 => ?_) (fun q69 => ?_)
          · skip
            refine g_aload X dX7_paste_62 (j := 1) rfl ?_
            refine g_iload_n X dX7_paste_64 rfl (j := 4) rfl ?_
            refine g_iload X dX7_paste_65 (j := 7) rfl ?_
            refine g_callVI X (s_X5_hasPart_80 l G F I p1 p4 act80) lk_X7_403 (F.1 80 (act80)).2 (F.1 80 (act80)).1 rfl rfl dX7_paste_67 (Nat.le_of_ble_eq_true rfl) ⟨by decide, by decide⟩ ⟨by decide, by decide⟩ (fun r70 L M hp => ?_)
            obtain ⟨C, D, F, I, K1, hr⟩ := hp
            have K := K.step K1 (by decide)
            rcases hr with ⟨rfl, hp71⟩ | ⟨rfl, hp71⟩
            · skip
              rw [(K 80 (by decide)).1] at hp71
              refine g_if_eq X dX7_paste_70 (tgt := 85) (by decide) (fun _ => ?_) (fun q => absurd (by decide) q)
              refine g_bipush X dX7_paste_85 (v := -7) (by decide) ?_
              exact g_iret X hrt dX7_paste_87 (by decide) (by decide) ⟨C, D, F, I, K, (pa_b (c := 0) (d := 3) (by decide) (by decide) hA80 hA86 (eo1.trans (q69.trans eo4.symm)) (fun z => hp71 ⟨z.1.1, z.1.2.1, z.1.2.2⟩))⟩
            · skip
              rw [(K 80 (by decide)).1] at hp71
              refine g_if_eq X dX7_paste_70 (tgt := 85) (by decide) (fun q => absurd q (by decide)) (fun _ => ?_)
              refine g_aload X dX7_paste_73 (j := 0) rfl ?_
              refine g_iload X dX7_paste_75 (j := 6) rfl ?_
              refine g_iload X dX7_paste_77 (j := 7) rfl ?_
              refine g_callVI X (s_X5_hasPart_86 l G F I p3 p4 act86) lk_X7_403 (F.1 86 (act86)).2 (F.1 86 (act86)).1 rfl rfl dX7_paste_79 (Nat.le_of_ble_eq_true rfl) ⟨by decide, by decide⟩ ⟨by decide, by decide⟩ (fun r72 L M hp => ?_)
              obtain ⟨C, D, F, I, K1, hr⟩ := hp
              have K := K.step K1 (by decide)
              rcases hr with ⟨rfl, hp73⟩ | ⟨rfl, hp73⟩
              · skip
                rw [(K 86 (by decide)).1] at hp73
                refine g_if_ne X dX7_paste_82 (tgt := 88) (by decide) (fun q => absurd (by decide) q) (fun _ => ?_)
                refine g_bipush X dX7_paste_85 (v := -7) (by decide) ?_
                exact g_iret X hrt dX7_paste_87 (by decide) (by decide) ⟨C, D, F, I, K, (pa_b (c := 0) (d := 3) (by decide) (by decide) hA80 hA86 (eo1.trans (q69.trans eo4.symm)) (fun z => hp73 ⟨z.2.1, z.1.2.1, z.2.2⟩))⟩
              · skip
                rw [(K 86 (by decide)).1] at hp73
                refine g_if_ne X dX7_paste_82 (tgt := 88) (by decide) (fun _ => ?_) (fun q => absurd q (by decide))
                have hz80 := (show (C0 80 2).toInt ≤ 60 from (by have z := I 80 2 rfl; rw [(K 80 (by decide)).1] at z; exact z.2))
                have hz86 := (show (C0 86 2).toInt ≤ 60 from (by have z := I 86 2 rfl; rw [(K 86 (by decide)).1] at z; exact z.2))
                obtain ⟨n74, hn74a, hn74b, en74⟩ := nI_ofInt (x := p1) (lo := 0) (hi := 60) (by omega) (by omega) (by decide)
                subst en74
                have tn74 := nI_toInt (n := n74) (by omega)
                obtain ⟨n75, hn75a, hn75b, en75⟩ := nI_ofInt (x := p3) (lo := 0) (hi := 60) (by omega) (by omega) (by decide)
                subst en75
                have tn75 := nI_toInt (n := n75) (by omega)
                obtain ⟨n76, hn76a, hn76b, en76⟩ := nI_ofInt (x := p4) (lo := 0) (hi := 60) (by omega) (by omega) (by decide)
                subst en76
                have tn76 := nI_toInt (n := n76) (by omega)
                refine g_aload X dX7_paste_88 (j := 1) rfl ?_
                refine i_get X F 80 (act80) rfl fk_X7_406 dX7_paste_90 rfl ?_
                refine g_iload_n X dX7_paste_93 rfl (j := 4) rfl ?_
                refine g_aload X dX7_paste_94 (j := 0) rfl ?_
                refine i_get X F 86 (act86) rfl fk_X7_406 dX7_paste_96 rfl ?_
                refine g_iload X dX7_paste_99 (j := 6) rfl ?_
                refine g_iload X dX7_paste_101 (j := 7) rfl ?_
                refine i_copyl X F 81 (act81) 87 (act87) rfl (fun _ => rfl) (t0 := 2) rfl rfl wd604 wd87 wd88 wd89 (nI_pos (by omega)) (nI_pos (by omega)) (nI_pos (by omega)) (by rw [nI_clamp (show n74 < 2 ^ 31 by omega), nI_clamp (show n76 < 2 ^ 31 by omega)]; omega) (by rw [nI_clamp (show n75 < 2 ^ 31 by omega), nI_clamp (show n76 < 2 ^ 31 by omega)]; omega) (fun _ _ => rfl) (by decide) (Nat.le_of_ble_eq_true rfl) dX7_paste_103 (fun M D F K1 => ?_)
                have K := K.step K1 (by decide)
                refine g_iconst X dX7_paste_106 (v := 0) (by decide) ?_
                exact g_iret X hrt dX7_paste_107 (by decide) (by decide) ⟨C, D, F, I, K, (pa_k (c := 0) (d := 3) (by decide) (by decide) hA80 hA86 (eo1.trans (q69.trans eo4.symm)) ⟨hp71, hp73.1, hp73.2.2⟩)⟩
          · skip
            refine g_bipush X dX7_paste_59 (v := -8) (by decide) ?_
            exact g_iret X hrt dX7_paste_61 (by decide) (by decide) ⟨C, D, F, I, K, (pa_w (c := 0) (d := 3) (by decide) (by decide) hA80 hA86 (fun h => q69 (eo1.symm.trans (h.trans eo4))))⟩
  · skip
    rcases sc4 p2 with hx77 | hx77 | rfl | rfl | rfl | rfl
    · skip
      have hno3 : p2 < 0 ∨ 4 ≤ p2 := Or.inl hx77
      refine g_iload_n X dX7_paste_0 rfl (j := 1) rfl ?_
      refine g_callSI X (s_X7_isSlot_1 l G F I  ) lk_X7_389 rfl rfl dX7_paste_1 (Nat.le_of_ble_eq_true rfl) ⟨by decide, by decide⟩ ⟨by decide, by decide⟩ (fun r78 L M hp => ?_)
      obtain ⟨C, D, F, I, K1, hr⟩ := hp
      have K := K.step K1 (by decide)
      subst hr
      refine g_if_eq X dX7_paste_4 (tgt := 14) (by decide) (fun q => absurd q (by decide)) (fun _ => ?_)
      refine g_iload_n X dX7_paste_7 rfl (j := 3) rfl ?_
      refine g_callSI X (s_X7_isSlot_x l G F I p2 hno3) lk_X7_389 rfl rfl dX7_paste_8 (Nat.le_of_ble_eq_true rfl) ⟨by decide, by decide⟩ ⟨by decide, by decide⟩ (fun r79 L M hp => ?_)
      obtain ⟨C, D, F, I, K1, hr⟩ := hp
      have K := K.step K1 (by decide)
      subst hr
      refine g_if_ne X dX7_paste_11 (tgt := 17) (by decide) (fun q => absurd (by decide) q) (fun _ => ?_)
      refine g_bipush X dX7_paste_14 (v := -2) (by decide) ?_
      exact g_iret X hrt dX7_paste_16 (by decide) (by decide) ⟨C, D, F, I, K, (pa_out (Or.inr hno3))⟩
    · skip
      have hno3 : p2 < 0 ∨ 4 ≤ p2 := Or.inr hx77
      refine g_iload_n X dX7_paste_0 rfl (j := 1) rfl ?_
      refine g_callSI X (s_X7_isSlot_1 l G F I  ) lk_X7_389 rfl rfl dX7_paste_1 (Nat.le_of_ble_eq_true rfl) ⟨by decide, by decide⟩ ⟨by decide, by decide⟩ (fun r80 L M hp => ?_)
      obtain ⟨C, D, F, I, K1, hr⟩ := hp
      have K := K.step K1 (by decide)
      subst hr
      refine g_if_eq X dX7_paste_4 (tgt := 14) (by decide) (fun q => absurd q (by decide)) (fun _ => ?_)
      refine g_iload_n X dX7_paste_7 rfl (j := 3) rfl ?_
      refine g_callSI X (s_X7_isSlot_x l G F I p2 hno3) lk_X7_389 rfl rfl dX7_paste_8 (Nat.le_of_ble_eq_true rfl) ⟨by decide, by decide⟩ ⟨by decide, by decide⟩ (fun r81 L M hp => ?_)
      obtain ⟨C, D, F, I, K1, hr⟩ := hp
      have K := K.step K1 (by decide)
      subst hr
      refine g_if_ne X dX7_paste_11 (tgt := 17) (by decide) (fun q => absurd (by decide) q) (fun _ => ?_)
      refine g_bipush X dX7_paste_14 (v := -2) (by decide) ?_
      exact g_iret X hrt dX7_paste_16 (by decide) (by decide) ⟨C, D, F, I, K, (pa_out (Or.inr hno3))⟩
    · skip
      refine g_iload_n X dX7_paste_0 rfl (j := 1) rfl ?_
      refine g_callSI X (s_X7_isSlot_1 l G F I  ) lk_X7_389 rfl rfl dX7_paste_1 (Nat.le_of_ble_eq_true rfl) ⟨by decide, by decide⟩ ⟨by decide, by decide⟩ (fun r82 L M hp => ?_)
      obtain ⟨C, D, F, I, K1, hr⟩ := hp
      have K := K.step K1 (by decide)
      subst hr
      refine g_if_eq X dX7_paste_4 (tgt := 14) (by decide) (fun q => absurd q (by decide)) (fun _ => ?_)
      refine g_iload_n X dX7_paste_7 rfl (j := 3) rfl ?_
      refine g_callSI X (s_X7_isSlot_0 l G F I  ) lk_X7_389 rfl rfl dX7_paste_8 (Nat.le_of_ble_eq_true rfl) ⟨by decide, by decide⟩ ⟨by decide, by decide⟩ (fun r83 L M hp => ?_)
      obtain ⟨C, D, F, I, K1, hr⟩ := hp
      have K := K.step K1 (by decide)
      subst hr
      refine g_if_ne X dX7_paste_11 (tgt := 17) (by decide) (fun _ => ?_) (fun q => absurd q (by decide))
      refine g_aload_n X dX7_paste_17 rfl (j := 0) rfl ?_
      refine i_get X F 0 rfl rfl fk_X7_32 dX7_paste_18 rfl ?_
      refine g_iload_n X dX7_paste_21 rfl (j := 1) rfl ?_
      rcases (Bool.eq_false_or_eq_true (act 82)).symm with hA82 | hA82
      · skip
        refine i_aald X F 24 rfl (t0 := 5) rfl rfl dX7_paste_22 (vp_in_iff.mpr (by decide)) (v := .null) (by show va_rf (R 24 1) = _; rw [HR.1 1 (by decide)]; rw [if_neg (by rw [hA82]; decide)]; rfl) ?_
        refine g_astoreN X dX7_paste_23 (by decide) (lv2 := [(6, .null), (0, .ref (a 0)), (1, .int 1), (2, .int p1), (3, .int 0), (4, .int p3), (5, .int p4)]) rfl ?_
        refine g_aload_n X dX7_paste_25 rfl (j := 1) rfl ?_
        refine i_get X F 0 rfl rfl fk_X7_32 dX7_paste_26 rfl ?_
        refine g_iload_n X dX7_paste_29 rfl (j := 4) rfl ?_
        rcases (Bool.eq_false_or_eq_true (act 80)).symm with hA80 | hA80
        · skip
          refine i_aald X F 24 rfl (t0 := 5) rfl rfl dX7_paste_30 (vp_in_iff.mpr (by decide)) (v := .null) (by show va_rf (R 24 0) = _; rw [HR.1 0 (by decide)]; rw [if_neg (by rw [hA80]; decide)]; rfl) ?_
          refine g_astoreN X dX7_paste_31 (by decide) (lv2 := [(7, .null), (6, .null), (0, .ref (a 0)), (1, .int 1), (2, .int p1), (3, .int 0), (4, .int p3), (5, .int p4)]) rfl ?_
          refine g_aloadN X dX7_paste_33 (j := 1) rfl ?_
          refine g_ifnullN X dX7_paste_35 (tgt := 43) (by decide) ?_
          refine g_bipush X dX7_paste_43 (v := -6) (by decide) ?_
          exact g_iret X hrt dX7_paste_45 (by decide) (by decide) ⟨C, D, F, I, K, (pa_no (c := 1) (d := 0) (by decide) (by decide) (Or.inl hA82))⟩
        · skip
          have act80 : (baseact 80 || act 80) = true := by rw [hA80]; rfl
          have act81 : (baseact 81 || act 81) = true := by rw [((HR.2.2.1 0 (by decide)).trans hA80)]; rfl
          refine i_aald X F 24 rfl (t0 := 5) rfl rfl dX7_paste_30 (vp_in_iff.mpr (by decide)) (v := .ref (a 80)) (by show va_rf (R 24 0) = _; rw [HR.1 0 (by decide)]; rw [if_pos hA80]; rfl) ?_
          refine g_astore X dX7_paste_31 (by decide) (lv2 := [(7, .ref (a 80)), (6, .null), (0, .ref (a 0)), (1, .int 1), (2, .int p1), (3, .int 0), (4, .int p3), (5, .int p4)]) rfl ?_
          refine g_aloadN X dX7_paste_33 (j := 1) rfl ?_
          refine g_ifnullN X dX7_paste_35 (tgt := 43) (by decide) ?_
          refine g_bipush X dX7_paste_43 (v := -6) (by decide) ?_
          exact g_iret X hrt dX7_paste_45 (by decide) (by decide) ⟨C, D, F, I, K, (pa_no (c := 1) (d := 0) (by decide) (by decide) (Or.inl hA82))⟩
      · skip
        have act82 : (baseact 82 || act 82) = true := by rw [hA82]; rfl
        have act83 : (baseact 83 || act 83) = true := by rw [((HR.2.2.1 1 (by decide)).trans hA82)]; rfl
        refine i_aald X F 24 rfl (t0 := 5) rfl rfl dX7_paste_22 (vp_in_iff.mpr (by decide)) (v := .ref (a 82)) (by show va_rf (R 24 1) = _; rw [HR.1 1 (by decide)]; rw [if_pos hA82]; rfl) ?_
        refine g_astore X dX7_paste_23 (by decide) (lv2 := [(6, .ref (a 82)), (0, .ref (a 0)), (1, .int 1), (2, .int p1), (3, .int 0), (4, .int p3), (5, .int p4)]) rfl ?_
        refine g_aload_n X dX7_paste_25 rfl (j := 1) rfl ?_
        refine i_get X F 0 rfl rfl fk_X7_32 dX7_paste_26 rfl ?_
        refine g_iload_n X dX7_paste_29 rfl (j := 4) rfl ?_
        rcases (Bool.eq_false_or_eq_true (act 80)).symm with hA80 | hA80
        · skip
          refine i_aald X F 24 rfl (t0 := 5) rfl rfl dX7_paste_30 (vp_in_iff.mpr (by decide)) (v := .null) (by show va_rf (R 24 0) = _; rw [HR.1 0 (by decide)]; rw [if_neg (by rw [hA80]; decide)]; rfl) ?_
          refine g_astoreN X dX7_paste_31 (by decide) (lv2 := [(7, .null), (6, .ref (a 82)), (0, .ref (a 0)), (1, .int 1), (2, .int p1), (3, .int 0), (4, .int p3), (5, .int p4)]) rfl ?_
          refine g_aload X dX7_paste_33 (j := 1) rfl ?_
          refine g_ifnull X dX7_paste_35 ?_
          refine g_aloadN X dX7_paste_38 (j := 0) rfl ?_
          refine g_ifnonnullN X dX7_paste_40 ?_
          refine g_bipush X dX7_paste_43 (v := -6) (by decide) ?_
          exact g_iret X hrt dX7_paste_45 (by decide) (by decide) ⟨C, D, F, I, K, (pa_no (c := 1) (d := 0) (by decide) (by decide) (Or.inr hA80))⟩
        · skip
          have act80 : (baseact 80 || act 80) = true := by rw [hA80]; rfl
          have act81 : (baseact 81 || act 81) = true := by rw [((HR.2.2.1 0 (by decide)).trans hA80)]; rfl
          refine i_aald X F 24 rfl (t0 := 5) rfl rfl dX7_paste_30 (vp_in_iff.mpr (by decide)) (v := .ref (a 80)) (by show va_rf (R 24 0) = _; rw [HR.1 0 (by decide)]; rw [if_pos hA80]; rfl) ?_
          refine g_astore X dX7_paste_31 (by decide) (lv2 := [(7, .ref (a 80)), (6, .ref (a 82)), (0, .ref (a 0)), (1, .int 1), (2, .int p1), (3, .int 0), (4, .int p3), (5, .int p4)]) rfl ?_
          refine g_aload X dX7_paste_33 (j := 1) rfl ?_
          refine g_ifnull X dX7_paste_35 ?_
          refine g_aload X dX7_paste_38 (j := 0) rfl ?_
          refine g_ifnonnull X dX7_paste_40 (tgt := 46) (by decide) ?_
          refine g_aload X dX7_paste_46 (j := 1) rfl ?_
          refine i_get X F 82 (act82) rfl fk_X7_400 dX7_paste_48 (v := .int o2) (congrArg (fun z => some (Value.int z)) ((congrFun (K 82 (by decide)).1 1).trans eo2)) ?_
          refine g_aload X dX7_paste_51 (j := 0) rfl ?_
          refine i_get X F 80 (act80) rfl fk_X7_400 dX7_paste_53 (v := .int o1) (congrArg (fun z => some (Value.int z)) ((congrFun (K 80 (by decide)).1 1).trans eo1)) ?_
          refine g_icmp_eq X dX7_paste_56 (tgt := 62) (by decide) (fun q87 => ?_) (fun q87 => ?_)
          · skip
            refine g_aload X dX7_paste_62 (j := 1) rfl ?_
            refine g_iload_n X dX7_paste_64 rfl (j := 4) rfl ?_
            refine g_iload X dX7_paste_65 (j := 7) rfl ?_
            refine g_callVI X (s_X5_hasPart_82 l G F I p1 p4 act82) lk_X7_403 (F.1 82 (act82)).2 (F.1 82 (act82)).1 rfl rfl dX7_paste_67 (Nat.le_of_ble_eq_true rfl) ⟨by decide, by decide⟩ ⟨by decide, by decide⟩ (fun r88 L M hp => ?_)
            obtain ⟨C, D, F, I, K1, hr⟩ := hp
            have K := K.step K1 (by decide)
            rcases hr with ⟨rfl, hp89⟩ | ⟨rfl, hp89⟩
            · skip
              rw [(K 82 (by decide)).1] at hp89
              refine g_if_eq X dX7_paste_70 (tgt := 85) (by decide) (fun _ => ?_) (fun q => absurd (by decide) q)
              refine g_bipush X dX7_paste_85 (v := -7) (by decide) ?_
              exact g_iret X hrt dX7_paste_87 (by decide) (by decide) ⟨C, D, F, I, K, (pa_b (c := 1) (d := 0) (by decide) (by decide) hA82 hA80 (eo2.trans (q87.trans eo1.symm)) (fun z => hp89 ⟨z.1.1, z.1.2.1, z.1.2.2⟩))⟩
            · skip
              rw [(K 82 (by decide)).1] at hp89
              refine g_if_eq X dX7_paste_70 (tgt := 85) (by decide) (fun q => absurd q (by decide)) (fun _ => ?_)
              refine g_aload X dX7_paste_73 (j := 0) rfl ?_
              refine g_iload X dX7_paste_75 (j := 6) rfl ?_
              refine g_iload X dX7_paste_77 (j := 7) rfl ?_
              refine g_callVI X (s_X5_hasPart_80 l G F I p3 p4 act80) lk_X7_403 (F.1 80 (act80)).2 (F.1 80 (act80)).1 rfl rfl dX7_paste_79 (Nat.le_of_ble_eq_true rfl) ⟨by decide, by decide⟩ ⟨by decide, by decide⟩ (fun r90 L M hp => ?_)
              obtain ⟨C, D, F, I, K1, hr⟩ := hp
              have K := K.step K1 (by decide)
              rcases hr with ⟨rfl, hp91⟩ | ⟨rfl, hp91⟩
              · skip
                rw [(K 80 (by decide)).1] at hp91
                refine g_if_ne X dX7_paste_82 (tgt := 88) (by decide) (fun q => absurd (by decide) q) (fun _ => ?_)
                refine g_bipush X dX7_paste_85 (v := -7) (by decide) ?_
                exact g_iret X hrt dX7_paste_87 (by decide) (by decide) ⟨C, D, F, I, K, (pa_b (c := 1) (d := 0) (by decide) (by decide) hA82 hA80 (eo2.trans (q87.trans eo1.symm)) (fun z => hp91 ⟨z.2.1, z.1.2.1, z.2.2⟩))⟩
              · skip
                rw [(K 80 (by decide)).1] at hp91
                refine g_if_ne X dX7_paste_82 (tgt := 88) (by decide) (fun _ => ?_) (fun q => absurd q (by decide))
                have hz82 := (show (C0 82 2).toInt ≤ 60 from (by have z := I 82 2 rfl; rw [(K 82 (by decide)).1] at z; exact z.2))
                have hz80 := (show (C0 80 2).toInt ≤ 60 from (by have z := I 80 2 rfl; rw [(K 80 (by decide)).1] at z; exact z.2))
                obtain ⟨n92, hn92a, hn92b, en92⟩ := nI_ofInt (x := p1) (lo := 0) (hi := 60) (by omega) (by omega) (by decide)
                subst en92
                have tn92 := nI_toInt (n := n92) (by omega)
                obtain ⟨n93, hn93a, hn93b, en93⟩ := nI_ofInt (x := p3) (lo := 0) (hi := 60) (by omega) (by omega) (by decide)
                subst en93
                have tn93 := nI_toInt (n := n93) (by omega)
                obtain ⟨n94, hn94a, hn94b, en94⟩ := nI_ofInt (x := p4) (lo := 0) (hi := 60) (by omega) (by omega) (by decide)
                subst en94
                have tn94 := nI_toInt (n := n94) (by omega)
                refine g_aload X dX7_paste_88 (j := 1) rfl ?_
                refine i_get X F 82 (act82) rfl fk_X7_406 dX7_paste_90 rfl ?_
                refine g_iload_n X dX7_paste_93 rfl (j := 4) rfl ?_
                refine g_aload X dX7_paste_94 (j := 0) rfl ?_
                refine i_get X F 80 (act80) rfl fk_X7_406 dX7_paste_96 rfl ?_
                refine g_iload X dX7_paste_99 (j := 6) rfl ?_
                refine g_iload X dX7_paste_101 (j := 7) rfl ?_
                refine i_copyl X F 83 (act83) 81 (act81) rfl (fun _ => rfl) (t0 := 2) rfl rfl wd604 wd87 wd88 wd89 (nI_pos (by omega)) (nI_pos (by omega)) (nI_pos (by omega)) (by rw [nI_clamp (show n92 < 2 ^ 31 by omega), nI_clamp (show n94 < 2 ^ 31 by omega)]; omega) (by rw [nI_clamp (show n93 < 2 ^ 31 by omega), nI_clamp (show n94 < 2 ^ 31 by omega)]; omega) (fun _ _ => rfl) (by decide) (Nat.le_of_ble_eq_true rfl) dX7_paste_103 (fun M D F K1 => ?_)
                have K := K.step K1 (by decide)
                refine g_iconst X dX7_paste_106 (v := 0) (by decide) ?_
                exact g_iret X hrt dX7_paste_107 (by decide) (by decide) ⟨C, D, F, I, K, (pa_k (c := 1) (d := 0) (by decide) (by decide) hA82 hA80 (eo2.trans (q87.trans eo1.symm)) ⟨hp89, hp91.1, hp91.2.2⟩)⟩
          · skip
            refine g_bipush X dX7_paste_59 (v := -8) (by decide) ?_
            exact g_iret X hrt dX7_paste_61 (by decide) (by decide) ⟨C, D, F, I, K, (pa_w (c := 1) (d := 0) (by decide) (by decide) hA82 hA80 (fun h => q87 (eo2.symm.trans (h.trans eo1))))⟩
    · skip
      refine g_iload_n X dX7_paste_0 rfl (j := 1) rfl ?_
      refine g_callSI X (s_X7_isSlot_1 l G F I  ) lk_X7_389 rfl rfl dX7_paste_1 (Nat.le_of_ble_eq_true rfl) ⟨by decide, by decide⟩ ⟨by decide, by decide⟩ (fun r95 L M hp => ?_)
      obtain ⟨C, D, F, I, K1, hr⟩ := hp
      have K := K.step K1 (by decide)
      subst hr
      refine g_if_eq X dX7_paste_4 (tgt := 14) (by decide) (fun q => absurd q (by decide)) (fun _ => ?_)
      refine g_iload_n X dX7_paste_7 rfl (j := 3) rfl ?_
      refine g_callSI X (s_X7_isSlot_1 l G F I  ) lk_X7_389 rfl rfl dX7_paste_8 (Nat.le_of_ble_eq_true rfl) ⟨by decide, by decide⟩ ⟨by decide, by decide⟩ (fun r96 L M hp => ?_)
      obtain ⟨C, D, F, I, K1, hr⟩ := hp
      have K := K.step K1 (by decide)
      subst hr
      refine g_if_ne X dX7_paste_11 (tgt := 17) (by decide) (fun _ => ?_) (fun q => absurd q (by decide))
      refine g_aload_n X dX7_paste_17 rfl (j := 0) rfl ?_
      refine i_get X F 0 rfl rfl fk_X7_32 dX7_paste_18 rfl ?_
      refine g_iload_n X dX7_paste_21 rfl (j := 1) rfl ?_
      rcases (Bool.eq_false_or_eq_true (act 82)).symm with hA82 | hA82
      · skip
        refine i_aald X F 24 rfl (t0 := 5) rfl rfl dX7_paste_22 (vp_in_iff.mpr (by decide)) (v := .null) (by show va_rf (R 24 1) = _; rw [HR.1 1 (by decide)]; rw [if_neg (by rw [hA82]; decide)]; rfl) ?_
        refine g_astoreN X dX7_paste_23 (by decide) (lv2 := [(6, .null), (0, .ref (a 0)), (1, .int 1), (2, .int p1), (3, .int 1), (4, .int p3), (5, .int p4)]) rfl ?_
        refine g_aload_n X dX7_paste_25 rfl (j := 1) rfl ?_
        refine i_get X F 0 rfl rfl fk_X7_32 dX7_paste_26 rfl ?_
        refine g_iload_n X dX7_paste_29 rfl (j := 4) rfl ?_
        refine i_aald X F 24 rfl (t0 := 5) rfl rfl dX7_paste_30 (vp_in_iff.mpr (by decide)) (v := .null) (by show va_rf (R 24 1) = _; rw [HR.1 1 (by decide)]; rw [if_neg (by rw [hA82]; decide)]; rfl) ?_
        refine g_astoreN X dX7_paste_31 (by decide) (lv2 := [(7, .null), (6, .null), (0, .ref (a 0)), (1, .int 1), (2, .int p1), (3, .int 1), (4, .int p3), (5, .int p4)]) rfl ?_
        refine g_aloadN X dX7_paste_33 (j := 1) rfl ?_
        refine g_ifnullN X dX7_paste_35 (tgt := 43) (by decide) ?_
        refine g_bipush X dX7_paste_43 (v := -6) (by decide) ?_
        exact g_iret X hrt dX7_paste_45 (by decide) (by decide) ⟨C, D, F, I, K, (pa_no (c := 1) (d := 1) (by decide) (by decide) (Or.inl hA82))⟩
      · skip
        have act82 : (baseact 82 || act 82) = true := by rw [hA82]; rfl
        have act83 : (baseact 83 || act 83) = true := by rw [((HR.2.2.1 1 (by decide)).trans hA82)]; rfl
        refine i_aald X F 24 rfl (t0 := 5) rfl rfl dX7_paste_22 (vp_in_iff.mpr (by decide)) (v := .ref (a 82)) (by show va_rf (R 24 1) = _; rw [HR.1 1 (by decide)]; rw [if_pos hA82]; rfl) ?_
        refine g_astore X dX7_paste_23 (by decide) (lv2 := [(6, .ref (a 82)), (0, .ref (a 0)), (1, .int 1), (2, .int p1), (3, .int 1), (4, .int p3), (5, .int p4)]) rfl ?_
        refine g_aload_n X dX7_paste_25 rfl (j := 1) rfl ?_
        refine i_get X F 0 rfl rfl fk_X7_32 dX7_paste_26 rfl ?_
        refine g_iload_n X dX7_paste_29 rfl (j := 4) rfl ?_
        refine i_aald X F 24 rfl (t0 := 5) rfl rfl dX7_paste_30 (vp_in_iff.mpr (by decide)) (v := .ref (a 82)) (by show va_rf (R 24 1) = _; rw [HR.1 1 (by decide)]; rw [if_pos hA82]; rfl) ?_
        refine g_astore X dX7_paste_31 (by decide) (lv2 := [(7, .ref (a 82)), (6, .ref (a 82)), (0, .ref (a 0)), (1, .int 1), (2, .int p1), (3, .int 1), (4, .int p3), (5, .int p4)]) rfl ?_
        refine g_aload X dX7_paste_33 (j := 1) rfl ?_
        refine g_ifnull X dX7_paste_35 ?_
        refine g_aload X dX7_paste_38 (j := 0) rfl ?_
        refine g_ifnonnull X dX7_paste_40 (tgt := 46) (by decide) ?_
        refine g_aload X dX7_paste_46 (j := 1) rfl ?_
        refine i_get X F 82 (act82) rfl fk_X7_400 dX7_paste_48 (v := .int o2) (congrArg (fun z => some (Value.int z)) ((congrFun (K 82 (by decide)).1 1).trans eo2)) ?_
        refine g_aload X dX7_paste_51 (j := 0) rfl ?_
        refine i_get X F 82 (act82) rfl fk_X7_400 dX7_paste_53 (v := .int o2) (congrArg (fun z => some (Value.int z)) ((congrFun (K 82 (by decide)).1 1).trans eo2)) ?_
        refine g_icmp_eq X dX7_paste_56 (tgt := 62) (by decide) (fun q100 => ?_) (fun q100 => ?_)
        · skip
          refine g_aload X dX7_paste_62 (j := 1) rfl ?_
          refine g_iload_n X dX7_paste_64 rfl (j := 4) rfl ?_
          refine g_iload X dX7_paste_65 (j := 7) rfl ?_
          refine g_callVI X (s_X5_hasPart_82 l G F I p1 p4 act82) lk_X7_403 (F.1 82 (act82)).2 (F.1 82 (act82)).1 rfl rfl dX7_paste_67 (Nat.le_of_ble_eq_true rfl) ⟨by decide, by decide⟩ ⟨by decide, by decide⟩ (fun r101 L M hp => ?_)
          obtain ⟨C, D, F, I, K1, hr⟩ := hp
          have K := K.step K1 (by decide)
          rcases hr with ⟨rfl, hp102⟩ | ⟨rfl, hp102⟩
          · skip
            rw [(K 82 (by decide)).1] at hp102
            refine g_if_eq X dX7_paste_70 (tgt := 85) (by decide) (fun _ => ?_) (fun q => absurd (by decide) q)
            refine g_bipush X dX7_paste_85 (v := -7) (by decide) ?_
            exact g_iret X hrt dX7_paste_87 (by decide) (by decide) ⟨C, D, F, I, K, (pa_b (c := 1) (d := 1) (by decide) (by decide) hA82 hA82 (eo2.trans (q100.trans eo2.symm)) (fun z => hp102 ⟨z.1.1, z.1.2.1, z.1.2.2⟩))⟩
          · skip
            rw [(K 82 (by decide)).1] at hp102
            refine g_if_eq X dX7_paste_70 (tgt := 85) (by decide) (fun q => absurd q (by decide)) (fun _ => ?_)
            refine g_aload X dX7_paste_73 (j := 0) rfl ?_
            refine g_iload X dX7_paste_75 (j := 6) rfl ?_
            refine g_iload X dX7_paste_77 (j := 7) rfl ?_
            refine g_callVI X (s_X5_hasPart_82 l G F I p3 p4 act82) lk_X7_403 (F.1 82 (act82)).2 (F.1 82 (act82)).1 rfl rfl dX7_paste_79 (Nat.le_of_ble_eq_true rfl) ⟨by decide, by decide⟩ ⟨by decide, by decide⟩ (fun r103 L M hp => ?_)
            obtain ⟨C, D, F, I, K1, hr⟩ := hp
            have K := K.step K1 (by decide)
            rcases hr with ⟨rfl, hp104⟩ | ⟨rfl, hp104⟩
            · skip
              rw [(K 82 (by decide)).1] at hp104
              refine g_if_ne X dX7_paste_82 (tgt := 88) (by decide) (fun q => absurd (by decide) q) (fun _ => ?_)
              refine g_bipush X dX7_paste_85 (v := -7) (by decide) ?_
              exact g_iret X hrt dX7_paste_87 (by decide) (by decide) ⟨C, D, F, I, K, (pa_b (c := 1) (d := 1) (by decide) (by decide) hA82 hA82 (eo2.trans (q100.trans eo2.symm)) (fun z => hp104 ⟨z.2.1, z.1.2.1, z.2.2⟩))⟩
            · skip
              rw [(K 82 (by decide)).1] at hp104
              refine g_if_ne X dX7_paste_82 (tgt := 88) (by decide) (fun _ => ?_) (fun q => absurd q (by decide))
              have hz82 := (show (C0 82 2).toInt ≤ 60 from (by have z := I 82 2 rfl; rw [(K 82 (by decide)).1] at z; exact z.2))
              have hz82 := (show (C0 82 2).toInt ≤ 60 from (by have z := I 82 2 rfl; rw [(K 82 (by decide)).1] at z; exact z.2))
              obtain ⟨n105, hn105a, hn105b, en105⟩ := nI_ofInt (x := p1) (lo := 0) (hi := 60) (by omega) (by omega) (by decide)
              subst en105
              have tn105 := nI_toInt (n := n105) (by omega)
              obtain ⟨n106, hn106a, hn106b, en106⟩ := nI_ofInt (x := p3) (lo := 0) (hi := 60) (by omega) (by omega) (by decide)
              subst en106
              have tn106 := nI_toInt (n := n106) (by omega)
              obtain ⟨n107, hn107a, hn107b, en107⟩ := nI_ofInt (x := p4) (lo := 0) (hi := 60) (by omega) (by omega) (by decide)
              subst en107
              have tn107 := nI_toInt (n := n107) (by omega)
              refine g_aload X dX7_paste_88 (j := 1) rfl ?_
              refine i_get X F 82 (act82) rfl fk_X7_406 dX7_paste_90 rfl ?_
              refine g_iload_n X dX7_paste_93 rfl (j := 4) rfl ?_
              refine g_aload X dX7_paste_94 (j := 0) rfl ?_
              refine i_get X F 82 (act82) rfl fk_X7_406 dX7_paste_96 rfl ?_
              refine g_iload X dX7_paste_99 (j := 6) rfl ?_
              refine g_iload X dX7_paste_101 (j := 7) rfl ?_
              refine i_copyl X F 83 (act83) 83 (act83) rfl (fun _ => rfl) (t0 := 2) rfl rfl wd604 wd87 wd88 wd89 (nI_pos (by omega)) (nI_pos (by omega)) (nI_pos (by omega)) (by rw [nI_clamp (show n105 < 2 ^ 31 by omega), nI_clamp (show n107 < 2 ^ 31 by omega)]; omega) (by rw [nI_clamp (show n106 < 2 ^ 31 by omega), nI_clamp (show n107 < 2 ^ 31 by omega)]; omega) (fun _ _ => rfl) (by decide) (Nat.le_of_ble_eq_true rfl) dX7_paste_103 (fun M D F K1 => ?_)
              have K := K.step K1 (by decide)
              refine g_iconst X dX7_paste_106 (v := 0) (by decide) ?_
              exact g_iret X hrt dX7_paste_107 (by decide) (by decide) ⟨C, D, F, I, K, (pa_k (c := 1) (d := 1) (by decide) (by decide) hA82 hA82 (eo2.trans (q100.trans eo2.symm)) ⟨hp102, hp104.1, hp104.2.2⟩)⟩
        · skip
          refine g_bipush X dX7_paste_59 (v := -8) (by decide) ?_
          exact g_iret X hrt dX7_paste_61 (by decide) (by decide) ⟨C, D, F, I, K, (pa_w (c := 1) (d := 1) (by decide) (by decide) hA82 hA82 (fun h => q100 (eo2.symm.trans (h.trans eo2))))⟩
    · skip
      refine g_iload_n X dX7_paste_0 rfl (j := 1) rfl ?_
      refine g_callSI X (s_X7_isSlot_1 l G F I  ) lk_X7_389 rfl rfl dX7_paste_1 (Nat.le_of_ble_eq_true rfl) ⟨by decide, by decide⟩ ⟨by decide, by decide⟩ (fun r108 L M hp => ?_)
      obtain ⟨C, D, F, I, K1, hr⟩ := hp
      have K := K.step K1 (by decide)
      subst hr
      refine g_if_eq X dX7_paste_4 (tgt := 14) (by decide) (fun q => absurd q (by decide)) (fun _ => ?_)
      refine g_iload_n X dX7_paste_7 rfl (j := 3) rfl ?_
      refine g_callSI X (s_X7_isSlot_2 l G F I  ) lk_X7_389 rfl rfl dX7_paste_8 (Nat.le_of_ble_eq_true rfl) ⟨by decide, by decide⟩ ⟨by decide, by decide⟩ (fun r109 L M hp => ?_)
      obtain ⟨C, D, F, I, K1, hr⟩ := hp
      have K := K.step K1 (by decide)
      subst hr
      refine g_if_ne X dX7_paste_11 (tgt := 17) (by decide) (fun _ => ?_) (fun q => absurd q (by decide))
      refine g_aload_n X dX7_paste_17 rfl (j := 0) rfl ?_
      refine i_get X F 0 rfl rfl fk_X7_32 dX7_paste_18 rfl ?_
      refine g_iload_n X dX7_paste_21 rfl (j := 1) rfl ?_
      rcases (Bool.eq_false_or_eq_true (act 82)).symm with hA82 | hA82
      · skip
        refine i_aald X F 24 rfl (t0 := 5) rfl rfl dX7_paste_22 (vp_in_iff.mpr (by decide)) (v := .null) (by show va_rf (R 24 1) = _; rw [HR.1 1 (by decide)]; rw [if_neg (by rw [hA82]; decide)]; rfl) ?_
        refine g_astoreN X dX7_paste_23 (by decide) (lv2 := [(6, .null), (0, .ref (a 0)), (1, .int 1), (2, .int p1), (3, .int 2), (4, .int p3), (5, .int p4)]) rfl ?_
        refine g_aload_n X dX7_paste_25 rfl (j := 1) rfl ?_
        refine i_get X F 0 rfl rfl fk_X7_32 dX7_paste_26 rfl ?_
        refine g_iload_n X dX7_paste_29 rfl (j := 4) rfl ?_
        rcases (Bool.eq_false_or_eq_true (act 84)).symm with hA84 | hA84
        · skip
          refine i_aald X F 24 rfl (t0 := 5) rfl rfl dX7_paste_30 (vp_in_iff.mpr (by decide)) (v := .null) (by show va_rf (R 24 2) = _; rw [HR.1 2 (by decide)]; rw [if_neg (by rw [hA84]; decide)]; rfl) ?_
          refine g_astoreN X dX7_paste_31 (by decide) (lv2 := [(7, .null), (6, .null), (0, .ref (a 0)), (1, .int 1), (2, .int p1), (3, .int 2), (4, .int p3), (5, .int p4)]) rfl ?_
          refine g_aloadN X dX7_paste_33 (j := 1) rfl ?_
          refine g_ifnullN X dX7_paste_35 (tgt := 43) (by decide) ?_
          refine g_bipush X dX7_paste_43 (v := -6) (by decide) ?_
          exact g_iret X hrt dX7_paste_45 (by decide) (by decide) ⟨C, D, F, I, K, (pa_no (c := 1) (d := 2) (by decide) (by decide) (Or.inl hA82))⟩
        · skip
          have act84 : (baseact 84 || act 84) = true := by rw [hA84]; rfl
          have act85 : (baseact 85 || act 85) = true := by rw [((HR.2.2.1 2 (by decide)).trans hA84)]; rfl
          refine i_aald X F 24 rfl (t0 := 5) rfl rfl dX7_paste_30 (vp_in_iff.mpr (by decide)) (v := .ref (a 84)) (by show va_rf (R 24 2) = _; rw [HR.1 2 (by decide)]; rw [if_pos hA84]; rfl) ?_
          refine g_astore X dX7_paste_31 (by decide) (lv2 := [(7, .ref (a 84)), (6, .null), (0, .ref (a 0)), (1, .int 1), (2, .int p1), (3, .int 2), (4, .int p3), (5, .int p4)]) rfl ?_
          refine g_aloadN X dX7_paste_33 (j := 1) rfl ?_
          refine g_ifnullN X dX7_paste_35 (tgt := 43) (by decide) ?_
          refine g_bipush X dX7_paste_43 (v := -6) (by decide) ?_
          exact g_iret X hrt dX7_paste_45 (by decide) (by decide) ⟨C, D, F, I, K, (pa_no (c := 1) (d := 2) (by decide) (by decide) (Or.inl hA82))⟩
      · skip
        have act82 : (baseact 82 || act 82) = true := by rw [hA82]; rfl
        have act83 : (baseact 83 || act 83) = true := by rw [((HR.2.2.1 1 (by decide)).trans hA82)]; rfl
        refine i_aald X F 24 rfl (t0 := 5) rfl rfl dX7_paste_22 (vp_in_iff.mpr (by decide)) (v := .ref (a 82)) (by show va_rf (R 24 1) = _; rw [HR.1 1 (by decide)]; rw [if_pos hA82]; rfl) ?_
        refine g_astore X dX7_paste_23 (by decide) (lv2 := [(6, .ref (a 82)), (0, .ref (a 0)), (1, .int 1), (2, .int p1), (3, .int 2), (4, .int p3), (5, .int p4)]) rfl ?_
        refine g_aload_n X dX7_paste_25 rfl (j := 1) rfl ?_
        refine i_get X F 0 rfl rfl fk_X7_32 dX7_paste_26 rfl ?_
        refine g_iload_n X dX7_paste_29 rfl (j := 4) rfl ?_
        rcases (Bool.eq_false_or_eq_true (act 84)).symm with hA84 | hA84
        · skip
          refine i_aald X F 24 rfl (t0 := 5) rfl rfl dX7_paste_30 (vp_in_iff.mpr (by decide)) (v := .null) (by show va_rf (R 24 2) = _; rw [HR.1 2 (by decide)]; rw [if_neg (by rw [hA84]; decide)]; rfl) ?_
          refine g_astoreN X dX7_paste_31 (by decide) (lv2 := [(7, .null), (6, .ref (a 82)), (0, .ref (a 0)), (1, .int 1), (2, .int p1), (3, .int 2), (4, .int p3), (5, .int p4)]) rfl ?_
          refine g_aload X dX7_paste_33 (j := 1) rfl ?_
          refine g_ifnull X dX7_paste_35 ?_
          refine g_aloadN X dX7_paste_38 (j := 0) rfl ?_
          refine g_ifnonnullN X dX7_paste_40 ?_
          refine g_bipush X dX7_paste_43 (v := -6) (by decide) ?_
          exact g_iret X hrt dX7_paste_45 (by decide) (by decide) ⟨C, D, F, I, K, (pa_no (c := 1) (d := 2) (by decide) (by decide) (Or.inr hA84))⟩
        · skip
          have act84 : (baseact 84 || act 84) = true := by rw [hA84]; rfl
          have act85 : (baseact 85 || act 85) = true := by rw [((HR.2.2.1 2 (by decide)).trans hA84)]; rfl
          refine i_aald X F 24 rfl (t0 := 5) rfl rfl dX7_paste_30 (vp_in_iff.mpr (by decide)) (v := .ref (a 84)) (by show va_rf (R 24 2) = _; rw [HR.1 2 (by decide)]; rw [if_pos hA84]; rfl) ?_
          refine g_astore X dX7_paste_31 (by decide) (lv2 := [(7, .ref (a 84)), (6, .ref (a 82)), (0, .ref (a 0)), (1, .int 1), (2, .int p1), (3, .int 2), (4, .int p3), (5, .int p4)]) rfl ?_
          refine g_aload X dX7_paste_33 (j := 1) rfl ?_
          refine g_ifnull X dX7_paste_35 ?_
          refine g_aload X dX7_paste_38 (j := 0) rfl ?_
          refine g_ifnonnull X dX7_paste_40 (tgt := 46) (by decide) ?_
          refine g_aload X dX7_paste_46 (j := 1) rfl ?_
          refine i_get X F 82 (act82) rfl fk_X7_400 dX7_paste_48 (v := .int o2) (congrArg (fun z => some (Value.int z)) ((congrFun (K 82 (by decide)).1 1).trans eo2)) ?_
          refine g_aload X dX7_paste_51 (j := 0) rfl ?_
          refine i_get X F 84 (act84) rfl fk_X7_400 dX7_paste_53 (v := .int o3) (congrArg (fun z => some (Value.int z)) ((congrFun (K 84 (by decide)).1 1).trans eo3)) ?_
          refine g_icmp_eq X dX7_paste_56 (tgt := 62) (by decide) (fun q113 => ?_) (fun q113 => ?_)
          · skip
            refine g_aload X dX7_paste_62 (j := 1) rfl ?_
            refine g_iload_n X dX7_paste_64 rfl (j := 4) rfl ?_
            refine g_iload X dX7_paste_65 (j := 7) rfl ?_
            refine g_callVI X (s_X5_hasPart_82 l G F I p1 p4 act82) lk_X7_403 (F.1 82 (act82)).2 (F.1 82 (act82)).1 rfl rfl dX7_paste_67 (Nat.le_of_ble_eq_true rfl) ⟨by decide, by decide⟩ ⟨by decide, by decide⟩ (fun r114 L M hp => ?_)
            obtain ⟨C, D, F, I, K1, hr⟩ := hp
            have K := K.step K1 (by decide)
            rcases hr with ⟨rfl, hp115⟩ | ⟨rfl, hp115⟩
            · skip
              rw [(K 82 (by decide)).1] at hp115
              refine g_if_eq X dX7_paste_70 (tgt := 85) (by decide) (fun _ => ?_) (fun q => absurd (by decide) q)
              refine g_bipush X dX7_paste_85 (v := -7) (by decide) ?_
              exact g_iret X hrt dX7_paste_87 (by decide) (by decide) ⟨C, D, F, I, K, (pa_b (c := 1) (d := 2) (by decide) (by decide) hA82 hA84 (eo2.trans (q113.trans eo3.symm)) (fun z => hp115 ⟨z.1.1, z.1.2.1, z.1.2.2⟩))⟩
            · skip
              rw [(K 82 (by decide)).1] at hp115
              refine g_if_eq X dX7_paste_70 (tgt := 85) (by decide) (fun q => absurd q (by decide)) (fun _ => ?_)
              refine g_aload X dX7_paste_73 (j := 0) rfl ?_
              refine g_iload X dX7_paste_75 (j := 6) rfl ?_
              refine g_iload X dX7_paste_77 (j := 7) rfl ?_
              refine g_callVI X (s_X5_hasPart_84 l G F I p3 p4 act84) lk_X7_403 (F.1 84 (act84)).2 (F.1 84 (act84)).1 rfl rfl dX7_paste_79 (Nat.le_of_ble_eq_true rfl) ⟨by decide, by decide⟩ ⟨by decide, by decide⟩ (fun r116 L M hp => ?_)
              obtain ⟨C, D, F, I, K1, hr⟩ := hp
              have K := K.step K1 (by decide)
              rcases hr with ⟨rfl, hp117⟩ | ⟨rfl, hp117⟩
              · skip
                rw [(K 84 (by decide)).1] at hp117
                refine g_if_ne X dX7_paste_82 (tgt := 88) (by decide) (fun q => absurd (by decide) q) (fun _ => ?_)
                refine g_bipush X dX7_paste_85 (v := -7) (by decide) ?_
                exact g_iret X hrt dX7_paste_87 (by decide) (by decide) ⟨C, D, F, I, K, (pa_b (c := 1) (d := 2) (by decide) (by decide) hA82 hA84 (eo2.trans (q113.trans eo3.symm)) (fun z => hp117 ⟨z.2.1, z.1.2.1, z.2.2⟩))⟩
              · skip
                rw [(K 84 (by decide)).1] at hp117
                refine g_if_ne X dX7_paste_82 (tgt := 88) (by decide) (fun _ => ?_) (fun q => absurd q (by decide))
                have hz82 := (show (C0 82 2).toInt ≤ 60 from (by have z := I 82 2 rfl; rw [(K 82 (by decide)).1] at z; exact z.2))
                have hz84 := (show (C0 84 2).toInt ≤ 60 from (by have z := I 84 2 rfl; rw [(K 84 (by decide)).1] at z; exact z.2))
                obtain ⟨n118, hn118a, hn118b, en118⟩ := nI_ofInt (x := p1) (lo := 0) (hi := 60) (by omega) (by omega) (by decide)
                subst en118
                have tn118 := nI_toInt (n := n118) (by omega)
                obtain ⟨n119, hn119a, hn119b, en119⟩ := nI_ofInt (x := p3) (lo := 0) (hi := 60) (by omega) (by omega) (by decide)
                subst en119
                have tn119 := nI_toInt (n := n119) (by omega)
                obtain ⟨n120, hn120a, hn120b, en120⟩ := nI_ofInt (x := p4) (lo := 0) (hi := 60) (by omega) (by omega) (by decide)
                subst en120
                have tn120 := nI_toInt (n := n120) (by omega)
                refine g_aload X dX7_paste_88 (j := 1) rfl ?_
                refine i_get X F 82 (act82) rfl fk_X7_406 dX7_paste_90 rfl ?_
                refine g_iload_n X dX7_paste_93 rfl (j := 4) rfl ?_
                refine g_aload X dX7_paste_94 (j := 0) rfl ?_
                refine i_get X F 84 (act84) rfl fk_X7_406 dX7_paste_96 rfl ?_
                refine g_iload X dX7_paste_99 (j := 6) rfl ?_
                refine g_iload X dX7_paste_101 (j := 7) rfl ?_
                refine i_copyl X F 83 (act83) 85 (act85) rfl (fun _ => rfl) (t0 := 2) rfl rfl wd604 wd87 wd88 wd89 (nI_pos (by omega)) (nI_pos (by omega)) (nI_pos (by omega)) (by rw [nI_clamp (show n118 < 2 ^ 31 by omega), nI_clamp (show n120 < 2 ^ 31 by omega)]; omega) (by rw [nI_clamp (show n119 < 2 ^ 31 by omega), nI_clamp (show n120 < 2 ^ 31 by omega)]; omega) (fun _ _ => rfl) (by decide) (Nat.le_of_ble_eq_true rfl) dX7_paste_103 (fun M D F K1 => ?_)
                have K := K.step K1 (by decide)
                refine g_iconst X dX7_paste_106 (v := 0) (by decide) ?_
                exact g_iret X hrt dX7_paste_107 (by decide) (by decide) ⟨C, D, F, I, K, (pa_k (c := 1) (d := 2) (by decide) (by decide) hA82 hA84 (eo2.trans (q113.trans eo3.symm)) ⟨hp115, hp117.1, hp117.2.2⟩)⟩
          · skip
            refine g_bipush X dX7_paste_59 (v := -8) (by decide) ?_
            exact g_iret X hrt dX7_paste_61 (by decide) (by decide) ⟨C, D, F, I, K, (pa_w (c := 1) (d := 2) (by decide) (by decide) hA82 hA84 (fun h => q113 (eo2.symm.trans (h.trans eo3))))⟩
    · skip
      refine g_iload_n X dX7_paste_0 rfl (j := 1) rfl ?_
      refine g_callSI X (s_X7_isSlot_1 l G F I  ) lk_X7_389 rfl rfl dX7_paste_1 (Nat.le_of_ble_eq_true rfl) ⟨by decide, by decide⟩ ⟨by decide, by decide⟩ (fun r121 L M hp => ?_)
      obtain ⟨C, D, F, I, K1, hr⟩ := hp
      have K := K.step K1 (by decide)
      subst hr
      refine g_if_eq X dX7_paste_4 (tgt := 14) (by decide) (fun q => absurd q (by decide)) (fun _ => ?_)
      refine g_iload_n X dX7_paste_7 rfl (j := 3) rfl ?_
      refine g_callSI X (s_X7_isSlot_3 l G F I  ) lk_X7_389 rfl rfl dX7_paste_8 (Nat.le_of_ble_eq_true rfl) ⟨by decide, by decide⟩ ⟨by decide, by decide⟩ (fun r122 L M hp => ?_)
      obtain ⟨C, D, F, I, K1, hr⟩ := hp
      have K := K.step K1 (by decide)
      subst hr
      refine g_if_ne X dX7_paste_11 (tgt := 17) (by decide) (fun _ => ?_) (fun q => absurd q (by decide))
      refine g_aload_n X dX7_paste_17 rfl (j := 0) rfl ?_
      refine i_get X F 0 rfl rfl fk_X7_32 dX7_paste_18 rfl ?_
      refine g_iload_n X dX7_paste_21 rfl (j := 1) rfl ?_
      rcases (Bool.eq_false_or_eq_true (act 82)).symm with hA82 | hA82
      · skip
        refine i_aald X F 24 rfl (t0 := 5) rfl rfl dX7_paste_22 (vp_in_iff.mpr (by decide)) (v := .null) (by show va_rf (R 24 1) = _; rw [HR.1 1 (by decide)]; rw [if_neg (by rw [hA82]; decide)]; rfl) ?_
        refine g_astoreN X dX7_paste_23 (by decide) (lv2 := [(6, .null), (0, .ref (a 0)), (1, .int 1), (2, .int p1), (3, .int 3), (4, .int p3), (5, .int p4)]) rfl ?_
        refine g_aload_n X dX7_paste_25 rfl (j := 1) rfl ?_
        refine i_get X F 0 rfl rfl fk_X7_32 dX7_paste_26 rfl ?_
        refine g_iload_n X dX7_paste_29 rfl (j := 4) rfl ?_
        rcases (Bool.eq_false_or_eq_true (act 86)).symm with hA86 | hA86
        · skip
          refine i_aald X F 24 rfl (t0 := 5) rfl rfl dX7_paste_30 (vp_in_iff.mpr (by decide)) (v := .null) (by show va_rf (R 24 3) = _; rw [HR.1 3 (by decide)]; rw [if_neg (by rw [hA86]; decide)]; rfl) ?_
          refine g_astoreN X dX7_paste_31 (by decide) (lv2 := [(7, .null), (6, .null), (0, .ref (a 0)), (1, .int 1), (2, .int p1), (3, .int 3), (4, .int p3), (5, .int p4)]) rfl ?_
          refine g_aloadN X dX7_paste_33 (j := 1) rfl ?_
          refine g_ifnullN X dX7_paste_35 (tgt := 43) (by decide) ?_
          refine g_bipush X dX7_paste_43 (v := -6) (by decide) ?_
          exact g_iret X hrt dX7_paste_45 (by decide) (by decide) ⟨C, D, F, I, K, (pa_no (c := 1) (d := 3) (by decide) (by decide) (Or.inl hA82))⟩
        · skip
          have act86 : (baseact 86 || act 86) = true := by rw [hA86]; rfl
          have act87 : (baseact 87 || act 87) = true := by rw [((HR.2.2.1 3 (by decide)).trans hA86)]; rfl
          refine i_aald X F 24 rfl (t0 := 5) rfl rfl dX7_paste_30 (vp_in_iff.mpr (by decide)) (v := .ref (a 86)) (by show va_rf (R 24 3) = _; rw [HR.1 3 (by decide)]; rw [if_pos hA86]; rfl) ?_
          refine g_astore X dX7_paste_31 (by decide) (lv2 := [(7, .ref (a 86)), (6, .null), (0, .ref (a 0)), (1, .int 1), (2, .int p1), (3, .int 3), (4, .int p3), (5, .int p4)]) rfl ?_
          refine g_aloadN X dX7_paste_33 (j := 1) rfl ?_
          refine g_ifnullN X dX7_paste_35 (tgt := 43) (by decide) ?_
          refine g_bipush X dX7_paste_43 (v := -6) (by decide) ?_
          exact g_iret X hrt dX7_paste_45 (by decide) (by decide) ⟨C, D, F, I, K, (pa_no (c := 1) (d := 3) (by decide) (by decide) (Or.inl hA82))⟩
      · skip
        have act82 : (baseact 82 || act 82) = true := by rw [hA82]; rfl
        have act83 : (baseact 83 || act 83) = true := by rw [((HR.2.2.1 1 (by decide)).trans hA82)]; rfl
        refine i_aald X F 24 rfl (t0 := 5) rfl rfl dX7_paste_22 (vp_in_iff.mpr (by decide)) (v := .ref (a 82)) (by show va_rf (R 24 1) = _; rw [HR.1 1 (by decide)]; rw [if_pos hA82]; rfl) ?_
        refine g_astore X dX7_paste_23 (by decide) (lv2 := [(6, .ref (a 82)), (0, .ref (a 0)), (1, .int 1), (2, .int p1), (3, .int 3), (4, .int p3), (5, .int p4)]) rfl ?_
        refine g_aload_n X dX7_paste_25 rfl (j := 1) rfl ?_
        refine i_get X F 0 rfl rfl fk_X7_32 dX7_paste_26 rfl ?_
        refine g_iload_n X dX7_paste_29 rfl (j := 4) rfl ?_
        rcases (Bool.eq_false_or_eq_true (act 86)).symm with hA86 | hA86
        · skip
          refine i_aald X F 24 rfl (t0 := 5) rfl rfl dX7_paste_30 (vp_in_iff.mpr (by decide)) (v := .null) (by show va_rf (R 24 3) = _; rw [HR.1 3 (by decide)]; rw [if_neg (by rw [hA86]; decide)]; rfl) ?_
          refine g_astoreN X dX7_paste_31 (by decide) (lv2 := [(7, .null), (6, .ref (a 82)), (0, .ref (a 0)), (1, .int 1), (2, .int p1), (3, .int 3), (4, .int p3), (5, .int p4)]) rfl ?_
          refine g_aload X dX7_paste_33 (j := 1) rfl ?_
          refine g_ifnull X dX7_paste_35 ?_
          refine g_aloadN X dX7_paste_38 (j := 0) rfl ?_
          refine g_ifnonnullN X dX7_paste_40 ?_
          refine g_bipush X dX7_paste_43 (v := -6) (by decide) ?_
          exact g_iret X hrt dX7_paste_45 (by decide) (by decide) ⟨C, D, F, I, K, (pa_no (c := 1) (d := 3) (by decide) (by decide) (Or.inr hA86))⟩
        · skip
          have act86 : (baseact 86 || act 86) = true := by rw [hA86]; rfl
          have act87 : (baseact 87 || act 87) = true := by rw [((HR.2.2.1 3 (by decide)).trans hA86)]; rfl
          refine i_aald X F 24 rfl (t0 := 5) rfl rfl dX7_paste_30 (vp_in_iff.mpr (by decide)) (v := .ref (a 86)) (by show va_rf (R 24 3) = _; rw [HR.1 3 (by decide)]; rw [if_pos hA86]; rfl) ?_
          refine g_astore X dX7_paste_31 (by decide) (lv2 := [(7, .ref (a 86)), (6, .ref (a 82)), (0, .ref (a 0)), (1, .int 1), (2, .int p1), (3, .int 3), (4, .int p3), (5, .int p4)]) rfl ?_
          refine g_aload X dX7_paste_33 (j := 1) rfl ?_
          refine g_ifnull X dX7_paste_35 ?_
          refine g_aload X dX7_paste_38 (j := 0) rfl ?_
          refine g_ifnonnull X dX7_paste_40 (tgt := 46) (by decide) ?_
          refine g_aload X dX7_paste_46 (j := 1) rfl ?_
          refine i_get X F 82 (act82) rfl fk_X7_400 dX7_paste_48 (v := .int o2) (congrArg (fun z => some (Value.int z)) ((congrFun (K 82 (by decide)).1 1).trans eo2)) ?_
          refine g_aload X dX7_paste_51 (j := 0) rfl ?_
          refine i_get X F 86 (act86) rfl fk_X7_400 dX7_paste_53 (v := .int o4) (congrArg (fun z => some (Value.int z)) ((congrFun (K 86 (by decide)).1 1).trans eo4)) ?_
          refine g_icmp_eq X dX7_paste_56 (tgt := 62) (by decide) (fun q126 => ?_) (fun q126 => ?_)
          · skip
            refine g_aload X dX7_paste_62 (j := 1) rfl ?_
            refine g_iload_n X dX7_paste_64 rfl (j := 4) rfl ?_
            refine g_iload X dX7_paste_65 (j := 7) rfl ?_
            refine g_callVI X (s_X5_hasPart_82 l G F I p1 p4 act82) lk_X7_403 (F.1 82 (act82)).2 (F.1 82 (act82)).1 rfl rfl dX7_paste_67 (Nat.le_of_ble_eq_true rfl) ⟨by decide, by decide⟩ ⟨by decide, by decide⟩ (fun r127 L M hp => ?_)
            obtain ⟨C, D, F, I, K1, hr⟩ := hp
            have K := K.step K1 (by decide)
            rcases hr with ⟨rfl, hp128⟩ | ⟨rfl, hp128⟩
            · skip
              rw [(K 82 (by decide)).1] at hp128
              refine g_if_eq X dX7_paste_70 (tgt := 85) (by decide) (fun _ => ?_) (fun q => absurd (by decide) q)
              refine g_bipush X dX7_paste_85 (v := -7) (by decide) ?_
              exact g_iret X hrt dX7_paste_87 (by decide) (by decide) ⟨C, D, F, I, K, (pa_b (c := 1) (d := 3) (by decide) (by decide) hA82 hA86 (eo2.trans (q126.trans eo4.symm)) (fun z => hp128 ⟨z.1.1, z.1.2.1, z.1.2.2⟩))⟩
            · skip
              rw [(K 82 (by decide)).1] at hp128
              refine g_if_eq X dX7_paste_70 (tgt := 85) (by decide) (fun q => absurd q (by decide)) (fun _ => ?_)
              refine g_aload X dX7_paste_73 (j := 0) rfl ?_
              refine g_iload X dX7_paste_75 (j := 6) rfl ?_
              refine g_iload X dX7_paste_77 (j := 7) rfl ?_
              refine g_callVI X (s_X5_hasPart_86 l G F I p3 p4 act86) lk_X7_403 (F.1 86 (act86)).2 (F.1 86 (act86)).1 rfl rfl dX7_paste_79 (Nat.le_of_ble_eq_true rfl) ⟨by decide, by decide⟩ ⟨by decide, by decide⟩ (fun r129 L M hp => ?_)
              obtain ⟨C, D, F, I, K1, hr⟩ := hp
              have K := K.step K1 (by decide)
              rcases hr with ⟨rfl, hp130⟩ | ⟨rfl, hp130⟩
              · skip
                rw [(K 86 (by decide)).1] at hp130
                refine g_if_ne X dX7_paste_82 (tgt := 88) (by decide) (fun q => absurd (by decide) q) (fun _ => ?_)
                refine g_bipush X dX7_paste_85 (v := -7) (by decide) ?_
                exact g_iret X hrt dX7_paste_87 (by decide) (by decide) ⟨C, D, F, I, K, (pa_b (c := 1) (d := 3) (by decide) (by decide) hA82 hA86 (eo2.trans (q126.trans eo4.symm)) (fun z => hp130 ⟨z.2.1, z.1.2.1, z.2.2⟩))⟩
              · skip
                rw [(K 86 (by decide)).1] at hp130
                refine g_if_ne X dX7_paste_82 (tgt := 88) (by decide) (fun _ => ?_) (fun q => absurd q (by decide))
                have hz82 := (show (C0 82 2).toInt ≤ 60 from (by have z := I 82 2 rfl; rw [(K 82 (by decide)).1] at z; exact z.2))
                have hz86 := (show (C0 86 2).toInt ≤ 60 from (by have z := I 86 2 rfl; rw [(K 86 (by decide)).1] at z; exact z.2))
                obtain ⟨n131, hn131a, hn131b, en131⟩ := nI_ofInt (x := p1) (lo := 0) (hi := 60) (by omega) (by omega) (by decide)
                subst en131
                have tn131 := nI_toInt (n := n131) (by omega)
                obtain ⟨n132, hn132a, hn132b, en132⟩ := nI_ofInt (x := p3) (lo := 0) (hi := 60) (by omega) (by omega) (by decide)
                subst en132
                have tn132 := nI_toInt (n := n132) (by omega)
                obtain ⟨n133, hn133a, hn133b, en133⟩ := nI_ofInt (x := p4) (lo := 0) (hi := 60) (by omega) (by omega) (by decide)
                subst en133
                have tn133 := nI_toInt (n := n133) (by omega)
                refine g_aload X dX7_paste_88 (j := 1) rfl ?_
                refine i_get X F 82 (act82) rfl fk_X7_406 dX7_paste_90 rfl ?_
                refine g_iload_n X dX7_paste_93 rfl (j := 4) rfl ?_
                refine g_aload X dX7_paste_94 (j := 0) rfl ?_
                refine i_get X F 86 (act86) rfl fk_X7_406 dX7_paste_96 rfl ?_
                refine g_iload X dX7_paste_99 (j := 6) rfl ?_
                refine g_iload X dX7_paste_101 (j := 7) rfl ?_
                refine i_copyl X F 83 (act83) 87 (act87) rfl (fun _ => rfl) (t0 := 2) rfl rfl wd604 wd87 wd88 wd89 (nI_pos (by omega)) (nI_pos (by omega)) (nI_pos (by omega)) (by rw [nI_clamp (show n131 < 2 ^ 31 by omega), nI_clamp (show n133 < 2 ^ 31 by omega)]; omega) (by rw [nI_clamp (show n132 < 2 ^ 31 by omega), nI_clamp (show n133 < 2 ^ 31 by omega)]; omega) (fun _ _ => rfl) (by decide) (Nat.le_of_ble_eq_true rfl) dX7_paste_103 (fun M D F K1 => ?_)
                have K := K.step K1 (by decide)
                refine g_iconst X dX7_paste_106 (v := 0) (by decide) ?_
                exact g_iret X hrt dX7_paste_107 (by decide) (by decide) ⟨C, D, F, I, K, (pa_k (c := 1) (d := 3) (by decide) (by decide) hA82 hA86 (eo2.trans (q126.trans eo4.symm)) ⟨hp128, hp130.1, hp130.2.2⟩)⟩
          · skip
            refine g_bipush X dX7_paste_59 (v := -8) (by decide) ?_
            exact g_iret X hrt dX7_paste_61 (by decide) (by decide) ⟨C, D, F, I, K, (pa_w (c := 1) (d := 3) (by decide) (by decide) hA82 hA86 (fun h => q126 (eo2.symm.trans (h.trans eo4))))⟩
  · skip
    rcases sc4 p2 with hx134 | hx134 | rfl | rfl | rfl | rfl
    · skip
      have hno3 : p2 < 0 ∨ 4 ≤ p2 := Or.inl hx134
      refine g_iload_n X dX7_paste_0 rfl (j := 1) rfl ?_
      refine g_callSI X (s_X7_isSlot_2 l G F I  ) lk_X7_389 rfl rfl dX7_paste_1 (Nat.le_of_ble_eq_true rfl) ⟨by decide, by decide⟩ ⟨by decide, by decide⟩ (fun r135 L M hp => ?_)
      obtain ⟨C, D, F, I, K1, hr⟩ := hp
      have K := K.step K1 (by decide)
      subst hr
      refine g_if_eq X dX7_paste_4 (tgt := 14) (by decide) (fun q => absurd q (by decide)) (fun _ => ?_)
      refine g_iload_n X dX7_paste_7 rfl (j := 3) rfl ?_
      refine g_callSI X (s_X7_isSlot_x l G F I p2 hno3) lk_X7_389 rfl rfl dX7_paste_8 (Nat.le_of_ble_eq_true rfl) ⟨by decide, by decide⟩ ⟨by decide, by decide⟩ (fun r136 L M hp => ?_)
      obtain ⟨C, D, F, I, K1, hr⟩ := hp
      have K := K.step K1 (by decide)
      subst hr
      refine g_if_ne X dX7_paste_11 (tgt := 17) (by decide) (fun q => absurd (by decide) q) (fun _ => ?_)
      refine g_bipush X dX7_paste_14 (v := -2) (by decide) ?_
      exact g_iret X hrt dX7_paste_16 (by decide) (by decide) ⟨C, D, F, I, K, (pa_out (Or.inr hno3))⟩
    · skip
      have hno3 : p2 < 0 ∨ 4 ≤ p2 := Or.inr hx134
      refine g_iload_n X dX7_paste_0 rfl (j := 1) rfl ?_
      refine g_callSI X (s_X7_isSlot_2 l G F I  ) lk_X7_389 rfl rfl dX7_paste_1 (Nat.le_of_ble_eq_true rfl) ⟨by decide, by decide⟩ ⟨by decide, by decide⟩ (fun r137 L M hp => ?_)
      obtain ⟨C, D, F, I, K1, hr⟩ := hp
      have K := K.step K1 (by decide)
      subst hr
      refine g_if_eq X dX7_paste_4 (tgt := 14) (by decide) (fun q => absurd q (by decide)) (fun _ => ?_)
      refine g_iload_n X dX7_paste_7 rfl (j := 3) rfl ?_
      refine g_callSI X (s_X7_isSlot_x l G F I p2 hno3) lk_X7_389 rfl rfl dX7_paste_8 (Nat.le_of_ble_eq_true rfl) ⟨by decide, by decide⟩ ⟨by decide, by decide⟩ (fun r138 L M hp => ?_)
      obtain ⟨C, D, F, I, K1, hr⟩ := hp
      have K := K.step K1 (by decide)
      subst hr
      refine g_if_ne X dX7_paste_11 (tgt := 17) (by decide) (fun q => absurd (by decide) q) (fun _ => ?_)
      refine g_bipush X dX7_paste_14 (v := -2) (by decide) ?_
      exact g_iret X hrt dX7_paste_16 (by decide) (by decide) ⟨C, D, F, I, K, (pa_out (Or.inr hno3))⟩
    · skip
      refine g_iload_n X dX7_paste_0 rfl (j := 1) rfl ?_
      refine g_callSI X (s_X7_isSlot_2 l G F I  ) lk_X7_389 rfl rfl dX7_paste_1 (Nat.le_of_ble_eq_true rfl) ⟨by decide, by decide⟩ ⟨by decide, by decide⟩ (fun r139 L M hp => ?_)
      obtain ⟨C, D, F, I, K1, hr⟩ := hp
      have K := K.step K1 (by decide)
      subst hr
      refine g_if_eq X dX7_paste_4 (tgt := 14) (by decide) (fun q => absurd q (by decide)) (fun _ => ?_)
      refine g_iload_n X dX7_paste_7 rfl (j := 3) rfl ?_
      refine g_callSI X (s_X7_isSlot_0 l G F I  ) lk_X7_389 rfl rfl dX7_paste_8 (Nat.le_of_ble_eq_true rfl) ⟨by decide, by decide⟩ ⟨by decide, by decide⟩ (fun r140 L M hp => ?_)
      obtain ⟨C, D, F, I, K1, hr⟩ := hp
      have K := K.step K1 (by decide)
      subst hr
      refine g_if_ne X dX7_paste_11 (tgt := 17) (by decide) (fun _ => ?_) (fun q => absurd q (by decide))
      refine g_aload_n X dX7_paste_17 rfl (j := 0) rfl ?_
      refine i_get X F 0 rfl rfl fk_X7_32 dX7_paste_18 rfl ?_
      refine g_iload_n X dX7_paste_21 rfl (j := 1) rfl ?_
      rcases (Bool.eq_false_or_eq_true (act 84)).symm with hA84 | hA84
      · skip
        refine i_aald X F 24 rfl (t0 := 5) rfl rfl dX7_paste_22 (vp_in_iff.mpr (by decide)) (v := .null) (by show va_rf (R 24 2) = _; rw [HR.1 2 (by decide)]; rw [if_neg (by rw [hA84]; decide)]; rfl) ?_
        refine g_astoreN X dX7_paste_23 (by decide) (lv2 := [(6, .null), (0, .ref (a 0)), (1, .int 2), (2, .int p1), (3, .int 0), (4, .int p3), (5, .int p4)]) rfl ?_
        refine g_aload_n X dX7_paste_25 rfl (j := 1) rfl ?_
        refine i_get X F 0 rfl rfl fk_X7_32 dX7_paste_26 rfl ?_
        refine g_iload_n X dX7_paste_29 rfl (j := 4) rfl ?_
        rcases (Bool.eq_false_or_eq_true (act 80)).symm with hA80 | hA80
        · skip
          refine i_aald X F 24 rfl (t0 := 5) rfl rfl dX7_paste_30 (vp_in_iff.mpr (by decide)) (v := .null) (by show va_rf (R 24 0) = _; rw [HR.1 0 (by decide)]; rw [if_neg (by rw [hA80]; decide)]; rfl) ?_
          refine g_astoreN X dX7_paste_31 (by decide) (lv2 := [(7, .null), (6, .null), (0, .ref (a 0)), (1, .int 2), (2, .int p1), (3, .int 0), (4, .int p3), (5, .int p4)]) rfl ?_
          refine g_aloadN X dX7_paste_33 (j := 1) rfl ?_
          refine g_ifnullN X dX7_paste_35 (tgt := 43) (by decide) ?_
          refine g_bipush X dX7_paste_43 (v := -6) (by decide) ?_
          exact g_iret X hrt dX7_paste_45 (by decide) (by decide) ⟨C, D, F, I, K, (pa_no (c := 2) (d := 0) (by decide) (by decide) (Or.inl hA84))⟩
        · skip
          have act80 : (baseact 80 || act 80) = true := by rw [hA80]; rfl
          have act81 : (baseact 81 || act 81) = true := by rw [((HR.2.2.1 0 (by decide)).trans hA80)]; rfl
          refine i_aald X F 24 rfl (t0 := 5) rfl rfl dX7_paste_30 (vp_in_iff.mpr (by decide)) (v := .ref (a 80)) (by show va_rf (R 24 0) = _; rw [HR.1 0 (by decide)]; rw [if_pos hA80]; rfl) ?_
          refine g_astore X dX7_paste_31 (by decide) (lv2 := [(7, .ref (a 80)), (6, .null), (0, .ref (a 0)), (1, .int 2), (2, .int p1), (3, .int 0), (4, .int p3), (5, .int p4)]) rfl ?_
          refine g_aloadN X dX7_paste_33 (j := 1) rfl ?_
          refine g_ifnullN X dX7_paste_35 (tgt := 43) (by decide) ?_
          refine g_bipush X dX7_paste_43 (v := -6) (by decide) ?_
          exact g_iret X hrt dX7_paste_45 (by decide) (by decide) ⟨C, D, F, I, K, (pa_no (c := 2) (d := 0) (by decide) (by decide) (Or.inl hA84))⟩
      · skip
        have act84 : (baseact 84 || act 84) = true := by rw [hA84]; rfl
        have act85 : (baseact 85 || act 85) = true := by rw [((HR.2.2.1 2 (by decide)).trans hA84)]; rfl
        refine i_aald X F 24 rfl (t0 := 5) rfl rfl dX7_paste_22 (vp_in_iff.mpr (by decide)) (v := .ref (a 84)) (by show va_rf (R 24 2) = _; rw [HR.1 2 (by decide)]; rw [if_pos hA84]; rfl) ?_
        refine g_astore X dX7_paste_23 (by decide) (lv2 := [(6, .ref (a 84)), (0, .ref (a 0)), (1, .int 2), (2, .int p1), (3, .int 0), (4, .int p3), (5, .int p4)]) rfl ?_
        refine g_aload_n X dX7_paste_25 rfl (j := 1) rfl ?_
        refine i_get X F 0 rfl rfl fk_X7_32 dX7_paste_26 rfl ?_
        refine g_iload_n X dX7_paste_29 rfl (j := 4) rfl ?_
        rcases (Bool.eq_false_or_eq_true (act 80)).symm with hA80 | hA80
        · skip
          refine i_aald X F 24 rfl (t0 := 5) rfl rfl dX7_paste_30 (vp_in_iff.mpr (by decide)) (v := .null) (by show va_rf (R 24 0) = _; rw [HR.1 0 (by decide)]; rw [if_neg (by rw [hA80]; decide)]; rfl) ?_
          refine g_astoreN X dX7_paste_31 (by decide) (lv2 := [(7, .null), (6, .ref (a 84)), (0, .ref (a 0)), (1, .int 2), (2, .int p1), (3, .int 0), (4, .int p3), (5, .int p4)]) rfl ?_
          refine g_aload X dX7_paste_33 (j := 1) rfl ?_
          refine g_ifnull X dX7_paste_35 ?_
          refine g_aloadN X dX7_paste_38 (j := 0) rfl ?_
          refine g_ifnonnullN X dX7_paste_40 ?_
          refine g_bipush X dX7_paste_43 (v := -6) (by decide) ?_
          exact g_iret X hrt dX7_paste_45 (by decide) (by decide) ⟨C, D, F, I, K, (pa_no (c := 2) (d := 0) (by decide) (by decide) (Or.inr hA80))⟩
        · skip
          have act80 : (baseact 80 || act 80) = true := by rw [hA80]; rfl
          have act81 : (baseact 81 || act 81) = true := by rw [((HR.2.2.1 0 (by decide)).trans hA80)]; rfl
          refine i_aald X F 24 rfl (t0 := 5) rfl rfl dX7_paste_30 (vp_in_iff.mpr (by decide)) (v := .ref (a 80)) (by show va_rf (R 24 0) = _; rw [HR.1 0 (by decide)]; rw [if_pos hA80]; rfl) ?_
          refine g_astore X dX7_paste_31 (by decide) (lv2 := [(7, .ref (a 80)), (6, .ref (a 84)), (0, .ref (a 0)), (1, .int 2), (2, .int p1), (3, .int 0), (4, .int p3), (5, .int p4)]) rfl ?_
          refine g_aload X dX7_paste_33 (j := 1) rfl ?_
          refine g_ifnull X dX7_paste_35 ?_
          refine g_aload X dX7_paste_38 (j := 0) rfl ?_
          refine g_ifnonnull X dX7_paste_40 (tgt := 46) (by decide) ?_
          refine g_aload X dX7_paste_46 (j := 1) rfl ?_
          refine i_get X F 84 (act84) rfl fk_X7_400 dX7_paste_48 (v := .int o3) (congrArg (fun z => some (Value.int z)) ((congrFun (K 84 (by decide)).1 1).trans eo3)) ?_
          refine g_aload X dX7_paste_51 (j := 0) rfl ?_
          refine i_get X F 80 (act80) rfl fk_X7_400 dX7_paste_53 (v := .int o1) (congrArg (fun z => some (Value.int z)) ((congrFun (K 80 (by decide)).1 1).trans eo1)) ?_
          refine g_icmp_eq X dX7_paste_56 (tgt := 62) (by decide) (fun q144 => ?_) (fun q144 => ?_)
          · skip
            refine g_aload X dX7_paste_62 (j := 1) rfl ?_
            refine g_iload_n X dX7_paste_64 rfl (j := 4) rfl ?_
            refine g_iload X dX7_paste_65 (j := 7) rfl ?_
            refine g_callVI X (s_X5_hasPart_84 l G F I p1 p4 act84) lk_X7_403 (F.1 84 (act84)).2 (F.1 84 (act84)).1 rfl rfl dX7_paste_67 (Nat.le_of_ble_eq_true rfl) ⟨by decide, by decide⟩ ⟨by decide, by decide⟩ (fun r145 L M hp => ?_)
            obtain ⟨C, D, F, I, K1, hr⟩ := hp
            have K := K.step K1 (by decide)
            rcases hr with ⟨rfl, hp146⟩ | ⟨rfl, hp146⟩
            · skip
              rw [(K 84 (by decide)).1] at hp146
              refine g_if_eq X dX7_paste_70 (tgt := 85) (by decide) (fun _ => ?_) (fun q => absurd (by decide) q)
              refine g_bipush X dX7_paste_85 (v := -7) (by decide) ?_
              exact g_iret X hrt dX7_paste_87 (by decide) (by decide) ⟨C, D, F, I, K, (pa_b (c := 2) (d := 0) (by decide) (by decide) hA84 hA80 (eo3.trans (q144.trans eo1.symm)) (fun z => hp146 ⟨z.1.1, z.1.2.1, z.1.2.2⟩))⟩
            · skip
              rw [(K 84 (by decide)).1] at hp146
              refine g_if_eq X dX7_paste_70 (tgt := 85) (by decide) (fun q => absurd q (by decide)) (fun _ => ?_)
              refine g_aload X dX7_paste_73 (j := 0) rfl ?_
              refine g_iload X dX7_paste_75 (j := 6) rfl ?_
              refine g_iload X dX7_paste_77 (j := 7) rfl ?_
              refine g_callVI X (s_X5_hasPart_80 l G F I p3 p4 act80) lk_X7_403 (F.1 80 (act80)).2 (F.1 80 (act80)).1 rfl rfl dX7_paste_79 (Nat.le_of_ble_eq_true rfl) ⟨by decide, by decide⟩ ⟨by decide, by decide⟩ (fun r147 L M hp => ?_)
              obtain ⟨C, D, F, I, K1, hr⟩ := hp
              have K := K.step K1 (by decide)
              rcases hr with ⟨rfl, hp148⟩ | ⟨rfl, hp148⟩
              · skip
                rw [(K 80 (by decide)).1] at hp148
                refine g_if_ne X dX7_paste_82 (tgt := 88) (by decide) (fun q => absurd (by decide) q) (fun _ => ?_)
                refine g_bipush X dX7_paste_85 (v := -7) (by decide) ?_
                exact g_iret X hrt dX7_paste_87 (by decide) (by decide) ⟨C, D, F, I, K, (pa_b (c := 2) (d := 0) (by decide) (by decide) hA84 hA80 (eo3.trans (q144.trans eo1.symm)) (fun z => hp148 ⟨z.2.1, z.1.2.1, z.2.2⟩))⟩
              · skip
                rw [(K 80 (by decide)).1] at hp148
                refine g_if_ne X dX7_paste_82 (tgt := 88) (by decide) (fun _ => ?_) (fun q => absurd q (by decide))
                have hz84 := (show (C0 84 2).toInt ≤ 60 from (by have z := I 84 2 rfl; rw [(K 84 (by decide)).1] at z; exact z.2))
                have hz80 := (show (C0 80 2).toInt ≤ 60 from (by have z := I 80 2 rfl; rw [(K 80 (by decide)).1] at z; exact z.2))
                obtain ⟨n149, hn149a, hn149b, en149⟩ := nI_ofInt (x := p1) (lo := 0) (hi := 60) (by omega) (by omega) (by decide)
                subst en149
                have tn149 := nI_toInt (n := n149) (by omega)
                obtain ⟨n150, hn150a, hn150b, en150⟩ := nI_ofInt (x := p3) (lo := 0) (hi := 60) (by omega) (by omega) (by decide)
                subst en150
                have tn150 := nI_toInt (n := n150) (by omega)
                obtain ⟨n151, hn151a, hn151b, en151⟩ := nI_ofInt (x := p4) (lo := 0) (hi := 60) (by omega) (by omega) (by decide)
                subst en151
                have tn151 := nI_toInt (n := n151) (by omega)
                refine g_aload X dX7_paste_88 (j := 1) rfl ?_
                refine i_get X F 84 (act84) rfl fk_X7_406 dX7_paste_90 rfl ?_
                refine g_iload_n X dX7_paste_93 rfl (j := 4) rfl ?_
                refine g_aload X dX7_paste_94 (j := 0) rfl ?_
                refine i_get X F 80 (act80) rfl fk_X7_406 dX7_paste_96 rfl ?_
                refine g_iload X dX7_paste_99 (j := 6) rfl ?_
                refine g_iload X dX7_paste_101 (j := 7) rfl ?_
                refine i_copyl X F 85 (act85) 81 (act81) rfl (fun _ => rfl) (t0 := 2) rfl rfl wd604 wd87 wd88 wd89 (nI_pos (by omega)) (nI_pos (by omega)) (nI_pos (by omega)) (by rw [nI_clamp (show n149 < 2 ^ 31 by omega), nI_clamp (show n151 < 2 ^ 31 by omega)]; omega) (by rw [nI_clamp (show n150 < 2 ^ 31 by omega), nI_clamp (show n151 < 2 ^ 31 by omega)]; omega) (fun _ _ => rfl) (by decide) (Nat.le_of_ble_eq_true rfl) dX7_paste_103 (fun M D F K1 => ?_)
                have K := K.step K1 (by decide)
                refine g_iconst X dX7_paste_106 (v := 0) (by decide) ?_
                exact g_iret X hrt dX7_paste_107 (by decide) (by decide) ⟨C, D, F, I, K, (pa_k (c := 2) (d := 0) (by decide) (by decide) hA84 hA80 (eo3.trans (q144.trans eo1.symm)) ⟨hp146, hp148.1, hp148.2.2⟩)⟩
          · skip
            refine g_bipush X dX7_paste_59 (v := -8) (by decide) ?_
            exact g_iret X hrt dX7_paste_61 (by decide) (by decide) ⟨C, D, F, I, K, (pa_w (c := 2) (d := 0) (by decide) (by decide) hA84 hA80 (fun h => q144 (eo3.symm.trans (h.trans eo1))))⟩
    · skip
      refine g_iload_n X dX7_paste_0 rfl (j := 1) rfl ?_
      refine g_callSI X (s_X7_isSlot_2 l G F I  ) lk_X7_389 rfl rfl dX7_paste_1 (Nat.le_of_ble_eq_true rfl) ⟨by decide, by decide⟩ ⟨by decide, by decide⟩ (fun r152 L M hp => ?_)
      obtain ⟨C, D, F, I, K1, hr⟩ := hp
      have K := K.step K1 (by decide)
      subst hr
      refine g_if_eq X dX7_paste_4 (tgt := 14) (by decide) (fun q => absurd q (by decide)) (fun _ => ?_)
      refine g_iload_n X dX7_paste_7 rfl (j := 3) rfl ?_
      refine g_callSI X (s_X7_isSlot_1 l G F I  ) lk_X7_389 rfl rfl dX7_paste_8 (Nat.le_of_ble_eq_true rfl) ⟨by decide, by decide⟩ ⟨by decide, by decide⟩ (fun r153 L M hp => ?_)
      obtain ⟨C, D, F, I, K1, hr⟩ := hp
      have K := K.step K1 (by decide)
      subst hr
      refine g_if_ne X dX7_paste_11 (tgt := 17) (by decide) (fun _ => ?_) (fun q => absurd q (by decide))
      refine g_aload_n X dX7_paste_17 rfl (j := 0) rfl ?_
      refine i_get X F 0 rfl rfl fk_X7_32 dX7_paste_18 rfl ?_
      refine g_iload_n X dX7_paste_21 rfl (j := 1) rfl ?_
      rcases (Bool.eq_false_or_eq_true (act 84)).symm with hA84 | hA84
      · skip
        refine i_aald X F 24 rfl (t0 := 5) rfl rfl dX7_paste_22 (vp_in_iff.mpr (by decide)) (v := .null) (by show va_rf (R 24 2) = _; rw [HR.1 2 (by decide)]; rw [if_neg (by rw [hA84]; decide)]; rfl) ?_
        refine g_astoreN X dX7_paste_23 (by decide) (lv2 := [(6, .null), (0, .ref (a 0)), (1, .int 2), (2, .int p1), (3, .int 1), (4, .int p3), (5, .int p4)]) rfl ?_
        refine g_aload_n X dX7_paste_25 rfl (j := 1) rfl ?_
        refine i_get X F 0 rfl rfl fk_X7_32 dX7_paste_26 rfl ?_
        refine g_iload_n X dX7_paste_29 rfl (j := 4) rfl ?_
        rcases (Bool.eq_false_or_eq_true (act 82)).symm with hA82 | hA82
        · skip
          refine i_aald X F 24 rfl (t0 := 5) rfl rfl dX7_paste_30 (vp_in_iff.mpr (by decide)) (v := .null) (by show va_rf (R 24 1) = _; rw [HR.1 1 (by decide)]; rw [if_neg (by rw [hA82]; decide)]; rfl) ?_
          refine g_astoreN X dX7_paste_31 (by decide) (lv2 := [(7, .null), (6, .null), (0, .ref (a 0)), (1, .int 2), (2, .int p1), (3, .int 1), (4, .int p3), (5, .int p4)]) rfl ?_
          refine g_aloadN X dX7_paste_33 (j := 1) rfl ?_
          refine g_ifnullN X dX7_paste_35 (tgt := 43) (by decide) ?_
          refine g_bipush X dX7_paste_43 (v := -6) (by decide) ?_
          exact g_iret X hrt dX7_paste_45 (by decide) (by decide) ⟨C, D, F, I, K, (pa_no (c := 2) (d := 1) (by decide) (by decide) (Or.inl hA84))⟩
        · skip
          have act82 : (baseact 82 || act 82) = true := by rw [hA82]; rfl
          have act83 : (baseact 83 || act 83) = true := by rw [((HR.2.2.1 1 (by decide)).trans hA82)]; rfl
          refine i_aald X F 24 rfl (t0 := 5) rfl rfl dX7_paste_30 (vp_in_iff.mpr (by decide)) (v := .ref (a 82)) (by show va_rf (R 24 1) = _; rw [HR.1 1 (by decide)]; rw [if_pos hA82]; rfl) ?_
          refine g_astore X dX7_paste_31 (by decide) (lv2 := [(7, .ref (a 82)), (6, .null), (0, .ref (a 0)), (1, .int 2), (2, .int p1), (3, .int 1), (4, .int p3), (5, .int p4)]) rfl ?_
          refine g_aloadN X dX7_paste_33 (j := 1) rfl ?_
          refine g_ifnullN X dX7_paste_35 (tgt := 43) (by decide) ?_
          refine g_bipush X dX7_paste_43 (v := -6) (by decide) ?_
          exact g_iret X hrt dX7_paste_45 (by decide) (by decide) ⟨C, D, F, I, K, (pa_no (c := 2) (d := 1) (by decide) (by decide) (Or.inl hA84))⟩
      · skip
        have act84 : (baseact 84 || act 84) = true := by rw [hA84]; rfl
        have act85 : (baseact 85 || act 85) = true := by rw [((HR.2.2.1 2 (by decide)).trans hA84)]; rfl
        refine i_aald X F 24 rfl (t0 := 5) rfl rfl dX7_paste_22 (vp_in_iff.mpr (by decide)) (v := .ref (a 84)) (by show va_rf (R 24 2) = _; rw [HR.1 2 (by decide)]; rw [if_pos hA84]; rfl) ?_
        refine g_astore X dX7_paste_23 (by decide) (lv2 := [(6, .ref (a 84)), (0, .ref (a 0)), (1, .int 2), (2, .int p1), (3, .int 1), (4, .int p3), (5, .int p4)]) rfl ?_
        refine g_aload_n X dX7_paste_25 rfl (j := 1) rfl ?_
        refine i_get X F 0 rfl rfl fk_X7_32 dX7_paste_26 rfl ?_
        refine g_iload_n X dX7_paste_29 rfl (j := 4) rfl ?_
        rcases (Bool.eq_false_or_eq_true (act 82)).symm with hA82 | hA82
        · skip
          refine i_aald X F 24 rfl (t0 := 5) rfl rfl dX7_paste_30 (vp_in_iff.mpr (by decide)) (v := .null) (by show va_rf (R 24 1) = _; rw [HR.1 1 (by decide)]; rw [if_neg (by rw [hA82]; decide)]; rfl) ?_
          refine g_astoreN X dX7_paste_31 (by decide) (lv2 := [(7, .null), (6, .ref (a 84)), (0, .ref (a 0)), (1, .int 2), (2, .int p1), (3, .int 1), (4, .int p3), (5, .int p4)]) rfl ?_
          refine g_aload X dX7_paste_33 (j := 1) rfl ?_
          refine g_ifnull X dX7_paste_35 ?_
          refine g_aloadN X dX7_paste_38 (j := 0) rfl ?_
          refine g_ifnonnullN X dX7_paste_40 ?_
          refine g_bipush X dX7_paste_43 (v := -6) (by decide) ?_
          exact g_iret X hrt dX7_paste_45 (by decide) (by decide) ⟨C, D, F, I, K, (pa_no (c := 2) (d := 1) (by decide) (by decide) (Or.inr hA82))⟩
        · skip
          have act82 : (baseact 82 || act 82) = true := by rw [hA82]; rfl
          have act83 : (baseact 83 || act 83) = true := by rw [((HR.2.2.1 1 (by decide)).trans hA82)]; rfl
          refine i_aald X F 24 rfl (t0 := 5) rfl rfl dX7_paste_30 (vp_in_iff.mpr (by decide)) (v := .ref (a 82)) (by show va_rf (R 24 1) = _; rw [HR.1 1 (by decide)]; rw [if_pos hA82]; rfl) ?_
          refine g_astore X dX7_paste_31 (by decide) (lv2 := [(7, .ref (a 82)), (6, .ref (a 84)), (0, .ref (a 0)), (1, .int 2), (2, .int p1), (3, .int 1), (4, .int p3), (5, .int p4)]) rfl ?_
          refine g_aload X dX7_paste_33 (j := 1) rfl ?_
          refine g_ifnull X dX7_paste_35 ?_
          refine g_aload X dX7_paste_38 (j := 0) rfl ?_
          refine g_ifnonnull X dX7_paste_40 (tgt := 46) (by decide) ?_
          refine g_aload X dX7_paste_46 (j := 1) rfl ?_
          refine i_get X F 84 (act84) rfl fk_X7_400 dX7_paste_48 (v := .int o3) (congrArg (fun z => some (Value.int z)) ((congrFun (K 84 (by decide)).1 1).trans eo3)) ?_
          refine g_aload X dX7_paste_51 (j := 0) rfl ?_
          refine i_get X F 82 (act82) rfl fk_X7_400 dX7_paste_53 (v := .int o2) (congrArg (fun z => some (Value.int z)) ((congrFun (K 82 (by decide)).1 1).trans eo2)) ?_
          refine g_icmp_eq X dX7_paste_56 (tgt := 62) (by decide) (fun q157 => ?_) (fun q157 => ?_)
          · skip
            refine g_aload X dX7_paste_62 (j := 1) rfl ?_
            refine g_iload_n X dX7_paste_64 rfl (j := 4) rfl ?_
            refine g_iload X dX7_paste_65 (j := 7) rfl ?_
            refine g_callVI X (s_X5_hasPart_84 l G F I p1 p4 act84) lk_X7_403 (F.1 84 (act84)).2 (F.1 84 (act84)).1 rfl rfl dX7_paste_67 (Nat.le_of_ble_eq_true rfl) ⟨by decide, by decide⟩ ⟨by decide, by decide⟩ (fun r158 L M hp => ?_)
            obtain ⟨C, D, F, I, K1, hr⟩ := hp
            have K := K.step K1 (by decide)
            rcases hr with ⟨rfl, hp159⟩ | ⟨rfl, hp159⟩
            · skip
              rw [(K 84 (by decide)).1] at hp159
              refine g_if_eq X dX7_paste_70 (tgt := 85) (by decide) (fun _ => ?_) (fun q => absurd (by decide) q)
              refine g_bipush X dX7_paste_85 (v := -7) (by decide) ?_
              exact g_iret X hrt dX7_paste_87 (by decide) (by decide) ⟨C, D, F, I, K, (pa_b (c := 2) (d := 1) (by decide) (by decide) hA84 hA82 (eo3.trans (q157.trans eo2.symm)) (fun z => hp159 ⟨z.1.1, z.1.2.1, z.1.2.2⟩))⟩
            · skip
              rw [(K 84 (by decide)).1] at hp159
              refine g_if_eq X dX7_paste_70 (tgt := 85) (by decide) (fun q => absurd q (by decide)) (fun _ => ?_)
              refine g_aload X dX7_paste_73 (j := 0) rfl ?_
              refine g_iload X dX7_paste_75 (j := 6) rfl ?_
              refine g_iload X dX7_paste_77 (j := 7) rfl ?_
              refine g_callVI X (s_X5_hasPart_82 l G F I p3 p4 act82) lk_X7_403 (F.1 82 (act82)).2 (F.1 82 (act82)).1 rfl rfl dX7_paste_79 (Nat.le_of_ble_eq_true rfl) ⟨by decide, by decide⟩ ⟨by decide, by decide⟩ (fun r160 L M hp => ?_)
              obtain ⟨C, D, F, I, K1, hr⟩ := hp
              have K := K.step K1 (by decide)
              rcases hr with ⟨rfl, hp161⟩ | ⟨rfl, hp161⟩
              · skip
                rw [(K 82 (by decide)).1] at hp161
                refine g_if_ne X dX7_paste_82 (tgt := 88) (by decide) (fun q => absurd (by decide) q) (fun _ => ?_)
                refine g_bipush X dX7_paste_85 (v := -7) (by decide) ?_
                exact g_iret X hrt dX7_paste_87 (by decide) (by decide) ⟨C, D, F, I, K, (pa_b (c := 2) (d := 1) (by decide) (by decide) hA84 hA82 (eo3.trans (q157.trans eo2.symm)) (fun z => hp161 ⟨z.2.1, z.1.2.1, z.2.2⟩))⟩
              · skip
                rw [(K 82 (by decide)).1] at hp161
                refine g_if_ne X dX7_paste_82 (tgt := 88) (by decide) (fun _ => ?_) (fun q => absurd q (by decide))
                have hz84 := (show (C0 84 2).toInt ≤ 60 from (by have z := I 84 2 rfl; rw [(K 84 (by decide)).1] at z; exact z.2))
                have hz82 := (show (C0 82 2).toInt ≤ 60 from (by have z := I 82 2 rfl; rw [(K 82 (by decide)).1] at z; exact z.2))
                obtain ⟨n162, hn162a, hn162b, en162⟩ := nI_ofInt (x := p1) (lo := 0) (hi := 60) (by omega) (by omega) (by decide)
                subst en162
                have tn162 := nI_toInt (n := n162) (by omega)
                obtain ⟨n163, hn163a, hn163b, en163⟩ := nI_ofInt (x := p3) (lo := 0) (hi := 60) (by omega) (by omega) (by decide)
                subst en163
                have tn163 := nI_toInt (n := n163) (by omega)
                obtain ⟨n164, hn164a, hn164b, en164⟩ := nI_ofInt (x := p4) (lo := 0) (hi := 60) (by omega) (by omega) (by decide)
                subst en164
                have tn164 := nI_toInt (n := n164) (by omega)
                refine g_aload X dX7_paste_88 (j := 1) rfl ?_
                refine i_get X F 84 (act84) rfl fk_X7_406 dX7_paste_90 rfl ?_
                refine g_iload_n X dX7_paste_93 rfl (j := 4) rfl ?_
                refine g_aload X dX7_paste_94 (j := 0) rfl ?_
                refine i_get X F 82 (act82) rfl fk_X7_406 dX7_paste_96 rfl ?_
                refine g_iload X dX7_paste_99 (j := 6) rfl ?_
                refine g_iload X dX7_paste_101 (j := 7) rfl ?_
                refine i_copyl X F 85 (act85) 83 (act83) rfl (fun _ => rfl) (t0 := 2) rfl rfl wd604 wd87 wd88 wd89 (nI_pos (by omega)) (nI_pos (by omega)) (nI_pos (by omega)) (by rw [nI_clamp (show n162 < 2 ^ 31 by omega), nI_clamp (show n164 < 2 ^ 31 by omega)]; omega) (by rw [nI_clamp (show n163 < 2 ^ 31 by omega), nI_clamp (show n164 < 2 ^ 31 by omega)]; omega) (fun _ _ => rfl) (by decide) (Nat.le_of_ble_eq_true rfl) dX7_paste_103 (fun M D F K1 => ?_)
                have K := K.step K1 (by decide)
                refine g_iconst X dX7_paste_106 (v := 0) (by decide) ?_
                exact g_iret X hrt dX7_paste_107 (by decide) (by decide) ⟨C, D, F, I, K, (pa_k (c := 2) (d := 1) (by decide) (by decide) hA84 hA82 (eo3.trans (q157.trans eo2.symm)) ⟨hp159, hp161.1, hp161.2.2⟩)⟩
          · skip
            refine g_bipush X dX7_paste_59 (v := -8) (by decide) ?_
            exact g_iret X hrt dX7_paste_61 (by decide) (by decide) ⟨C, D, F, I, K, (pa_w (c := 2) (d := 1) (by decide) (by decide) hA84 hA82 (fun h => q157 (eo3.symm.trans (h.trans eo2))))⟩
    · skip
      refine g_iload_n X dX7_paste_0 rfl (j := 1) rfl ?_
      refine g_callSI X (s_X7_isSlot_2 l G F I  ) lk_X7_389 rfl rfl dX7_paste_1 (Nat.le_of_ble_eq_true rfl) ⟨by decide, by decide⟩ ⟨by decide, by decide⟩ (fun r165 L M hp => ?_)
      obtain ⟨C, D, F, I, K1, hr⟩ := hp
      have K := K.step K1 (by decide)
      subst hr
      refine g_if_eq X dX7_paste_4 (tgt := 14) (by decide) (fun q => absurd q (by decide)) (fun _ => ?_)
      refine g_iload_n X dX7_paste_7 rfl (j := 3) rfl ?_
      refine g_callSI X (s_X7_isSlot_2 l G F I  ) lk_X7_389 rfl rfl dX7_paste_8 (Nat.le_of_ble_eq_true rfl) ⟨by decide, by decide⟩ ⟨by decide, by decide⟩ (fun r166 L M hp => ?_)
      obtain ⟨C, D, F, I, K1, hr⟩ := hp
      have K := K.step K1 (by decide)
      subst hr
      refine g_if_ne X dX7_paste_11 (tgt := 17) (by decide) (fun _ => ?_) (fun q => absurd q (by decide))
      refine g_aload_n X dX7_paste_17 rfl (j := 0) rfl ?_
      refine i_get X F 0 rfl rfl fk_X7_32 dX7_paste_18 rfl ?_
      refine g_iload_n X dX7_paste_21 rfl (j := 1) rfl ?_
      rcases (Bool.eq_false_or_eq_true (act 84)).symm with hA84 | hA84
      · skip
        refine i_aald X F 24 rfl (t0 := 5) rfl rfl dX7_paste_22 (vp_in_iff.mpr (by decide)) (v := .null) (by show va_rf (R 24 2) = _; rw [HR.1 2 (by decide)]; rw [if_neg (by rw [hA84]; decide)]; rfl) ?_
        refine g_astoreN X dX7_paste_23 (by decide) (lv2 := [(6, .null), (0, .ref (a 0)), (1, .int 2), (2, .int p1), (3, .int 2), (4, .int p3), (5, .int p4)]) rfl ?_
        refine g_aload_n X dX7_paste_25 rfl (j := 1) rfl ?_
        refine i_get X F 0 rfl rfl fk_X7_32 dX7_paste_26 rfl ?_
        refine g_iload_n X dX7_paste_29 rfl (j := 4) rfl ?_
        refine i_aald X F 24 rfl (t0 := 5) rfl rfl dX7_paste_30 (vp_in_iff.mpr (by decide)) (v := .null) (by show va_rf (R 24 2) = _; rw [HR.1 2 (by decide)]; rw [if_neg (by rw [hA84]; decide)]; rfl) ?_
        refine g_astoreN X dX7_paste_31 (by decide) (lv2 := [(7, .null), (6, .null), (0, .ref (a 0)), (1, .int 2), (2, .int p1), (3, .int 2), (4, .int p3), (5, .int p4)]) rfl ?_
        refine g_aloadN X dX7_paste_33 (j := 1) rfl ?_
        refine g_ifnullN X dX7_paste_35 (tgt := 43) (by decide) ?_
        refine g_bipush X dX7_paste_43 (v := -6) (by decide) ?_
        exact g_iret X hrt dX7_paste_45 (by decide) (by decide) ⟨C, D, F, I, K, (pa_no (c := 2) (d := 2) (by decide) (by decide) (Or.inl hA84))⟩
      · skip
        have act84 : (baseact 84 || act 84) = true := by rw [hA84]; rfl
        have act85 : (baseact 85 || act 85) = true := by rw [((HR.2.2.1 2 (by decide)).trans hA84)]; rfl
        refine i_aald X F 24 rfl (t0 := 5) rfl rfl dX7_paste_22 (vp_in_iff.mpr (by decide)) (v := .ref (a 84)) (by show va_rf (R 24 2) = _; rw [HR.1 2 (by decide)]; rw [if_pos hA84]; rfl) ?_
        refine g_astore X dX7_paste_23 (by decide) (lv2 := [(6, .ref (a 84)), (0, .ref (a 0)), (1, .int 2), (2, .int p1), (3, .int 2), (4, .int p3), (5, .int p4)]) rfl ?_
        refine g_aload_n X dX7_paste_25 rfl (j := 1) rfl ?_
        refine i_get X F 0 rfl rfl fk_X7_32 dX7_paste_26 rfl ?_
        refine g_iload_n X dX7_paste_29 rfl (j := 4) rfl ?_
        refine i_aald X F 24 rfl (t0 := 5) rfl rfl dX7_paste_30 (vp_in_iff.mpr (by decide)) (v := .ref (a 84)) (by show va_rf (R 24 2) = _; rw [HR.1 2 (by decide)]; rw [if_pos hA84]; rfl) ?_
        refine g_astore X dX7_paste_31 (by decide) (lv2 := [(7, .ref (a 84)), (6, .ref (a 84)), (0, .ref (a 0)), (1, .int 2), (2, .int p1), (3, .int 2), (4, .int p3), (5, .int p4)]) rfl ?_
        refine g_aload X dX7_paste_33 (j := 1) rfl ?_
        refine g_ifnull X dX7_paste_35 ?_
        refine g_aload X dX7_paste_38 (j := 0) rfl ?_
        refine g_ifnonnull X dX7_paste_40 (tgt := 46) (by decide) ?_
        refine g_aload X dX7_paste_46 (j := 1) rfl ?_
        refine i_get X F 84 (act84) rfl fk_X7_400 dX7_paste_48 (v := .int o3) (congrArg (fun z => some (Value.int z)) ((congrFun (K 84 (by decide)).1 1).trans eo3)) ?_
        refine g_aload X dX7_paste_51 (j := 0) rfl ?_
        refine i_get X F 84 (act84) rfl fk_X7_400 dX7_paste_53 (v := .int o3) (congrArg (fun z => some (Value.int z)) ((congrFun (K 84 (by decide)).1 1).trans eo3)) ?_
        refine g_icmp_eq X dX7_paste_56 (tgt := 62) (by decide) (fun q170 => ?_) (fun q170 => ?_)
        · skip
          refine g_aload X dX7_paste_62 (j := 1) rfl ?_
          refine g_iload_n X dX7_paste_64 rfl (j := 4) rfl ?_
          refine g_iload X dX7_paste_65 (j := 7) rfl ?_
          refine g_callVI X (s_X5_hasPart_84 l G F I p1 p4 act84) lk_X7_403 (F.1 84 (act84)).2 (F.1 84 (act84)).1 rfl rfl dX7_paste_67 (Nat.le_of_ble_eq_true rfl) ⟨by decide, by decide⟩ ⟨by decide, by decide⟩ (fun r171 L M hp => ?_)
          obtain ⟨C, D, F, I, K1, hr⟩ := hp
          have K := K.step K1 (by decide)
          rcases hr with ⟨rfl, hp172⟩ | ⟨rfl, hp172⟩
          · skip
            rw [(K 84 (by decide)).1] at hp172
            refine g_if_eq X dX7_paste_70 (tgt := 85) (by decide) (fun _ => ?_) (fun q => absurd (by decide) q)
            refine g_bipush X dX7_paste_85 (v := -7) (by decide) ?_
            exact g_iret X hrt dX7_paste_87 (by decide) (by decide) ⟨C, D, F, I, K, (pa_b (c := 2) (d := 2) (by decide) (by decide) hA84 hA84 (eo3.trans (q170.trans eo3.symm)) (fun z => hp172 ⟨z.1.1, z.1.2.1, z.1.2.2⟩))⟩
          · skip
            rw [(K 84 (by decide)).1] at hp172
            refine g_if_eq X dX7_paste_70 (tgt := 85) (by decide) (fun q => absurd q (by decide)) (fun _ => ?_)
            refine g_aload X dX7_paste_73 (j := 0) rfl ?_
            refine g_iload X dX7_paste_75 (j := 6) rfl ?_
            refine g_iload X dX7_paste_77 (j := 7) rfl ?_
            refine g_callVI X (s_X5_hasPart_84 l G F I p3 p4 act84) lk_X7_403 (F.1 84 (act84)).2 (F.1 84 (act84)).1 rfl rfl dX7_paste_79 (Nat.le_of_ble_eq_true rfl) ⟨by decide, by decide⟩ ⟨by decide, by decide⟩ (fun r173 L M hp => ?_)
            obtain ⟨C, D, F, I, K1, hr⟩ := hp
            have K := K.step K1 (by decide)
            rcases hr with ⟨rfl, hp174⟩ | ⟨rfl, hp174⟩
            · skip
              rw [(K 84 (by decide)).1] at hp174
              refine g_if_ne X dX7_paste_82 (tgt := 88) (by decide) (fun q => absurd (by decide) q) (fun _ => ?_)
              refine g_bipush X dX7_paste_85 (v := -7) (by decide) ?_
              exact g_iret X hrt dX7_paste_87 (by decide) (by decide) ⟨C, D, F, I, K, (pa_b (c := 2) (d := 2) (by decide) (by decide) hA84 hA84 (eo3.trans (q170.trans eo3.symm)) (fun z => hp174 ⟨z.2.1, z.1.2.1, z.2.2⟩))⟩
            · skip
              rw [(K 84 (by decide)).1] at hp174
              refine g_if_ne X dX7_paste_82 (tgt := 88) (by decide) (fun _ => ?_) (fun q => absurd q (by decide))
              have hz84 := (show (C0 84 2).toInt ≤ 60 from (by have z := I 84 2 rfl; rw [(K 84 (by decide)).1] at z; exact z.2))
              have hz84 := (show (C0 84 2).toInt ≤ 60 from (by have z := I 84 2 rfl; rw [(K 84 (by decide)).1] at z; exact z.2))
              obtain ⟨n175, hn175a, hn175b, en175⟩ := nI_ofInt (x := p1) (lo := 0) (hi := 60) (by omega) (by omega) (by decide)
              subst en175
              have tn175 := nI_toInt (n := n175) (by omega)
              obtain ⟨n176, hn176a, hn176b, en176⟩ := nI_ofInt (x := p3) (lo := 0) (hi := 60) (by omega) (by omega) (by decide)
              subst en176
              have tn176 := nI_toInt (n := n176) (by omega)
              obtain ⟨n177, hn177a, hn177b, en177⟩ := nI_ofInt (x := p4) (lo := 0) (hi := 60) (by omega) (by omega) (by decide)
              subst en177
              have tn177 := nI_toInt (n := n177) (by omega)
              refine g_aload X dX7_paste_88 (j := 1) rfl ?_
              refine i_get X F 84 (act84) rfl fk_X7_406 dX7_paste_90 rfl ?_
              refine g_iload_n X dX7_paste_93 rfl (j := 4) rfl ?_
              refine g_aload X dX7_paste_94 (j := 0) rfl ?_
              refine i_get X F 84 (act84) rfl fk_X7_406 dX7_paste_96 rfl ?_
              refine g_iload X dX7_paste_99 (j := 6) rfl ?_
              refine g_iload X dX7_paste_101 (j := 7) rfl ?_
              refine i_copyl X F 85 (act85) 85 (act85) rfl (fun _ => rfl) (t0 := 2) rfl rfl wd604 wd87 wd88 wd89 (nI_pos (by omega)) (nI_pos (by omega)) (nI_pos (by omega)) (by rw [nI_clamp (show n175 < 2 ^ 31 by omega), nI_clamp (show n177 < 2 ^ 31 by omega)]; omega) (by rw [nI_clamp (show n176 < 2 ^ 31 by omega), nI_clamp (show n177 < 2 ^ 31 by omega)]; omega) (fun _ _ => rfl) (by decide) (Nat.le_of_ble_eq_true rfl) dX7_paste_103 (fun M D F K1 => ?_)
              have K := K.step K1 (by decide)
              refine g_iconst X dX7_paste_106 (v := 0) (by decide) ?_
              exact g_iret X hrt dX7_paste_107 (by decide) (by decide) ⟨C, D, F, I, K, (pa_k (c := 2) (d := 2) (by decide) (by decide) hA84 hA84 (eo3.trans (q170.trans eo3.symm)) ⟨hp172, hp174.1, hp174.2.2⟩)⟩
        · skip
          refine g_bipush X dX7_paste_59 (v := -8) (by decide) ?_
          exact g_iret X hrt dX7_paste_61 (by decide) (by decide) ⟨C, D, F, I, K, (pa_w (c := 2) (d := 2) (by decide) (by decide) hA84 hA84 (fun h => q170 (eo3.symm.trans (h.trans eo3))))⟩
    · skip
      refine g_iload_n X dX7_paste_0 rfl (j := 1) rfl ?_
      refine g_callSI X (s_X7_isSlot_2 l G F I  ) lk_X7_389 rfl rfl dX7_paste_1 (Nat.le_of_ble_eq_true rfl) ⟨by decide, by decide⟩ ⟨by decide, by decide⟩ (fun r178 L M hp => ?_)
      obtain ⟨C, D, F, I, K1, hr⟩ := hp
      have K := K.step K1 (by decide)
      subst hr
      refine g_if_eq X dX7_paste_4 (tgt := 14) (by decide) (fun q => absurd q (by decide)) (fun _ => ?_)
      refine g_iload_n X dX7_paste_7 rfl (j := 3) rfl ?_
      refine g_callSI X (s_X7_isSlot_3 l G F I  ) lk_X7_389 rfl rfl dX7_paste_8 (Nat.le_of_ble_eq_true rfl) ⟨by decide, by decide⟩ ⟨by decide, by decide⟩ (fun r179 L M hp => ?_)
      obtain ⟨C, D, F, I, K1, hr⟩ := hp
      have K := K.step K1 (by decide)
      subst hr
      refine g_if_ne X dX7_paste_11 (tgt := 17) (by decide) (fun _ => ?_) (fun q => absurd q (by decide))
      refine g_aload_n X dX7_paste_17 rfl (j := 0) rfl ?_
      refine i_get X F 0 rfl rfl fk_X7_32 dX7_paste_18 rfl ?_
      refine g_iload_n X dX7_paste_21 rfl (j := 1) rfl ?_
      rcases (Bool.eq_false_or_eq_true (act 84)).symm with hA84 | hA84
      · skip
        refine i_aald X F 24 rfl (t0 := 5) rfl rfl dX7_paste_22 (vp_in_iff.mpr (by decide)) (v := .null) (by show va_rf (R 24 2) = _; rw [HR.1 2 (by decide)]; rw [if_neg (by rw [hA84]; decide)]; rfl) ?_
        refine g_astoreN X dX7_paste_23 (by decide) (lv2 := [(6, .null), (0, .ref (a 0)), (1, .int 2), (2, .int p1), (3, .int 3), (4, .int p3), (5, .int p4)]) rfl ?_
        refine g_aload_n X dX7_paste_25 rfl (j := 1) rfl ?_
        refine i_get X F 0 rfl rfl fk_X7_32 dX7_paste_26 rfl ?_
        refine g_iload_n X dX7_paste_29 rfl (j := 4) rfl ?_
        rcases (Bool.eq_false_or_eq_true (act 86)).symm with hA86 | hA86
        · skip
          refine i_aald X F 24 rfl (t0 := 5) rfl rfl dX7_paste_30 (vp_in_iff.mpr (by decide)) (v := .null) (by show va_rf (R 24 3) = _; rw [HR.1 3 (by decide)]; rw [if_neg (by rw [hA86]; decide)]; rfl) ?_
          refine g_astoreN X dX7_paste_31 (by decide) (lv2 := [(7, .null), (6, .null), (0, .ref (a 0)), (1, .int 2), (2, .int p1), (3, .int 3), (4, .int p3), (5, .int p4)]) rfl ?_
          refine g_aloadN X dX7_paste_33 (j := 1) rfl ?_
          refine g_ifnullN X dX7_paste_35 (tgt := 43) (by decide) ?_
          refine g_bipush X dX7_paste_43 (v := -6) (by decide) ?_
          exact g_iret X hrt dX7_paste_45 (by decide) (by decide) ⟨C, D, F, I, K, (pa_no (c := 2) (d := 3) (by decide) (by decide) (Or.inl hA84))⟩
        · skip
          have act86 : (baseact 86 || act 86) = true := by rw [hA86]; rfl
          have act87 : (baseact 87 || act 87) = true := by rw [((HR.2.2.1 3 (by decide)).trans hA86)]; rfl
          refine i_aald X F 24 rfl (t0 := 5) rfl rfl dX7_paste_30 (vp_in_iff.mpr (by decide)) (v := .ref (a 86)) (by show va_rf (R 24 3) = _; rw [HR.1 3 (by decide)]; rw [if_pos hA86]; rfl) ?_
          refine g_astore X dX7_paste_31 (by decide) (lv2 := [(7, .ref (a 86)), (6, .null), (0, .ref (a 0)), (1, .int 2), (2, .int p1), (3, .int 3), (4, .int p3), (5, .int p4)]) rfl ?_
          refine g_aloadN X dX7_paste_33 (j := 1) rfl ?_
          refine g_ifnullN X dX7_paste_35 (tgt := 43) (by decide) ?_
          refine g_bipush X dX7_paste_43 (v := -6) (by decide) ?_
          exact g_iret X hrt dX7_paste_45 (by decide) (by decide) ⟨C, D, F, I, K, (pa_no (c := 2) (d := 3) (by decide) (by decide) (Or.inl hA84))⟩
      · skip
        have act84 : (baseact 84 || act 84) = true := by rw [hA84]; rfl
        have act85 : (baseact 85 || act 85) = true := by rw [((HR.2.2.1 2 (by decide)).trans hA84)]; rfl
        refine i_aald X F 24 rfl (t0 := 5) rfl rfl dX7_paste_22 (vp_in_iff.mpr (by decide)) (v := .ref (a 84)) (by show va_rf (R 24 2) = _; rw [HR.1 2 (by decide)]; rw [if_pos hA84]; rfl) ?_
        refine g_astore X dX7_paste_23 (by decide) (lv2 := [(6, .ref (a 84)), (0, .ref (a 0)), (1, .int 2), (2, .int p1), (3, .int 3), (4, .int p3), (5, .int p4)]) rfl ?_
        refine g_aload_n X dX7_paste_25 rfl (j := 1) rfl ?_
        refine i_get X F 0 rfl rfl fk_X7_32 dX7_paste_26 rfl ?_
        refine g_iload_n X dX7_paste_29 rfl (j := 4) rfl ?_
        rcases (Bool.eq_false_or_eq_true (act 86)).symm with hA86 | hA86
        · skip
          refine i_aald X F 24 rfl (t0 := 5) rfl rfl dX7_paste_30 (vp_in_iff.mpr (by decide)) (v := .null) (by show va_rf (R 24 3) = _; rw [HR.1 3 (by decide)]; rw [if_neg (by rw [hA86]; decide)]; rfl) ?_
          refine g_astoreN X dX7_paste_31 (by decide) (lv2 := [(7, .null), (6, .ref (a 84)), (0, .ref (a 0)), (1, .int 2), (2, .int p1), (3, .int 3), (4, .int p3), (5, .int p4)]) rfl ?_
          refine g_aload X dX7_paste_33 (j := 1) rfl ?_
          refine g_ifnull X dX7_paste_35 ?_
          refine g_aloadN X dX7_paste_38 (j := 0) rfl ?_
          refine g_ifnonnullN X dX7_paste_40 ?_
          refine g_bipush X dX7_paste_43 (v := -6) (by decide) ?_
          exact g_iret X hrt dX7_paste_45 (by decide) (by decide) ⟨C, D, F, I, K, (pa_no (c := 2) (d := 3) (by decide) (by decide) (Or.inr hA86))⟩
        · skip
          have act86 : (baseact 86 || act 86) = true := by rw [hA86]; rfl
          have act87 : (baseact 87 || act 87) = true := by rw [((HR.2.2.1 3 (by decide)).trans hA86)]; rfl
          refine i_aald X F 24 rfl (t0 := 5) rfl rfl dX7_paste_30 (vp_in_iff.mpr (by decide)) (v := .ref (a 86)) (by show va_rf (R 24 3) = _; rw [HR.1 3 (by decide)]; rw [if_pos hA86]; rfl) ?_
          refine g_astore X dX7_paste_31 (by decide) (lv2 := [(7, .ref (a 86)), (6, .ref (a 84)), (0, .ref (a 0)), (1, .int 2), (2, .int p1), (3, .int 3), (4, .int p3), (5, .int p4)]) rfl ?_
          refine g_aload X dX7_paste_33 (j := 1) rfl ?_
          refine g_ifnull X dX7_paste_35 ?_
          refine g_aload X dX7_paste_38 (j := 0) rfl ?_
          refine g_ifnonnull X dX7_paste_40 (tgt := 46) (by decide) ?_
          refine g_aload X dX7_paste_46 (j := 1) rfl ?_
          refine i_get X F 84 (act84) rfl fk_X7_400 dX7_paste_48 (v := .int o3) (congrArg (fun z => some (Value.int z)) ((congrFun (K 84 (by decide)).1 1).trans eo3)) ?_
          refine g_aload X dX7_paste_51 (j := 0) rfl ?_
          refine i_get X F 86 (act86) rfl fk_X7_400 dX7_paste_53 (v := .int o4) (congrArg (fun z => some (Value.int z)) ((congrFun (K 86 (by decide)).1 1).trans eo4)) ?_
          refine g_icmp_eq X dX7_paste_56 (tgt := 62) (by decide) (fun q183 => ?_) (fun q183 => ?_)
          · skip
            refine g_aload X dX7_paste_62 (j := 1) rfl ?_
            refine g_iload_n X dX7_paste_64 rfl (j := 4) rfl ?_
            refine g_iload X dX7_paste_65 (j := 7) rfl ?_
            refine g_callVI X (s_X5_hasPart_84 l G F I p1 p4 act84) lk_X7_403 (F.1 84 (act84)).2 (F.1 84 (act84)).1 rfl rfl dX7_paste_67 (Nat.le_of_ble_eq_true rfl) ⟨by decide, by decide⟩ ⟨by decide, by decide⟩ (fun r184 L M hp => ?_)
            obtain ⟨C, D, F, I, K1, hr⟩ := hp
            have K := K.step K1 (by decide)
            rcases hr with ⟨rfl, hp185⟩ | ⟨rfl, hp185⟩
            · skip
              rw [(K 84 (by decide)).1] at hp185
              refine g_if_eq X dX7_paste_70 (tgt := 85) (by decide) (fun _ => ?_) (fun q => absurd (by decide) q)
              refine g_bipush X dX7_paste_85 (v := -7) (by decide) ?_
              exact g_iret X hrt dX7_paste_87 (by decide) (by decide) ⟨C, D, F, I, K, (pa_b (c := 2) (d := 3) (by decide) (by decide) hA84 hA86 (eo3.trans (q183.trans eo4.symm)) (fun z => hp185 ⟨z.1.1, z.1.2.1, z.1.2.2⟩))⟩
            · skip
              rw [(K 84 (by decide)).1] at hp185
              refine g_if_eq X dX7_paste_70 (tgt := 85) (by decide) (fun q => absurd q (by decide)) (fun _ => ?_)
              refine g_aload X dX7_paste_73 (j := 0) rfl ?_
              refine g_iload X dX7_paste_75 (j := 6) rfl ?_
              refine g_iload X dX7_paste_77 (j := 7) rfl ?_
              refine g_callVI X (s_X5_hasPart_86 l G F I p3 p4 act86) lk_X7_403 (F.1 86 (act86)).2 (F.1 86 (act86)).1 rfl rfl dX7_paste_79 (Nat.le_of_ble_eq_true rfl) ⟨by decide, by decide⟩ ⟨by decide, by decide⟩ (fun r186 L M hp => ?_)
              obtain ⟨C, D, F, I, K1, hr⟩ := hp
              have K := K.step K1 (by decide)
              rcases hr with ⟨rfl, hp187⟩ | ⟨rfl, hp187⟩
              · skip
                rw [(K 86 (by decide)).1] at hp187
                refine g_if_ne X dX7_paste_82 (tgt := 88) (by decide) (fun q => absurd (by decide) q) (fun _ => ?_)
                refine g_bipush X dX7_paste_85 (v := -7) (by decide) ?_
                exact g_iret X hrt dX7_paste_87 (by decide) (by decide) ⟨C, D, F, I, K, (pa_b (c := 2) (d := 3) (by decide) (by decide) hA84 hA86 (eo3.trans (q183.trans eo4.symm)) (fun z => hp187 ⟨z.2.1, z.1.2.1, z.2.2⟩))⟩
              · skip
                rw [(K 86 (by decide)).1] at hp187
                refine g_if_ne X dX7_paste_82 (tgt := 88) (by decide) (fun _ => ?_) (fun q => absurd q (by decide))
                have hz84 := (show (C0 84 2).toInt ≤ 60 from (by have z := I 84 2 rfl; rw [(K 84 (by decide)).1] at z; exact z.2))
                have hz86 := (show (C0 86 2).toInt ≤ 60 from (by have z := I 86 2 rfl; rw [(K 86 (by decide)).1] at z; exact z.2))
                obtain ⟨n188, hn188a, hn188b, en188⟩ := nI_ofInt (x := p1) (lo := 0) (hi := 60) (by omega) (by omega) (by decide)
                subst en188
                have tn188 := nI_toInt (n := n188) (by omega)
                obtain ⟨n189, hn189a, hn189b, en189⟩ := nI_ofInt (x := p3) (lo := 0) (hi := 60) (by omega) (by omega) (by decide)
                subst en189
                have tn189 := nI_toInt (n := n189) (by omega)
                obtain ⟨n190, hn190a, hn190b, en190⟩ := nI_ofInt (x := p4) (lo := 0) (hi := 60) (by omega) (by omega) (by decide)
                subst en190
                have tn190 := nI_toInt (n := n190) (by omega)
                refine g_aload X dX7_paste_88 (j := 1) rfl ?_
                refine i_get X F 84 (act84) rfl fk_X7_406 dX7_paste_90 rfl ?_
                refine g_iload_n X dX7_paste_93 rfl (j := 4) rfl ?_
                refine g_aload X dX7_paste_94 (j := 0) rfl ?_
                refine i_get X F 86 (act86) rfl fk_X7_406 dX7_paste_96 rfl ?_
                refine g_iload X dX7_paste_99 (j := 6) rfl ?_
                refine g_iload X dX7_paste_101 (j := 7) rfl ?_
                refine i_copyl X F 85 (act85) 87 (act87) rfl (fun _ => rfl) (t0 := 2) rfl rfl wd604 wd87 wd88 wd89 (nI_pos (by omega)) (nI_pos (by omega)) (nI_pos (by omega)) (by rw [nI_clamp (show n188 < 2 ^ 31 by omega), nI_clamp (show n190 < 2 ^ 31 by omega)]; omega) (by rw [nI_clamp (show n189 < 2 ^ 31 by omega), nI_clamp (show n190 < 2 ^ 31 by omega)]; omega) (fun _ _ => rfl) (by decide) (Nat.le_of_ble_eq_true rfl) dX7_paste_103 (fun M D F K1 => ?_)
                have K := K.step K1 (by decide)
                refine g_iconst X dX7_paste_106 (v := 0) (by decide) ?_
                exact g_iret X hrt dX7_paste_107 (by decide) (by decide) ⟨C, D, F, I, K, (pa_k (c := 2) (d := 3) (by decide) (by decide) hA84 hA86 (eo3.trans (q183.trans eo4.symm)) ⟨hp185, hp187.1, hp187.2.2⟩)⟩
          · skip
            refine g_bipush X dX7_paste_59 (v := -8) (by decide) ?_
            exact g_iret X hrt dX7_paste_61 (by decide) (by decide) ⟨C, D, F, I, K, (pa_w (c := 2) (d := 3) (by decide) (by decide) hA84 hA86 (fun h => q183 (eo3.symm.trans (h.trans eo4))))⟩
  · skip
    rcases sc4 p2 with hx191 | hx191 | rfl | rfl | rfl | rfl
    · skip
      have hno3 : p2 < 0 ∨ 4 ≤ p2 := Or.inl hx191
      refine g_iload_n X dX7_paste_0 rfl (j := 1) rfl ?_
      refine g_callSI X (s_X7_isSlot_3 l G F I  ) lk_X7_389 rfl rfl dX7_paste_1 (Nat.le_of_ble_eq_true rfl) ⟨by decide, by decide⟩ ⟨by decide, by decide⟩ (fun r192 L M hp => ?_)
      obtain ⟨C, D, F, I, K1, hr⟩ := hp
      have K := K.step K1 (by decide)
      subst hr
      refine g_if_eq X dX7_paste_4 (tgt := 14) (by decide) (fun q => absurd q (by decide)) (fun _ => ?_)
      refine g_iload_n X dX7_paste_7 rfl (j := 3) rfl ?_
      refine g_callSI X (s_X7_isSlot_x l G F I p2 hno3) lk_X7_389 rfl rfl dX7_paste_8 (Nat.le_of_ble_eq_true rfl) ⟨by decide, by decide⟩ ⟨by decide, by decide⟩ (fun r193 L M hp => ?_)
      obtain ⟨C, D, F, I, K1, hr⟩ := hp
      have K := K.step K1 (by decide)
      subst hr
      refine g_if_ne X dX7_paste_11 (tgt := 17) (by decide) (fun q => absurd (by decide) q) (fun _ => ?_)
      refine g_bipush X dX7_paste_14 (v := -2) (by decide) ?_
      exact g_iret X hrt dX7_paste_16 (by decide) (by decide) ⟨C, D, F, I, K, (pa_out (Or.inr hno3))⟩
    · skip
      have hno3 : p2 < 0 ∨ 4 ≤ p2 := Or.inr hx191
      refine g_iload_n X dX7_paste_0 rfl (j := 1) rfl ?_
      refine g_callSI X (s_X7_isSlot_3 l G F I  ) lk_X7_389 rfl rfl dX7_paste_1 (Nat.le_of_ble_eq_true rfl) ⟨by decide, by decide⟩ ⟨by decide, by decide⟩ (fun r194 L M hp => ?_)
      obtain ⟨C, D, F, I, K1, hr⟩ := hp
      have K := K.step K1 (by decide)
      subst hr
      refine g_if_eq X dX7_paste_4 (tgt := 14) (by decide) (fun q => absurd q (by decide)) (fun _ => ?_)
      refine g_iload_n X dX7_paste_7 rfl (j := 3) rfl ?_
      refine g_callSI X (s_X7_isSlot_x l G F I p2 hno3) lk_X7_389 rfl rfl dX7_paste_8 (Nat.le_of_ble_eq_true rfl) ⟨by decide, by decide⟩ ⟨by decide, by decide⟩ (fun r195 L M hp => ?_)
      obtain ⟨C, D, F, I, K1, hr⟩ := hp
      have K := K.step K1 (by decide)
      subst hr
      refine g_if_ne X dX7_paste_11 (tgt := 17) (by decide) (fun q => absurd (by decide) q) (fun _ => ?_)
      refine g_bipush X dX7_paste_14 (v := -2) (by decide) ?_
      exact g_iret X hrt dX7_paste_16 (by decide) (by decide) ⟨C, D, F, I, K, (pa_out (Or.inr hno3))⟩
    · skip
      refine g_iload_n X dX7_paste_0 rfl (j := 1) rfl ?_
      refine g_callSI X (s_X7_isSlot_3 l G F I  ) lk_X7_389 rfl rfl dX7_paste_1 (Nat.le_of_ble_eq_true rfl) ⟨by decide, by decide⟩ ⟨by decide, by decide⟩ (fun r196 L M hp => ?_)
      obtain ⟨C, D, F, I, K1, hr⟩ := hp
      have K := K.step K1 (by decide)
      subst hr
      refine g_if_eq X dX7_paste_4 (tgt := 14) (by decide) (fun q => absurd q (by decide)) (fun _ => ?_)
      refine g_iload_n X dX7_paste_7 rfl (j := 3) rfl ?_
      refine g_callSI X (s_X7_isSlot_0 l G F I  ) lk_X7_389 rfl rfl dX7_paste_8 (Nat.le_of_ble_eq_true rfl) ⟨by decide, by decide⟩ ⟨by decide, by decide⟩ (fun r197 L M hp => ?_)
      obtain ⟨C, D, F, I, K1, hr⟩ := hp
      have K := K.step K1 (by decide)
      subst hr
      refine g_if_ne X dX7_paste_11 (tgt := 17) (by decide) (fun _ => ?_) (fun q => absurd q (by decide))
      refine g_aload_n X dX7_paste_17 rfl (j := 0) rfl ?_
      refine i_get X F 0 rfl rfl fk_X7_32 dX7_paste_18 rfl ?_
      refine g_iload_n X dX7_paste_21 rfl (j := 1) rfl ?_
      rcases (Bool.eq_false_or_eq_true (act 86)).symm with hA86 | hA86
      · skip
        refine i_aald X F 24 rfl (t0 := 5) rfl rfl dX7_paste_22 (vp_in_iff.mpr (by decide)) (v := .null) (by show va_rf (R 24 3) = _; rw [HR.1 3 (by decide)]; rw [if_neg (by rw [hA86]; decide)]; rfl) ?_
        refine g_astoreN X dX7_paste_23 (by decide) (lv2 := [(6, .null), (0, .ref (a 0)), (1, .int 3), (2, .int p1), (3, .int 0), (4, .int p3), (5, .int p4)]) rfl ?_
        refine g_aload_n X dX7_paste_25 rfl (j := 1) rfl ?_
        refine i_get X F 0 rfl rfl fk_X7_32 dX7_paste_26 rfl ?_
        refine g_iload_n X dX7_paste_29 rfl (j := 4) rfl ?_
        rcases (Bool.eq_false_or_eq_true (act 80)).symm with hA80 | hA80
        · skip
          refine i_aald X F 24 rfl (t0 := 5) rfl rfl dX7_paste_30 (vp_in_iff.mpr (by decide)) (v := .null) (by show va_rf (R 24 0) = _; rw [HR.1 0 (by decide)]; rw [if_neg (by rw [hA80]; decide)]; rfl) ?_
          refine g_astoreN X dX7_paste_31 (by decide) (lv2 := [(7, .null), (6, .null), (0, .ref (a 0)), (1, .int 3), (2, .int p1), (3, .int 0), (4, .int p3), (5, .int p4)]) rfl ?_
          refine g_aloadN X dX7_paste_33 (j := 1) rfl ?_
          refine g_ifnullN X dX7_paste_35 (tgt := 43) (by decide) ?_
          refine g_bipush X dX7_paste_43 (v := -6) (by decide) ?_
          exact g_iret X hrt dX7_paste_45 (by decide) (by decide) ⟨C, D, F, I, K, (pa_no (c := 3) (d := 0) (by decide) (by decide) (Or.inl hA86))⟩
        · skip
          have act80 : (baseact 80 || act 80) = true := by rw [hA80]; rfl
          have act81 : (baseact 81 || act 81) = true := by rw [((HR.2.2.1 0 (by decide)).trans hA80)]; rfl
          refine i_aald X F 24 rfl (t0 := 5) rfl rfl dX7_paste_30 (vp_in_iff.mpr (by decide)) (v := .ref (a 80)) (by show va_rf (R 24 0) = _; rw [HR.1 0 (by decide)]; rw [if_pos hA80]; rfl) ?_
          refine g_astore X dX7_paste_31 (by decide) (lv2 := [(7, .ref (a 80)), (6, .null), (0, .ref (a 0)), (1, .int 3), (2, .int p1), (3, .int 0), (4, .int p3), (5, .int p4)]) rfl ?_
          refine g_aloadN X dX7_paste_33 (j := 1) rfl ?_
          refine g_ifnullN X dX7_paste_35 (tgt := 43) (by decide) ?_
          refine g_bipush X dX7_paste_43 (v := -6) (by decide) ?_
          exact g_iret X hrt dX7_paste_45 (by decide) (by decide) ⟨C, D, F, I, K, (pa_no (c := 3) (d := 0) (by decide) (by decide) (Or.inl hA86))⟩
      · skip
        have act86 : (baseact 86 || act 86) = true := by rw [hA86]; rfl
        have act87 : (baseact 87 || act 87) = true := by rw [((HR.2.2.1 3 (by decide)).trans hA86)]; rfl
        refine i_aald X F 24 rfl (t0 := 5) rfl rfl dX7_paste_22 (vp_in_iff.mpr (by decide)) (v := .ref (a 86)) (by show va_rf (R 24 3) = _; rw [HR.1 3 (by decide)]; rw [if_pos hA86]; rfl) ?_
        refine g_astore X dX7_paste_23 (by decide) (lv2 := [(6, .ref (a 86)), (0, .ref (a 0)), (1, .int 3), (2, .int p1), (3, .int 0), (4, .int p3), (5, .int p4)]) rfl ?_
        refine g_aload_n X dX7_paste_25 rfl (j := 1) rfl ?_
        refine i_get X F 0 rfl rfl fk_X7_32 dX7_paste_26 rfl ?_
        refine g_iload_n X dX7_paste_29 rfl (j := 4) rfl ?_
        rcases (Bool.eq_false_or_eq_true (act 80)).symm with hA80 | hA80
        · skip
          refine i_aald X F 24 rfl (t0 := 5) rfl rfl dX7_paste_30 (vp_in_iff.mpr (by decide)) (v := .null) (by show va_rf (R 24 0) = _; rw [HR.1 0 (by decide)]; rw [if_neg (by rw [hA80]; decide)]; rfl) ?_
          refine g_astoreN X dX7_paste_31 (by decide) (lv2 := [(7, .null), (6, .ref (a 86)), (0, .ref (a 0)), (1, .int 3), (2, .int p1), (3, .int 0), (4, .int p3), (5, .int p4)]) rfl ?_
          refine g_aload X dX7_paste_33 (j := 1) rfl ?_
          refine g_ifnull X dX7_paste_35 ?_
          refine g_aloadN X dX7_paste_38 (j := 0) rfl ?_
          refine g_ifnonnullN X dX7_paste_40 ?_
          refine g_bipush X dX7_paste_43 (v := -6) (by decide) ?_
          exact g_iret X hrt dX7_paste_45 (by decide) (by decide) ⟨C, D, F, I, K, (pa_no (c := 3) (d := 0) (by decide) (by decide) (Or.inr hA80))⟩
        · skip
          have act80 : (baseact 80 || act 80) = true := by rw [hA80]; rfl
          have act81 : (baseact 81 || act 81) = true := by rw [((HR.2.2.1 0 (by decide)).trans hA80)]; rfl
          refine i_aald X F 24 rfl (t0 := 5) rfl rfl dX7_paste_30 (vp_in_iff.mpr (by decide)) (v := .ref (a 80)) (by show va_rf (R 24 0) = _; rw [HR.1 0 (by decide)]; rw [if_pos hA80]; rfl) ?_
          refine g_astore X dX7_paste_31 (by decide) (lv2 := [(7, .ref (a 80)), (6, .ref (a 86)), (0, .ref (a 0)), (1, .int 3), (2, .int p1), (3, .int 0), (4, .int p3), (5, .int p4)]) rfl ?_
          refine g_aload X dX7_paste_33 (j := 1) rfl ?_
          refine g_ifnull X dX7_paste_35 ?_
          refine g_aload X dX7_paste_38 (j := 0) rfl ?_
          refine g_ifnonnull X dX7_paste_40 (tgt := 46) (by decide) ?_
          refine g_aload X dX7_paste_46 (j := 1) rfl ?_
          refine i_get X F 86 (act86) rfl fk_X7_400 dX7_paste_48 (v := .int o4) (congrArg (fun z => some (Value.int z)) ((congrFun (K 86 (by decide)).1 1).trans eo4)) ?_
          refine g_aload X dX7_paste_51 (j := 0) rfl ?_
          refine i_get X F 80 (act80) rfl fk_X7_400 dX7_paste_53 (v := .int o1) (congrArg (fun z => some (Value.int z)) ((congrFun (K 80 (by decide)).1 1).trans eo1)) ?_
          refine g_icmp_eq X dX7_paste_56 (tgt := 62) (by decide) (fun q201 => ?_) (fun q201 => ?_)
          · skip
            refine g_aload X dX7_paste_62 (j := 1) rfl ?_
            refine g_iload_n X dX7_paste_64 rfl (j := 4) rfl ?_
            refine g_iload X dX7_paste_65 (j := 7) rfl ?_
            refine g_callVI X (s_X5_hasPart_86 l G F I p1 p4 act86) lk_X7_403 (F.1 86 (act86)).2 (F.1 86 (act86)).1 rfl rfl dX7_paste_67 (Nat.le_of_ble_eq_true rfl) ⟨by decide, by decide⟩ ⟨by decide, by decide⟩ (fun r202 L M hp => ?_)
            obtain ⟨C, D, F, I, K1, hr⟩ := hp
            have K := K.step K1 (by decide)
            rcases hr with ⟨rfl, hp203⟩ | ⟨rfl, hp203⟩
            · skip
              rw [(K 86 (by decide)).1] at hp203
              refine g_if_eq X dX7_paste_70 (tgt := 85) (by decide) (fun _ => ?_) (fun q => absurd (by decide) q)
              refine g_bipush X dX7_paste_85 (v := -7) (by decide) ?_
              exact g_iret X hrt dX7_paste_87 (by decide) (by decide) ⟨C, D, F, I, K, (pa_b (c := 3) (d := 0) (by decide) (by decide) hA86 hA80 (eo4.trans (q201.trans eo1.symm)) (fun z => hp203 ⟨z.1.1, z.1.2.1, z.1.2.2⟩))⟩
            · skip
              rw [(K 86 (by decide)).1] at hp203
              refine g_if_eq X dX7_paste_70 (tgt := 85) (by decide) (fun q => absurd q (by decide)) (fun _ => ?_)
              refine g_aload X dX7_paste_73 (j := 0) rfl ?_
              refine g_iload X dX7_paste_75 (j := 6) rfl ?_
              refine g_iload X dX7_paste_77 (j := 7) rfl ?_
              refine g_callVI X (s_X5_hasPart_80 l G F I p3 p4 act80) lk_X7_403 (F.1 80 (act80)).2 (F.1 80 (act80)).1 rfl rfl dX7_paste_79 (Nat.le_of_ble_eq_true rfl) ⟨by decide, by decide⟩ ⟨by decide, by decide⟩ (fun r204 L M hp => ?_)
              obtain ⟨C, D, F, I, K1, hr⟩ := hp
              have K := K.step K1 (by decide)
              rcases hr with ⟨rfl, hp205⟩ | ⟨rfl, hp205⟩
              · skip
                rw [(K 80 (by decide)).1] at hp205
                refine g_if_ne X dX7_paste_82 (tgt := 88) (by decide) (fun q => absurd (by decide) q) (fun _ => ?_)
                refine g_bipush X dX7_paste_85 (v := -7) (by decide) ?_
                exact g_iret X hrt dX7_paste_87 (by decide) (by decide) ⟨C, D, F, I, K, (pa_b (c := 3) (d := 0) (by decide) (by decide) hA86 hA80 (eo4.trans (q201.trans eo1.symm)) (fun z => hp205 ⟨z.2.1, z.1.2.1, z.2.2⟩))⟩
              · skip
                rw [(K 80 (by decide)).1] at hp205
                refine g_if_ne X dX7_paste_82 (tgt := 88) (by decide) (fun _ => ?_) (fun q => absurd q (by decide))
                have hz86 := (show (C0 86 2).toInt ≤ 60 from (by have z := I 86 2 rfl; rw [(K 86 (by decide)).1] at z; exact z.2))
                have hz80 := (show (C0 80 2).toInt ≤ 60 from (by have z := I 80 2 rfl; rw [(K 80 (by decide)).1] at z; exact z.2))
                obtain ⟨n206, hn206a, hn206b, en206⟩ := nI_ofInt (x := p1) (lo := 0) (hi := 60) (by omega) (by omega) (by decide)
                subst en206
                have tn206 := nI_toInt (n := n206) (by omega)
                obtain ⟨n207, hn207a, hn207b, en207⟩ := nI_ofInt (x := p3) (lo := 0) (hi := 60) (by omega) (by omega) (by decide)
                subst en207
                have tn207 := nI_toInt (n := n207) (by omega)
                obtain ⟨n208, hn208a, hn208b, en208⟩ := nI_ofInt (x := p4) (lo := 0) (hi := 60) (by omega) (by omega) (by decide)
                subst en208
                have tn208 := nI_toInt (n := n208) (by omega)
                refine g_aload X dX7_paste_88 (j := 1) rfl ?_
                refine i_get X F 86 (act86) rfl fk_X7_406 dX7_paste_90 rfl ?_
                refine g_iload_n X dX7_paste_93 rfl (j := 4) rfl ?_
                refine g_aload X dX7_paste_94 (j := 0) rfl ?_
                refine i_get X F 80 (act80) rfl fk_X7_406 dX7_paste_96 rfl ?_
                refine g_iload X dX7_paste_99 (j := 6) rfl ?_
                refine g_iload X dX7_paste_101 (j := 7) rfl ?_
                refine i_copyl X F 87 (act87) 81 (act81) rfl (fun _ => rfl) (t0 := 2) rfl rfl wd604 wd87 wd88 wd89 (nI_pos (by omega)) (nI_pos (by omega)) (nI_pos (by omega)) (by rw [nI_clamp (show n206 < 2 ^ 31 by omega), nI_clamp (show n208 < 2 ^ 31 by omega)]; omega) (by rw [nI_clamp (show n207 < 2 ^ 31 by omega), nI_clamp (show n208 < 2 ^ 31 by omega)]; omega) (fun _ _ => rfl) (by decide) (Nat.le_of_ble_eq_true rfl) dX7_paste_103 (fun M D F K1 => ?_)
                have K := K.step K1 (by decide)
                refine g_iconst X dX7_paste_106 (v := 0) (by decide) ?_
                exact g_iret X hrt dX7_paste_107 (by decide) (by decide) ⟨C, D, F, I, K, (pa_k (c := 3) (d := 0) (by decide) (by decide) hA86 hA80 (eo4.trans (q201.trans eo1.symm)) ⟨hp203, hp205.1, hp205.2.2⟩)⟩
          · skip
            refine g_bipush X dX7_paste_59 (v := -8) (by decide) ?_
            exact g_iret X hrt dX7_paste_61 (by decide) (by decide) ⟨C, D, F, I, K, (pa_w (c := 3) (d := 0) (by decide) (by decide) hA86 hA80 (fun h => q201 (eo4.symm.trans (h.trans eo1))))⟩
    · skip
      refine g_iload_n X dX7_paste_0 rfl (j := 1) rfl ?_
      refine g_callSI X (s_X7_isSlot_3 l G F I  ) lk_X7_389 rfl rfl dX7_paste_1 (Nat.le_of_ble_eq_true rfl) ⟨by decide, by decide⟩ ⟨by decide, by decide⟩ (fun r209 L M hp => ?_)
      obtain ⟨C, D, F, I, K1, hr⟩ := hp
      have K := K.step K1 (by decide)
      subst hr
      refine g_if_eq X dX7_paste_4 (tgt := 14) (by decide) (fun q => absurd q (by decide)) (fun _ => ?_)
      refine g_iload_n X dX7_paste_7 rfl (j := 3) rfl ?_
      refine g_callSI X (s_X7_isSlot_1 l G F I  ) lk_X7_389 rfl rfl dX7_paste_8 (Nat.le_of_ble_eq_true rfl) ⟨by decide, by decide⟩ ⟨by decide, by decide⟩ (fun r210 L M hp => ?_)
      obtain ⟨C, D, F, I, K1, hr⟩ := hp
      have K := K.step K1 (by decide)
      subst hr
      refine g_if_ne X dX7_paste_11 (tgt := 17) (by decide) (fun _ => ?_) (fun q => absurd q (by decide))
      refine g_aload_n X dX7_paste_17 rfl (j := 0) rfl ?_
      refine i_get X F 0 rfl rfl fk_X7_32 dX7_paste_18 rfl ?_
      refine g_iload_n X dX7_paste_21 rfl (j := 1) rfl ?_
      rcases (Bool.eq_false_or_eq_true (act 86)).symm with hA86 | hA86
      · skip
        refine i_aald X F 24 rfl (t0 := 5) rfl rfl dX7_paste_22 (vp_in_iff.mpr (by decide)) (v := .null) (by show va_rf (R 24 3) = _; rw [HR.1 3 (by decide)]; rw [if_neg (by rw [hA86]; decide)]; rfl) ?_
        refine g_astoreN X dX7_paste_23 (by decide) (lv2 := [(6, .null), (0, .ref (a 0)), (1, .int 3), (2, .int p1), (3, .int 1), (4, .int p3), (5, .int p4)]) rfl ?_
        refine g_aload_n X dX7_paste_25 rfl (j := 1) rfl ?_
        refine i_get X F 0 rfl rfl fk_X7_32 dX7_paste_26 rfl ?_
        refine g_iload_n X dX7_paste_29 rfl (j := 4) rfl ?_
        rcases (Bool.eq_false_or_eq_true (act 82)).symm with hA82 | hA82
        · skip
          refine i_aald X F 24 rfl (t0 := 5) rfl rfl dX7_paste_30 (vp_in_iff.mpr (by decide)) (v := .null) (by show va_rf (R 24 1) = _; rw [HR.1 1 (by decide)]; rw [if_neg (by rw [hA82]; decide)]; rfl) ?_
          refine g_astoreN X dX7_paste_31 (by decide) (lv2 := [(7, .null), (6, .null), (0, .ref (a 0)), (1, .int 3), (2, .int p1), (3, .int 1), (4, .int p3), (5, .int p4)]) rfl ?_
          refine g_aloadN X dX7_paste_33 (j := 1) rfl ?_
          refine g_ifnullN X dX7_paste_35 (tgt := 43) (by decide) ?_
          refine g_bipush X dX7_paste_43 (v := -6) (by decide) ?_
          exact g_iret X hrt dX7_paste_45 (by decide) (by decide) ⟨C, D, F, I, K, (pa_no (c := 3) (d := 1) (by decide) (by decide) (Or.inl hA86))⟩
        · skip
          have act82 : (baseact 82 || act 82) = true := by rw [hA82]; rfl
          have act83 : (baseact 83 || act 83) = true := by rw [((HR.2.2.1 1 (by decide)).trans hA82)]; rfl
          refine i_aald X F 24 rfl (t0 := 5) rfl rfl dX7_paste_30 (vp_in_iff.mpr (by decide)) (v := .ref (a 82)) (by show va_rf (R 24 1) = _; rw [HR.1 1 (by decide)]; rw [if_pos hA82]; rfl) ?_
          refine g_astore X dX7_paste_31 (by decide) (lv2 := [(7, .ref (a 82)), (6, .null), (0, .ref (a 0)), (1, .int 3), (2, .int p1), (3, .int 1), (4, .int p3), (5, .int p4)]) rfl ?_
          refine g_aloadN X dX7_paste_33 (j := 1) rfl ?_
          refine g_ifnullN X dX7_paste_35 (tgt := 43) (by decide) ?_
          refine g_bipush X dX7_paste_43 (v := -6) (by decide) ?_
          exact g_iret X hrt dX7_paste_45 (by decide) (by decide) ⟨C, D, F, I, K, (pa_no (c := 3) (d := 1) (by decide) (by decide) (Or.inl hA86))⟩
      · skip
        have act86 : (baseact 86 || act 86) = true := by rw [hA86]; rfl
        have act87 : (baseact 87 || act 87) = true := by rw [((HR.2.2.1 3 (by decide)).trans hA86)]; rfl
        refine i_aald X F 24 rfl (t0 := 5) rfl rfl dX7_paste_22 (vp_in_iff.mpr (by decide)) (v := .ref (a 86)) (by show va_rf (R 24 3) = _; rw [HR.1 3 (by decide)]; rw [if_pos hA86]; rfl) ?_
        refine g_astore X dX7_paste_23 (by decide) (lv2 := [(6, .ref (a 86)), (0, .ref (a 0)), (1, .int 3), (2, .int p1), (3, .int 1), (4, .int p3), (5, .int p4)]) rfl ?_
        refine g_aload_n X dX7_paste_25 rfl (j := 1) rfl ?_
        refine i_get X F 0 rfl rfl fk_X7_32 dX7_paste_26 rfl ?_
        refine g_iload_n X dX7_paste_29 rfl (j := 4) rfl ?_
        rcases (Bool.eq_false_or_eq_true (act 82)).symm with hA82 | hA82
        · skip
          refine i_aald X F 24 rfl (t0 := 5) rfl rfl dX7_paste_30 (vp_in_iff.mpr (by decide)) (v := .null) (by show va_rf (R 24 1) = _; rw [HR.1 1 (by decide)]; rw [if_neg (by rw [hA82]; decide)]; rfl) ?_
          refine g_astoreN X dX7_paste_31 (by decide) (lv2 := [(7, .null), (6, .ref (a 86)), (0, .ref (a 0)), (1, .int 3), (2, .int p1), (3, .int 1), (4, .int p3), (5, .int p4)]) rfl ?_
          refine g_aload X dX7_paste_33 (j := 1) rfl ?_
          refine g_ifnull X dX7_paste_35 ?_
          refine g_aloadN X dX7_paste_38 (j := 0) rfl ?_
          refine g_ifnonnullN X dX7_paste_40 ?_
          refine g_bipush X dX7_paste_43 (v := -6) (by decide) ?_
          exact g_iret X hrt dX7_paste_45 (by decide) (by decide) ⟨C, D, F, I, K, (pa_no (c := 3) (d := 1) (by decide) (by decide) (Or.inr hA82))⟩
        · skip
          have act82 : (baseact 82 || act 82) = true := by rw [hA82]; rfl
          have act83 : (baseact 83 || act 83) = true := by rw [((HR.2.2.1 1 (by decide)).trans hA82)]; rfl
          refine i_aald X F 24 rfl (t0 := 5) rfl rfl dX7_paste_30 (vp_in_iff.mpr (by decide)) (v := .ref (a 82)) (by show va_rf (R 24 1) = _; rw [HR.1 1 (by decide)]; rw [if_pos hA82]; rfl) ?_
          refine g_astore X dX7_paste_31 (by decide) (lv2 := [(7, .ref (a 82)), (6, .ref (a 86)), (0, .ref (a 0)), (1, .int 3), (2, .int p1), (3, .int 1), (4, .int p3), (5, .int p4)]) rfl ?_
          refine g_aload X dX7_paste_33 (j := 1) rfl ?_
          refine g_ifnull X dX7_paste_35 ?_
          refine g_aload X dX7_paste_38 (j := 0) rfl ?_
          refine g_ifnonnull X dX7_paste_40 (tgt := 46) (by decide) ?_
          refine g_aload X dX7_paste_46 (j := 1) rfl ?_
          refine i_get X F 86 (act86) rfl fk_X7_400 dX7_paste_48 (v := .int o4) (congrArg (fun z => some (Value.int z)) ((congrFun (K 86 (by decide)).1 1).trans eo4)) ?_
          refine g_aload X dX7_paste_51 (j := 0) rfl ?_
          refine i_get X F 82 (act82) rfl fk_X7_400 dX7_paste_53 (v := .int o2) (congrArg (fun z => some (Value.int z)) ((congrFun (K 82 (by decide)).1 1).trans eo2)) ?_
          refine g_icmp_eq X dX7_paste_56 (tgt := 62) (by decide) (fun q214 => ?_) (fun q214 => ?_)
          · skip
            refine g_aload X dX7_paste_62 (j := 1) rfl ?_
            refine g_iload_n X dX7_paste_64 rfl (j := 4) rfl ?_
            refine g_iload X dX7_paste_65 (j := 7) rfl ?_
            refine g_callVI X (s_X5_hasPart_86 l G F I p1 p4 act86) lk_X7_403 (F.1 86 (act86)).2 (F.1 86 (act86)).1 rfl rfl dX7_paste_67 (Nat.le_of_ble_eq_true rfl) ⟨by decide, by decide⟩ ⟨by decide, by decide⟩ (fun r215 L M hp => ?_)
            obtain ⟨C, D, F, I, K1, hr⟩ := hp
            have K := K.step K1 (by decide)
            rcases hr with ⟨rfl, hp216⟩ | ⟨rfl, hp216⟩
            · skip
              rw [(K 86 (by decide)).1] at hp216
              refine g_if_eq X dX7_paste_70 (tgt := 85) (by decide) (fun _ => ?_) (fun q => absurd (by decide) q)
              refine g_bipush X dX7_paste_85 (v := -7) (by decide) ?_
              exact g_iret X hrt dX7_paste_87 (by decide) (by decide) ⟨C, D, F, I, K, (pa_b (c := 3) (d := 1) (by decide) (by decide) hA86 hA82 (eo4.trans (q214.trans eo2.symm)) (fun z => hp216 ⟨z.1.1, z.1.2.1, z.1.2.2⟩))⟩
            · skip
              rw [(K 86 (by decide)).1] at hp216
              refine g_if_eq X dX7_paste_70 (tgt := 85) (by decide) (fun q => absurd q (by decide)) (fun _ => ?_)
              refine g_aload X dX7_paste_73 (j := 0) rfl ?_
              refine g_iload X dX7_paste_75 (j := 6) rfl ?_
              refine g_iload X dX7_paste_77 (j := 7) rfl ?_
              refine g_callVI X (s_X5_hasPart_82 l G F I p3 p4 act82) lk_X7_403 (F.1 82 (act82)).2 (F.1 82 (act82)).1 rfl rfl dX7_paste_79 (Nat.le_of_ble_eq_true rfl) ⟨by decide, by decide⟩ ⟨by decide, by decide⟩ (fun r217 L M hp => ?_)
              obtain ⟨C, D, F, I, K1, hr⟩ := hp
              have K := K.step K1 (by decide)
              rcases hr with ⟨rfl, hp218⟩ | ⟨rfl, hp218⟩
              · skip
                rw [(K 82 (by decide)).1] at hp218
                refine g_if_ne X dX7_paste_82 (tgt := 88) (by decide) (fun q => absurd (by decide) q) (fun _ => ?_)
                refine g_bipush X dX7_paste_85 (v := -7) (by decide) ?_
                exact g_iret X hrt dX7_paste_87 (by decide) (by decide) ⟨C, D, F, I, K, (pa_b (c := 3) (d := 1) (by decide) (by decide) hA86 hA82 (eo4.trans (q214.trans eo2.symm)) (fun z => hp218 ⟨z.2.1, z.1.2.1, z.2.2⟩))⟩
              · skip
                rw [(K 82 (by decide)).1] at hp218
                refine g_if_ne X dX7_paste_82 (tgt := 88) (by decide) (fun _ => ?_) (fun q => absurd q (by decide))
                have hz86 := (show (C0 86 2).toInt ≤ 60 from (by have z := I 86 2 rfl; rw [(K 86 (by decide)).1] at z; exact z.2))
                have hz82 := (show (C0 82 2).toInt ≤ 60 from (by have z := I 82 2 rfl; rw [(K 82 (by decide)).1] at z; exact z.2))
                obtain ⟨n219, hn219a, hn219b, en219⟩ := nI_ofInt (x := p1) (lo := 0) (hi := 60) (by omega) (by omega) (by decide)
                subst en219
                have tn219 := nI_toInt (n := n219) (by omega)
                obtain ⟨n220, hn220a, hn220b, en220⟩ := nI_ofInt (x := p3) (lo := 0) (hi := 60) (by omega) (by omega) (by decide)
                subst en220
                have tn220 := nI_toInt (n := n220) (by omega)
                obtain ⟨n221, hn221a, hn221b, en221⟩ := nI_ofInt (x := p4) (lo := 0) (hi := 60) (by omega) (by omega) (by decide)
                subst en221
                have tn221 := nI_toInt (n := n221) (by omega)
                refine g_aload X dX7_paste_88 (j := 1) rfl ?_
                refine i_get X F 86 (act86) rfl fk_X7_406 dX7_paste_90 rfl ?_
                refine g_iload_n X dX7_paste_93 rfl (j := 4) rfl ?_
                refine g_aload X dX7_paste_94 (j := 0) rfl ?_
                refine i_get X F 82 (act82) rfl fk_X7_406 dX7_paste_96 rfl ?_
                refine g_iload X dX7_paste_99 (j := 6) rfl ?_
                refine g_iload X dX7_paste_101 (j := 7) rfl ?_
                refine i_copyl X F 87 (act87) 83 (act83) rfl (fun _ => rfl) (t0 := 2) rfl rfl wd604 wd87 wd88 wd89 (nI_pos (by omega)) (nI_pos (by omega)) (nI_pos (by omega)) (by rw [nI_clamp (show n219 < 2 ^ 31 by omega), nI_clamp (show n221 < 2 ^ 31 by omega)]; omega) (by rw [nI_clamp (show n220 < 2 ^ 31 by omega), nI_clamp (show n221 < 2 ^ 31 by omega)]; omega) (fun _ _ => rfl) (by decide) (Nat.le_of_ble_eq_true rfl) dX7_paste_103 (fun M D F K1 => ?_)
                have K := K.step K1 (by decide)
                refine g_iconst X dX7_paste_106 (v := 0) (by decide) ?_
                exact g_iret X hrt dX7_paste_107 (by decide) (by decide) ⟨C, D, F, I, K, (pa_k (c := 3) (d := 1) (by decide) (by decide) hA86 hA82 (eo4.trans (q214.trans eo2.symm)) ⟨hp216, hp218.1, hp218.2.2⟩)⟩
          · skip
            refine g_bipush X dX7_paste_59 (v := -8) (by decide) ?_
            exact g_iret X hrt dX7_paste_61 (by decide) (by decide) ⟨C, D, F, I, K, (pa_w (c := 3) (d := 1) (by decide) (by decide) hA86 hA82 (fun h => q214 (eo4.symm.trans (h.trans eo2))))⟩
    · skip
      refine g_iload_n X dX7_paste_0 rfl (j := 1) rfl ?_
      refine g_callSI X (s_X7_isSlot_3 l G F I  ) lk_X7_389 rfl rfl dX7_paste_1 (Nat.le_of_ble_eq_true rfl) ⟨by decide, by decide⟩ ⟨by decide, by decide⟩ (fun r222 L M hp => ?_)
      obtain ⟨C, D, F, I, K1, hr⟩ := hp
      have K := K.step K1 (by decide)
      subst hr
      refine g_if_eq X dX7_paste_4 (tgt := 14) (by decide) (fun q => absurd q (by decide)) (fun _ => ?_)
      refine g_iload_n X dX7_paste_7 rfl (j := 3) rfl ?_
      refine g_callSI X (s_X7_isSlot_2 l G F I  ) lk_X7_389 rfl rfl dX7_paste_8 (Nat.le_of_ble_eq_true rfl) ⟨by decide, by decide⟩ ⟨by decide, by decide⟩ (fun r223 L M hp => ?_)
      obtain ⟨C, D, F, I, K1, hr⟩ := hp
      have K := K.step K1 (by decide)
      subst hr
      refine g_if_ne X dX7_paste_11 (tgt := 17) (by decide) (fun _ => ?_) (fun q => absurd q (by decide))
      refine g_aload_n X dX7_paste_17 rfl (j := 0) rfl ?_
      refine i_get X F 0 rfl rfl fk_X7_32 dX7_paste_18 rfl ?_
      refine g_iload_n X dX7_paste_21 rfl (j := 1) rfl ?_
      rcases (Bool.eq_false_or_eq_true (act 86)).symm with hA86 | hA86
      · skip
        refine i_aald X F 24 rfl (t0 := 5) rfl rfl dX7_paste_22 (vp_in_iff.mpr (by decide)) (v := .null) (by show va_rf (R 24 3) = _; rw [HR.1 3 (by decide)]; rw [if_neg (by rw [hA86]; decide)]; rfl) ?_
        refine g_astoreN X dX7_paste_23 (by decide) (lv2 := [(6, .null), (0, .ref (a 0)), (1, .int 3), (2, .int p1), (3, .int 2), (4, .int p3), (5, .int p4)]) rfl ?_
        refine g_aload_n X dX7_paste_25 rfl (j := 1) rfl ?_
        refine i_get X F 0 rfl rfl fk_X7_32 dX7_paste_26 rfl ?_
        refine g_iload_n X dX7_paste_29 rfl (j := 4) rfl ?_
        rcases (Bool.eq_false_or_eq_true (act 84)).symm with hA84 | hA84
        · skip
          refine i_aald X F 24 rfl (t0 := 5) rfl rfl dX7_paste_30 (vp_in_iff.mpr (by decide)) (v := .null) (by show va_rf (R 24 2) = _; rw [HR.1 2 (by decide)]; rw [if_neg (by rw [hA84]; decide)]; rfl) ?_
          refine g_astoreN X dX7_paste_31 (by decide) (lv2 := [(7, .null), (6, .null), (0, .ref (a 0)), (1, .int 3), (2, .int p1), (3, .int 2), (4, .int p3), (5, .int p4)]) rfl ?_
          refine g_aloadN X dX7_paste_33 (j := 1) rfl ?_
          refine g_ifnullN X dX7_paste_35 (tgt := 43) (by decide) ?_
          refine g_bipush X dX7_paste_43 (v := -6) (by decide) ?_
          exact g_iret X hrt dX7_paste_45 (by decide) (by decide) ⟨C, D, F, I, K, (pa_no (c := 3) (d := 2) (by decide) (by decide) (Or.inl hA86))⟩
        · skip
          have act84 : (baseact 84 || act 84) = true := by rw [hA84]; rfl
          have act85 : (baseact 85 || act 85) = true := by rw [((HR.2.2.1 2 (by decide)).trans hA84)]; rfl
          refine i_aald X F 24 rfl (t0 := 5) rfl rfl dX7_paste_30 (vp_in_iff.mpr (by decide)) (v := .ref (a 84)) (by show va_rf (R 24 2) = _; rw [HR.1 2 (by decide)]; rw [if_pos hA84]; rfl) ?_
          refine g_astore X dX7_paste_31 (by decide) (lv2 := [(7, .ref (a 84)), (6, .null), (0, .ref (a 0)), (1, .int 3), (2, .int p1), (3, .int 2), (4, .int p3), (5, .int p4)]) rfl ?_
          refine g_aloadN X dX7_paste_33 (j := 1) rfl ?_
          refine g_ifnullN X dX7_paste_35 (tgt := 43) (by decide) ?_
          refine g_bipush X dX7_paste_43 (v := -6) (by decide) ?_
          exact g_iret X hrt dX7_paste_45 (by decide) (by decide) ⟨C, D, F, I, K, (pa_no (c := 3) (d := 2) (by decide) (by decide) (Or.inl hA86))⟩
      · skip
        have act86 : (baseact 86 || act 86) = true := by rw [hA86]; rfl
        have act87 : (baseact 87 || act 87) = true := by rw [((HR.2.2.1 3 (by decide)).trans hA86)]; rfl
        refine i_aald X F 24 rfl (t0 := 5) rfl rfl dX7_paste_22 (vp_in_iff.mpr (by decide)) (v := .ref (a 86)) (by show va_rf (R 24 3) = _; rw [HR.1 3 (by decide)]; rw [if_pos hA86]; rfl) ?_
        refine g_astore X dX7_paste_23 (by decide) (lv2 := [(6, .ref (a 86)), (0, .ref (a 0)), (1, .int 3), (2, .int p1), (3, .int 2), (4, .int p3), (5, .int p4)]) rfl ?_
        refine g_aload_n X dX7_paste_25 rfl (j := 1) rfl ?_
        refine i_get X F 0 rfl rfl fk_X7_32 dX7_paste_26 rfl ?_
        refine g_iload_n X dX7_paste_29 rfl (j := 4) rfl ?_
        rcases (Bool.eq_false_or_eq_true (act 84)).symm with hA84 | hA84
        · skip
          refine i_aald X F 24 rfl (t0 := 5) rfl rfl dX7_paste_30 (vp_in_iff.mpr (by decide)) (v := .null) (by show va_rf (R 24 2) = _; rw [HR.1 2 (by decide)]; rw [if_neg (by rw [hA84]; decide)]; rfl) ?_
          refine g_astoreN X dX7_paste_31 (by decide) (lv2 := [(7, .null), (6, .ref (a 86)), (0, .ref (a 0)), (1, .int 3), (2, .int p1), (3, .int 2), (4, .int p3), (5, .int p4)]) rfl ?_
          refine g_aload X dX7_paste_33 (j := 1) rfl ?_
          refine g_ifnull X dX7_paste_35 ?_
          refine g_aloadN X dX7_paste_38 (j := 0) rfl ?_
          refine g_ifnonnullN X dX7_paste_40 ?_
          refine g_bipush X dX7_paste_43 (v := -6) (by decide) ?_
          exact g_iret X hrt dX7_paste_45 (by decide) (by decide) ⟨C, D, F, I, K, (pa_no (c := 3) (d := 2) (by decide) (by decide) (Or.inr hA84))⟩
        · skip
          have act84 : (baseact 84 || act 84) = true := by rw [hA84]; rfl
          have act85 : (baseact 85 || act 85) = true := by rw [((HR.2.2.1 2 (by decide)).trans hA84)]; rfl
          refine i_aald X F 24 rfl (t0 := 5) rfl rfl dX7_paste_30 (vp_in_iff.mpr (by decide)) (v := .ref (a 84)) (by show va_rf (R 24 2) = _; rw [HR.1 2 (by decide)]; rw [if_pos hA84]; rfl) ?_
          refine g_astore X dX7_paste_31 (by decide) (lv2 := [(7, .ref (a 84)), (6, .ref (a 86)), (0, .ref (a 0)), (1, .int 3), (2, .int p1), (3, .int 2), (4, .int p3), (5, .int p4)]) rfl ?_
          refine g_aload X dX7_paste_33 (j := 1) rfl ?_
          refine g_ifnull X dX7_paste_35 ?_
          refine g_aload X dX7_paste_38 (j := 0) rfl ?_
          refine g_ifnonnull X dX7_paste_40 (tgt := 46) (by decide) ?_
          refine g_aload X dX7_paste_46 (j := 1) rfl ?_
          refine i_get X F 86 (act86) rfl fk_X7_400 dX7_paste_48 (v := .int o4) (congrArg (fun z => some (Value.int z)) ((congrFun (K 86 (by decide)).1 1).trans eo4)) ?_
          refine g_aload X dX7_paste_51 (j := 0) rfl ?_
          refine i_get X F 84 (act84) rfl fk_X7_400 dX7_paste_53 (v := .int o3) (congrArg (fun z => some (Value.int z)) ((congrFun (K 84 (by decide)).1 1).trans eo3)) ?_
          refine g_icmp_eq X dX7_paste_56 (tgt := 62) (by decide) (fun q227 => ?_) (fun q227 => ?_)
          · skip
            refine g_aload X dX7_paste_62 (j := 1) rfl ?_
            refine g_iload_n X dX7_paste_64 rfl (j := 4) rfl ?_
            refine g_iload X dX7_paste_65 (j := 7) rfl ?_
            refine g_callVI X (s_X5_hasPart_86 l G F I p1 p4 act86) lk_X7_403 (F.1 86 (act86)).2 (F.1 86 (act86)).1 rfl rfl dX7_paste_67 (Nat.le_of_ble_eq_true rfl) ⟨by decide, by decide⟩ ⟨by decide, by decide⟩ (fun r228 L M hp => ?_)
            obtain ⟨C, D, F, I, K1, hr⟩ := hp
            have K := K.step K1 (by decide)
            rcases hr with ⟨rfl, hp229⟩ | ⟨rfl, hp229⟩
            · skip
              rw [(K 86 (by decide)).1] at hp229
              refine g_if_eq X dX7_paste_70 (tgt := 85) (by decide) (fun _ => ?_) (fun q => absurd (by decide) q)
              refine g_bipush X dX7_paste_85 (v := -7) (by decide) ?_
              exact g_iret X hrt dX7_paste_87 (by decide) (by decide) ⟨C, D, F, I, K, (pa_b (c := 3) (d := 2) (by decide) (by decide) hA86 hA84 (eo4.trans (q227.trans eo3.symm)) (fun z => hp229 ⟨z.1.1, z.1.2.1, z.1.2.2⟩))⟩
            · skip
              rw [(K 86 (by decide)).1] at hp229
              refine g_if_eq X dX7_paste_70 (tgt := 85) (by decide) (fun q => absurd q (by decide)) (fun _ => ?_)
              refine g_aload X dX7_paste_73 (j := 0) rfl ?_
              refine g_iload X dX7_paste_75 (j := 6) rfl ?_
              refine g_iload X dX7_paste_77 (j := 7) rfl ?_
              refine g_callVI X (s_X5_hasPart_84 l G F I p3 p4 act84) lk_X7_403 (F.1 84 (act84)).2 (F.1 84 (act84)).1 rfl rfl dX7_paste_79 (Nat.le_of_ble_eq_true rfl) ⟨by decide, by decide⟩ ⟨by decide, by decide⟩ (fun r230 L M hp => ?_)
              obtain ⟨C, D, F, I, K1, hr⟩ := hp
              have K := K.step K1 (by decide)
              rcases hr with ⟨rfl, hp231⟩ | ⟨rfl, hp231⟩
              · skip
                rw [(K 84 (by decide)).1] at hp231
                refine g_if_ne X dX7_paste_82 (tgt := 88) (by decide) (fun q => absurd (by decide) q) (fun _ => ?_)
                refine g_bipush X dX7_paste_85 (v := -7) (by decide) ?_
                exact g_iret X hrt dX7_paste_87 (by decide) (by decide) ⟨C, D, F, I, K, (pa_b (c := 3) (d := 2) (by decide) (by decide) hA86 hA84 (eo4.trans (q227.trans eo3.symm)) (fun z => hp231 ⟨z.2.1, z.1.2.1, z.2.2⟩))⟩
              · skip
                rw [(K 84 (by decide)).1] at hp231
                refine g_if_ne X dX7_paste_82 (tgt := 88) (by decide) (fun _ => ?_) (fun q => absurd q (by decide))
                have hz86 := (show (C0 86 2).toInt ≤ 60 from (by have z := I 86 2 rfl; rw [(K 86 (by decide)).1] at z; exact z.2))
                have hz84 := (show (C0 84 2).toInt ≤ 60 from (by have z := I 84 2 rfl; rw [(K 84 (by decide)).1] at z; exact z.2))
                obtain ⟨n232, hn232a, hn232b, en232⟩ := nI_ofInt (x := p1) (lo := 0) (hi := 60) (by omega) (by omega) (by decide)
                subst en232
                have tn232 := nI_toInt (n := n232) (by omega)
                obtain ⟨n233, hn233a, hn233b, en233⟩ := nI_ofInt (x := p3) (lo := 0) (hi := 60) (by omega) (by omega) (by decide)
                subst en233
                have tn233 := nI_toInt (n := n233) (by omega)
                obtain ⟨n234, hn234a, hn234b, en234⟩ := nI_ofInt (x := p4) (lo := 0) (hi := 60) (by omega) (by omega) (by decide)
                subst en234
                have tn234 := nI_toInt (n := n234) (by omega)
                refine g_aload X dX7_paste_88 (j := 1) rfl ?_
                refine i_get X F 86 (act86) rfl fk_X7_406 dX7_paste_90 rfl ?_
                refine g_iload_n X dX7_paste_93 rfl (j := 4) rfl ?_
                refine g_aload X dX7_paste_94 (j := 0) rfl ?_
                refine i_get X F 84 (act84) rfl fk_X7_406 dX7_paste_96 rfl ?_
                refine g_iload X dX7_paste_99 (j := 6) rfl ?_
                refine g_iload X dX7_paste_101 (j := 7) rfl ?_
                refine i_copyl X F 87 (act87) 85 (act85) rfl (fun _ => rfl) (t0 := 2) rfl rfl wd604 wd87 wd88 wd89 (nI_pos (by omega)) (nI_pos (by omega)) (nI_pos (by omega)) (by rw [nI_clamp (show n232 < 2 ^ 31 by omega), nI_clamp (show n234 < 2 ^ 31 by omega)]; omega) (by rw [nI_clamp (show n233 < 2 ^ 31 by omega), nI_clamp (show n234 < 2 ^ 31 by omega)]; omega) (fun _ _ => rfl) (by decide) (Nat.le_of_ble_eq_true rfl) dX7_paste_103 (fun M D F K1 => ?_)
                have K := K.step K1 (by decide)
                refine g_iconst X dX7_paste_106 (v := 0) (by decide) ?_
                exact g_iret X hrt dX7_paste_107 (by decide) (by decide) ⟨C, D, F, I, K, (pa_k (c := 3) (d := 2) (by decide) (by decide) hA86 hA84 (eo4.trans (q227.trans eo3.symm)) ⟨hp229, hp231.1, hp231.2.2⟩)⟩
          · skip
            refine g_bipush X dX7_paste_59 (v := -8) (by decide) ?_
            exact g_iret X hrt dX7_paste_61 (by decide) (by decide) ⟨C, D, F, I, K, (pa_w (c := 3) (d := 2) (by decide) (by decide) hA86 hA84 (fun h => q227 (eo4.symm.trans (h.trans eo3))))⟩
    · skip
      refine g_iload_n X dX7_paste_0 rfl (j := 1) rfl ?_
      refine g_callSI X (s_X7_isSlot_3 l G F I  ) lk_X7_389 rfl rfl dX7_paste_1 (Nat.le_of_ble_eq_true rfl) ⟨by decide, by decide⟩ ⟨by decide, by decide⟩ (fun r235 L M hp => ?_)
      obtain ⟨C, D, F, I, K1, hr⟩ := hp
      have K := K.step K1 (by decide)
      subst hr
      refine g_if_eq X dX7_paste_4 (tgt := 14) (by decide) (fun q => absurd q (by decide)) (fun _ => ?_)
      refine g_iload_n X dX7_paste_7 rfl (j := 3) rfl ?_
      refine g_callSI X (s_X7_isSlot_3 l G F I  ) lk_X7_389 rfl rfl dX7_paste_8 (Nat.le_of_ble_eq_true rfl) ⟨by decide, by decide⟩ ⟨by decide, by decide⟩ (fun r236 L M hp => ?_)
      obtain ⟨C, D, F, I, K1, hr⟩ := hp
      have K := K.step K1 (by decide)
      subst hr
      refine g_if_ne X dX7_paste_11 (tgt := 17) (by decide) (fun _ => ?_) (fun q => absurd q (by decide))
      refine g_aload_n X dX7_paste_17 rfl (j := 0) rfl ?_
      refine i_get X F 0 rfl rfl fk_X7_32 dX7_paste_18 rfl ?_
      refine g_iload_n X dX7_paste_21 rfl (j := 1) rfl ?_
      rcases (Bool.eq_false_or_eq_true (act 86)).symm with hA86 | hA86
      · skip
        refine i_aald X F 24 rfl (t0 := 5) rfl rfl dX7_paste_22 (vp_in_iff.mpr (by decide)) (v := .null) (by show va_rf (R 24 3) = _; rw [HR.1 3 (by decide)]; rw [if_neg (by rw [hA86]; decide)]; rfl) ?_
        refine g_astoreN X dX7_paste_23 (by decide) (lv2 := [(6, .null), (0, .ref (a 0)), (1, .int 3), (2, .int p1), (3, .int 3), (4, .int p3), (5, .int p4)]) rfl ?_
        refine g_aload_n X dX7_paste_25 rfl (j := 1) rfl ?_
        refine i_get X F 0 rfl rfl fk_X7_32 dX7_paste_26 rfl ?_
        refine g_iload_n X dX7_paste_29 rfl (j := 4) rfl ?_
        refine i_aald X F 24 rfl (t0 := 5) rfl rfl dX7_paste_30 (vp_in_iff.mpr (by decide)) (v := .null) (by show va_rf (R 24 3) = _; rw [HR.1 3 (by decide)]; rw [if_neg (by rw [hA86]; decide)]; rfl) ?_
        refine g_astoreN X dX7_paste_31 (by decide) (lv2 := [(7, .null), (6, .null), (0, .ref (a 0)), (1, .int 3), (2, .int p1), (3, .int 3), (4, .int p3), (5, .int p4)]) rfl ?_
        refine g_aloadN X dX7_paste_33 (j := 1) rfl ?_
        refine g_ifnullN X dX7_paste_35 (tgt := 43) (by decide) ?_
        refine g_bipush X dX7_paste_43 (v := -6) (by decide) ?_
        exact g_iret X hrt dX7_paste_45 (by decide) (by decide) ⟨C, D, F, I, K, (pa_no (c := 3) (d := 3) (by decide) (by decide) (Or.inl hA86))⟩
      · skip
        have act86 : (baseact 86 || act 86) = true := by rw [hA86]; rfl
        have act87 : (baseact 87 || act 87) = true := by rw [((HR.2.2.1 3 (by decide)).trans hA86)]; rfl
        refine i_aald X F 24 rfl (t0 := 5) rfl rfl dX7_paste_22 (vp_in_iff.mpr (by decide)) (v := .ref (a 86)) (by show va_rf (R 24 3) = _; rw [HR.1 3 (by decide)]; rw [if_pos hA86]; rfl) ?_
        refine g_astore X dX7_paste_23 (by decide) (lv2 := [(6, .ref (a 86)), (0, .ref (a 0)), (1, .int 3), (2, .int p1), (3, .int 3), (4, .int p3), (5, .int p4)]) rfl ?_
        refine g_aload_n X dX7_paste_25 rfl (j := 1) rfl ?_
        refine i_get X F 0 rfl rfl fk_X7_32 dX7_paste_26 rfl ?_
        refine g_iload_n X dX7_paste_29 rfl (j := 4) rfl ?_
        refine i_aald X F 24 rfl (t0 := 5) rfl rfl dX7_paste_30 (vp_in_iff.mpr (by decide)) (v := .ref (a 86)) (by show va_rf (R 24 3) = _; rw [HR.1 3 (by decide)]; rw [if_pos hA86]; rfl) ?_
        refine g_astore X dX7_paste_31 (by decide) (lv2 := [(7, .ref (a 86)), (6, .ref (a 86)), (0, .ref (a 0)), (1, .int 3), (2, .int p1), (3, .int 3), (4, .int p3), (5, .int p4)]) rfl ?_
        refine g_aload X dX7_paste_33 (j := 1) rfl ?_
        refine g_ifnull X dX7_paste_35 ?_
        refine g_aload X dX7_paste_38 (j := 0) rfl ?_
        refine g_ifnonnull X dX7_paste_40 (tgt := 46) (by decide) ?_
        refine g_aload X dX7_paste_46 (j := 1) rfl ?_
        refine i_get X F 86 (act86) rfl fk_X7_400 dX7_paste_48 (v := .int o4) (congrArg (fun z => some (Value.int z)) ((congrFun (K 86 (by decide)).1 1).trans eo4)) ?_
        refine g_aload X dX7_paste_51 (j := 0) rfl ?_
        refine i_get X F 86 (act86) rfl fk_X7_400 dX7_paste_53 (v := .int o4) (congrArg (fun z => some (Value.int z)) ((congrFun (K 86 (by decide)).1 1).trans eo4)) ?_
        refine g_icmp_eq X dX7_paste_56 (tgt := 62) (by decide) (fun q240 => ?_) (fun q240 => ?_)
        · skip
          refine g_aload X dX7_paste_62 (j := 1) rfl ?_
          refine g_iload_n X dX7_paste_64 rfl (j := 4) rfl ?_
          refine g_iload X dX7_paste_65 (j := 7) rfl ?_
          refine g_callVI X (s_X5_hasPart_86 l G F I p1 p4 act86) lk_X7_403 (F.1 86 (act86)).2 (F.1 86 (act86)).1 rfl rfl dX7_paste_67 (Nat.le_of_ble_eq_true rfl) ⟨by decide, by decide⟩ ⟨by decide, by decide⟩ (fun r241 L M hp => ?_)
          obtain ⟨C, D, F, I, K1, hr⟩ := hp
          have K := K.step K1 (by decide)
          rcases hr with ⟨rfl, hp242⟩ | ⟨rfl, hp242⟩
          · skip
            rw [(K 86 (by decide)).1] at hp242
            refine g_if_eq X dX7_paste_70 (tgt := 85) (by decide) (fun _ => ?_) (fun q => absurd (by decide) q)
            refine g_bipush X dX7_paste_85 (v := -7) (by decide) ?_
            exact g_iret X hrt dX7_paste_87 (by decide) (by decide) ⟨C, D, F, I, K, (pa_b (c := 3) (d := 3) (by decide) (by decide) hA86 hA86 (eo4.trans (q240.trans eo4.symm)) (fun z => hp242 ⟨z.1.1, z.1.2.1, z.1.2.2⟩))⟩
          · skip
            rw [(K 86 (by decide)).1] at hp242
            refine g_if_eq X dX7_paste_70 (tgt := 85) (by decide) (fun q => absurd q (by decide)) (fun _ => ?_)
            refine g_aload X dX7_paste_73 (j := 0) rfl ?_
            refine g_iload X dX7_paste_75 (j := 6) rfl ?_
            refine g_iload X dX7_paste_77 (j := 7) rfl ?_
            refine g_callVI X (s_X5_hasPart_86 l G F I p3 p4 act86) lk_X7_403 (F.1 86 (act86)).2 (F.1 86 (act86)).1 rfl rfl dX7_paste_79 (Nat.le_of_ble_eq_true rfl) ⟨by decide, by decide⟩ ⟨by decide, by decide⟩ (fun r243 L M hp => ?_)
            obtain ⟨C, D, F, I, K1, hr⟩ := hp
            have K := K.step K1 (by decide)
            rcases hr with ⟨rfl, hp244⟩ | ⟨rfl, hp244⟩
            · skip
              rw [(K 86 (by decide)).1] at hp244
              refine g_if_ne X dX7_paste_82 (tgt := 88) (by decide) (fun q => absurd (by decide) q) (fun _ => ?_)
              refine g_bipush X dX7_paste_85 (v := -7) (by decide) ?_
              exact g_iret X hrt dX7_paste_87 (by decide) (by decide) ⟨C, D, F, I, K, (pa_b (c := 3) (d := 3) (by decide) (by decide) hA86 hA86 (eo4.trans (q240.trans eo4.symm)) (fun z => hp244 ⟨z.2.1, z.1.2.1, z.2.2⟩))⟩
            · skip
              rw [(K 86 (by decide)).1] at hp244
              refine g_if_ne X dX7_paste_82 (tgt := 88) (by decide) (fun _ => ?_) (fun q => absurd q (by decide))
              have hz86 := (show (C0 86 2).toInt ≤ 60 from (by have z := I 86 2 rfl; rw [(K 86 (by decide)).1] at z; exact z.2))
              have hz86 := (show (C0 86 2).toInt ≤ 60 from (by have z := I 86 2 rfl; rw [(K 86 (by decide)).1] at z; exact z.2))
              obtain ⟨n245, hn245a, hn245b, en245⟩ := nI_ofInt (x := p1) (lo := 0) (hi := 60) (by omega) (by omega) (by decide)
              subst en245
              have tn245 := nI_toInt (n := n245) (by omega)
              obtain ⟨n246, hn246a, hn246b, en246⟩ := nI_ofInt (x := p3) (lo := 0) (hi := 60) (by omega) (by omega) (by decide)
              subst en246
              have tn246 := nI_toInt (n := n246) (by omega)
              obtain ⟨n247, hn247a, hn247b, en247⟩ := nI_ofInt (x := p4) (lo := 0) (hi := 60) (by omega) (by omega) (by decide)
              subst en247
              have tn247 := nI_toInt (n := n247) (by omega)
              refine g_aload X dX7_paste_88 (j := 1) rfl ?_
              refine i_get X F 86 (act86) rfl fk_X7_406 dX7_paste_90 rfl ?_
              refine g_iload_n X dX7_paste_93 rfl (j := 4) rfl ?_
              refine g_aload X dX7_paste_94 (j := 0) rfl ?_
              refine i_get X F 86 (act86) rfl fk_X7_406 dX7_paste_96 rfl ?_
              refine g_iload X dX7_paste_99 (j := 6) rfl ?_
              refine g_iload X dX7_paste_101 (j := 7) rfl ?_
              refine i_copyl X F 87 (act87) 87 (act87) rfl (fun _ => rfl) (t0 := 2) rfl rfl wd604 wd87 wd88 wd89 (nI_pos (by omega)) (nI_pos (by omega)) (nI_pos (by omega)) (by rw [nI_clamp (show n245 < 2 ^ 31 by omega), nI_clamp (show n247 < 2 ^ 31 by omega)]; omega) (by rw [nI_clamp (show n246 < 2 ^ 31 by omega), nI_clamp (show n247 < 2 ^ 31 by omega)]; omega) (fun _ _ => rfl) (by decide) (Nat.le_of_ble_eq_true rfl) dX7_paste_103 (fun M D F K1 => ?_)
              have K := K.step K1 (by decide)
              refine g_iconst X dX7_paste_106 (v := 0) (by decide) ?_
              exact g_iret X hrt dX7_paste_107 (by decide) (by decide) ⟨C, D, F, I, K, (pa_k (c := 3) (d := 3) (by decide) (by decide) hA86 hA86 (eo4.trans (q240.trans eo4.symm)) ⟨hp242, hp244.1, hp244.2.2⟩)⟩
        · skip
          refine g_bipush X dX7_paste_59 (v := -8) (by decide) ?_
          exact g_iret X hrt dX7_paste_61 (by decide) (by decide) ⟨C, D, F, I, K, (pa_w (c := 3) (d := 3) (by decide) (by decide) hA86 hA86 (fun h => q240 (eo4.symm.trans (h.trans eo4))))⟩
set_option maxHeartbeats 4000000 in
set_option maxRecDepth 100000 in
theorem s_X8_image_x (l : Launch) (G : va_G) {cy : Nat → ClassId} {L : List Nat} {M : Nat → va_E} {a : Nat → Nat} {act : Nat → Bool} {C0 : Nat → Nat → Int32} {D0 : Nat → Nat → Int64} {R : Nat → Nat → Option Nat} (F : WI L M a act (ent cy a C0 D0 R)) (I : Inv C0) (p0 : Int32)  : MI l G cy yX8_image cX8_image 3 (some .int) 1 0 0 [.ref (a 100), .int p0] L M (fun r L2 M2 => ∃ C2 D2, WI L2 M2 a act (ent cy a C2 D2 R) ∧ Inv C2 ∧ Kp [102, 103] C0 D0 C2 D2 ∧ r = imS p0 ∧ ∀ j, j < 3 → acI (C2 103) j = (acI (C0 103) j || decide (p0 = nI j))) := by
  refine MI.of (own := RX8) rfl (by decide) (Nat.le_of_ble_eq_true rfl) ?_
  intro p e s m below meth c A X hrt hnm
  obtain ⟨C, D, hC0, hD0, F, I, K⟩ : ∃ C D, C = C0 ∧ D = D0 ∧ WI L M a act (ent cy a C D R) ∧ Inv C ∧ Kp [102, 103] C0 D0 C D := ⟨C0, D0, rfl, rfl, F, I, Kp.rf⟩
  have o103 : C 103 = C0 103 := by rw [hC0]
  refine g_iload_n X dX8_image_0 rfl (j := 1) rfl ?_
  refine g_i2l X dX8_image_1 rfl ?_
  refine g_lconst X dX8_image_2 (v := 0) (by decide) ?_
  refine g_ldc2 X (v := 2) wd1044 dX8_image_3 ?_
  refine g_callSI X (s_X8_in l G F I ((Int32.toInt64 p0)) (0 : Int64) (2 : Int64) ) lk_X8_94 rfl rfl dX8_image_6 (Nat.le_of_ble_eq_true rfl) ⟨by decide, by decide⟩ ⟨by decide, by decide⟩ (fun r1 L M hp => ?_)
  obtain ⟨C, D, F, I, K1, hr⟩ := hp
  have K := K.step K1 (by decide)
  have o103 : C 103 = C0 103 := by rw [(K1 103 (by decide)).1]; exact o103
  rcases hr with ⟨rfl, hq2⟩ | ⟨rfl, hq2⟩
  · skip
    have hq2x := Jvm.Kit.i64_of_i32 p0
    have hq2l : (0 : Int64).toInt = 0 := (by decide)
    have hq2h : (2 : Int64).toInt = 2 := (by decide)
    refine g_if_ne X dX8_image_9 (tgt := 15) (by decide) (fun q => absurd (by decide) q) (fun _ => ?_)
    refine g_bipush X dX8_image_12 (v := -2) (by decide) ?_
    exact g_iret X hrt dX8_image_14 (by decide) (by decide) ⟨C, D, F, I, K, (by unfold imS; rw [if_neg (by omega)]), (fun j hj => by rw [o103, out3 (by omega) hj, Bool.or_false])⟩
  · skip
    have hq2x := Jvm.Kit.i64_of_i32 p0
    have hq2l : (0 : Int64).toInt = 0 := (by decide)
    have hq2h : (2 : Int64).toInt = 2 := (by decide)
    obtain ⟨n3, hn3a, hn3b, en3⟩ := nI_ofInt (x := p0) (lo := 0) (hi := 2) (by omega) (by omega) (by decide)
    subst en3
    have tn3 := nI_toInt (n := n3) (by omega)
    refine g_if_ne X dX8_image_9 (tgt := 15) (by decide) (fun _ => ?_) (fun q => absurd q (by decide))
    refine g_iconst X dX8_image_15 (v := 0) (by decide) ?_
    refine g_istore_n X dX8_image_16 rfl (by decide) (lv2 := [(2, .int 0), (0, .ref (a 100)), (1, .int (nI n3))]) rfl ?_
    refine g_lv [0, 1, 2] (lv2 := [(2, .int 0), (0, .ref (a 100)), (1, .int (nI n3))]) rfl ?_
    refine i_loop (mods := [102, 103]) (fun x : Nat => 102 - x) (fun x => [(2, .int (nI (x))), (0, .ref (a 100)), (1, .int (nI n3))]) (fun x C => 0 ≤ x ∧ x ≤ 102 ∧ (C 103 = C0 103)) (fun x L M C D F I K hP ih17 => ?_) ((0) : Nat) F I K ⟨by show _ ≤ _; omega, by show _ ≤ _; omega, o103⟩
    obtain ⟨i17_2, rfl⟩ : ∃ z, z = x := ⟨_, rfl⟩
    obtain ⟨hi17_2a, hi17_2b, o103⟩ := hP
    refine g_lv [0, 1, 2] (lv2 := [(2, .int (nI i17_2)), (0, .ref (a 100)), (1, .int (nI n3))]) rfl ?_
    refine g_iload_n X dX8_image_17 rfl (j := 0) rfl ?_
    refine g_bipush X dX8_image_18 (v := 102) (by decide) ?_
    refine g_icmp_ge X dX8_image_20 (tgt := 46) (by decide) (fun q4 => ?_) (fun q4 => ?_)
    · skip
      have q4 : 102 ≤ i17_2 := (nI_leI (a := 102) (b := i17_2) (by omega) (by omega)).mp q4
      refine g_aload_n X dX8_image_46 rfl (j := 1) rfl ?_
      refine i_get X F 100 rfl rfl fk_X8_16 dX8_image_47 rfl ?_
      refine g_iload_n X dX8_image_50 rfl (j := 2) rfl ?_
      refine g_iconst X dX8_image_51 (v := 1) (by decide) ?_
      refine i_zast X F I 103 rfl (fun _ => rfl) dX8_image_52 (vp_in_nI (by omega) (by decide)) trivial (fun M C F I K1 hC => ?_)
      have K := K.step K1 (by decide)
      have w103 : C 103 = upd (C0 103) (n3) (1) := by rw [hC, o103]; rw [nI_clamp (by omega)]; rfl
      refine g_iconst X dX8_image_53 (v := 0) (by decide) ?_
      exact g_iret X hrt dX8_image_54 (by decide) (by decide) ⟨C, D, F, I, K, (im_in (by omega)), (fun j hj => by rw [w103]; exact acI_up (by omega) (by omega))⟩
    · skip
      have q4 : ¬ 102 ≤ i17_2 := fun z => q4 ((nI_leI (a := 102) (b := i17_2) (by omega) (by omega)).mpr z)
      refine g_aload_n X dX8_image_23 rfl (j := 1) rfl ?_
      refine i_get X F 100 rfl rfl fk_X8_13 dX8_image_24 rfl ?_
      refine g_bipush X dX8_image_27 (v := 102) (by decide) ?_
      refine g_iload_n X dX8_image_29 rfl (j := 2) rfl ?_
      refine g_imul X dX8_image_30 ?_
      refine Go.top (v := .int (nI (102 * n3))) (congrArg Value.int (pk_mul 102 n3)) ?_
      refine g_iload_n X dX8_image_31 rfl (j := 0) rfl ?_
      refine g_iadd X dX8_image_32 ?_
      refine Go.top (v := .int (nI ((102 * n3) + i17_2))) (congrArg Value.int (nI_add (102 * n3) i17_2)) ?_
      refine g_aload_n X dX8_image_33 rfl (j := 1) rfl ?_
      refine i_get X F 100 rfl rfl fk_X8_9 dX8_image_34 rfl ?_
      refine g_iload_n X dX8_image_37 rfl (j := 0) rfl ?_
      obtain ⟨o5, eo5⟩ : ∃ z, C 101 (i17_2) = z := ⟨_, rfl⟩
      have oko5 : okw (i17_2) o5 := by have y := (show okw (i17_2) (C 101 (i17_2)) from I 101 (i17_2)); rw [eo5] at y; exact y
      refine i_iald X F 101 rfl rfl dX8_image_38 (vp_in_nI (by omega) (by decide)) (v := o5) (by rw [nI_clamp (by omega)]; exact eo5) ?_
      refine i_iast X F I 102 rfl (fun _ => rfl) dX8_image_39 (vp_in_nI (by omega) (by decide)) (by rw [nI_clamp (by omega)]; show okw (((102 * n3) + i17_2) % 102) o5; rw [show ((102 * n3) + i17_2) % 102 = i17_2 by omega]; exact oko5) (fun M C F I K1 hC => ?_)
      have K := K.step K1 (by decide)
      have o103 : C 103 = C0 103 := by rw [(K1 103 (by decide)).1]; exact o103
      refine g_iinc X dX8_image_40 (j := 0) rfl (v := nI (i17_2 + 1)) (nI_1 i17_2) (by decide) (lv2 := [(2, .int (nI (i17_2 + 1))), (0, .ref (a 100)), (1, .int (nI n3))]) rfl ?_
      refine g_goto X dX8_image_43 (tgt := 17) (by decide) ?_
      refine g_lv [0, 1, 2] (lv2 := [(2, .int (nI (i17_2 + 1))), (0, .ref (a 100)), (1, .int (nI n3))]) rfl ?_
      exact ih17 ((i17_2 + 1)) L M C D F I K ⟨by omega, by omega, o103⟩ (by show _ < _; omega)
set_option maxHeartbeats 4000000 in
set_option maxRecDepth 100000 in
theorem s_X8_back_x (l : Launch) (G : va_G) {cy : Nat → ClassId} {L : List Nat} {M : Nat → va_E} {a : Nat → Nat} {act : Nat → Bool} {C0 : Nat → Nat → Int32} {D0 : Nat → Nat → Int64} {R : Nat → Nat → Option Nat} (F : WI L M a act (ent cy a C0 D0 R)) (I : Inv C0) (p0 : Int32)  : MI l G cy yX8_back cX8_back 3 (some .int) 1 0 0 [.ref (a 100), .int p0] L M (fun r L2 M2 => ∃ C2 D2, WI L2 M2 a act (ent cy a C2 D2 R) ∧ Inv C2 ∧ Kp [101] C0 D0 C2 D2 ∧ r = bkS p0 (acI (C0 103))) := by
  refine MI.of (own := RX8) rfl (by decide) (Nat.le_of_ble_eq_true rfl) ?_
  intro p e s m below meth c A X hrt hnm
  obtain ⟨C, D, hC0, hD0, F, I, K⟩ : ∃ C D, C = C0 ∧ D = D0 ∧ WI L M a act (ent cy a C D R) ∧ Inv C ∧ Kp [101] C0 D0 C D := ⟨C0, D0, rfl, rfl, F, I, Kp.rf⟩
  refine g_iload_n X dX8_back_0 rfl (j := 1) rfl ?_
  refine g_i2l X dX8_back_1 rfl ?_
  refine g_lconst X dX8_back_2 (v := 0) (by decide) ?_
  refine g_ldc2 X (v := 2) wd1044 dX8_back_3 ?_
  refine g_callSI X (s_X8_in l G F I ((Int32.toInt64 p0)) (0 : Int64) (2 : Int64) ) lk_X8_94 rfl rfl dX8_back_6 (Nat.le_of_ble_eq_true rfl) ⟨by decide, by decide⟩ ⟨by decide, by decide⟩ (fun r1 L M hp => ?_)
  obtain ⟨C, D, F, I, K1, hr⟩ := hp
  have K := K.step K1 (by decide)
  rcases hr with ⟨rfl, hq2⟩ | ⟨rfl, hq2⟩
  · skip
    have hq2x := Jvm.Kit.i64_of_i32 p0
    have hq2l : (0 : Int64).toInt = 0 := (by decide)
    have hq2h : (2 : Int64).toInt = 2 := (by decide)
    refine g_if_ne X dX8_back_9 (tgt := 15) (by decide) (fun q => absurd (by decide) q) (fun _ => ?_)
    refine g_bipush X dX8_back_12 (v := -2) (by decide) ?_
    exact g_iret X hrt dX8_back_14 (by decide) (by decide) ⟨C, D, F, I, K, (by unfold bkS; rw [if_neg (by omega)])⟩
  · skip
    have hq2x := Jvm.Kit.i64_of_i32 p0
    have hq2l : (0 : Int64).toInt = 0 := (by decide)
    have hq2h : (2 : Int64).toInt = 2 := (by decide)
    obtain ⟨n3, hn3a, hn3b, en3⟩ := nI_ofInt (x := p0) (lo := 0) (hi := 2) (by omega) (by omega) (by decide)
    subst en3
    have tn3 := nI_toInt (n := n3) (by omega)
    refine g_if_ne X dX8_back_9 (tgt := 15) (by decide) (fun _ => ?_) (fun q => absurd q (by decide))
    refine g_aload_n X dX8_back_15 rfl (j := 0) rfl ?_
    refine i_get X F 100 rfl rfl fk_X8_16 dX8_back_16 rfl ?_
    refine g_iload_n X dX8_back_19 rfl (j := 1) rfl ?_
    obtain ⟨o4, eo4⟩ : ∃ z, C0 103 n3 = z := ⟨_, rfl⟩
    refine i_zald X F 103 rfl rfl dX8_back_20 (vp_in_nI (by omega) (by decide)) (v := o4) (by rw [nI_clamp (by omega), (K 103 (by decide)).1]; exact eo4) ?_
    refine g_if_ne X dX8_back_21 (tgt := 27) (by decide) (fun q5 => ?_) (fun q5 => ?_)
    · skip
      refine g_iconst X dX8_back_27 (v := 0) (by decide) ?_
      refine g_istore_n X dX8_back_28 rfl (by decide) (lv2 := [(2, .int 0), (0, .ref (a 100)), (1, .int (nI n3))]) rfl ?_
      refine g_lv [0, 1, 2] (lv2 := [(2, .int 0), (0, .ref (a 100)), (1, .int (nI n3))]) rfl ?_
      refine i_loop (mods := [101]) (fun x : Nat => 102 - x) (fun x => [(2, .int (nI (x))), (0, .ref (a 100)), (1, .int (nI n3))]) (fun x C => 0 ≤ x ∧ x ≤ 102) (fun x L M C D F I K hP ih29 => ?_) ((0) : Nat) F I K ⟨by show _ ≤ _; omega, by show _ ≤ _; omega⟩
      obtain ⟨i29_2, rfl⟩ : ∃ z, z = x := ⟨_, rfl⟩
      obtain ⟨hi29_2a, hi29_2b⟩ := hP
      refine g_lv [0, 1, 2] (lv2 := [(2, .int (nI i29_2)), (0, .ref (a 100)), (1, .int (nI n3))]) rfl ?_
      refine g_iload_n X dX8_back_29 rfl (j := 0) rfl ?_
      refine g_bipush X dX8_back_30 (v := 102) (by decide) ?_
      refine g_icmp_ge X dX8_back_32 (tgt := 58) (by decide) (fun q6 => ?_) (fun q6 => ?_)
      · skip
        have q6 : 102 ≤ i29_2 := (nI_leI (a := 102) (b := i29_2) (by omega) (by omega)).mp q6
        refine g_iconst X dX8_back_58 (v := 0) (by decide) ?_
        exact g_iret X hrt dX8_back_59 (by decide) (by decide) ⟨C, D, F, I, K, (bk_t (c := n3) (by omega) (decide_eq_true (fun h => q5 (eo4.symm.trans h))))⟩
      · skip
        have q6 : ¬ 102 ≤ i29_2 := fun z => q6 ((nI_leI (a := 102) (b := i29_2) (by omega) (by omega)).mpr z)
        refine g_aload_n X dX8_back_35 rfl (j := 1) rfl ?_
        refine i_get X F 100 rfl rfl fk_X8_9 dX8_back_36 rfl ?_
        refine g_iload_n X dX8_back_39 rfl (j := 0) rfl ?_
        refine g_aload_n X dX8_back_40 rfl (j := 1) rfl ?_
        refine i_get X F 100 rfl rfl fk_X8_13 dX8_back_41 rfl ?_
        refine g_bipush X dX8_back_44 (v := 102) (by decide) ?_
        refine g_iload_n X dX8_back_46 rfl (j := 2) rfl ?_
        refine g_imul X dX8_back_47 ?_
        refine Go.top (v := .int (nI (102 * n3))) (congrArg Value.int (pk_mul 102 n3)) ?_
        refine g_iload_n X dX8_back_48 rfl (j := 0) rfl ?_
        refine g_iadd X dX8_back_49 ?_
        refine Go.top (v := .int (nI ((102 * n3) + i29_2))) (congrArg Value.int (nI_add (102 * n3) i29_2)) ?_
        obtain ⟨o7, eo7⟩ : ∃ z, C 102 ((102 * n3) + i29_2) = z := ⟨_, rfl⟩
        have oko7 : okw (((102 * n3) + i29_2) % 102) o7 := by have y := (show okw (((102 * n3) + i29_2) % 102) (C 102 ((102 * n3) + i29_2)) from I 102 ((102 * n3) + i29_2)); rw [eo7] at y; exact y
        refine i_iald X F 102 rfl rfl dX8_back_50 (vp_in_nI (by omega) (by decide)) (v := o7) (by rw [nI_clamp (by omega)]; exact eo7) ?_
        refine i_iast X F I 101 rfl (fun _ => rfl) dX8_back_51 (vp_in_nI (by omega) (by decide)) (by rw [nI_clamp (by omega)]; show okw (i29_2) o7; have y := oko7; rw [show ((102 * n3) + i29_2) % 102 = i29_2 by omega] at y; exact y) (fun M C F I K1 hC => ?_)
        have K := K.step K1 (by decide)
        refine g_iinc X dX8_back_52 (j := 0) rfl (v := nI (i29_2 + 1)) (nI_1 i29_2) (by decide) (lv2 := [(2, .int (nI (i29_2 + 1))), (0, .ref (a 100)), (1, .int (nI n3))]) rfl ?_
        refine g_goto X dX8_back_55 (tgt := 29) (by decide) ?_
        refine g_lv [0, 1, 2] (lv2 := [(2, .int (nI (i29_2 + 1))), (0, .ref (a 100)), (1, .int (nI n3))]) rfl ?_
        exact ih29 ((i29_2 + 1)) L M C D F I K ⟨by omega, by omega⟩ (by show _ < _; omega)
    · skip
      subst q5
      refine g_bipush X dX8_back_24 (v := -6) (by decide) ?_
      exact g_iret X hrt dX8_back_26 (by decide) (by decide) ⟨C, D, F, I, K, (bk_f (c := n3) (by omega) (decide_eq_false (fun h => h eo4)))⟩
set_option maxHeartbeats 4000000 in
set_option maxRecDepth 100000 in
theorem s_X8_row_x (l : Launch) (G : va_G) {cy : Nat → ClassId} {L : List Nat} {M : Nat → va_E} {a : Nat → Nat} {act : Nat → Bool} {C0 : Nat → Nat → Int32} {D0 : Nat → Nat → Int64} {R : Nat → Nat → Option Nat} (F : WI L M a act (ent cy a C0 D0 R)) (I : Inv C0) (p0 : Int32) (p1 : Int32) (p2 : Int32)  : MI l G cy yX8_row cX8_row 5 (some .int) 2 0 0 [.ref (a 100), .int p0, .int p1, .int p2] L M (fun r L2 M2 => ∃ C2 D2, WI L2 M2 a act (ent cy a C2 D2 R) ∧ Inv C2 ∧ Kp [137, 138, 139] C0 D0 C2 D2 ∧ r = sp_row p0 p1 p2 ∧ ((r = 0 ∧ ∃ n : Nat, n < 4 ∧ p0 = nI n ∧ 0 ≤ p2.toInt ∧ C2 137 = upd (C0 137) n p2 ∧ C2 138 = upd (C0 138) n p1) ∨ (¬ r = 0 ∧ C2 137 = C0 137 ∧ C2 138 = C0 138))) := by
  refine MI.of (own := RX8) rfl (by decide) (Nat.le_of_ble_eq_true rfl) ?_
  intro p e s m below meth c A X hrt hnm
  obtain ⟨C, D, hC0, hD0, F, I, K⟩ : ∃ C D, C = C0 ∧ D = D0 ∧ WI L M a act (ent cy a C D R) ∧ Inv C ∧ Kp [137, 138, 139] C0 D0 C D := ⟨C0, D0, rfl, rfl, F, I, Kp.rf⟩
  have o137 : C 137 = C0 137 := by rw [hC0]
  have o138 : C 138 = C0 138 := by rw [hC0]
  refine g_iload_n X dX8_row_0 rfl (j := 1) rfl ?_
  refine g_callSI X (s_X8_isSlot l G F I p0 ) lk_X8_394 rfl rfl dX8_row_1 (Nat.le_of_ble_eq_true rfl) ⟨by decide, by decide⟩ ⟨by decide, by decide⟩ (fun r1 L M hp => ?_)
  obtain ⟨C, D, F, I, K1, hr⟩ := hp
  have K := K.step K1 (by decide)
  have o137 : C 137 = C0 137 := by rw [(K1 137 (by decide)).1]; exact o137
  have o138 : C 138 = C0 138 := by rw [(K1 138 (by decide)).1]; exact o138
  rcases hr with ⟨rfl, hsl3⟩ | ⟨rfl, n2, hn2, en2⟩
  · skip
    refine g_if_eq X dX8_row_4 (tgt := 25) (by decide) (fun _ => ?_) (fun q => absurd (by decide) q)
    refine g_bipush X dX8_row_25 (v := -2) (by decide) ?_
    exact g_iret X hrt dX8_row_27 (by decide) (by decide) ⟨C, D, F, I, K, (row_o (by have z := not4 hsl3; omega)), Or.inr ⟨by decide, o137, o138⟩⟩
  · skip
    subst en2
    have tn2 := nI_toInt (n := n2) (by omega)
    refine g_if_eq X dX8_row_4 (tgt := 25) (by decide) (fun q => absurd q (by decide)) (fun _ => ?_)
    refine g_iload_n X dX8_row_7 rfl (j := 2) rfl ?_
    refine g_i2l X dX8_row_8 rfl ?_
    refine g_lconst X dX8_row_9 (v := 0) (by decide) ?_
    refine g_ldc2 X (v := 3) wd861 dX8_row_10 ?_
    refine g_callSI X (s_X8_in l G F I ((Int32.toInt64 p1)) (0 : Int64) (3 : Int64) ) lk_X8_94 rfl rfl dX8_row_13 (Nat.le_of_ble_eq_true rfl) ⟨by decide, by decide⟩ ⟨by decide, by decide⟩ (fun r4 L M hp => ?_)
    obtain ⟨C, D, F, I, K1, hr⟩ := hp
    have K := K.step K1 (by decide)
    have o137 : C 137 = C0 137 := by rw [(K1 137 (by decide)).1]; exact o137
    have o138 : C 138 = C0 138 := by rw [(K1 138 (by decide)).1]; exact o138
    rcases hr with ⟨rfl, hq5⟩ | ⟨rfl, hq5⟩
    · skip
      have hq5x := Jvm.Kit.i64_of_i32 p1
      have hq5l : (0 : Int64).toInt = 0 := (by decide)
      have hq5h : (3 : Int64).toInt = 3 := (by decide)
      refine g_if_eq X dX8_row_16 (tgt := 25) (by decide) (fun _ => ?_) (fun q => absurd (by decide) q)
      refine g_bipush X dX8_row_25 (v := -2) (by decide) ?_
      exact g_iret X hrt dX8_row_27 (by decide) (by decide) ⟨C, D, F, I, K, (row_o (by omega)), Or.inr ⟨by decide, o137, o138⟩⟩
    · skip
      have hq5x := Jvm.Kit.i64_of_i32 p1
      have hq5l : (0 : Int64).toInt = 0 := (by decide)
      have hq5h : (3 : Int64).toInt = 3 := (by decide)
      obtain ⟨n6, hn6a, hn6b, en6⟩ := nI_ofInt (x := p1) (lo := 0) (hi := 3) (by omega) (by omega) (by decide)
      subst en6
      have tn6 := nI_toInt (n := n6) (by omega)
      refine g_if_eq X dX8_row_16 (tgt := 25) (by decide) (fun q => absurd q (by decide)) (fun _ => ?_)
      refine g_iload_n X dX8_row_19 rfl (j := 3) rfl ?_
      refine g_bipush X dX8_row_20 (v := 60) (by decide) ?_
      refine g_icmp_le X dX8_row_22 (tgt := 28) (by decide) (fun q7 => ?_) (fun q7 => ?_)
      · skip
        have q7t : p2.toInt ≤ (60 : Int32).toInt := Int32.le_iff_toInt_le.mp q7
        have q7k : (60 : Int32).toInt = 60 := (by decide)
        have q7b := Int32.toInt_lt p2
        refine g_iload_n X dX8_row_28 rfl (j := 3) rfl ?_
        refine g_if_ge X dX8_row_29 (tgt := 35) (by decide) (fun q8 => ?_) (fun q8 => ?_)
        · skip
          have q8t : (0 : Int32).toInt ≤ p2.toInt := Int32.le_iff_toInt_le.mp q8
          have q8k : (0 : Int32).toInt = 0 := (by decide)
          have q8b := Int32.toInt_lt p2
          obtain ⟨n9, hn9, rfl⟩ := nI_of (x := p2) (fun z => by have z2 := Int32.lt_iff_toInt_lt.mp z; have z3 : (0 : Int32).toInt = 0 := (by decide); omega)
          rw [nI_toInt (by omega)] at q8t
          have tn9 := nI_toInt (n := n9) (by omega)
          refine g_aload_n X dX8_row_35 rfl (j := 0) rfl ?_
          refine i_get X F 100 rfl rfl fk_X8_76 dX8_row_36 rfl ?_
          refine g_iload_n X dX8_row_39 rfl (j := 1) rfl ?_
          refine g_iload_n X dX8_row_40 rfl (j := 3) rfl ?_
          refine i_iast X F I 137 rfl (fun _ => rfl) dX8_row_41 (vp_in_nI (by omega) (by decide)) (rg_of (n := n9) (by omega) (by omega) (by omega)) (fun M C F I K1 hC => ?_)
          have K := K.step K1 (by decide)
          have w137 : C 137 = upd (C0 137) (n2) (nI n9) := by rw [hC, o137]; rw [nI_clamp (by omega)]
          have o138 : C 138 = C0 138 := by rw [(K1 138 (by decide)).1]; exact o138
          refine g_aload_n X dX8_row_42 rfl (j := 0) rfl ?_
          refine i_get X F 100 rfl rfl fk_X8_79 dX8_row_43 rfl ?_
          refine g_iload_n X dX8_row_46 rfl (j := 1) rfl ?_
          refine g_iload_n X dX8_row_47 rfl (j := 2) rfl ?_
          refine i_iast X F I 138 rfl (fun _ => rfl) dX8_row_48 (vp_in_nI (by omega) (by decide)) trivial (fun M C F I K1 hC => ?_)
          have K := K.step K1 (by decide)
          have w138 : C 138 = upd (C0 138) (n2) (nI n6) := by rw [hC, o138]; rw [nI_clamp (by omega)]
          have w137 : C 137 = upd (C0 137) (n2) (nI n9) := by rw [(K1 137 (by decide)).1]; exact w137
          refine g_iconst X dX8_row_49 (v := 0) (by decide) ?_
          refine g_istore X dX8_row_50 (by decide) (lv2 := [(4, .int 0), (0, .ref (a 100)), (1, .int (nI n2)), (2, .int (nI n6)), (3, .int (nI n9))]) rfl ?_
          refine g_lv [0, 1, 2, 3, 4] (lv2 := [(4, .int 0), (0, .ref (a 100)), (1, .int (nI n2)), (2, .int (nI n6)), (3, .int (nI n9))]) rfl ?_
          refine i_loop (mods := [137, 138, 139]) (fun x : Nat => 60 - x) (fun x => [(4, .int (nI (x))), (0, .ref (a 100)), (1, .int (nI n2)), (2, .int (nI n6)), (3, .int (nI n9))]) (fun x C => 0 ≤ x ∧ x ≤ 60 ∧ (C 137 = upd (C0 137) (n2) (nI n9)) ∧ (C 138 = upd (C0 138) (n2) (nI n6))) (fun x L M C D F I K hP ih52 => ?_) ((0) : Nat) F I K ⟨by show _ ≤ _; omega, by show _ ≤ _; omega, w137, w138⟩
          obtain ⟨i52_4, rfl⟩ : ∃ z, z = x := ⟨_, rfl⟩
          obtain ⟨hi52_4a, hi52_4b, w137, w138⟩ := hP
          refine g_lv [0, 1, 2, 3, 4] (lv2 := [(4, .int (nI i52_4)), (0, .ref (a 100)), (1, .int (nI n2)), (2, .int (nI n6)), (3, .int (nI n9))]) rfl ?_
          refine g_iload X dX8_row_52 (j := 0) rfl ?_
          refine g_bipush X dX8_row_54 (v := 60) (by decide) ?_
          refine g_icmp_ge X dX8_row_56 (tgt := 78) (by decide) (fun q10 => ?_) (fun q10 => ?_)
          · skip
            have q10 : 60 ≤ i52_4 := (nI_leI (a := 60) (b := i52_4) (by omega) (by omega)).mp q10
            refine g_iconst X dX8_row_78 (v := 0) (by decide) ?_
            exact g_iret X hrt dX8_row_79 (by decide) (by decide) ⟨C, D, F, I, K, (row_k (by omega)), Or.inl ⟨rfl, n2, by omega, rfl, by omega, w137, w138⟩⟩
          · skip
            have q10 : ¬ 60 ≤ i52_4 := fun z => q10 ((nI_leI (a := 60) (b := i52_4) (by omega) (by omega)).mpr z)
            refine g_aload_n X dX8_row_59 rfl (j := 1) rfl ?_
            refine i_get X F 100 rfl rfl fk_X8_82 dX8_row_60 rfl ?_
            refine g_bipush X dX8_row_63 (v := 60) (by decide) ?_
            refine g_iload_n X dX8_row_65 rfl (j := 2) rfl ?_
            refine g_imul X dX8_row_66 ?_
            refine Go.top (v := .int (nI (60 * n2))) (congrArg Value.int (pk_mul 60 n2)) ?_
            refine g_iload X dX8_row_67 (j := 0) rfl ?_
            refine g_iadd X dX8_row_69 ?_
            refine Go.top (v := .int (nI ((60 * n2) + i52_4))) (congrArg Value.int (nI_add (60 * n2) i52_4)) ?_
            refine g_lconst X dX8_row_70 (v := 0) (by decide) ?_
            refine i_last X F 139 rfl (fun _ => rfl) dX8_row_71 (vp_in_nI (by omega) (by decide)) (fun M D F K1 hC => ?_)
            have K := K.step K1 (by decide)
            have w137 : C 137 = upd (C0 137) (n2) (nI n9) := by rw [(K1 137 (by decide)).1]; exact w137
            have w138 : C 138 = upd (C0 138) (n2) (nI n6) := by rw [(K1 138 (by decide)).1]; exact w138
            refine g_iinc X dX8_row_72 (j := 0) rfl (v := nI (i52_4 + 1)) (nI_1 i52_4) (by decide) (lv2 := [(4, .int (nI (i52_4 + 1))), (0, .ref (a 100)), (1, .int (nI n2)), (2, .int (nI n6)), (3, .int (nI n9))]) rfl ?_
            refine g_goto X dX8_row_75 (tgt := 52) (by decide) ?_
            refine g_lv [0, 1, 2, 3, 4] (lv2 := [(4, .int (nI (i52_4 + 1))), (0, .ref (a 100)), (1, .int (nI n2)), (2, .int (nI n6)), (3, .int (nI n9))]) rfl ?_
            exact ih52 ((i52_4 + 1)) L M C D F I K ⟨by omega, by omega, w137, w138⟩ (by show _ < _; omega)
        · skip
          have q8t : ¬ (0 : Int32).toInt ≤ p2.toInt := fun z => q8 (Int32.le_iff_toInt_le.mpr z)
          have q8k : (0 : Int32).toInt = 0 := (by decide)
          have q8b := Int32.toInt_lt p2
          refine g_bipush X dX8_row_32 (v := -3) (by decide) ?_
          exact g_iret X hrt dX8_row_34 (by decide) (by decide) ⟨C, D, F, I, K, (row_n (by omega)), Or.inr ⟨by decide, o137, o138⟩⟩
      · skip
        have q7t : ¬ p2.toInt ≤ (60 : Int32).toInt := fun z => q7 (Int32.le_iff_toInt_le.mpr z)
        have q7k : (60 : Int32).toInt = 60 := (by decide)
        have q7b := Int32.toInt_lt p2
        obtain ⟨n11, hn11, rfl⟩ := nI_of (x := p2) (fun z => by have z2 := Int32.lt_iff_toInt_lt.mp z; have z3 : (0 : Int32).toInt = 0 := (by decide); omega)
        rw [nI_toInt (by omega)] at q7t
        have tn11 := nI_toInt (n := n11) (by omega)
        refine g_bipush X dX8_row_25 (v := -2) (by decide) ?_
        exact g_iret X hrt dX8_row_27 (by decide) (by decide) ⟨C, D, F, I, K, (row_o (by omega)), Or.inr ⟨by decide, o137, o138⟩⟩
set_option maxHeartbeats 4000000 in
set_option maxRecDepth 100000 in
theorem s_X8_write_x (l : Launch) (G : va_G) {cy : Nat → ClassId} {L : List Nat} {M : Nat → va_E} {a : Nat → Nat} {act : Nat → Bool} {C0 : Nat → Nat → Int32} {D0 : Nat → Nat → Int64} {R : Nat → Nat → Option Nat} (F : WI L M a act (ent cy a C0 D0 R)) (I : Inv C0) (p0 : Int32) (p1 : Int32) (p2 : Int64)  : MI l G cy yX8_write cX8_write 5 (some .int) 2 0 0 [.ref (a 100), .int p0, .int p1, .long p2] L M (fun r L2 M2 => ∃ C2 D2, WI L2 M2 a act (ent cy a C2 D2 R) ∧ Inv C2 ∧ Kp [139] C0 D0 C2 D2 ∧ r = wrS p0 p1 (acM (C0 137)) (C0 137)) := by
  refine MI.of (own := RX8) rfl (by decide) (Nat.le_of_ble_eq_true rfl) ?_
  intro p e s m below meth c A X hrt hnm
  obtain ⟨C, D, hC0, hD0, F, I, K⟩ : ∃ C D, C = C0 ∧ D = D0 ∧ WI L M a act (ent cy a C D R) ∧ Inv C ∧ Kp [139] C0 D0 C D := ⟨C0, D0, rfl, rfl, F, I, Kp.rf⟩
  refine g_iload_n X dX8_write_0 rfl (j := 1) rfl ?_
  refine g_callSI X (s_X8_isSlot l G F I p0 ) lk_X8_394 rfl rfl dX8_write_1 (Nat.le_of_ble_eq_true rfl) ⟨by decide, by decide⟩ ⟨by decide, by decide⟩ (fun r1 L M hp => ?_)
  obtain ⟨C, D, F, I, K1, hr⟩ := hp
  have K := K.step K1 (by decide)
  rcases hr with ⟨rfl, hsl3⟩ | ⟨rfl, n2, hn2, en2⟩
  · skip
    refine g_if_ne X dX8_write_4 (tgt := 10) (by decide) (fun q => absurd (by decide) q) (fun _ => ?_)
    refine g_bipush X dX8_write_7 (v := -2) (by decide) ?_
    exact g_iret X hrt dX8_write_9 (by decide) (by decide) ⟨C, D, F, I, K, (wr_out hsl3)⟩
  · skip
    subst en2
    have tn2 := nI_toInt (n := n2) (by omega)
    refine g_if_ne X dX8_write_4 (tgt := 10) (by decide) (fun _ => ?_) (fun q => absurd q (by decide))
    refine g_aload_n X dX8_write_10 rfl (j := 0) rfl ?_
    refine i_get X F 100 rfl rfl fk_X8_76 dX8_write_11 rfl ?_
    refine g_iload_n X dX8_write_14 rfl (j := 1) rfl ?_
    rcases rgm_nat (I 137 n2) with en4 | ⟨n4, hn4, en4⟩
    · skip
      refine i_iald X F 137 rfl rfl dX8_write_15 (vp_in_nI (by omega) (by decide)) (v := -1) (by rw [nI_clamp (by omega)]; exact en4) ?_
      have fn4 : C0 137 (n2) = -1 := (congrFun (K 137 (by decide)).1 (n2)).symm.trans en4
      refine g_iconst X dX8_write_16 (v := -1) (by decide) ?_
      refine g_icmp_ne X dX8_write_17 (tgt := 23) (by decide) (fun q => absurd (by decide) q) (fun _ => ?_)
      refine g_bipush X dX8_write_20 (v := -6) (by decide) ?_
      exact g_iret X hrt dX8_write_22 (by decide) (by decide) ⟨C, D, F, I, K, (wr_no (c := n2) (by omega) (acM_f fn4))⟩
    · skip
      refine i_iald X F 137 rfl rfl dX8_write_15 (vp_in_nI (by omega) (by decide)) (v := nI n4) (by rw [nI_clamp (by omega)]; exact en4) ?_
      have fn4 : C0 137 (n2) = nI n4 := (congrFun (K 137 (by decide)).1 (n2)).symm.trans en4
      refine g_iconst X dX8_write_16 (v := -1) (by decide) ?_
      refine g_icmp_ne X dX8_write_17 (tgt := 23) (by decide) (fun _ => ?_) (fun q => absurd q (nI_nm1 (by omega)))
      refine g_iload_n X dX8_write_23 rfl (j := 2) rfl ?_
      refine g_i2l X dX8_write_24 rfl ?_
      refine g_lconst X dX8_write_25 (v := 0) (by decide) ?_
      refine g_aload_n X dX8_write_26 rfl (j := 0) rfl ?_
      refine i_get X F 100 rfl rfl fk_X8_76 dX8_write_27 rfl ?_
      refine g_iload_n X dX8_write_30 rfl (j := 1) rfl ?_
      refine i_iald X F 137 rfl rfl dX8_write_31 (vp_in_nI (by omega) (by decide)) (v := nI n4) (by rw [nI_clamp (by omega)]; exact (congrFun (K 137 (by decide)).1 (n2)).trans fn4) ?_
      refine g_iconst X dX8_write_32 (v := 1) (by decide) ?_
      refine g_isub X dX8_write_33 ?_
      have hs6 := nI_m1 (n := n4) (by omega)
      refine g_i2l X dX8_write_34 rfl ?_
      refine g_callSI X (s_X8_in l G F I ((Int32.toInt64 p1)) (0 : Int64) ((Int32.toInt64 ((nI n4 - 1)))) ) lk_X8_94 rfl rfl dX8_write_35 (Nat.le_of_ble_eq_true rfl) ⟨by decide, by decide⟩ ⟨by decide, by decide⟩ (fun r7 L M hp => ?_)
      obtain ⟨C, D, F, I, K1, hr⟩ := hp
      have K := K.step K1 (by decide)
      rcases hr with ⟨rfl, hq8⟩ | ⟨rfl, hq8⟩
      · skip
        have hq8x := Jvm.Kit.i64_of_i32 p1
        have hq8l : (0 : Int64).toInt = 0 := (by decide)
        have hq8h := Jvm.Kit.i64_of_i32 ((nI n4 - 1))
        refine g_if_ne X dX8_write_38 (tgt := 44) (by decide) (fun q => absurd (by decide) q) (fun _ => ?_)
        refine g_bipush X dX8_write_41 (v := -7) (by decide) ?_
        exact g_iret X hrt dX8_write_43 (by decide) (by decide) ⟨C, D, F, I, K, (wr_b (c := n2) (by omega) (acM_t fn4 (by omega)) (by have tz := nI_toInt (n := n4) (by omega); show ¬ (0 ≤ _ ∧ _ < (C0 137 n2).toInt); rw [fn4]; omega))⟩
      · skip
        have hq8x := Jvm.Kit.i64_of_i32 p1
        have hq8l : (0 : Int64).toInt = 0 := (by decide)
        have hq8h := Jvm.Kit.i64_of_i32 ((nI n4 - 1))
        obtain ⟨n9, hn9a, hn9b, en9⟩ := nI_ofInt (x := p1) (lo := 0) (hi := 59) (by omega) (by omega) (by decide)
        subst en9
        have tn9 := nI_toInt (n := n9) (by omega)
        refine g_if_ne X dX8_write_38 (tgt := 44) (by decide) (fun _ => ?_) (fun q => absurd q (by decide))
        refine g_aload_n X dX8_write_44 rfl (j := 0) rfl ?_
        refine i_get X F 100 rfl rfl fk_X8_82 dX8_write_45 rfl ?_
        refine g_bipush X dX8_write_48 (v := 60) (by decide) ?_
        refine g_iload_n X dX8_write_50 rfl (j := 1) rfl ?_
        refine g_imul X dX8_write_51 ?_
        refine Go.top (v := .int (nI (60 * n2))) (congrArg Value.int (pk_mul 60 n2)) ?_
        refine g_iload_n X dX8_write_52 rfl (j := 2) rfl ?_
        refine g_iadd X dX8_write_53 ?_
        refine Go.top (v := .int (nI ((60 * n2) + n9))) (congrArg Value.int (nI_add (60 * n2) n9)) ?_
        refine g_lload_n X dX8_write_54 rfl (j := 3) rfl ?_
        refine g_aload_n X dX8_write_55 rfl (j := 0) rfl ?_
        refine i_get X F 100 rfl rfl fk_X8_79 dX8_write_56 rfl ?_
        refine g_iload_n X dX8_write_59 rfl (j := 1) rfl ?_
        refine i_iald X F 138 rfl rfl dX8_write_60 (vp_in_nI (by omega) (by decide)) rfl ?_
        refine Go.gen (fun o10 => ?_)
        refine g_callSJ X (s_X8_clipped l G F I p2 o10 ) lk_X8_498 rfl rfl dX8_write_61 (Nat.le_of_ble_eq_true rfl) ⟨by decide, by decide⟩ ⟨by decide, by decide⟩ (fun r11 L M hp => ?_)
        obtain ⟨C, D, F, I, K1, hr⟩ := hp
        have K := K.step K1 (by decide)
        refine i_last X F 139 rfl (fun _ => rfl) dX8_write_64 (vp_in_nI (by omega) (by decide)) (fun M D F K1 hC => ?_)
        have K := K.step K1 (by decide)
        refine g_iconst X dX8_write_65 (v := 0) (by decide) ?_
        exact g_iret X hrt dX8_write_66 (by decide) (by decide) ⟨C, D, F, I, K, (wr_k (c := n2) (by omega) (acM_t fn4 (by omega)) (by have tz := nI_toInt (n := n4) (by omega); show  (0 ≤ _ ∧ _ < (C0 137 n2).toInt); rw [fn4]; omega))⟩
set_option maxHeartbeats 4000000 in
set_option maxRecDepth 100000 in
theorem s_X8_paste_x (l : Launch) (G : va_G) {cy : Nat → ClassId} {L : List Nat} {M : Nat → va_E} {a : Nat → Nat} {act : Nat → Bool} {C0 : Nat → Nat → Int32} {D0 : Nat → Nat → Int64} {R : Nat → Nat → Option Nat} (F : WI L M a act (ent cy a C0 D0 R)) (I : Inv C0) (p0 : Int32) (p1 : Int32) (p2 : Int32) (p3 : Int32) (p4 : Int32)  : MI l G cy yX8_paste cX8_paste 7 (some .int) 2 0 0 [.ref (a 100), .int p0, .int p1, .int p2, .int p3, .int p4] L M (fun r L2 M2 => ∃ C2 D2, WI L2 M2 a act (ent cy a C2 D2 R) ∧ Inv C2 ∧ Kp [139, 140] C0 D0 C2 D2 ∧ r = paS p0 p1 p2 p3 p4 (acM (C0 137)) (C0 137) (C0 138)) := by
  refine MI.of (own := RX8) rfl (by decide) (Nat.le_of_ble_eq_true rfl) ?_
  intro p e s m below meth c A X hrt hnm
  obtain ⟨C, D, hC0, hD0, F, I, K⟩ : ∃ C D, C = C0 ∧ D = D0 ∧ WI L M a act (ent cy a C D R) ∧ Inv C ∧ Kp [139, 140] C0 D0 C D := ⟨C0, D0, rfl, rfl, F, I, Kp.rf⟩
  refine g_iload_n X dX8_paste_0 rfl (j := 1) rfl ?_
  refine g_callSI X (s_X8_isSlot l G F I p0 ) lk_X8_394 rfl rfl dX8_paste_1 (Nat.le_of_ble_eq_true rfl) ⟨by decide, by decide⟩ ⟨by decide, by decide⟩ (fun r1 L M hp => ?_)
  obtain ⟨C, D, F, I, K1, hr⟩ := hp
  have K := K.step K1 (by decide)
  rcases hr with ⟨rfl, hsl3⟩ | ⟨rfl, n2, hn2, en2⟩
  · skip
    refine g_if_eq X dX8_paste_4 (tgt := 14) (by decide) (fun _ => ?_) (fun q => absurd (by decide) q)
    refine g_bipush X dX8_paste_14 (v := -2) (by decide) ?_
    exact g_iret X hrt dX8_paste_16 (by decide) (by decide) ⟨C, D, F, I, K, (pa_out (Or.inl hsl3))⟩
  · skip
    subst en2
    have tn2 := nI_toInt (n := n2) (by omega)
    refine g_if_eq X dX8_paste_4 (tgt := 14) (by decide) (fun q => absurd q (by decide)) (fun _ => ?_)
    refine g_iload_n X dX8_paste_7 rfl (j := 3) rfl ?_
    refine g_callSI X (s_X8_isSlot l G F I p2 ) lk_X8_394 rfl rfl dX8_paste_8 (Nat.le_of_ble_eq_true rfl) ⟨by decide, by decide⟩ ⟨by decide, by decide⟩ (fun r4 L M hp => ?_)
    obtain ⟨C, D, F, I, K1, hr⟩ := hp
    have K := K.step K1 (by decide)
    rcases hr with ⟨rfl, hsl6⟩ | ⟨rfl, n5, hn5, en5⟩
    · skip
      refine g_if_ne X dX8_paste_11 (tgt := 17) (by decide) (fun q => absurd (by decide) q) (fun _ => ?_)
      refine g_bipush X dX8_paste_14 (v := -2) (by decide) ?_
      exact g_iret X hrt dX8_paste_16 (by decide) (by decide) ⟨C, D, F, I, K, (pa_out (Or.inr hsl6))⟩
    · skip
      subst en5
      have tn5 := nI_toInt (n := n5) (by omega)
      refine g_if_ne X dX8_paste_11 (tgt := 17) (by decide) (fun _ => ?_) (fun q => absurd q (by decide))
      refine g_aload_n X dX8_paste_17 rfl (j := 0) rfl ?_
      refine i_get X F 100 rfl rfl fk_X8_76 dX8_paste_18 rfl ?_
      refine g_iload_n X dX8_paste_21 rfl (j := 1) rfl ?_
      rcases rgm_nat (I 137 n2) with en7 | ⟨n7, hn7, en7⟩
      · skip
        refine i_iald X F 137 rfl rfl dX8_paste_22 (vp_in_nI (by omega) (by decide)) (v := -1) (by rw [nI_clamp (by omega)]; exact en7) ?_
        have fn7 : C0 137 (n2) = -1 := (congrFun (K 137 (by decide)).1 (n2)).symm.trans en7
        refine g_iconst X dX8_paste_23 (v := -1) (by decide) ?_
        refine g_icmp_eq X dX8_paste_24 (tgt := 37) (by decide) (fun _ => ?_) (fun q => absurd (by decide) q)
        refine g_bipush X dX8_paste_37 (v := -6) (by decide) ?_
        exact g_iret X hrt dX8_paste_39 (by decide) (by decide) ⟨C, D, F, I, K, (pa_no (c := n2) (d := n5) (by omega) (by omega) (Or.inl (acM_f fn7)))⟩
      · skip
        refine i_iald X F 137 rfl rfl dX8_paste_22 (vp_in_nI (by omega) (by decide)) (v := nI n7) (by rw [nI_clamp (by omega)]; exact en7) ?_
        have fn7 : C0 137 (n2) = nI n7 := (congrFun (K 137 (by decide)).1 (n2)).symm.trans en7
        refine g_iconst X dX8_paste_23 (v := -1) (by decide) ?_
        refine g_icmp_eq X dX8_paste_24 (tgt := 37) (by decide) (fun q => absurd q (nI_nm1 (by omega))) (fun _ => ?_)
        refine g_aload_n X dX8_paste_27 rfl (j := 0) rfl ?_
        refine i_get X F 100 rfl rfl fk_X8_76 dX8_paste_28 rfl ?_
        refine g_iload_n X dX8_paste_31 rfl (j := 3) rfl ?_
        rcases rgm_nat (I 137 n5) with en9 | ⟨n9, hn9, en9⟩
        · skip
          refine i_iald X F 137 rfl rfl dX8_paste_32 (vp_in_nI (by omega) (by decide)) (v := -1) (by rw [nI_clamp (by omega)]; exact en9) ?_
          have fn9 : C0 137 (n5) = -1 := (congrFun (K 137 (by decide)).1 (n5)).symm.trans en9
          refine g_iconst X dX8_paste_33 (v := -1) (by decide) ?_
          refine g_icmp_ne X dX8_paste_34 (tgt := 40) (by decide) (fun q => absurd (by decide) q) (fun _ => ?_)
          refine g_bipush X dX8_paste_37 (v := -6) (by decide) ?_
          exact g_iret X hrt dX8_paste_39 (by decide) (by decide) ⟨C, D, F, I, K, (pa_no (c := n2) (d := n5) (by omega) (by omega) (Or.inr (acM_f fn9)))⟩
        · skip
          refine i_iald X F 137 rfl rfl dX8_paste_32 (vp_in_nI (by omega) (by decide)) (v := nI n9) (by rw [nI_clamp (by omega)]; exact en9) ?_
          have fn9 : C0 137 (n5) = nI n9 := (congrFun (K 137 (by decide)).1 (n5)).symm.trans en9
          refine g_iconst X dX8_paste_33 (v := -1) (by decide) ?_
          refine g_icmp_ne X dX8_paste_34 (tgt := 40) (by decide) (fun _ => ?_) (fun q => absurd q (nI_nm1 (by omega)))
          refine g_aload_n X dX8_paste_40 rfl (j := 0) rfl ?_
          refine i_get X F 100 rfl rfl fk_X8_79 dX8_paste_41 rfl ?_
          refine g_iload_n X dX8_paste_44 rfl (j := 1) rfl ?_
          obtain ⟨o11, eo11⟩ : ∃ z, C0 138 n2 = z := ⟨_, rfl⟩
          refine i_iald X F 138 rfl rfl dX8_paste_45 (vp_in_nI (by omega) (by decide)) (v := o11) (by rw [nI_clamp (by omega), (K 138 (by decide)).1]; exact eo11) ?_
          refine g_aload_n X dX8_paste_46 rfl (j := 0) rfl ?_
          refine i_get X F 100 rfl rfl fk_X8_79 dX8_paste_47 rfl ?_
          refine g_iload_n X dX8_paste_50 rfl (j := 3) rfl ?_
          obtain ⟨o12, eo12⟩ : ∃ z, C0 138 n5 = z := ⟨_, rfl⟩
          refine i_iald X F 138 rfl rfl dX8_paste_51 (vp_in_nI (by omega) (by decide)) (v := o12) (by rw [nI_clamp (by omega), (K 138 (by decide)).1]; exact eo12) ?_
          refine g_icmp_eq X dX8_paste_52 (tgt := 58) (by decide) (fun q13 => ?_) (fun q13 => ?_)
          · skip
            refine g_iload_n X dX8_paste_58 rfl (j := 2) rfl ?_
            refine g_if_lt X dX8_paste_59 (tgt := 107) (by decide) (fun q14 => ?_) (fun q14 => ?_)
            · skip
              have q14t : p1.toInt < (0 : Int32).toInt := Int32.lt_iff_toInt_lt.mp q14
              have q14k : (0 : Int32).toInt = 0 := (by decide)
              have q14b := Int32.toInt_lt p1
              refine g_bipush X dX8_paste_107 (v := -7) (by decide) ?_
              exact g_iret X hrt dX8_paste_109 (by decide) (by decide) ⟨C, D, F, I, K, (pa_b (c := n2) (d := n5) (by omega) (by omega) (acM_t fn7 (by omega)) (acM_t fn9 (by omega)) (eo11.trans (q13.trans eo12.symm)) (by have tz1 := nI_toInt (n := n7) (by omega); have tz2 := nI_toInt (n := n9) (by omega); rw [fn7, fn9]; omega))⟩
            · skip
              have q14t : ¬ p1.toInt < (0 : Int32).toInt := fun z => q14 (Int32.lt_iff_toInt_lt.mpr z)
              have q14k : (0 : Int32).toInt = 0 := (by decide)
              have q14b := Int32.toInt_lt p1
              obtain ⟨n15, hn15, rfl⟩ := nI_of (x := p1) (fun z => by have z2 := Int32.lt_iff_toInt_lt.mp z; have z3 : (0 : Int32).toInt = 0 := (by decide); omega)
              rw [nI_toInt (by omega)] at q14t
              have tn15 := nI_toInt (n := n15) (by omega)
              refine g_iload X dX8_paste_62 (j := 4) rfl ?_
              refine g_if_lt X dX8_paste_64 (tgt := 107) (by decide) (fun q16 => ?_) (fun q16 => ?_)
              · skip
                have q16t : p3.toInt < (0 : Int32).toInt := Int32.lt_iff_toInt_lt.mp q16
                have q16k : (0 : Int32).toInt = 0 := (by decide)
                have q16b := Int32.toInt_lt p3
                refine g_bipush X dX8_paste_107 (v := -7) (by decide) ?_
                exact g_iret X hrt dX8_paste_109 (by decide) (by decide) ⟨C, D, F, I, K, (pa_b (c := n2) (d := n5) (by omega) (by omega) (acM_t fn7 (by omega)) (acM_t fn9 (by omega)) (eo11.trans (q13.trans eo12.symm)) (by have tz1 := nI_toInt (n := n7) (by omega); have tz2 := nI_toInt (n := n9) (by omega); rw [fn7, fn9]; omega))⟩
              · skip
                have q16t : ¬ p3.toInt < (0 : Int32).toInt := fun z => q16 (Int32.lt_iff_toInt_lt.mpr z)
                have q16k : (0 : Int32).toInt = 0 := (by decide)
                have q16b := Int32.toInt_lt p3
                obtain ⟨n17, hn17, rfl⟩ := nI_of (x := p3) (fun z => by have z2 := Int32.lt_iff_toInt_lt.mp z; have z3 : (0 : Int32).toInt = 0 := (by decide); omega)
                rw [nI_toInt (by omega)] at q16t
                have tn17 := nI_toInt (n := n17) (by omega)
                refine g_iload X dX8_paste_67 (j := 5) rfl ?_
                refine g_if_lt X dX8_paste_69 (tgt := 107) (by decide) (fun q18 => ?_) (fun q18 => ?_)
                · skip
                  have q18t : p4.toInt < (0 : Int32).toInt := Int32.lt_iff_toInt_lt.mp q18
                  have q18k : (0 : Int32).toInt = 0 := (by decide)
                  have q18b := Int32.toInt_lt p4
                  refine g_bipush X dX8_paste_107 (v := -7) (by decide) ?_
                  exact g_iret X hrt dX8_paste_109 (by decide) (by decide) ⟨C, D, F, I, K, (pa_b (c := n2) (d := n5) (by omega) (by omega) (acM_t fn7 (by omega)) (acM_t fn9 (by omega)) (eo11.trans (q13.trans eo12.symm)) (by have tz1 := nI_toInt (n := n7) (by omega); have tz2 := nI_toInt (n := n9) (by omega); rw [fn7, fn9]; omega))⟩
                · skip
                  have q18t : ¬ p4.toInt < (0 : Int32).toInt := fun z => q18 (Int32.lt_iff_toInt_lt.mpr z)
                  have q18k : (0 : Int32).toInt = 0 := (by decide)
                  have q18b := Int32.toInt_lt p4
                  obtain ⟨n19, hn19, rfl⟩ := nI_of (x := p4) (fun z => by have z2 := Int32.lt_iff_toInt_lt.mp z; have z3 : (0 : Int32).toInt = 0 := (by decide); omega)
                  rw [nI_toInt (by omega)] at q18t
                  have tn19 := nI_toInt (n := n19) (by omega)
                  refine g_iload_n X dX8_paste_72 rfl (j := 2) rfl ?_
                  refine g_i2l X dX8_paste_73 rfl ?_
                  refine g_iload X dX8_paste_74 (j := 5) rfl ?_
                  refine g_i2l X dX8_paste_76 rfl ?_
                  refine g_ladd X dX8_paste_77 ?_
                  have hadd77 := ladd_n (x := n15) (y := n19) (by omega) (by omega)
                  refine g_aload_n X dX8_paste_78 rfl (j := 0) rfl ?_
                  refine i_get X F 100 rfl rfl fk_X8_76 dX8_paste_79 rfl ?_
                  refine g_iload_n X dX8_paste_82 rfl (j := 1) rfl ?_
                  refine i_iald X F 137 rfl rfl dX8_paste_83 (vp_in_nI (by omega) (by decide)) (v := nI n7) (by rw [nI_clamp (by omega)]; exact (congrFun (K 137 (by decide)).1 (n2)).trans fn7) ?_
                  refine g_i2l X dX8_paste_84 rfl ?_
                  refine g_lcmp X dX8_paste_85 ?_
                  refine g_if_gt X dX8_paste_86 (tgt := 107) (by decide) (fun q20 => ?_) (fun q20 => ?_)
                  · skip
                    have q20t : ((Int32.toInt64 (nI n7))).toInt < (((nI n15).toInt64 + (nI n19).toInt64)).toInt := Int64.lt_iff_toInt_lt.mp ((lg_cmp_gt _ _).mp q20)
                    have q20wb := Jvm.Kit.i64_of_i32 (nI n7)
                    rw [nI_toInt (by omega)] at q20wb
                    refine g_bipush X dX8_paste_107 (v := -7) (by decide) ?_
                    exact g_iret X hrt dX8_paste_109 (by decide) (by decide) ⟨C, D, F, I, K, (pa_b (c := n2) (d := n5) (by omega) (by omega) (acM_t fn7 (by omega)) (acM_t fn9 (by omega)) (eo11.trans (q13.trans eo12.symm)) (by have tz1 := nI_toInt (n := n7) (by omega); have tz2 := nI_toInt (n := n9) (by omega); rw [fn7, fn9]; omega))⟩
                  · skip
                    have q20t : ¬ ((Int32.toInt64 (nI n7))).toInt < (((nI n15).toInt64 + (nI n19).toInt64)).toInt := fun z => q20 ((lg_cmp_gt _ _).mpr (Int64.lt_iff_toInt_lt.mpr z))
                    have q20wb := Jvm.Kit.i64_of_i32 (nI n7)
                    rw [nI_toInt (by omega)] at q20wb
                    refine g_iload X dX8_paste_89 (j := 4) rfl ?_
                    refine g_i2l X dX8_paste_91 rfl ?_
                    refine g_iload X dX8_paste_92 (j := 5) rfl ?_
                    refine g_i2l X dX8_paste_94 rfl ?_
                    refine g_ladd X dX8_paste_95 ?_
                    have hadd95 := ladd_n (x := n17) (y := n19) (by omega) (by omega)
                    refine g_aload_n X dX8_paste_96 rfl (j := 0) rfl ?_
                    refine i_get X F 100 rfl rfl fk_X8_76 dX8_paste_97 rfl ?_
                    refine g_iload_n X dX8_paste_100 rfl (j := 3) rfl ?_
                    refine i_iald X F 137 rfl rfl dX8_paste_101 (vp_in_nI (by omega) (by decide)) (v := nI n9) (by rw [nI_clamp (by omega)]; exact (congrFun (K 137 (by decide)).1 (n5)).trans fn9) ?_
                    refine g_i2l X dX8_paste_102 rfl ?_
                    refine g_lcmp X dX8_paste_103 ?_
                    refine g_if_le X dX8_paste_104 (tgt := 110) (by decide) (fun q21 => ?_) (fun q21 => ?_)
                    · skip
                      have q21t : (((nI n17).toInt64 + (nI n19).toInt64)).toInt ≤ ((Int32.toInt64 (nI n9))).toInt := Int64.le_iff_toInt_le.mp ((lg_cmp_le _ _).mp q21)
                      have q21wb := Jvm.Kit.i64_of_i32 (nI n9)
                      rw [nI_toInt (by omega)] at q21wb
                      refine g_iconst X dX8_paste_110 (v := 0) (by decide) ?_
                      refine g_istore X dX8_paste_111 (by decide) (lv2 := [(6, .int 0), (0, .ref (a 100)), (1, .int (nI n2)), (2, .int (nI n15)), (3, .int (nI n5)), (4, .int (nI n17)), (5, .int (nI n19))]) rfl ?_
                      refine g_lv [0, 1, 2, 3, 4, 5, 6] (lv2 := [(6, .int 0), (0, .ref (a 100)), (1, .int (nI n2)), (2, .int (nI n15)), (3, .int (nI n5)), (4, .int (nI n17)), (5, .int (nI n19))]) rfl ?_
                      refine i_loop (mods := [139, 140]) (fun x : Nat => 60 - x) (fun x => [(6, .int (nI (x))), (0, .ref (a 100)), (1, .int (nI n2)), (2, .int (nI n15)), (3, .int (nI n5)), (4, .int (nI n17)), (5, .int (nI n19))]) (fun x C => 0 ≤ x ∧ x ≤ 60) (fun x L M C D F I K hP ih113 => ?_) ((0) : Nat) F I K ⟨by show _ ≤ _; omega, by show _ ≤ _; omega⟩
                      obtain ⟨i113_6, rfl⟩ : ∃ z, z = x := ⟨_, rfl⟩
                      obtain ⟨hi113_6a, hi113_6b⟩ := hP
                      refine g_lv [0, 1, 2, 3, 4, 5, 6] (lv2 := [(6, .int (nI i113_6)), (0, .ref (a 100)), (1, .int (nI n2)), (2, .int (nI n15)), (3, .int (nI n5)), (4, .int (nI n17)), (5, .int (nI n19))]) rfl ?_
                      refine g_iload X dX8_paste_113 (j := 0) rfl ?_
                      refine g_iload X dX8_paste_115 (j := 6) rfl ?_
                      refine g_icmp_ge X dX8_paste_117 (tgt := 147) (by decide) (fun q22 => ?_) (fun q22 => ?_)
                      · skip
                        have q22 : n19 ≤ i113_6 := (nI_leI (a := n19) (b := i113_6) (by omega) (by omega)).mp q22
                        refine g_iconst X dX8_paste_147 (v := 0) (by decide) ?_
                        refine g_istore X dX8_paste_148 (by decide) (lv2 := [(6, .int 0), (0, .ref (a 100)), (1, .int (nI n2)), (2, .int (nI n15)), (3, .int (nI n5)), (4, .int (nI n17)), (5, .int (nI n19))]) rfl ?_
                        refine g_lv [0, 1, 2, 3, 4, 5, 6] (lv2 := [(6, .int 0), (0, .ref (a 100)), (1, .int (nI n2)), (2, .int (nI n15)), (3, .int (nI n5)), (4, .int (nI n17)), (5, .int (nI n19))]) rfl ?_
                        refine i_loop (mods := [139, 140]) (fun x : Nat => 60 - x) (fun x => [(6, .int (nI (x))), (0, .ref (a 100)), (1, .int (nI n2)), (2, .int (nI n15)), (3, .int (nI n5)), (4, .int (nI n17)), (5, .int (nI n19))]) (fun x C => 0 ≤ x ∧ x ≤ 60) (fun x L M C D F I K hP ih150 => ?_) ((0) : Nat) F I K ⟨by show _ ≤ _; omega, by show _ ≤ _; omega⟩
                        obtain ⟨i150_6, rfl⟩ : ∃ z, z = x := ⟨_, rfl⟩
                        obtain ⟨hi150_6a, hi150_6b⟩ := hP
                        refine g_lv [0, 1, 2, 3, 4, 5, 6] (lv2 := [(6, .int (nI i150_6)), (0, .ref (a 100)), (1, .int (nI n2)), (2, .int (nI n15)), (3, .int (nI n5)), (4, .int (nI n17)), (5, .int (nI n19))]) rfl ?_
                        refine g_iload X dX8_paste_150 (j := 0) rfl ?_
                        refine g_iload X dX8_paste_152 (j := 6) rfl ?_
                        refine g_icmp_ge X dX8_paste_154 (tgt := 185) (by decide) (fun q23 => ?_) (fun q23 => ?_)
                        · skip
                          have q23 : n19 ≤ i150_6 := (nI_leI (a := n19) (b := i150_6) (by omega) (by omega)).mp q23
                          refine g_iconst X dX8_paste_185 (v := 0) (by decide) ?_
                          exact g_iret X hrt dX8_paste_186 (by decide) (by decide) ⟨C, D, F, I, K, (pa_k (c := n2) (d := n5) (by omega) (by omega) (acM_t fn7 (by omega)) (acM_t fn9 (by omega)) (eo11.trans (q13.trans eo12.symm)) (by have tz1 := nI_toInt (n := n7) (by omega); have tz2 := nI_toInt (n := n9) (by omega); rw [fn7, fn9]; omega))⟩
                        · skip
                          have q23 : ¬ n19 ≤ i150_6 := fun z => q23 ((nI_leI (a := n19) (b := i150_6) (by omega) (by omega)).mpr z)
                          refine g_aload_n X dX8_paste_157 rfl (j := 1) rfl ?_
                          refine i_get X F 100 rfl rfl fk_X8_82 dX8_paste_158 rfl ?_
                          refine g_bipush X dX8_paste_161 (v := 60) (by decide) ?_
                          refine g_iload_n X dX8_paste_163 rfl (j := 4) rfl ?_
                          refine g_imul X dX8_paste_164 ?_
                          refine Go.top (v := .int (nI (60 * n5))) (congrArg Value.int (pk_mul 60 n5)) ?_
                          refine g_iload X dX8_paste_165 (j := 5) rfl ?_
                          refine g_iadd X dX8_paste_167 ?_
                          refine Go.top (v := .int (nI ((60 * n5) + n17))) (congrArg Value.int (nI_add (60 * n5) n17)) ?_
                          refine g_iload X dX8_paste_168 (j := 0) rfl ?_
                          refine g_iadd X dX8_paste_170 ?_
                          refine Go.top (v := .int (nI (((60 * n5) + n17) + i150_6))) (congrArg Value.int (nI_add ((60 * n5) + n17) i150_6)) ?_
                          refine g_aload_n X dX8_paste_171 rfl (j := 1) rfl ?_
                          refine i_get X F 100 rfl rfl fk_X8_86 dX8_paste_172 rfl ?_
                          refine g_iload X dX8_paste_175 (j := 0) rfl ?_
                          refine i_lald X F 140 rfl rfl dX8_paste_177 (vp_in_nI (by omega) (by decide)) rfl ?_
                          refine Go.genL (fun o24 => ?_)
                          refine i_last X F 139 rfl (fun _ => rfl) dX8_paste_178 (vp_in_nI (by omega) (by decide)) (fun M D F K1 hC => ?_)
                          have K := K.step K1 (by decide)
                          refine g_iinc X dX8_paste_179 (j := 0) rfl (v := nI (i150_6 + 1)) (nI_1 i150_6) (by decide) (lv2 := [(6, .int (nI (i150_6 + 1))), (0, .ref (a 100)), (1, .int (nI n2)), (2, .int (nI n15)), (3, .int (nI n5)), (4, .int (nI n17)), (5, .int (nI n19))]) rfl ?_
                          refine g_goto X dX8_paste_182 (tgt := 150) (by decide) ?_
                          refine g_lv [0, 1, 2, 3, 4, 5, 6] (lv2 := [(6, .int (nI (i150_6 + 1))), (0, .ref (a 100)), (1, .int (nI n2)), (2, .int (nI n15)), (3, .int (nI n5)), (4, .int (nI n17)), (5, .int (nI n19))]) rfl ?_
                          exact ih150 ((i150_6 + 1)) L M C D F I K ⟨by omega, by omega⟩ (by show _ < _; omega)
                      · skip
                        have q22 : ¬ n19 ≤ i113_6 := fun z => q22 ((nI_leI (a := n19) (b := i113_6) (by omega) (by omega)).mpr z)
                        refine g_aload_n X dX8_paste_120 rfl (j := 1) rfl ?_
                        refine i_get X F 100 rfl rfl fk_X8_86 dX8_paste_121 rfl ?_
                        refine g_iload X dX8_paste_124 (j := 0) rfl ?_
                        refine g_aload_n X dX8_paste_126 rfl (j := 1) rfl ?_
                        refine i_get X F 100 rfl rfl fk_X8_82 dX8_paste_127 rfl ?_
                        refine g_bipush X dX8_paste_130 (v := 60) (by decide) ?_
                        refine g_iload_n X dX8_paste_132 rfl (j := 2) rfl ?_
                        refine g_imul X dX8_paste_133 ?_
                        refine Go.top (v := .int (nI (60 * n2))) (congrArg Value.int (pk_mul 60 n2)) ?_
                        refine g_iload_n X dX8_paste_134 rfl (j := 3) rfl ?_
                        refine g_iadd X dX8_paste_135 ?_
                        refine Go.top (v := .int (nI ((60 * n2) + n15))) (congrArg Value.int (nI_add (60 * n2) n15)) ?_
                        refine g_iload X dX8_paste_136 (j := 0) rfl ?_
                        refine g_iadd X dX8_paste_138 ?_
                        refine Go.top (v := .int (nI (((60 * n2) + n15) + i113_6))) (congrArg Value.int (nI_add ((60 * n2) + n15) i113_6)) ?_
                        refine i_lald X F 139 rfl rfl dX8_paste_139 (vp_in_nI (by omega) (by decide)) rfl ?_
                        refine Go.genL (fun o25 => ?_)
                        refine i_last X F 140 rfl (fun _ => rfl) dX8_paste_140 (vp_in_nI (by omega) (by decide)) (fun M D F K1 hC => ?_)
                        have K := K.step K1 (by decide)
                        refine g_iinc X dX8_paste_141 (j := 0) rfl (v := nI (i113_6 + 1)) (nI_1 i113_6) (by decide) (lv2 := [(6, .int (nI (i113_6 + 1))), (0, .ref (a 100)), (1, .int (nI n2)), (2, .int (nI n15)), (3, .int (nI n5)), (4, .int (nI n17)), (5, .int (nI n19))]) rfl ?_
                        refine g_goto X dX8_paste_144 (tgt := 113) (by decide) ?_
                        refine g_lv [0, 1, 2, 3, 4, 5, 6] (lv2 := [(6, .int (nI (i113_6 + 1))), (0, .ref (a 100)), (1, .int (nI n2)), (2, .int (nI n15)), (3, .int (nI n5)), (4, .int (nI n17)), (5, .int (nI n19))]) rfl ?_
                        exact ih113 ((i113_6 + 1)) L M C D F I K ⟨by omega, by omega⟩ (by show _ < _; omega)
                    · skip
                      have q21t : ¬ (((nI n17).toInt64 + (nI n19).toInt64)).toInt ≤ ((Int32.toInt64 (nI n9))).toInt := fun z => q21 ((lg_cmp_le _ _).mpr (Int64.le_iff_toInt_le.mpr z))
                      have q21wb := Jvm.Kit.i64_of_i32 (nI n9)
                      rw [nI_toInt (by omega)] at q21wb
                      refine g_bipush X dX8_paste_107 (v := -7) (by decide) ?_
                      exact g_iret X hrt dX8_paste_109 (by decide) (by decide) ⟨C, D, F, I, K, (pa_b (c := n2) (d := n5) (by omega) (by omega) (acM_t fn7 (by omega)) (acM_t fn9 (by omega)) (eo11.trans (q13.trans eo12.symm)) (by have tz1 := nI_toInt (n := n7) (by omega); have tz2 := nI_toInt (n := n9) (by omega); rw [fn7, fn9]; omega))⟩
          · skip
            refine g_bipush X dX8_paste_55 (v := -8) (by decide) ?_
            exact g_iret X hrt dX8_paste_57 (by decide) (by decide) ⟨C, D, F, I, K, (pa_w (c := n2) (d := n5) (by omega) (by omega) (acM_t fn7 (by omega)) (acM_t fn9 (by omega)) (fun h => q13 (eo11.symm.trans (h.trans eo12))))⟩
set_option maxHeartbeats 4000000 in
set_option maxRecDepth 100000 in
theorem s_X7_image_x (l : Launch) (G : va_G) {cy : Nat → ClassId} {L : List Nat} {M : Nat → va_E} {a : Nat → Nat} {act : Nat → Bool} {C0 : Nat → Nat → Int32} {D0 : Nat → Nat → Int64} {R : Nat → Nat → Option Nat} (F : WI L M a act (ent cy a C0 D0 R)) (I : Inv C0) (HA : AB act) (HR : RA a act R) (hN : NowOk (C0 3) (C0 27) (C0 29)) (p0 : Int32) : MI l G cy yX7_image cX7_image 2 (some .int) 3 10 351 [.ref (a 0), .int p0] L M (fun r L2 M2 => ∃ (a2 : Nat → Nat) (act2 : Nat → Bool) (C2 : Nat → Nat → Int32) (D2 : Nat → Nat → Int64) (R2 : Nat → Nat → Option Nat), WI L2 M2 a2 act2 (ent cy a2 C2 D2 R2) ∧ Inv C2 ∧ AB act2 ∧ RA a2 act2 R2 ∧ (∀ k, baseact k = true → a2 k = a k) ∧ NowOk (C2 3) (C2 27) (C2 29) ∧ Kp [50, 51, 52, 53, 54, 55, 56, 57, 58, 59, 60, 61, 62, 63, 64, 65, 66, 67, 68, 69, 70, 71, 72, 73, 74, 75, 76, 77, 78, 79] C0 D0 C2 D2 ∧ r = imS p0 ∧ (∀ j, j < 3 → act2 (50 + 10 * j) = (act (50 + 10 * j) || decide (p0 = nI j))) ∧ ∀ j, j < 4 → act2 (80 + 2 * j) = act (80 + 2 * j)) := by
  refine MI.of (own := RX7) rfl (by decide) (Nat.le_of_ble_eq_true rfl) ?_
  intro p e s m below meth c A X hrt hnm
  obtain ⟨C, D, hC0, hD0, F, I, K⟩ : ∃ C D, C = C0 ∧ D = D0 ∧ WI L M a act (ent cy a C D R) ∧ Inv C ∧ Kp [50, 51, 52, 53, 54, 55, 56, 57, 58, 59, 60, 61, 62, 63, 64, 65, 66, 67, 68, 69, 70, 71, 72, 73, 74, 75, 76, 77, 78, 79] C0 D0 C D := ⟨C0, D0, rfl, rfl, F, I, Kp.rf⟩
  rw [← hC0] at hN
  have hst : ∀ k, baseact k = true → a k = a k := fun _ _ => rfl
  have hac0 : ∀ k, act k = act k := fun _ => rfl
  have o80 : C 80 = C0 80 := by rw [hC0]
  have o82 : C 82 = C0 82 := by rw [hC0]
  have o84 : C 84 = C0 84 := by rw [hC0]
  have o86 : C 86 = C0 86 := by rw [hC0]
  rcases sc3 p0 with hx1 | hx1 | rfl | rfl | rfl
  · skip
    have hno1 : p0 < 0 ∨ 3 ≤ p0 := Or.inl hx1
    refine g_iload_n X dX7_image_0 rfl (j := 1) rfl ?_
    refine g_if_lt X dX7_image_1 (tgt := 9) (by decide) (fun q2 => ?_) (fun q2 => ?_)
    · skip
      have q2t : p0.toInt < (0 : Int32).toInt := Int32.lt_iff_toInt_lt.mp q2
      have q2k : (0 : Int32).toInt = 0 := (by decide)
      have q2b := Int32.toInt_lt p0
      refine g_bipush X dX7_image_9 (v := -2) (by decide) ?_
      exact g_iret X hrt dX7_image_11 (by decide) (by decide) ⟨a, act, C, D, R, F, I, HA, HR, hst, hN, K, (im_out hno1), (fun j hj => by rw [out3' hno1 hj, Bool.or_false]), (fun j hj => rfl)⟩
    · skip
      have q2t : ¬ p0.toInt < (0 : Int32).toInt := fun z => q2 (Int32.lt_iff_toInt_lt.mpr z)
      have q2k : (0 : Int32).toInt = 0 := (by decide)
      have q2b := Int32.toInt_lt p0
      obtain ⟨n3, hn3, rfl⟩ := nI_of (x := p0) (fun z => by have z2 := Int32.lt_iff_toInt_lt.mp z; have z3 : (0 : Int32).toInt = 0 := (by decide); omega)
      rw [nI_toInt (by omega)] at q2t
      have tn3 := nI_toInt (n := n3) (by omega)
      refine g_iload_n X dX7_image_4 rfl (j := 1) rfl ?_
      refine g_iconst X dX7_image_5 (v := 3) (by decide) ?_
      refine g_icmp_lt X dX7_image_6 (tgt := 12) (by decide) (fun q4 => ?_) (fun q4 => ?_)
      · skip
        have q4 : n3 < 3 := (nI_ltI (a := n3) (b := 3) (by omega) (by omega)).mp q4
        exact absurd hno1 (no3 (by omega))
      · skip
        have q4 : ¬ n3 < 3 := fun z => q4 ((nI_ltI (a := n3) (b := 3) (by omega) (by omega)).mpr z)
        refine g_bipush X dX7_image_9 (v := -2) (by decide) ?_
        exact g_iret X hrt dX7_image_11 (by decide) (by decide) ⟨a, act, C, D, R, F, I, HA, HR, hst, hN, K, (im_out hno1), (fun j hj => by rw [out3' hno1 hj, Bool.or_false]), (fun j hj => rfl)⟩
  · skip
    have hno1 : p0 < 0 ∨ 3 ≤ p0 := Or.inr hx1
    refine g_iload_n X dX7_image_0 rfl (j := 1) rfl ?_
    refine g_if_lt X dX7_image_1 (tgt := 9) (by decide) (fun q5 => ?_) (fun q5 => ?_)
    · skip
      have q5t : p0.toInt < (0 : Int32).toInt := Int32.lt_iff_toInt_lt.mp q5
      have q5k : (0 : Int32).toInt = 0 := (by decide)
      have q5b := Int32.toInt_lt p0
      refine g_bipush X dX7_image_9 (v := -2) (by decide) ?_
      exact g_iret X hrt dX7_image_11 (by decide) (by decide) ⟨a, act, C, D, R, F, I, HA, HR, hst, hN, K, (im_out hno1), (fun j hj => by rw [out3' hno1 hj, Bool.or_false]), (fun j hj => rfl)⟩
    · skip
      have q5t : ¬ p0.toInt < (0 : Int32).toInt := fun z => q5 (Int32.lt_iff_toInt_lt.mpr z)
      have q5k : (0 : Int32).toInt = 0 := (by decide)
      have q5b := Int32.toInt_lt p0
      obtain ⟨n6, hn6, rfl⟩ := nI_of (x := p0) (fun z => by have z2 := Int32.lt_iff_toInt_lt.mp z; have z3 : (0 : Int32).toInt = 0 := (by decide); omega)
      rw [nI_toInt (by omega)] at q5t
      have tn6 := nI_toInt (n := n6) (by omega)
      refine g_iload_n X dX7_image_4 rfl (j := 1) rfl ?_
      refine g_iconst X dX7_image_5 (v := 3) (by decide) ?_
      refine g_icmp_lt X dX7_image_6 (tgt := 12) (by decide) (fun q7 => ?_) (fun q7 => ?_)
      · skip
        have q7 : n6 < 3 := (nI_ltI (a := n6) (b := 3) (by omega) (by omega)).mp q7
        exact absurd hno1 (no3 (by omega))
      · skip
        have q7 : ¬ n6 < 3 := fun z => q7 ((nI_ltI (a := n6) (b := 3) (by omega) (by omega)).mpr z)
        refine g_bipush X dX7_image_9 (v := -2) (by decide) ?_
        exact g_iret X hrt dX7_image_11 (by decide) (by decide) ⟨a, act, C, D, R, F, I, HA, HR, hst, hN, K, (im_out hno1), (fun j hj => by rw [out3' hno1 hj, Bool.or_false]), (fun j hj => rfl)⟩
  · skip
    refine g_iload_n X dX7_image_0 rfl (j := 1) rfl ?_
    refine g_if_lt X dX7_image_1 (tgt := 9) (by decide) (fun q => absurd q (by decide)) (fun _ => ?_)
    refine g_iload_n X dX7_image_4 rfl (j := 1) rfl ?_
    refine g_iconst X dX7_image_5 (v := 3) (by decide) ?_
    refine g_icmp_lt X dX7_image_6 (tgt := 12) (by decide) (fun _ => ?_) (fun q => absurd (by decide) q)
    refine g_aload_n X dX7_image_12 rfl (j := 0) rfl ?_
    refine i_get X F 0 rfl rfl fk_X7_26 dX7_image_13 rfl ?_
    refine g_iload_n X dX7_image_16 rfl (j := 1) rfl ?_
    rcases (Bool.eq_false_or_eq_true (act 50)).symm with hA50 | hA50
    · skip
      refine i_aald X F 23 rfl (t0 := 4) rfl rfl dX7_image_17 (vp_in_iff.mpr (by decide)) (v := .null) (by show va_rf (R 23 0) = _; rw [HR.2.1 0 (by decide)]; rw [if_neg (by rw [hA50]; decide)]; rfl) ?_
      refine g_ifnonnullN X dX7_image_18 ?_
      refine g_aload_n X dX7_image_21 rfl (j := 0) rfl ?_
      refine i_get X F 0 rfl rfl fk_X7_26 dX7_image_22 rfl ?_
      refine g_iload_n X dX7_image_25 rfl (j := 1) rfl ?_
      refine g_new X clX2 wd1061 wd1062 wd7 (fs := [.int 0, .int 0, .int 0, .int 0, .int 0, .int 0, .int 0, .int 0, .int 0, .null, .null, .null, .null, .null, .null, .null]) (by decide) (by decide) (by decide) dX7_image_26 (fun q hq => ?_)
      refine g_widen (k1 := 1) (k2 := 16) (by decide) (by decide) ?_
      refine g_dup X dX7_image_29 rfl ?_
      have FA := (FW.push (F.toFW ksA_act ksA_nd) hq (.inr (2, [.int 0, .int 0, .int 0, .int 0, .int 0, .int 0, .int 0, .int 0, .int 0, .null, .null, .null, .null, .null, .null, .null]))).swap
      refine g_callI X (c_X2_init_s2 l G (h := q) FA) lk_X7_18 rfl rfl dX7_image_30 (Nat.le_of_ble_eq_true rfl) ⟨by decide, by decide⟩ ⟨by decide, by decide⟩ (fun L M hp => ?_)
      refine g_widen (k1 := 10) (k2 := 351) (by decide) (by decide) ?_
      clear FA
      obtain ⟨z10, z11, z14, z15, z5, z6, z7, z8, z9, FB⟩ := hp
      have FC : FW L M (((q, .inr (2, [.int 0, .int 0, .int 0, .int 0, .int 0, .int 0, .int 0, .int 0, .int 0, .ref z5, .ref z6, .ref z7, .ref z8, .ref z9, .ref z10, .ref z11])) :: (z5, .inl (cy 1, 4, .inl (fun _ => 0))) :: (z6, .inl (cy 1, 7, .inl (fun _ => 0))) :: (z7, .inl (cy 1, 28, .inl (fun _ => 0))) :: (z8, .inl (cy 1, 7, .inl (fun _ => 0))) :: (z9, .inl (cy 1, 8, .inl (fun _ => 0))) :: (z10, .inl (cy 1, 8, .inl (fun _ => 0))) :: (z11, .inr (0, [.int 0, .ref z14, .ref z15])) :: (z14, .inl (cy 1, 30, .inl (fun _ => 0))) :: (z15, .inl (cy 1, 240, .inl (fun _ => 0))) :: []) ++ (ksA act).map fun k => (a k, ent cy a C D R k)) := FW.selR (x := (z15, .inl (cy 1, 240, .inl (fun _ => 0))) :: (z14, .inl (cy 1, 30, .inl (fun _ => 0))) :: (z11, .inr (0, [.int 0, .ref z14, .ref z15])) :: (z10, .inl (cy 1, 8, .inl (fun _ => 0))) :: (z9, .inl (cy 1, 8, .inl (fun _ => 0))) :: (z8, .inl (cy 1, 7, .inl (fun _ => 0))) :: (z7, .inl (cy 1, 28, .inl (fun _ => 0))) :: (z6, .inl (cy 1, 7, .inl (fun _ => 0))) :: (z5, .inl (cy 1, 4, .inl (fun _ => 0))) :: (q, .inr (2, [.int 0, .int 0, .int 0, .int 0, .int 0, .int 0, .int 0, .int 0, .int 0, .ref z5, .ref z6, .ref z7, .ref z8, .ref z9, .ref z10, .ref z11])) :: []) FB [9, 8, 7, 6, 5, 4, 3, 2, 1, 0] (by decide) rfl
      have hno : ∀ k, 50 ≤ k ∧ k < 50 + 10 → (baseact k || act k) = false := noact50 HR hA50
      obtain ⟨a, act, C, D, F, I, HA, hold, hnew⟩ := grow (cy := cy) (a := a) (act := act) (C := C) (D := D) (R := R) I HA 50 10 [q, z5, z6, z7, z8, z9, z10, z11, z14, z15] (by decide) (by decide) blk_50.1 blk_50.2.1 blk_50.2.2 hno rfl FC
      have hq0 : q = a 50 := (hnew 50 ⟨by decide, by decide⟩).2.symm
      have e0 := (hold 0 (by decide)).1
      have eA := (hold 23 (by decide)).1
      rw [← e0] at X
      rw [hq0, ← e0, ← eA]
      have hacN := fun (k : Nat) (hk : ¬ (50 ≤ k ∧ k < 50 + 10)) => ((hold k hk).2.1).trans (hac0 k)
      have o80 : C 80 = C0 80 := ((hold 80 (by decide)).2.2.1).trans o80
      have o82 : C 82 = C0 82 := ((hold 82 (by decide)).2.2.1).trans o82
      have o84 : C 84 = C0 84 := ((hold 84 (by decide)).2.2.1).trans o84
      have o86 : C 86 = C0 86 := ((hold 86 (by decide)).2.2.1).trans o86
      have hst := fun (k : Nat) (hk : baseact k = true) => ((hold k (fun z => by have y := hno k z; rw [hk] at y; cases y)).1).trans (hst k hk)
      have K : Kp [50, 51, 52, 53, 54, 55, 56, 57, 58, 59, 60, 61, 62, 63, 64, 65, 66, 67, 68, 69, 70, 71, 72, 73, 74, 75, 76, 77, 78, 79] C0 D0 C D := fun k hk => by
        have z : ¬ (50 ≤ k ∧ k < 50 + 10) := fun z => hk (by simp only [List.mem_cons, List.not_mem_nil, or_false]; omega)
        exact ⟨((hold k z).2.2.1).trans (K k hk).1, ((hold k z).2.2.2).trans (K k hk).2⟩
      have hN : NowOk (C 3) (C 27) (C 29) := by rw [(hold 3 (by decide)).2.2.1, (hold 27 (by decide)).2.2.1, (hold 29 (by decide)).2.2.1]; exact hN
      have act50 : (baseact 50 || act 50) = true := by rw [(hnew 50 ⟨by decide, by decide⟩).1]; rfl
      have act51 : (baseact 51 || act 51) = true := by rw [(hnew 51 ⟨by decide, by decide⟩).1]; rfl
      have act52 : (baseact 52 || act 52) = true := by rw [(hnew 52 ⟨by decide, by decide⟩).1]; rfl
      have act53 : (baseact 53 || act 53) = true := by rw [(hnew 53 ⟨by decide, by decide⟩).1]; rfl
      have act54 : (baseact 54 || act 54) = true := by rw [(hnew 54 ⟨by decide, by decide⟩).1]; rfl
      have act55 : (baseact 55 || act 55) = true := by rw [(hnew 55 ⟨by decide, by decide⟩).1]; rfl
      have act56 : (baseact 56 || act 56) = true := by rw [(hnew 56 ⟨by decide, by decide⟩).1]; rfl
      have act57 : (baseact 57 || act 57) = true := by rw [(hnew 57 ⟨by decide, by decide⟩).1]; rfl
      have act58 : (baseact 58 || act 58) = true := by rw [(hnew 58 ⟨by decide, by decide⟩).1]; rfl
      have act59 : (baseact 59 || act 59) = true := by rw [(hnew 59 ⟨by decide, by decide⟩).1]; rfl
      have hA50 : act 50 = true := (hnew 50 ⟨by decide, by decide⟩).1
      refine i_aast X F 23 rfl 50 act50 (t0 := 4) rfl (ci := 2) rfl (fun _ => rfl) rfl dX7_image_33 (vp_in_iff.mpr (by decide)) (fun M R F hR hRc => ?_)
      have HR : RA a act R := RA_23 HR 0 (by decide) (fun k hk => ⟨(hold k hk).1, (hold k hk).2.1⟩) (fun k hk => (hnew k hk).1) hR hRc
      clear hold hnew hRc hR FC FB hno e0 eA
      refine g_aload_n X dX7_image_34 rfl (j := 0) rfl ?_
      refine i_get X F 0 rfl rfl fk_X7_26 dX7_image_35 rfl ?_
      refine g_iload_n X dX7_image_38 rfl (j := 1) rfl ?_
      refine i_aald X F 23 rfl (t0 := 4) rfl rfl dX7_image_39 (vp_in_iff.mpr (by decide)) (v := .ref (a 50)) (by show va_rf (R 23 0) = _; rw [HR.2.1 0 (by decide)]; rw [if_pos hA50]; rfl) ?_
      refine g_aload_n X dX7_image_40 rfl (j := 0) rfl ?_
      refine i_get X F 0 rfl rfl fk_X7_19 dX7_image_41 rfl ?_
      refine g_callVV X (s_X2_copyFrom_i0 l G F I  act50 act51 act52 act53 act54 act55 act56 act57 act58 act59) lk_X7_87 (F.1 50 (act50)).2 (F.1 50 (act50)).1 rfl rfl dX7_image_44 (Nat.le_of_ble_eq_true rfl) ⟨by decide, by decide⟩ ⟨by decide, by decide⟩ (fun L M hp => ?_)
      obtain ⟨C, D, F, I, K1, hr⟩ := hp
      have K := K.step K1 (by decide)
      have hN : NowOk (C 3) (C 27) (C 29) := by rw [(K1 3 (by decide)).1, (K1 27 (by decide)).1, (K1 29 (by decide)).1]; exact hN
      have o80 : C 80 = C0 80 := by rw [(K1 80 (by decide)).1]; exact o80
      have o82 : C 82 = C0 82 := by rw [(K1 82 (by decide)).1]; exact o82
      have o84 : C 84 = C0 84 := by rw [(K1 84 (by decide)).1]; exact o84
      have o86 : C 86 = C0 86 := by rw [(K1 86 (by decide)).1]; exact o86
      refine g_iconst X dX7_image_47 (v := 0) (by decide) ?_
      exact g_iret X hrt dX7_image_48 (by decide) (by decide) ⟨a, act, C, D, R, F, I, HA, HR, hst, hN, K, (im_in (c := 0) (by decide)), (fun j hj => match j, hj with | 0, _ => (by rw [show decide ((0 : Int32) = nI 0) = true from rfl, Bool.or_true]; exact hA50) | 1, _ => (by rw [show decide ((0 : Int32) = nI 1) = false from rfl, Bool.or_false]; exact hacN 60 (by decide)) | 2, _ => (by rw [show decide ((0 : Int32) = nI 2) = false from rfl, Bool.or_false]; exact hacN 70 (by decide)) | j + 3, hj => absurd hj (by omega)), (fun j hj => hacN (80 + 2 * j) (by omega))⟩
    · skip
      have act50 : (baseact 50 || act 50) = true := by rw [hA50]; rfl
      have act51 : (baseact 51 || act 51) = true := by rw [((HR.2.2.2 0 (by decide) 1 (by decide)).trans hA50)]; rfl
      have act52 : (baseact 52 || act 52) = true := by rw [((HR.2.2.2 0 (by decide) 2 (by decide)).trans hA50)]; rfl
      have act53 : (baseact 53 || act 53) = true := by rw [((HR.2.2.2 0 (by decide) 3 (by decide)).trans hA50)]; rfl
      have act54 : (baseact 54 || act 54) = true := by rw [((HR.2.2.2 0 (by decide) 4 (by decide)).trans hA50)]; rfl
      have act55 : (baseact 55 || act 55) = true := by rw [((HR.2.2.2 0 (by decide) 5 (by decide)).trans hA50)]; rfl
      have act56 : (baseact 56 || act 56) = true := by rw [((HR.2.2.2 0 (by decide) 6 (by decide)).trans hA50)]; rfl
      have act57 : (baseact 57 || act 57) = true := by rw [((HR.2.2.2 0 (by decide) 7 (by decide)).trans hA50)]; rfl
      have act58 : (baseact 58 || act 58) = true := by rw [((HR.2.2.2 0 (by decide) 8 (by decide)).trans hA50)]; rfl
      have act59 : (baseact 59 || act 59) = true := by rw [((HR.2.2.2 0 (by decide) 9 (by decide)).trans hA50)]; rfl
      refine i_aald X F 23 rfl (t0 := 4) rfl rfl dX7_image_17 (vp_in_iff.mpr (by decide)) (v := .ref (a 50)) (by show va_rf (R 23 0) = _; rw [HR.2.1 0 (by decide)]; rw [if_pos hA50]; rfl) ?_
      refine g_ifnonnull X dX7_image_18 (tgt := 34) (by decide) ?_
      refine g_aload_n X dX7_image_34 rfl (j := 0) rfl ?_
      refine i_get X F 0 rfl rfl fk_X7_26 dX7_image_35 rfl ?_
      refine g_iload_n X dX7_image_38 rfl (j := 1) rfl ?_
      refine i_aald X F 23 rfl (t0 := 4) rfl rfl dX7_image_39 (vp_in_iff.mpr (by decide)) (v := .ref (a 50)) (by show va_rf (R 23 0) = _; rw [HR.2.1 0 (by decide)]; rw [if_pos hA50]; rfl) ?_
      refine g_aload_n X dX7_image_40 rfl (j := 0) rfl ?_
      refine i_get X F 0 rfl rfl fk_X7_19 dX7_image_41 rfl ?_
      refine g_callVV X (s_X2_copyFrom_i0 l G F I  act50 act51 act52 act53 act54 act55 act56 act57 act58 act59) lk_X7_87 (F.1 50 (act50)).2 (F.1 50 (act50)).1 rfl rfl dX7_image_44 (Nat.le_of_ble_eq_true rfl) ⟨by decide, by decide⟩ ⟨by decide, by decide⟩ (fun L M hp => ?_)
      obtain ⟨C, D, F, I, K1, hr⟩ := hp
      have K := K.step K1 (by decide)
      have hN : NowOk (C 3) (C 27) (C 29) := by rw [(K1 3 (by decide)).1, (K1 27 (by decide)).1, (K1 29 (by decide)).1]; exact hN
      have o80 : C 80 = C0 80 := by rw [(K1 80 (by decide)).1]; exact o80
      have o82 : C 82 = C0 82 := by rw [(K1 82 (by decide)).1]; exact o82
      have o84 : C 84 = C0 84 := by rw [(K1 84 (by decide)).1]; exact o84
      have o86 : C 86 = C0 86 := by rw [(K1 86 (by decide)).1]; exact o86
      refine g_iconst X dX7_image_47 (v := 0) (by decide) ?_
      exact g_iret X hrt dX7_image_48 (by decide) (by decide) ⟨a, act, C, D, R, F, I, HA, HR, hst, hN, K, (im_in (c := 0) (by decide)), (fun j hj => match j, hj with | 0, _ => (by rw [show decide ((0 : Int32) = nI 0) = true from rfl, Bool.or_true]; exact hA50) | 1, _ => (by rw [show decide ((0 : Int32) = nI 1) = false from rfl, Bool.or_false]) | 2, _ => (by rw [show decide ((0 : Int32) = nI 2) = false from rfl, Bool.or_false]) | j + 3, hj => absurd hj (by omega)), (fun j hj => rfl)⟩
  · skip
    refine g_iload_n X dX7_image_0 rfl (j := 1) rfl ?_
    refine g_if_lt X dX7_image_1 (tgt := 9) (by decide) (fun q => absurd q (by decide)) (fun _ => ?_)
    refine g_iload_n X dX7_image_4 rfl (j := 1) rfl ?_
    refine g_iconst X dX7_image_5 (v := 3) (by decide) ?_
    refine g_icmp_lt X dX7_image_6 (tgt := 12) (by decide) (fun _ => ?_) (fun q => absurd (by decide) q)
    refine g_aload_n X dX7_image_12 rfl (j := 0) rfl ?_
    refine i_get X F 0 rfl rfl fk_X7_26 dX7_image_13 rfl ?_
    refine g_iload_n X dX7_image_16 rfl (j := 1) rfl ?_
    rcases (Bool.eq_false_or_eq_true (act 60)).symm with hA60 | hA60
    · skip
      refine i_aald X F 23 rfl (t0 := 4) rfl rfl dX7_image_17 (vp_in_iff.mpr (by decide)) (v := .null) (by show va_rf (R 23 1) = _; rw [HR.2.1 1 (by decide)]; rw [if_neg (by rw [hA60]; decide)]; rfl) ?_
      refine g_ifnonnullN X dX7_image_18 ?_
      refine g_aload_n X dX7_image_21 rfl (j := 0) rfl ?_
      refine i_get X F 0 rfl rfl fk_X7_26 dX7_image_22 rfl ?_
      refine g_iload_n X dX7_image_25 rfl (j := 1) rfl ?_
      refine g_new X clX2 wd1061 wd1062 wd7 (fs := [.int 0, .int 0, .int 0, .int 0, .int 0, .int 0, .int 0, .int 0, .int 0, .null, .null, .null, .null, .null, .null, .null]) (by decide) (by decide) (by decide) dX7_image_26 (fun q hq => ?_)
      refine g_widen (k1 := 1) (k2 := 16) (by decide) (by decide) ?_
      refine g_dup X dX7_image_29 rfl ?_
      have FA := (FW.push (F.toFW ksA_act ksA_nd) hq (.inr (2, [.int 0, .int 0, .int 0, .int 0, .int 0, .int 0, .int 0, .int 0, .int 0, .null, .null, .null, .null, .null, .null, .null]))).swap
      refine g_callI X (c_X2_init_s2 l G (h := q) FA) lk_X7_18 rfl rfl dX7_image_30 (Nat.le_of_ble_eq_true rfl) ⟨by decide, by decide⟩ ⟨by decide, by decide⟩ (fun L M hp => ?_)
      refine g_widen (k1 := 10) (k2 := 351) (by decide) (by decide) ?_
      clear FA
      obtain ⟨z10, z11, z14, z15, z5, z6, z7, z8, z9, FB⟩ := hp
      have FC : FW L M (((q, .inr (2, [.int 0, .int 0, .int 0, .int 0, .int 0, .int 0, .int 0, .int 0, .int 0, .ref z5, .ref z6, .ref z7, .ref z8, .ref z9, .ref z10, .ref z11])) :: (z5, .inl (cy 1, 4, .inl (fun _ => 0))) :: (z6, .inl (cy 1, 7, .inl (fun _ => 0))) :: (z7, .inl (cy 1, 28, .inl (fun _ => 0))) :: (z8, .inl (cy 1, 7, .inl (fun _ => 0))) :: (z9, .inl (cy 1, 8, .inl (fun _ => 0))) :: (z10, .inl (cy 1, 8, .inl (fun _ => 0))) :: (z11, .inr (0, [.int 0, .ref z14, .ref z15])) :: (z14, .inl (cy 1, 30, .inl (fun _ => 0))) :: (z15, .inl (cy 1, 240, .inl (fun _ => 0))) :: []) ++ (ksA act).map fun k => (a k, ent cy a C D R k)) := FW.selR (x := (z15, .inl (cy 1, 240, .inl (fun _ => 0))) :: (z14, .inl (cy 1, 30, .inl (fun _ => 0))) :: (z11, .inr (0, [.int 0, .ref z14, .ref z15])) :: (z10, .inl (cy 1, 8, .inl (fun _ => 0))) :: (z9, .inl (cy 1, 8, .inl (fun _ => 0))) :: (z8, .inl (cy 1, 7, .inl (fun _ => 0))) :: (z7, .inl (cy 1, 28, .inl (fun _ => 0))) :: (z6, .inl (cy 1, 7, .inl (fun _ => 0))) :: (z5, .inl (cy 1, 4, .inl (fun _ => 0))) :: (q, .inr (2, [.int 0, .int 0, .int 0, .int 0, .int 0, .int 0, .int 0, .int 0, .int 0, .ref z5, .ref z6, .ref z7, .ref z8, .ref z9, .ref z10, .ref z11])) :: []) FB [9, 8, 7, 6, 5, 4, 3, 2, 1, 0] (by decide) rfl
      have hno : ∀ k, 60 ≤ k ∧ k < 60 + 10 → (baseact k || act k) = false := noact60 HR hA60
      obtain ⟨a, act, C, D, F, I, HA, hold, hnew⟩ := grow (cy := cy) (a := a) (act := act) (C := C) (D := D) (R := R) I HA 60 10 [q, z5, z6, z7, z8, z9, z10, z11, z14, z15] (by decide) (by decide) blk_60.1 blk_60.2.1 blk_60.2.2 hno rfl FC
      have hq0 : q = a 60 := (hnew 60 ⟨by decide, by decide⟩).2.symm
      have e0 := (hold 0 (by decide)).1
      have eA := (hold 23 (by decide)).1
      rw [← e0] at X
      rw [hq0, ← e0, ← eA]
      have hacN := fun (k : Nat) (hk : ¬ (60 ≤ k ∧ k < 60 + 10)) => ((hold k hk).2.1).trans (hac0 k)
      have o80 : C 80 = C0 80 := ((hold 80 (by decide)).2.2.1).trans o80
      have o82 : C 82 = C0 82 := ((hold 82 (by decide)).2.2.1).trans o82
      have o84 : C 84 = C0 84 := ((hold 84 (by decide)).2.2.1).trans o84
      have o86 : C 86 = C0 86 := ((hold 86 (by decide)).2.2.1).trans o86
      have hst := fun (k : Nat) (hk : baseact k = true) => ((hold k (fun z => by have y := hno k z; rw [hk] at y; cases y)).1).trans (hst k hk)
      have K : Kp [50, 51, 52, 53, 54, 55, 56, 57, 58, 59, 60, 61, 62, 63, 64, 65, 66, 67, 68, 69, 70, 71, 72, 73, 74, 75, 76, 77, 78, 79] C0 D0 C D := fun k hk => by
        have z : ¬ (60 ≤ k ∧ k < 60 + 10) := fun z => hk (by simp only [List.mem_cons, List.not_mem_nil, or_false]; omega)
        exact ⟨((hold k z).2.2.1).trans (K k hk).1, ((hold k z).2.2.2).trans (K k hk).2⟩
      have hN : NowOk (C 3) (C 27) (C 29) := by rw [(hold 3 (by decide)).2.2.1, (hold 27 (by decide)).2.2.1, (hold 29 (by decide)).2.2.1]; exact hN
      have act60 : (baseact 60 || act 60) = true := by rw [(hnew 60 ⟨by decide, by decide⟩).1]; rfl
      have act61 : (baseact 61 || act 61) = true := by rw [(hnew 61 ⟨by decide, by decide⟩).1]; rfl
      have act62 : (baseact 62 || act 62) = true := by rw [(hnew 62 ⟨by decide, by decide⟩).1]; rfl
      have act63 : (baseact 63 || act 63) = true := by rw [(hnew 63 ⟨by decide, by decide⟩).1]; rfl
      have act64 : (baseact 64 || act 64) = true := by rw [(hnew 64 ⟨by decide, by decide⟩).1]; rfl
      have act65 : (baseact 65 || act 65) = true := by rw [(hnew 65 ⟨by decide, by decide⟩).1]; rfl
      have act66 : (baseact 66 || act 66) = true := by rw [(hnew 66 ⟨by decide, by decide⟩).1]; rfl
      have act67 : (baseact 67 || act 67) = true := by rw [(hnew 67 ⟨by decide, by decide⟩).1]; rfl
      have act68 : (baseact 68 || act 68) = true := by rw [(hnew 68 ⟨by decide, by decide⟩).1]; rfl
      have act69 : (baseact 69 || act 69) = true := by rw [(hnew 69 ⟨by decide, by decide⟩).1]; rfl
      have hA60 : act 60 = true := (hnew 60 ⟨by decide, by decide⟩).1
      refine i_aast X F 23 rfl 60 act60 (t0 := 4) rfl (ci := 2) rfl (fun _ => rfl) rfl dX7_image_33 (vp_in_iff.mpr (by decide)) (fun M R F hR hRc => ?_)
      have HR : RA a act R := RA_23 HR 1 (by decide) (fun k hk => ⟨(hold k hk).1, (hold k hk).2.1⟩) (fun k hk => (hnew k hk).1) hR hRc
      clear hold hnew hRc hR FC FB hno e0 eA
      refine g_aload_n X dX7_image_34 rfl (j := 0) rfl ?_
      refine i_get X F 0 rfl rfl fk_X7_26 dX7_image_35 rfl ?_
      refine g_iload_n X dX7_image_38 rfl (j := 1) rfl ?_
      refine i_aald X F 23 rfl (t0 := 4) rfl rfl dX7_image_39 (vp_in_iff.mpr (by decide)) (v := .ref (a 60)) (by show va_rf (R 23 1) = _; rw [HR.2.1 1 (by decide)]; rw [if_pos hA60]; rfl) ?_
      refine g_aload_n X dX7_image_40 rfl (j := 0) rfl ?_
      refine i_get X F 0 rfl rfl fk_X7_19 dX7_image_41 rfl ?_
      refine g_callVV X (s_X2_copyFrom_i1 l G F I  act60 act61 act62 act63 act64 act65 act66 act67 act68 act69) lk_X7_87 (F.1 60 (act60)).2 (F.1 60 (act60)).1 rfl rfl dX7_image_44 (Nat.le_of_ble_eq_true rfl) ⟨by decide, by decide⟩ ⟨by decide, by decide⟩ (fun L M hp => ?_)
      obtain ⟨C, D, F, I, K1, hr⟩ := hp
      have K := K.step K1 (by decide)
      have hN : NowOk (C 3) (C 27) (C 29) := by rw [(K1 3 (by decide)).1, (K1 27 (by decide)).1, (K1 29 (by decide)).1]; exact hN
      have o80 : C 80 = C0 80 := by rw [(K1 80 (by decide)).1]; exact o80
      have o82 : C 82 = C0 82 := by rw [(K1 82 (by decide)).1]; exact o82
      have o84 : C 84 = C0 84 := by rw [(K1 84 (by decide)).1]; exact o84
      have o86 : C 86 = C0 86 := by rw [(K1 86 (by decide)).1]; exact o86
      refine g_iconst X dX7_image_47 (v := 0) (by decide) ?_
      exact g_iret X hrt dX7_image_48 (by decide) (by decide) ⟨a, act, C, D, R, F, I, HA, HR, hst, hN, K, (im_in (c := 1) (by decide)), (fun j hj => match j, hj with | 0, _ => (by rw [show decide ((1 : Int32) = nI 0) = false from rfl, Bool.or_false]; exact hacN 50 (by decide)) | 1, _ => (by rw [show decide ((1 : Int32) = nI 1) = true from rfl, Bool.or_true]; exact hA60) | 2, _ => (by rw [show decide ((1 : Int32) = nI 2) = false from rfl, Bool.or_false]; exact hacN 70 (by decide)) | j + 3, hj => absurd hj (by omega)), (fun j hj => hacN (80 + 2 * j) (by omega))⟩
    · skip
      have act60 : (baseact 60 || act 60) = true := by rw [hA60]; rfl
      have act61 : (baseact 61 || act 61) = true := by rw [((HR.2.2.2 1 (by decide) 1 (by decide)).trans hA60)]; rfl
      have act62 : (baseact 62 || act 62) = true := by rw [((HR.2.2.2 1 (by decide) 2 (by decide)).trans hA60)]; rfl
      have act63 : (baseact 63 || act 63) = true := by rw [((HR.2.2.2 1 (by decide) 3 (by decide)).trans hA60)]; rfl
      have act64 : (baseact 64 || act 64) = true := by rw [((HR.2.2.2 1 (by decide) 4 (by decide)).trans hA60)]; rfl
      have act65 : (baseact 65 || act 65) = true := by rw [((HR.2.2.2 1 (by decide) 5 (by decide)).trans hA60)]; rfl
      have act66 : (baseact 66 || act 66) = true := by rw [((HR.2.2.2 1 (by decide) 6 (by decide)).trans hA60)]; rfl
      have act67 : (baseact 67 || act 67) = true := by rw [((HR.2.2.2 1 (by decide) 7 (by decide)).trans hA60)]; rfl
      have act68 : (baseact 68 || act 68) = true := by rw [((HR.2.2.2 1 (by decide) 8 (by decide)).trans hA60)]; rfl
      have act69 : (baseact 69 || act 69) = true := by rw [((HR.2.2.2 1 (by decide) 9 (by decide)).trans hA60)]; rfl
      refine i_aald X F 23 rfl (t0 := 4) rfl rfl dX7_image_17 (vp_in_iff.mpr (by decide)) (v := .ref (a 60)) (by show va_rf (R 23 1) = _; rw [HR.2.1 1 (by decide)]; rw [if_pos hA60]; rfl) ?_
      refine g_ifnonnull X dX7_image_18 (tgt := 34) (by decide) ?_
      refine g_aload_n X dX7_image_34 rfl (j := 0) rfl ?_
      refine i_get X F 0 rfl rfl fk_X7_26 dX7_image_35 rfl ?_
      refine g_iload_n X dX7_image_38 rfl (j := 1) rfl ?_
      refine i_aald X F 23 rfl (t0 := 4) rfl rfl dX7_image_39 (vp_in_iff.mpr (by decide)) (v := .ref (a 60)) (by show va_rf (R 23 1) = _; rw [HR.2.1 1 (by decide)]; rw [if_pos hA60]; rfl) ?_
      refine g_aload_n X dX7_image_40 rfl (j := 0) rfl ?_
      refine i_get X F 0 rfl rfl fk_X7_19 dX7_image_41 rfl ?_
      refine g_callVV X (s_X2_copyFrom_i1 l G F I  act60 act61 act62 act63 act64 act65 act66 act67 act68 act69) lk_X7_87 (F.1 60 (act60)).2 (F.1 60 (act60)).1 rfl rfl dX7_image_44 (Nat.le_of_ble_eq_true rfl) ⟨by decide, by decide⟩ ⟨by decide, by decide⟩ (fun L M hp => ?_)
      obtain ⟨C, D, F, I, K1, hr⟩ := hp
      have K := K.step K1 (by decide)
      have hN : NowOk (C 3) (C 27) (C 29) := by rw [(K1 3 (by decide)).1, (K1 27 (by decide)).1, (K1 29 (by decide)).1]; exact hN
      have o80 : C 80 = C0 80 := by rw [(K1 80 (by decide)).1]; exact o80
      have o82 : C 82 = C0 82 := by rw [(K1 82 (by decide)).1]; exact o82
      have o84 : C 84 = C0 84 := by rw [(K1 84 (by decide)).1]; exact o84
      have o86 : C 86 = C0 86 := by rw [(K1 86 (by decide)).1]; exact o86
      refine g_iconst X dX7_image_47 (v := 0) (by decide) ?_
      exact g_iret X hrt dX7_image_48 (by decide) (by decide) ⟨a, act, C, D, R, F, I, HA, HR, hst, hN, K, (im_in (c := 1) (by decide)), (fun j hj => match j, hj with | 0, _ => (by rw [show decide ((1 : Int32) = nI 0) = false from rfl, Bool.or_false]) | 1, _ => (by rw [show decide ((1 : Int32) = nI 1) = true from rfl, Bool.or_true]; exact hA60) | 2, _ => (by rw [show decide ((1 : Int32) = nI 2) = false from rfl, Bool.or_false]) | j + 3, hj => absurd hj (by omega)), (fun j hj => rfl)⟩
  · skip
    refine g_iload_n X dX7_image_0 rfl (j := 1) rfl ?_
    refine g_if_lt X dX7_image_1 (tgt := 9) (by decide) (fun q => absurd q (by decide)) (fun _ => ?_)
    refine g_iload_n X dX7_image_4 rfl (j := 1) rfl ?_
    refine g_iconst X dX7_image_5 (v := 3) (by decide) ?_
    refine g_icmp_lt X dX7_image_6 (tgt := 12) (by decide) (fun _ => ?_) (fun q => absurd (by decide) q)
    refine g_aload_n X dX7_image_12 rfl (j := 0) rfl ?_
    refine i_get X F 0 rfl rfl fk_X7_26 dX7_image_13 rfl ?_
    refine g_iload_n X dX7_image_16 rfl (j := 1) rfl ?_
    rcases (Bool.eq_false_or_eq_true (act 70)).symm with hA70 | hA70
    · skip
      refine i_aald X F 23 rfl (t0 := 4) rfl rfl dX7_image_17 (vp_in_iff.mpr (by decide)) (v := .null) (by show va_rf (R 23 2) = _; rw [HR.2.1 2 (by decide)]; rw [if_neg (by rw [hA70]; decide)]; rfl) ?_
      refine g_ifnonnullN X dX7_image_18 ?_
      refine g_aload_n X dX7_image_21 rfl (j := 0) rfl ?_
      refine i_get X F 0 rfl rfl fk_X7_26 dX7_image_22 rfl ?_
      refine g_iload_n X dX7_image_25 rfl (j := 1) rfl ?_
      refine g_new X clX2 wd1061 wd1062 wd7 (fs := [.int 0, .int 0, .int 0, .int 0, .int 0, .int 0, .int 0, .int 0, .int 0, .null, .null, .null, .null, .null, .null, .null]) (by decide) (by decide) (by decide) dX7_image_26 (fun q hq => ?_)
      refine g_widen (k1 := 1) (k2 := 16) (by decide) (by decide) ?_
      refine g_dup X dX7_image_29 rfl ?_
      have FA := (FW.push (F.toFW ksA_act ksA_nd) hq (.inr (2, [.int 0, .int 0, .int 0, .int 0, .int 0, .int 0, .int 0, .int 0, .int 0, .null, .null, .null, .null, .null, .null, .null]))).swap
      refine g_callI X (c_X2_init_s2 l G (h := q) FA) lk_X7_18 rfl rfl dX7_image_30 (Nat.le_of_ble_eq_true rfl) ⟨by decide, by decide⟩ ⟨by decide, by decide⟩ (fun L M hp => ?_)
      refine g_widen (k1 := 10) (k2 := 351) (by decide) (by decide) ?_
      clear FA
      obtain ⟨z10, z11, z14, z15, z5, z6, z7, z8, z9, FB⟩ := hp
      have FC : FW L M (((q, .inr (2, [.int 0, .int 0, .int 0, .int 0, .int 0, .int 0, .int 0, .int 0, .int 0, .ref z5, .ref z6, .ref z7, .ref z8, .ref z9, .ref z10, .ref z11])) :: (z5, .inl (cy 1, 4, .inl (fun _ => 0))) :: (z6, .inl (cy 1, 7, .inl (fun _ => 0))) :: (z7, .inl (cy 1, 28, .inl (fun _ => 0))) :: (z8, .inl (cy 1, 7, .inl (fun _ => 0))) :: (z9, .inl (cy 1, 8, .inl (fun _ => 0))) :: (z10, .inl (cy 1, 8, .inl (fun _ => 0))) :: (z11, .inr (0, [.int 0, .ref z14, .ref z15])) :: (z14, .inl (cy 1, 30, .inl (fun _ => 0))) :: (z15, .inl (cy 1, 240, .inl (fun _ => 0))) :: []) ++ (ksA act).map fun k => (a k, ent cy a C D R k)) := FW.selR (x := (z15, .inl (cy 1, 240, .inl (fun _ => 0))) :: (z14, .inl (cy 1, 30, .inl (fun _ => 0))) :: (z11, .inr (0, [.int 0, .ref z14, .ref z15])) :: (z10, .inl (cy 1, 8, .inl (fun _ => 0))) :: (z9, .inl (cy 1, 8, .inl (fun _ => 0))) :: (z8, .inl (cy 1, 7, .inl (fun _ => 0))) :: (z7, .inl (cy 1, 28, .inl (fun _ => 0))) :: (z6, .inl (cy 1, 7, .inl (fun _ => 0))) :: (z5, .inl (cy 1, 4, .inl (fun _ => 0))) :: (q, .inr (2, [.int 0, .int 0, .int 0, .int 0, .int 0, .int 0, .int 0, .int 0, .int 0, .ref z5, .ref z6, .ref z7, .ref z8, .ref z9, .ref z10, .ref z11])) :: []) FB [9, 8, 7, 6, 5, 4, 3, 2, 1, 0] (by decide) rfl
      have hno : ∀ k, 70 ≤ k ∧ k < 70 + 10 → (baseact k || act k) = false := noact70 HR hA70
      obtain ⟨a, act, C, D, F, I, HA, hold, hnew⟩ := grow (cy := cy) (a := a) (act := act) (C := C) (D := D) (R := R) I HA 70 10 [q, z5, z6, z7, z8, z9, z10, z11, z14, z15] (by decide) (by decide) blk_70.1 blk_70.2.1 blk_70.2.2 hno rfl FC
      have hq0 : q = a 70 := (hnew 70 ⟨by decide, by decide⟩).2.symm
      have e0 := (hold 0 (by decide)).1
      have eA := (hold 23 (by decide)).1
      rw [← e0] at X
      rw [hq0, ← e0, ← eA]
      have hacN := fun (k : Nat) (hk : ¬ (70 ≤ k ∧ k < 70 + 10)) => ((hold k hk).2.1).trans (hac0 k)
      have o80 : C 80 = C0 80 := ((hold 80 (by decide)).2.2.1).trans o80
      have o82 : C 82 = C0 82 := ((hold 82 (by decide)).2.2.1).trans o82
      have o84 : C 84 = C0 84 := ((hold 84 (by decide)).2.2.1).trans o84
      have o86 : C 86 = C0 86 := ((hold 86 (by decide)).2.2.1).trans o86
      have hst := fun (k : Nat) (hk : baseact k = true) => ((hold k (fun z => by have y := hno k z; rw [hk] at y; cases y)).1).trans (hst k hk)
      have K : Kp [50, 51, 52, 53, 54, 55, 56, 57, 58, 59, 60, 61, 62, 63, 64, 65, 66, 67, 68, 69, 70, 71, 72, 73, 74, 75, 76, 77, 78, 79] C0 D0 C D := fun k hk => by
        have z : ¬ (70 ≤ k ∧ k < 70 + 10) := fun z => hk (by simp only [List.mem_cons, List.not_mem_nil, or_false]; omega)
        exact ⟨((hold k z).2.2.1).trans (K k hk).1, ((hold k z).2.2.2).trans (K k hk).2⟩
      have hN : NowOk (C 3) (C 27) (C 29) := by rw [(hold 3 (by decide)).2.2.1, (hold 27 (by decide)).2.2.1, (hold 29 (by decide)).2.2.1]; exact hN
      have act70 : (baseact 70 || act 70) = true := by rw [(hnew 70 ⟨by decide, by decide⟩).1]; rfl
      have act71 : (baseact 71 || act 71) = true := by rw [(hnew 71 ⟨by decide, by decide⟩).1]; rfl
      have act72 : (baseact 72 || act 72) = true := by rw [(hnew 72 ⟨by decide, by decide⟩).1]; rfl
      have act73 : (baseact 73 || act 73) = true := by rw [(hnew 73 ⟨by decide, by decide⟩).1]; rfl
      have act74 : (baseact 74 || act 74) = true := by rw [(hnew 74 ⟨by decide, by decide⟩).1]; rfl
      have act75 : (baseact 75 || act 75) = true := by rw [(hnew 75 ⟨by decide, by decide⟩).1]; rfl
      have act76 : (baseact 76 || act 76) = true := by rw [(hnew 76 ⟨by decide, by decide⟩).1]; rfl
      have act77 : (baseact 77 || act 77) = true := by rw [(hnew 77 ⟨by decide, by decide⟩).1]; rfl
      have act78 : (baseact 78 || act 78) = true := by rw [(hnew 78 ⟨by decide, by decide⟩).1]; rfl
      have act79 : (baseact 79 || act 79) = true := by rw [(hnew 79 ⟨by decide, by decide⟩).1]; rfl
      have hA70 : act 70 = true := (hnew 70 ⟨by decide, by decide⟩).1
      refine i_aast X F 23 rfl 70 act70 (t0 := 4) rfl (ci := 2) rfl (fun _ => rfl) rfl dX7_image_33 (vp_in_iff.mpr (by decide)) (fun M R F hR hRc => ?_)
      have HR : RA a act R := RA_23 HR 2 (by decide) (fun k hk => ⟨(hold k hk).1, (hold k hk).2.1⟩) (fun k hk => (hnew k hk).1) hR hRc
      clear hold hnew hRc hR FC FB hno e0 eA
      refine g_aload_n X dX7_image_34 rfl (j := 0) rfl ?_
      refine i_get X F 0 rfl rfl fk_X7_26 dX7_image_35 rfl ?_
      refine g_iload_n X dX7_image_38 rfl (j := 1) rfl ?_
      refine i_aald X F 23 rfl (t0 := 4) rfl rfl dX7_image_39 (vp_in_iff.mpr (by decide)) (v := .ref (a 70)) (by show va_rf (R 23 2) = _; rw [HR.2.1 2 (by decide)]; rw [if_pos hA70]; rfl) ?_
      refine g_aload_n X dX7_image_40 rfl (j := 0) rfl ?_
      refine i_get X F 0 rfl rfl fk_X7_19 dX7_image_41 rfl ?_
      refine g_callVV X (s_X2_copyFrom_i2 l G F I  act70 act71 act72 act73 act74 act75 act76 act77 act78 act79) lk_X7_87 (F.1 70 (act70)).2 (F.1 70 (act70)).1 rfl rfl dX7_image_44 (Nat.le_of_ble_eq_true rfl) ⟨by decide, by decide⟩ ⟨by decide, by decide⟩ (fun L M hp => ?_)
      obtain ⟨C, D, F, I, K1, hr⟩ := hp
      have K := K.step K1 (by decide)
      have hN : NowOk (C 3) (C 27) (C 29) := by rw [(K1 3 (by decide)).1, (K1 27 (by decide)).1, (K1 29 (by decide)).1]; exact hN
      have o80 : C 80 = C0 80 := by rw [(K1 80 (by decide)).1]; exact o80
      have o82 : C 82 = C0 82 := by rw [(K1 82 (by decide)).1]; exact o82
      have o84 : C 84 = C0 84 := by rw [(K1 84 (by decide)).1]; exact o84
      have o86 : C 86 = C0 86 := by rw [(K1 86 (by decide)).1]; exact o86
      refine g_iconst X dX7_image_47 (v := 0) (by decide) ?_
      exact g_iret X hrt dX7_image_48 (by decide) (by decide) ⟨a, act, C, D, R, F, I, HA, HR, hst, hN, K, (im_in (c := 2) (by decide)), (fun j hj => match j, hj with | 0, _ => (by rw [show decide ((2 : Int32) = nI 0) = false from rfl, Bool.or_false]; exact hacN 50 (by decide)) | 1, _ => (by rw [show decide ((2 : Int32) = nI 1) = false from rfl, Bool.or_false]; exact hacN 60 (by decide)) | 2, _ => (by rw [show decide ((2 : Int32) = nI 2) = true from rfl, Bool.or_true]; exact hA70) | j + 3, hj => absurd hj (by omega)), (fun j hj => hacN (80 + 2 * j) (by omega))⟩
    · skip
      have act70 : (baseact 70 || act 70) = true := by rw [hA70]; rfl
      have act71 : (baseact 71 || act 71) = true := by rw [((HR.2.2.2 2 (by decide) 1 (by decide)).trans hA70)]; rfl
      have act72 : (baseact 72 || act 72) = true := by rw [((HR.2.2.2 2 (by decide) 2 (by decide)).trans hA70)]; rfl
      have act73 : (baseact 73 || act 73) = true := by rw [((HR.2.2.2 2 (by decide) 3 (by decide)).trans hA70)]; rfl
      have act74 : (baseact 74 || act 74) = true := by rw [((HR.2.2.2 2 (by decide) 4 (by decide)).trans hA70)]; rfl
      have act75 : (baseact 75 || act 75) = true := by rw [((HR.2.2.2 2 (by decide) 5 (by decide)).trans hA70)]; rfl
      have act76 : (baseact 76 || act 76) = true := by rw [((HR.2.2.2 2 (by decide) 6 (by decide)).trans hA70)]; rfl
      have act77 : (baseact 77 || act 77) = true := by rw [((HR.2.2.2 2 (by decide) 7 (by decide)).trans hA70)]; rfl
      have act78 : (baseact 78 || act 78) = true := by rw [((HR.2.2.2 2 (by decide) 8 (by decide)).trans hA70)]; rfl
      have act79 : (baseact 79 || act 79) = true := by rw [((HR.2.2.2 2 (by decide) 9 (by decide)).trans hA70)]; rfl
      refine i_aald X F 23 rfl (t0 := 4) rfl rfl dX7_image_17 (vp_in_iff.mpr (by decide)) (v := .ref (a 70)) (by show va_rf (R 23 2) = _; rw [HR.2.1 2 (by decide)]; rw [if_pos hA70]; rfl) ?_
      refine g_ifnonnull X dX7_image_18 (tgt := 34) (by decide) ?_
      refine g_aload_n X dX7_image_34 rfl (j := 0) rfl ?_
      refine i_get X F 0 rfl rfl fk_X7_26 dX7_image_35 rfl ?_
      refine g_iload_n X dX7_image_38 rfl (j := 1) rfl ?_
      refine i_aald X F 23 rfl (t0 := 4) rfl rfl dX7_image_39 (vp_in_iff.mpr (by decide)) (v := .ref (a 70)) (by show va_rf (R 23 2) = _; rw [HR.2.1 2 (by decide)]; rw [if_pos hA70]; rfl) ?_
      refine g_aload_n X dX7_image_40 rfl (j := 0) rfl ?_
      refine i_get X F 0 rfl rfl fk_X7_19 dX7_image_41 rfl ?_
      refine g_callVV X (s_X2_copyFrom_i2 l G F I  act70 act71 act72 act73 act74 act75 act76 act77 act78 act79) lk_X7_87 (F.1 70 (act70)).2 (F.1 70 (act70)).1 rfl rfl dX7_image_44 (Nat.le_of_ble_eq_true rfl) ⟨by decide, by decide⟩ ⟨by decide, by decide⟩ (fun L M hp => ?_)
      obtain ⟨C, D, F, I, K1, hr⟩ := hp
      have K := K.step K1 (by decide)
      have hN : NowOk (C 3) (C 27) (C 29) := by rw [(K1 3 (by decide)).1, (K1 27 (by decide)).1, (K1 29 (by decide)).1]; exact hN
      have o80 : C 80 = C0 80 := by rw [(K1 80 (by decide)).1]; exact o80
      have o82 : C 82 = C0 82 := by rw [(K1 82 (by decide)).1]; exact o82
      have o84 : C 84 = C0 84 := by rw [(K1 84 (by decide)).1]; exact o84
      have o86 : C 86 = C0 86 := by rw [(K1 86 (by decide)).1]; exact o86
      refine g_iconst X dX7_image_47 (v := 0) (by decide) ?_
      exact g_iret X hrt dX7_image_48 (by decide) (by decide) ⟨a, act, C, D, R, F, I, HA, HR, hst, hN, K, (im_in (c := 2) (by decide)), (fun j hj => match j, hj with | 0, _ => (by rw [show decide ((2 : Int32) = nI 0) = false from rfl, Bool.or_false]) | 1, _ => (by rw [show decide ((2 : Int32) = nI 1) = false from rfl, Bool.or_false]) | 2, _ => (by rw [show decide ((2 : Int32) = nI 2) = true from rfl, Bool.or_true]; exact hA70) | j + 3, hj => absurd hj (by omega)), (fun j hj => rfl)⟩
set_option maxHeartbeats 4000000 in
set_option maxRecDepth 100000 in
theorem s_X5_begin_x80 (l : Launch) (G : va_G) {cy : Nat → ClassId} {L : List Nat} {M : Nat → va_E} {a : Nat → Nat} {act : Nat → Bool} {C0 : Nat → Nat → Int32} {D0 : Nat → Nat → Int64} {R : Nat → Nat → Option Nat} (F : WI L M a act (ent cy a C0 D0 R)) (I : Inv C0) (p0 : Int32) (p1 : Nat) (hp1a : 0 ≤ p1) (hp1b : p1 ≤ 60) (act80 : (baseact 80 || act 80) = true) (act81 : (baseact 81 || act 81) = true) : MV l G cy yX5_begin cX5_begin 3 none 1 0 0 [.ref (a 80), .int p0, .int (nI p1)] L M (fun L2 M2 => ∃ C2 D2, WI L2 M2 a act (ent cy a C2 D2 R) ∧ Inv C2 ∧ Kp [80, 81] C0 D0 C2 D2 ∧ C2 80 1 = p0 ∧ C2 80 2 = nI p1) := by
  refine MV.of (own := RX5) rfl (by decide) (Nat.le_of_ble_eq_true rfl) ?_
  intro p e s m below meth c A X hrt hnm
  obtain ⟨C, D, hC0, hD0, F, I, K⟩ : ∃ C D, C = C0 ∧ D = D0 ∧ WI L M a act (ent cy a C D R) ∧ Inv C ∧ Kp [80, 81] C0 D0 C D := ⟨C0, D0, rfl, rfl, F, I, Kp.rf⟩
  refine g_aload_n X dX5_begin_0 rfl (j := 0) rfl ?_
  refine g_iload_n X dX5_begin_1 rfl (j := 1) rfl ?_
  refine i_put X F I 80 (act80) rfl rfl fk_X5_15 dX5_begin_2 rfl rfl (Nat.le_of_ble_eq_true rfl) (fun h => absurd h (by decide)) (fun M C F I K1 hC => ?_)
  have K := K.step K1 (by decide)
  have f1 : C 80 1 = p0 := by rw [hC]; exact pk_us
  refine g_aload_n X dX5_begin_5 rfl (j := 0) rfl ?_
  refine g_iload_n X dX5_begin_6 rfl (j := 2) rfl ?_
  refine i_put X F I 80 (act80) rfl rfl fk_X5_19 dX5_begin_7 rfl rfl (Nat.le_of_ble_eq_true rfl) (fun _ => (rg_of (n := p1) (by omega) (by omega) (by omega))) (fun M C F I K1 hC => ?_)
  have K := K.step K1 (by decide)
  have f1 : C 80 1 = p0 := by rw [hC, pk_un (by decide)]; exact f1
  have f2 : C 80 2 = nI p1 := by rw [hC]; exact pk_us
  refine g_aload_n X dX5_begin_10 rfl (j := 0) rfl ?_
  refine i_get X F 80 (act80) rfl fk_X5_9 dX5_begin_11 rfl ?_
  refine g_lconst X dX5_begin_14 (v := 0) (by decide) ?_
  refine g_callSV X (s_J7_fill_d0a16_81 l G F I  act81) lk_X5_22 rfl rfl dX5_begin_15 (Nat.le_of_ble_eq_true rfl) ⟨by decide, by decide⟩ ⟨by decide, by decide⟩ (fun L M hp => ?_)
  obtain ⟨C, D, F, I, K1, hr⟩ := hp
  have K := K.step K1 (by decide)
  have f1 : C 80 1 = p0 := (congrFun (K1 80 (by decide)).1 1).trans f1
  have f2 : C 80 2 = nI p1 := (congrFun (K1 80 (by decide)).1 2).trans f2
  exact g_vret X hrt dX5_begin_18 (by decide) (by decide) ⟨C, D, F, I, K, f1, f2⟩
set_option maxHeartbeats 4000000 in
set_option maxRecDepth 100000 in
theorem s_X5_begin_x82 (l : Launch) (G : va_G) {cy : Nat → ClassId} {L : List Nat} {M : Nat → va_E} {a : Nat → Nat} {act : Nat → Bool} {C0 : Nat → Nat → Int32} {D0 : Nat → Nat → Int64} {R : Nat → Nat → Option Nat} (F : WI L M a act (ent cy a C0 D0 R)) (I : Inv C0) (p0 : Int32) (p1 : Nat) (hp1a : 0 ≤ p1) (hp1b : p1 ≤ 60) (act82 : (baseact 82 || act 82) = true) (act83 : (baseact 83 || act 83) = true) : MV l G cy yX5_begin cX5_begin 3 none 1 0 0 [.ref (a 82), .int p0, .int (nI p1)] L M (fun L2 M2 => ∃ C2 D2, WI L2 M2 a act (ent cy a C2 D2 R) ∧ Inv C2 ∧ Kp [82, 83] C0 D0 C2 D2 ∧ C2 82 1 = p0 ∧ C2 82 2 = nI p1) := by
  refine MV.of (own := RX5) rfl (by decide) (Nat.le_of_ble_eq_true rfl) ?_
  intro p e s m below meth c A X hrt hnm
  obtain ⟨C, D, hC0, hD0, F, I, K⟩ : ∃ C D, C = C0 ∧ D = D0 ∧ WI L M a act (ent cy a C D R) ∧ Inv C ∧ Kp [82, 83] C0 D0 C D := ⟨C0, D0, rfl, rfl, F, I, Kp.rf⟩
  refine g_aload_n X dX5_begin_0 rfl (j := 0) rfl ?_
  refine g_iload_n X dX5_begin_1 rfl (j := 1) rfl ?_
  refine i_put X F I 82 (act82) rfl rfl fk_X5_15 dX5_begin_2 rfl rfl (Nat.le_of_ble_eq_true rfl) (fun h => absurd h (by decide)) (fun M C F I K1 hC => ?_)
  have K := K.step K1 (by decide)
  have f1 : C 82 1 = p0 := by rw [hC]; exact pk_us
  refine g_aload_n X dX5_begin_5 rfl (j := 0) rfl ?_
  refine g_iload_n X dX5_begin_6 rfl (j := 2) rfl ?_
  refine i_put X F I 82 (act82) rfl rfl fk_X5_19 dX5_begin_7 rfl rfl (Nat.le_of_ble_eq_true rfl) (fun _ => (rg_of (n := p1) (by omega) (by omega) (by omega))) (fun M C F I K1 hC => ?_)
  have K := K.step K1 (by decide)
  have f1 : C 82 1 = p0 := by rw [hC, pk_un (by decide)]; exact f1
  have f2 : C 82 2 = nI p1 := by rw [hC]; exact pk_us
  refine g_aload_n X dX5_begin_10 rfl (j := 0) rfl ?_
  refine i_get X F 82 (act82) rfl fk_X5_9 dX5_begin_11 rfl ?_
  refine g_lconst X dX5_begin_14 (v := 0) (by decide) ?_
  refine g_callSV X (s_J7_fill_d0a16_83 l G F I  act83) lk_X5_22 rfl rfl dX5_begin_15 (Nat.le_of_ble_eq_true rfl) ⟨by decide, by decide⟩ ⟨by decide, by decide⟩ (fun L M hp => ?_)
  obtain ⟨C, D, F, I, K1, hr⟩ := hp
  have K := K.step K1 (by decide)
  have f1 : C 82 1 = p0 := (congrFun (K1 82 (by decide)).1 1).trans f1
  have f2 : C 82 2 = nI p1 := (congrFun (K1 82 (by decide)).1 2).trans f2
  exact g_vret X hrt dX5_begin_18 (by decide) (by decide) ⟨C, D, F, I, K, f1, f2⟩
set_option maxHeartbeats 4000000 in
set_option maxRecDepth 100000 in
theorem s_X5_begin_x84 (l : Launch) (G : va_G) {cy : Nat → ClassId} {L : List Nat} {M : Nat → va_E} {a : Nat → Nat} {act : Nat → Bool} {C0 : Nat → Nat → Int32} {D0 : Nat → Nat → Int64} {R : Nat → Nat → Option Nat} (F : WI L M a act (ent cy a C0 D0 R)) (I : Inv C0) (p0 : Int32) (p1 : Nat) (hp1a : 0 ≤ p1) (hp1b : p1 ≤ 60) (act84 : (baseact 84 || act 84) = true) (act85 : (baseact 85 || act 85) = true) : MV l G cy yX5_begin cX5_begin 3 none 1 0 0 [.ref (a 84), .int p0, .int (nI p1)] L M (fun L2 M2 => ∃ C2 D2, WI L2 M2 a act (ent cy a C2 D2 R) ∧ Inv C2 ∧ Kp [84, 85] C0 D0 C2 D2 ∧ C2 84 1 = p0 ∧ C2 84 2 = nI p1) := by
  refine MV.of (own := RX5) rfl (by decide) (Nat.le_of_ble_eq_true rfl) ?_
  intro p e s m below meth c A X hrt hnm
  obtain ⟨C, D, hC0, hD0, F, I, K⟩ : ∃ C D, C = C0 ∧ D = D0 ∧ WI L M a act (ent cy a C D R) ∧ Inv C ∧ Kp [84, 85] C0 D0 C D := ⟨C0, D0, rfl, rfl, F, I, Kp.rf⟩
  refine g_aload_n X dX5_begin_0 rfl (j := 0) rfl ?_
  refine g_iload_n X dX5_begin_1 rfl (j := 1) rfl ?_
  refine i_put X F I 84 (act84) rfl rfl fk_X5_15 dX5_begin_2 rfl rfl (Nat.le_of_ble_eq_true rfl) (fun h => absurd h (by decide)) (fun M C F I K1 hC => ?_)
  have K := K.step K1 (by decide)
  have f1 : C 84 1 = p0 := by rw [hC]; exact pk_us
  refine g_aload_n X dX5_begin_5 rfl (j := 0) rfl ?_
  refine g_iload_n X dX5_begin_6 rfl (j := 2) rfl ?_
  refine i_put X F I 84 (act84) rfl rfl fk_X5_19 dX5_begin_7 rfl rfl (Nat.le_of_ble_eq_true rfl) (fun _ => (rg_of (n := p1) (by omega) (by omega) (by omega))) (fun M C F I K1 hC => ?_)
  have K := K.step K1 (by decide)
  have f1 : C 84 1 = p0 := by rw [hC, pk_un (by decide)]; exact f1
  have f2 : C 84 2 = nI p1 := by rw [hC]; exact pk_us
  refine g_aload_n X dX5_begin_10 rfl (j := 0) rfl ?_
  refine i_get X F 84 (act84) rfl fk_X5_9 dX5_begin_11 rfl ?_
  refine g_lconst X dX5_begin_14 (v := 0) (by decide) ?_
  refine g_callSV X (s_J7_fill_d0a16_85 l G F I  act85) lk_X5_22 rfl rfl dX5_begin_15 (Nat.le_of_ble_eq_true rfl) ⟨by decide, by decide⟩ ⟨by decide, by decide⟩ (fun L M hp => ?_)
  obtain ⟨C, D, F, I, K1, hr⟩ := hp
  have K := K.step K1 (by decide)
  have f1 : C 84 1 = p0 := (congrFun (K1 84 (by decide)).1 1).trans f1
  have f2 : C 84 2 = nI p1 := (congrFun (K1 84 (by decide)).1 2).trans f2
  exact g_vret X hrt dX5_begin_18 (by decide) (by decide) ⟨C, D, F, I, K, f1, f2⟩
set_option maxHeartbeats 4000000 in
set_option maxRecDepth 100000 in
theorem s_X5_begin_x86 (l : Launch) (G : va_G) {cy : Nat → ClassId} {L : List Nat} {M : Nat → va_E} {a : Nat → Nat} {act : Nat → Bool} {C0 : Nat → Nat → Int32} {D0 : Nat → Nat → Int64} {R : Nat → Nat → Option Nat} (F : WI L M a act (ent cy a C0 D0 R)) (I : Inv C0) (p0 : Int32) (p1 : Nat) (hp1a : 0 ≤ p1) (hp1b : p1 ≤ 60) (act86 : (baseact 86 || act 86) = true) (act87 : (baseact 87 || act 87) = true) : MV l G cy yX5_begin cX5_begin 3 none 1 0 0 [.ref (a 86), .int p0, .int (nI p1)] L M (fun L2 M2 => ∃ C2 D2, WI L2 M2 a act (ent cy a C2 D2 R) ∧ Inv C2 ∧ Kp [86, 87] C0 D0 C2 D2 ∧ C2 86 1 = p0 ∧ C2 86 2 = nI p1) := by
  refine MV.of (own := RX5) rfl (by decide) (Nat.le_of_ble_eq_true rfl) ?_
  intro p e s m below meth c A X hrt hnm
  obtain ⟨C, D, hC0, hD0, F, I, K⟩ : ∃ C D, C = C0 ∧ D = D0 ∧ WI L M a act (ent cy a C D R) ∧ Inv C ∧ Kp [86, 87] C0 D0 C D := ⟨C0, D0, rfl, rfl, F, I, Kp.rf⟩
  refine g_aload_n X dX5_begin_0 rfl (j := 0) rfl ?_
  refine g_iload_n X dX5_begin_1 rfl (j := 1) rfl ?_
  refine i_put X F I 86 (act86) rfl rfl fk_X5_15 dX5_begin_2 rfl rfl (Nat.le_of_ble_eq_true rfl) (fun h => absurd h (by decide)) (fun M C F I K1 hC => ?_)
  have K := K.step K1 (by decide)
  have f1 : C 86 1 = p0 := by rw [hC]; exact pk_us
  refine g_aload_n X dX5_begin_5 rfl (j := 0) rfl ?_
  refine g_iload_n X dX5_begin_6 rfl (j := 2) rfl ?_
  refine i_put X F I 86 (act86) rfl rfl fk_X5_19 dX5_begin_7 rfl rfl (Nat.le_of_ble_eq_true rfl) (fun _ => (rg_of (n := p1) (by omega) (by omega) (by omega))) (fun M C F I K1 hC => ?_)
  have K := K.step K1 (by decide)
  have f1 : C 86 1 = p0 := by rw [hC, pk_un (by decide)]; exact f1
  have f2 : C 86 2 = nI p1 := by rw [hC]; exact pk_us
  refine g_aload_n X dX5_begin_10 rfl (j := 0) rfl ?_
  refine i_get X F 86 (act86) rfl fk_X5_9 dX5_begin_11 rfl ?_
  refine g_lconst X dX5_begin_14 (v := 0) (by decide) ?_
  refine g_callSV X (s_J7_fill_d0a16_87 l G F I  act87) lk_X5_22 rfl rfl dX5_begin_15 (Nat.le_of_ble_eq_true rfl) ⟨by decide, by decide⟩ ⟨by decide, by decide⟩ (fun L M hp => ?_)
  obtain ⟨C, D, F, I, K1, hr⟩ := hp
  have K := K.step K1 (by decide)
  have f1 : C 86 1 = p0 := (congrFun (K1 86 (by decide)).1 1).trans f1
  have f2 : C 86 2 = nI p1 := (congrFun (K1 86 (by decide)).1 2).trans f2
  exact g_vret X hrt dX5_begin_18 (by decide) (by decide) ⟨C, D, F, I, K, f1, f2⟩
set_option maxHeartbeats 4000000 in
set_option maxRecDepth 100000 in
theorem s_X7_row_x (l : Launch) (G : va_G) {cy : Nat → ClassId} {L : List Nat} {M : Nat → va_E} {a : Nat → Nat} {act : Nat → Bool} {C0 : Nat → Nat → Int32} {D0 : Nat → Nat → Int64} {R : Nat → Nat → Option Nat} (F : WI L M a act (ent cy a C0 D0 R)) (I : Inv C0) (HA : AB act) (HR : RA a act R) (hN : NowOk (C0 3) (C0 27) (C0 29)) (p0 : Int32) (p1 : Int32) (p2 : Int32) : MI l G cy yX7_row cX7_row 4 (some .int) 2 2 63 [.ref (a 0), .int p0, .int p1, .int p2] L M (fun r L2 M2 => ∃ (a2 : Nat → Nat) (act2 : Nat → Bool) (C2 : Nat → Nat → Int32) (D2 : Nat → Nat → Int64) (R2 : Nat → Nat → Option Nat), WI L2 M2 a2 act2 (ent cy a2 C2 D2 R2) ∧ Inv C2 ∧ AB act2 ∧ RA a2 act2 R2 ∧ (∀ k, baseact k = true → a2 k = a k) ∧ NowOk (C2 3) (C2 27) (C2 29) ∧ Kp [80, 81, 82, 83, 84, 85, 86, 87] C0 D0 C2 D2 ∧ r = sp_row p0 p1 p2 ∧ (∀ j, j < 3 → act2 (50 + 10 * j) = act (50 + 10 * j)) ∧ ((r = 0 ∧ ∃ n : Nat, n < 4 ∧ p0 = nI n ∧ (∀ j, j < 4 → act2 (80 + 2 * j) = (act (80 + 2 * j) || decide (j = n))) ∧ C2 (80 + 2 * n) 2 = p2 ∧ C2 (80 + 2 * n) 1 = p1 ∧ ∀ j, j < 4 → j ≠ n → C2 (80 + 2 * j) = C0 (80 + 2 * j)) ∨ (¬ r = 0 ∧ ∀ j, j < 4 → act2 (80 + 2 * j) = act (80 + 2 * j) ∧ C2 (80 + 2 * j) = C0 (80 + 2 * j)))) := by
  refine MI.of (own := RX7) rfl (by decide) (Nat.le_of_ble_eq_true rfl) ?_
  intro p e s m below meth c A X hrt hnm
  obtain ⟨C, D, hC0, hD0, F, I, K⟩ : ∃ C D, C = C0 ∧ D = D0 ∧ WI L M a act (ent cy a C D R) ∧ Inv C ∧ Kp [80, 81, 82, 83, 84, 85, 86, 87] C0 D0 C D := ⟨C0, D0, rfl, rfl, F, I, Kp.rf⟩
  rw [← hC0] at hN
  have hst : ∀ k, baseact k = true → a k = a k := fun _ _ => rfl
  have hac0 : ∀ k, act k = act k := fun _ => rfl
  have o80 : C 80 = C0 80 := by rw [hC0]
  have o82 : C 82 = C0 82 := by rw [hC0]
  have o84 : C 84 = C0 84 := by rw [hC0]
  have o86 : C 86 = C0 86 := by rw [hC0]
  rcases sc4 p0 with hx1 | hx1 | rfl | rfl | rfl | rfl
  · skip
    have hno1 : p0 < 0 ∨ 4 ≤ p0 := Or.inl hx1
    refine g_iload_n X dX7_row_0 rfl (j := 1) rfl ?_
    refine g_callSI X (s_X7_isSlot_x l G F I p0 hno1) lk_X7_389 rfl rfl dX7_row_1 (Nat.le_of_ble_eq_true rfl) ⟨by decide, by decide⟩ ⟨by decide, by decide⟩ (fun r2 L M hp => ?_)
    obtain ⟨C, D, F, I, K1, hr⟩ := hp
    have K := K.step K1 (by decide)
    have hN : NowOk (C 3) (C 27) (C 29) := by rw [(K1 3 (by decide)).1, (K1 27 (by decide)).1, (K1 29 (by decide)).1]; exact hN
    have o80 : C 80 = C0 80 := by rw [(K1 80 (by decide)).1]; exact o80
    have o82 : C 82 = C0 82 := by rw [(K1 82 (by decide)).1]; exact o82
    have o84 : C 84 = C0 84 := by rw [(K1 84 (by decide)).1]; exact o84
    have o86 : C 86 = C0 86 := by rw [(K1 86 (by decide)).1]; exact o86
    subst hr
    refine g_if_eq X dX7_row_4 (tgt := 22) (by decide) (fun _ => ?_) (fun q => absurd (by decide) q)
    refine g_bipush X dX7_row_22 (v := -2) (by decide) ?_
    exact g_iret X hrt dX7_row_24 (by decide) (by decide) ⟨a, act, C, D, R, F, I, HA, HR, hst, hN, K, (row_o (by have z := not4 hno1; omega)), (fun j hj => rfl), Or.inr ⟨by decide, (fun j hj => ⟨rfl, match j, hj with | 0, _ => o80 | 1, _ => o82 | 2, _ => o84 | 3, _ => o86 | j + 4, hj => absurd hj (by omega)⟩)⟩⟩
  · skip
    have hno1 : p0 < 0 ∨ 4 ≤ p0 := Or.inr hx1
    refine g_iload_n X dX7_row_0 rfl (j := 1) rfl ?_
    refine g_callSI X (s_X7_isSlot_x l G F I p0 hno1) lk_X7_389 rfl rfl dX7_row_1 (Nat.le_of_ble_eq_true rfl) ⟨by decide, by decide⟩ ⟨by decide, by decide⟩ (fun r3 L M hp => ?_)
    obtain ⟨C, D, F, I, K1, hr⟩ := hp
    have K := K.step K1 (by decide)
    have hN : NowOk (C 3) (C 27) (C 29) := by rw [(K1 3 (by decide)).1, (K1 27 (by decide)).1, (K1 29 (by decide)).1]; exact hN
    have o80 : C 80 = C0 80 := by rw [(K1 80 (by decide)).1]; exact o80
    have o82 : C 82 = C0 82 := by rw [(K1 82 (by decide)).1]; exact o82
    have o84 : C 84 = C0 84 := by rw [(K1 84 (by decide)).1]; exact o84
    have o86 : C 86 = C0 86 := by rw [(K1 86 (by decide)).1]; exact o86
    subst hr
    refine g_if_eq X dX7_row_4 (tgt := 22) (by decide) (fun _ => ?_) (fun q => absurd (by decide) q)
    refine g_bipush X dX7_row_22 (v := -2) (by decide) ?_
    exact g_iret X hrt dX7_row_24 (by decide) (by decide) ⟨a, act, C, D, R, F, I, HA, HR, hst, hN, K, (row_o (by have z := not4 hno1; omega)), (fun j hj => rfl), Or.inr ⟨by decide, (fun j hj => ⟨rfl, match j, hj with | 0, _ => o80 | 1, _ => o82 | 2, _ => o84 | 3, _ => o86 | j + 4, hj => absurd hj (by omega)⟩)⟩⟩
  · skip
    refine g_iload_n X dX7_row_0 rfl (j := 1) rfl ?_
    refine g_callSI X (s_X7_isSlot_0 l G F I  ) lk_X7_389 rfl rfl dX7_row_1 (Nat.le_of_ble_eq_true rfl) ⟨by decide, by decide⟩ ⟨by decide, by decide⟩ (fun r4 L M hp => ?_)
    obtain ⟨C, D, F, I, K1, hr⟩ := hp
    have K := K.step K1 (by decide)
    have hN : NowOk (C 3) (C 27) (C 29) := by rw [(K1 3 (by decide)).1, (K1 27 (by decide)).1, (K1 29 (by decide)).1]; exact hN
    have o80 : C 80 = C0 80 := by rw [(K1 80 (by decide)).1]; exact o80
    have o82 : C 82 = C0 82 := by rw [(K1 82 (by decide)).1]; exact o82
    have o84 : C 84 = C0 84 := by rw [(K1 84 (by decide)).1]; exact o84
    have o86 : C 86 = C0 86 := by rw [(K1 86 (by decide)).1]; exact o86
    subst hr
    refine g_if_eq X dX7_row_4 (tgt := 22) (by decide) (fun q => absurd q (by decide)) (fun _ => ?_)
    refine g_iload_n X dX7_row_7 rfl (j := 2) rfl ?_
    refine g_if_lt X dX7_row_8 (tgt := 22) (by decide) (fun q5 => ?_) (fun q5 => ?_)
    · skip
      have q5t : p1.toInt < (0 : Int32).toInt := Int32.lt_iff_toInt_lt.mp q5
      have q5k : (0 : Int32).toInt = 0 := (by decide)
      have q5b := Int32.toInt_lt p1
      refine g_bipush X dX7_row_22 (v := -2) (by decide) ?_
      exact g_iret X hrt dX7_row_24 (by decide) (by decide) ⟨a, act, C, D, R, F, I, HA, HR, hst, hN, K, (row_o (by have tq : (0 : Int32).toInt = 0 := (by decide); omega)), (fun j hj => rfl), Or.inr ⟨by decide, (fun j hj => ⟨rfl, match j, hj with | 0, _ => o80 | 1, _ => o82 | 2, _ => o84 | 3, _ => o86 | j + 4, hj => absurd hj (by omega)⟩)⟩⟩
    · skip
      have q5t : ¬ p1.toInt < (0 : Int32).toInt := fun z => q5 (Int32.lt_iff_toInt_lt.mpr z)
      have q5k : (0 : Int32).toInt = 0 := (by decide)
      have q5b := Int32.toInt_lt p1
      obtain ⟨n6, hn6, rfl⟩ := nI_of (x := p1) (fun z => by have z2 := Int32.lt_iff_toInt_lt.mp z; have z3 : (0 : Int32).toInt = 0 := (by decide); omega)
      rw [nI_toInt (by omega)] at q5t
      have tn6 := nI_toInt (n := n6) (by omega)
      refine g_iload_n X dX7_row_11 rfl (j := 2) rfl ?_
      refine g_iconst X dX7_row_12 (v := 3) (by decide) ?_
      refine g_icmp_gt X dX7_row_13 (tgt := 22) (by decide) (fun q7 => ?_) (fun q7 => ?_)
      · skip
        have q7 : 3 < n6 := (nI_ltI (a := 3) (b := n6) (by omega) (by omega)).mp q7
        refine g_bipush X dX7_row_22 (v := -2) (by decide) ?_
        exact g_iret X hrt dX7_row_24 (by decide) (by decide) ⟨a, act, C, D, R, F, I, HA, HR, hst, hN, K, (row_o (by have tq : (0 : Int32).toInt = 0 := (by decide); omega)), (fun j hj => rfl), Or.inr ⟨by decide, (fun j hj => ⟨rfl, match j, hj with | 0, _ => o80 | 1, _ => o82 | 2, _ => o84 | 3, _ => o86 | j + 4, hj => absurd hj (by omega)⟩)⟩⟩
      · skip
        have q7 : ¬ 3 < n6 := fun z => q7 ((nI_ltI (a := 3) (b := n6) (by omega) (by omega)).mpr z)
        refine g_iload_n X dX7_row_16 rfl (j := 3) rfl ?_
        refine g_bipush X dX7_row_17 (v := 60) (by decide) ?_
        refine g_icmp_le X dX7_row_19 (tgt := 25) (by decide) (fun q8 => ?_) (fun q8 => ?_)
        · skip
          have q8t : p2.toInt ≤ (60 : Int32).toInt := Int32.le_iff_toInt_le.mp q8
          have q8k : (60 : Int32).toInt = 60 := (by decide)
          have q8b := Int32.toInt_lt p2
          refine g_iload_n X dX7_row_25 rfl (j := 3) rfl ?_
          refine g_if_ge X dX7_row_26 (tgt := 32) (by decide) (fun q9 => ?_) (fun q9 => ?_)
          · skip
            have q9t : (0 : Int32).toInt ≤ p2.toInt := Int32.le_iff_toInt_le.mp q9
            have q9k : (0 : Int32).toInt = 0 := (by decide)
            have q9b := Int32.toInt_lt p2
            obtain ⟨n10, hn10, rfl⟩ := nI_of (x := p2) (fun z => by have z2 := Int32.lt_iff_toInt_lt.mp z; have z3 : (0 : Int32).toInt = 0 := (by decide); omega)
            rw [nI_toInt (by omega)] at q9t
            have tn10 := nI_toInt (n := n10) (by omega)
            refine g_aload_n X dX7_row_32 rfl (j := 0) rfl ?_
            refine i_get X F 0 rfl rfl fk_X7_32 dX7_row_33 rfl ?_
            refine g_iload_n X dX7_row_36 rfl (j := 1) rfl ?_
            rcases (Bool.eq_false_or_eq_true (act 80)).symm with hA80 | hA80
            · skip
              refine i_aald X F 24 rfl (t0 := 5) rfl rfl dX7_row_37 (vp_in_iff.mpr (by decide)) (v := .null) (by show va_rf (R 24 0) = _; rw [HR.1 0 (by decide)]; rw [if_neg (by rw [hA80]; decide)]; rfl) ?_
              refine g_ifnonnullN X dX7_row_38 ?_
              refine g_aload_n X dX7_row_41 rfl (j := 0) rfl ?_
              refine i_get X F 0 rfl rfl fk_X7_32 dX7_row_42 rfl ?_
              refine g_iload_n X dX7_row_45 rfl (j := 1) rfl ?_
              refine g_new X clX5 wd1072 wd1096 wd633 (fs := [.null, .int 0, .int 0]) (by decide) (by decide) (by decide) dX7_row_46 (fun q hq => ?_)
              refine g_widen (k1 := 1) (k2 := 3) (by decide) (by decide) ?_
              refine g_dup X dX7_row_49 rfl ?_
              have FA := (FW.push (F.toFW ksA_act ksA_nd) hq (.inr (5, [.null, .int 0, .int 0]))).swap
              refine g_callI X (c_X5_init_s6 l G (h := q) FA) lk_X7_392 rfl rfl dX7_row_50 (Nat.le_of_ble_eq_true rfl) ⟨by decide, by decide⟩ ⟨by decide, by decide⟩ (fun L M hp => ?_)
              refine g_widen (k1 := 2) (k2 := 63) (by decide) (by decide) ?_
              clear FA
              obtain ⟨z86, FB⟩ := hp
              have FC : FW L M (((q, .inr (5, [.ref z86, .int 0, .int 0])) :: (z86, .inl (cy 2, 60, .inr (.inl (fun _ => 0)))) :: []) ++ (ksA act).map fun k => (a k, ent cy a C D R k)) := FW.selR (x := (z86, .inl (cy 2, 60, .inr (.inl (fun _ => 0)))) :: (q, .inr (5, [.ref z86, .int 0, .int 0])) :: []) FB [1, 0] (by decide) rfl
              have hno : ∀ k, 80 ≤ k ∧ k < 80 + 2 → (baseact k || act k) = false := noact80 HR hA80
              obtain ⟨a, act, C, D, F, I, HA, hold, hnew⟩ := grow (cy := cy) (a := a) (act := act) (C := C) (D := D) (R := R) I HA 80 2 [q, z86] (by decide) (by decide) blk_80.1 blk_80.2.1 blk_80.2.2 hno rfl FC
              have hq0 : q = a 80 := (hnew 80 ⟨by decide, by decide⟩).2.symm
              have e0 := (hold 0 (by decide)).1
              have eA := (hold 24 (by decide)).1
              rw [← e0] at X
              rw [hq0, ← e0, ← eA]
              have hacN := fun (k : Nat) (hk : ¬ (80 ≤ k ∧ k < 80 + 2)) => ((hold k hk).2.1).trans (hac0 k)
              have o82 : C 82 = C0 82 := ((hold 82 (by decide)).2.2.1).trans o82
              have o84 : C 84 = C0 84 := ((hold 84 (by decide)).2.2.1).trans o84
              have o86 : C 86 = C0 86 := ((hold 86 (by decide)).2.2.1).trans o86
              have hst := fun (k : Nat) (hk : baseact k = true) => ((hold k (fun z => by have y := hno k z; rw [hk] at y; cases y)).1).trans (hst k hk)
              have K : Kp [80, 81, 82, 83, 84, 85, 86, 87] C0 D0 C D := fun k hk => by
                have z : ¬ (80 ≤ k ∧ k < 80 + 2) := fun z => hk (by simp only [List.mem_cons, List.not_mem_nil, or_false]; omega)
                exact ⟨((hold k z).2.2.1).trans (K k hk).1, ((hold k z).2.2.2).trans (K k hk).2⟩
              have hN : NowOk (C 3) (C 27) (C 29) := by rw [(hold 3 (by decide)).2.2.1, (hold 27 (by decide)).2.2.1, (hold 29 (by decide)).2.2.1]; exact hN
              have act80 : (baseact 80 || act 80) = true := by rw [(hnew 80 ⟨by decide, by decide⟩).1]; rfl
              have act81 : (baseact 81 || act 81) = true := by rw [(hnew 81 ⟨by decide, by decide⟩).1]; rfl
              have hA80 : act 80 = true := (hnew 80 ⟨by decide, by decide⟩).1
              refine i_aast X F 24 rfl 80 act80 (t0 := 5) rfl (ci := 5) rfl (fun _ => rfl) rfl dX7_row_53 (vp_in_iff.mpr (by decide)) (fun M R F hR hRc => ?_)
              have HR : RA a act R := RA_24 HR 0 (by decide) (fun k hk => ⟨(hold k hk).1, (hold k hk).2.1⟩) (fun k hk => (hnew k hk).1) hR hRc
              clear hold hnew hRc hR FC FB hno e0 eA
              refine g_aload_n X dX7_row_54 rfl (j := 0) rfl ?_
              refine i_get X F 0 rfl rfl fk_X7_32 dX7_row_55 rfl ?_
              refine g_iload_n X dX7_row_58 rfl (j := 1) rfl ?_
              refine i_aald X F 24 rfl (t0 := 5) rfl rfl dX7_row_59 (vp_in_iff.mpr (by decide)) (v := .ref (a 80)) (by show va_rf (R 24 0) = _; rw [HR.1 0 (by decide)]; rw [if_pos hA80]; rfl) ?_
              refine g_iload_n X dX7_row_60 rfl (j := 2) rfl ?_
              refine g_iload_n X dX7_row_61 rfl (j := 3) rfl ?_
              refine g_callVV X (s_X5_begin_x80 l G F I (nI n6) n10 (by omega) (by omega) act80 act81) lk_X7_393 (F.1 80 (act80)).2 (F.1 80 (act80)).1 rfl rfl dX7_row_62 (Nat.le_of_ble_eq_true rfl) ⟨by decide, by decide⟩ ⟨by decide, by decide⟩ (fun L M hp => ?_)
              obtain ⟨C, D, F, I, K1, hr⟩ := hp
              have K := K.step K1 (by decide)
              have hN : NowOk (C 3) (C 27) (C 29) := by rw [(K1 3 (by decide)).1, (K1 27 (by decide)).1, (K1 29 (by decide)).1]; exact hN
              have o82 : C 82 = C0 82 := by rw [(K1 82 (by decide)).1]; exact o82
              have o84 : C 84 = C0 84 := by rw [(K1 84 (by decide)).1]; exact o84
              have o86 : C 86 = C0 86 := by rw [(K1 86 (by decide)).1]; exact o86
              obtain ⟨hw1, hw2⟩ := hr
              refine g_iconst X dX7_row_65 (v := 0) (by decide) ?_
              exact g_iret X hrt dX7_row_66 (by decide) (by decide) ⟨a, act, C, D, R, F, I, HA, HR, hst, hN, K, (row_k (by have tq : (0 : Int32).toInt = 0 := (by decide); omega)), (fun j hj => hacN (50 + 10 * j) (by omega)), Or.inl ⟨rfl, 0, by decide, rfl, (fun j hj => match j, hj with | 0, _ => (by rw [show decide ((0 : Nat) = 0) = true from rfl, Bool.or_true]; exact hA80) | 1, _ => (by rw [show decide ((1 : Nat) = 0) = false from rfl, Bool.or_false]; exact hacN 82 (by decide)) | 2, _ => (by rw [show decide ((2 : Nat) = 0) = false from rfl, Bool.or_false]; exact hacN 84 (by decide)) | 3, _ => (by rw [show decide ((3 : Nat) = 0) = false from rfl, Bool.or_false]; exact hacN 86 (by decide)) | j + 4, hj => absurd hj (by omega)), hw2, hw1, (fun j hj hne => match j, hj, hne with | 0, _, hne => absurd rfl hne | 1, _, hne => o82 | 2, _, hne => o84 | 3, _, hne => o86 | j + 4, hj, _ => absurd hj (by omega))⟩⟩
            · skip
              have act80 : (baseact 80 || act 80) = true := by rw [hA80]; rfl
              have act81 : (baseact 81 || act 81) = true := by rw [((HR.2.2.1 0 (by decide)).trans hA80)]; rfl
              refine i_aald X F 24 rfl (t0 := 5) rfl rfl dX7_row_37 (vp_in_iff.mpr (by decide)) (v := .ref (a 80)) (by show va_rf (R 24 0) = _; rw [HR.1 0 (by decide)]; rw [if_pos hA80]; rfl) ?_
              refine g_ifnonnull X dX7_row_38 (tgt := 54) (by decide) ?_
              refine g_aload_n X dX7_row_54 rfl (j := 0) rfl ?_
              refine i_get X F 0 rfl rfl fk_X7_32 dX7_row_55 rfl ?_
              refine g_iload_n X dX7_row_58 rfl (j := 1) rfl ?_
              refine i_aald X F 24 rfl (t0 := 5) rfl rfl dX7_row_59 (vp_in_iff.mpr (by decide)) (v := .ref (a 80)) (by show va_rf (R 24 0) = _; rw [HR.1 0 (by decide)]; rw [if_pos hA80]; rfl) ?_
              refine g_iload_n X dX7_row_60 rfl (j := 2) rfl ?_
              refine g_iload_n X dX7_row_61 rfl (j := 3) rfl ?_
              refine g_callVV X (s_X5_begin_x80 l G F I (nI n6) n10 (by omega) (by omega) act80 act81) lk_X7_393 (F.1 80 (act80)).2 (F.1 80 (act80)).1 rfl rfl dX7_row_62 (Nat.le_of_ble_eq_true rfl) ⟨by decide, by decide⟩ ⟨by decide, by decide⟩ (fun L M hp => ?_)
              obtain ⟨C, D, F, I, K1, hr⟩ := hp
              have K := K.step K1 (by decide)
              have hN : NowOk (C 3) (C 27) (C 29) := by rw [(K1 3 (by decide)).1, (K1 27 (by decide)).1, (K1 29 (by decide)).1]; exact hN
              have o82 : C 82 = C0 82 := by rw [(K1 82 (by decide)).1]; exact o82
              have o84 : C 84 = C0 84 := by rw [(K1 84 (by decide)).1]; exact o84
              have o86 : C 86 = C0 86 := by rw [(K1 86 (by decide)).1]; exact o86
              obtain ⟨hw1, hw2⟩ := hr
              refine g_iconst X dX7_row_65 (v := 0) (by decide) ?_
              exact g_iret X hrt dX7_row_66 (by decide) (by decide) ⟨a, act, C, D, R, F, I, HA, HR, hst, hN, K, (row_k (by have tq : (0 : Int32).toInt = 0 := (by decide); omega)), (fun j hj => rfl), Or.inl ⟨rfl, 0, by decide, rfl, (fun j hj => match j, hj with | 0, _ => (by rw [show decide ((0 : Nat) = 0) = true from rfl, Bool.or_true]; exact hA80) | 1, _ => (by rw [show decide ((1 : Nat) = 0) = false from rfl, Bool.or_false]) | 2, _ => (by rw [show decide ((2 : Nat) = 0) = false from rfl, Bool.or_false]) | 3, _ => (by rw [show decide ((3 : Nat) = 0) = false from rfl, Bool.or_false]) | j + 4, hj => absurd hj (by omega)), hw2, hw1, (fun j hj hne => match j, hj, hne with | 0, _, hne => absurd rfl hne | 1, _, hne => o82 | 2, _, hne => o84 | 3, _, hne => o86 | j + 4, hj, _ => absurd hj (by omega))⟩⟩
          · skip
            have q9t : ¬ (0 : Int32).toInt ≤ p2.toInt := fun z => q9 (Int32.le_iff_toInt_le.mpr z)
            have q9k : (0 : Int32).toInt = 0 := (by decide)
            have q9b := Int32.toInt_lt p2
            refine g_bipush X dX7_row_29 (v := -3) (by decide) ?_
            exact g_iret X hrt dX7_row_31 (by decide) (by decide) ⟨a, act, C, D, R, F, I, HA, HR, hst, hN, K, (row_n (by have tq : (0 : Int32).toInt = 0 := (by decide); omega)), (fun j hj => rfl), Or.inr ⟨by decide, (fun j hj => ⟨rfl, match j, hj with | 0, _ => o80 | 1, _ => o82 | 2, _ => o84 | 3, _ => o86 | j + 4, hj => absurd hj (by omega)⟩)⟩⟩
        · skip
          have q8t : ¬ p2.toInt ≤ (60 : Int32).toInt := fun z => q8 (Int32.le_iff_toInt_le.mpr z)
          have q8k : (60 : Int32).toInt = 60 := (by decide)
          have q8b := Int32.toInt_lt p2
          obtain ⟨n14, hn14, rfl⟩ := nI_of (x := p2) (fun z => by have z2 := Int32.lt_iff_toInt_lt.mp z; have z3 : (0 : Int32).toInt = 0 := (by decide); omega)
          rw [nI_toInt (by omega)] at q8t
          have tn14 := nI_toInt (n := n14) (by omega)
          refine g_bipush X dX7_row_22 (v := -2) (by decide) ?_
          exact g_iret X hrt dX7_row_24 (by decide) (by decide) ⟨a, act, C, D, R, F, I, HA, HR, hst, hN, K, (row_o (by have tq : (0 : Int32).toInt = 0 := (by decide); omega)), (fun j hj => rfl), Or.inr ⟨by decide, (fun j hj => ⟨rfl, match j, hj with | 0, _ => o80 | 1, _ => o82 | 2, _ => o84 | 3, _ => o86 | j + 4, hj => absurd hj (by omega)⟩)⟩⟩
  · skip
    refine g_iload_n X dX7_row_0 rfl (j := 1) rfl ?_
    refine g_callSI X (s_X7_isSlot_1 l G F I  ) lk_X7_389 rfl rfl dX7_row_1 (Nat.le_of_ble_eq_true rfl) ⟨by decide, by decide⟩ ⟨by decide, by decide⟩ (fun r15 L M hp => ?_)
    obtain ⟨C, D, F, I, K1, hr⟩ := hp
    have K := K.step K1 (by decide)
    have hN : NowOk (C 3) (C 27) (C 29) := by rw [(K1 3 (by decide)).1, (K1 27 (by decide)).1, (K1 29 (by decide)).1]; exact hN
    have o80 : C 80 = C0 80 := by rw [(K1 80 (by decide)).1]; exact o80
    have o82 : C 82 = C0 82 := by rw [(K1 82 (by decide)).1]; exact o82
    have o84 : C 84 = C0 84 := by rw [(K1 84 (by decide)).1]; exact o84
    have o86 : C 86 = C0 86 := by rw [(K1 86 (by decide)).1]; exact o86
    subst hr
    refine g_if_eq X dX7_row_4 (tgt := 22) (by decide) (fun q => absurd q (by decide)) (fun _ => ?_)
    refine g_iload_n X dX7_row_7 rfl (j := 2) rfl ?_
    refine g_if_lt X dX7_row_8 (tgt := 22) (by decide) (fun q16 => ?_) (fun q16 => ?_)
    · skip
      have q16t : p1.toInt < (0 : Int32).toInt := Int32.lt_iff_toInt_lt.mp q16
      have q16k : (0 : Int32).toInt = 0 := (by decide)
      have q16b := Int32.toInt_lt p1
      refine g_bipush X dX7_row_22 (v := -2) (by decide) ?_
      exact g_iret X hrt dX7_row_24 (by decide) (by decide) ⟨a, act, C, D, R, F, I, HA, HR, hst, hN, K, (row_o (by have tq : (1 : Int32).toInt = 1 := (by decide); omega)), (fun j hj => rfl), Or.inr ⟨by decide, (fun j hj => ⟨rfl, match j, hj with | 0, _ => o80 | 1, _ => o82 | 2, _ => o84 | 3, _ => o86 | j + 4, hj => absurd hj (by omega)⟩)⟩⟩
    · skip
      have q16t : ¬ p1.toInt < (0 : Int32).toInt := fun z => q16 (Int32.lt_iff_toInt_lt.mpr z)
      have q16k : (0 : Int32).toInt = 0 := (by decide)
      have q16b := Int32.toInt_lt p1
      obtain ⟨n17, hn17, rfl⟩ := nI_of (x := p1) (fun z => by have z2 := Int32.lt_iff_toInt_lt.mp z; have z3 : (0 : Int32).toInt = 0 := (by decide); omega)
      rw [nI_toInt (by omega)] at q16t
      have tn17 := nI_toInt (n := n17) (by omega)
      refine g_iload_n X dX7_row_11 rfl (j := 2) rfl ?_
      refine g_iconst X dX7_row_12 (v := 3) (by decide) ?_
      refine g_icmp_gt X dX7_row_13 (tgt := 22) (by decide) (fun q18 => ?_) (fun q18 => ?_)
      · skip
        have q18 : 3 < n17 := (nI_ltI (a := 3) (b := n17) (by omega) (by omega)).mp q18
        refine g_bipush X dX7_row_22 (v := -2) (by decide) ?_
        exact g_iret X hrt dX7_row_24 (by decide) (by decide) ⟨a, act, C, D, R, F, I, HA, HR, hst, hN, K, (row_o (by have tq : (1 : Int32).toInt = 1 := (by decide); omega)), (fun j hj => rfl), Or.inr ⟨by decide, (fun j hj => ⟨rfl, match j, hj with | 0, _ => o80 | 1, _ => o82 | 2, _ => o84 | 3, _ => o86 | j + 4, hj => absurd hj (by omega)⟩)⟩⟩
      · skip
        have q18 : ¬ 3 < n17 := fun z => q18 ((nI_ltI (a := 3) (b := n17) (by omega) (by omega)).mpr z)
        refine g_iload_n X dX7_row_16 rfl (j := 3) rfl ?_
        refine g_bipush X dX7_row_17 (v := 60) (by decide) ?_
        refine g_icmp_le X dX7_row_19 (tgt := 25) (by decide) (fun q19 => ?_) (fun q19 => ?_)
        · skip
          have q19t : p2.toInt ≤ (60 : Int32).toInt := Int32.le_iff_toInt_le.mp q19
          have q19k : (60 : Int32).toInt = 60 := (by decide)
          have q19b := Int32.toInt_lt p2
          refine g_iload_n X dX7_row_25 rfl (j := 3) rfl ?_
          refine g_if_ge X dX7_row_26 (tgt := 32) (by decide) (fun q20 => ?_) (fun q20 => ?_)
          · skip
            have q20t : (0 : Int32).toInt ≤ p2.toInt := Int32.le_iff_toInt_le.mp q20
            have q20k : (0 : Int32).toInt = 0 := (by decide)
            have q20b := Int32.toInt_lt p2
            obtain ⟨n21, hn21, rfl⟩ := nI_of (x := p2) (fun z => by have z2 := Int32.lt_iff_toInt_lt.mp z; have z3 : (0 : Int32).toInt = 0 := (by decide); omega)
            rw [nI_toInt (by omega)] at q20t
            have tn21 := nI_toInt (n := n21) (by omega)
            refine g_aload_n X dX7_row_32 rfl (j := 0) rfl ?_
            refine i_get X F 0 rfl rfl fk_X7_32 dX7_row_33 rfl ?_
            refine g_iload_n X dX7_row_36 rfl (j := 1) rfl ?_
            rcases (Bool.eq_false_or_eq_true (act 82)).symm with hA82 | hA82
            · skip
              refine i_aald X F 24 rfl (t0 := 5) rfl rfl dX7_row_37 (vp_in_iff.mpr (by decide)) (v := .null) (by show va_rf (R 24 1) = _; rw [HR.1 1 (by decide)]; rw [if_neg (by rw [hA82]; decide)]; rfl) ?_
              refine g_ifnonnullN X dX7_row_38 ?_
              refine g_aload_n X dX7_row_41 rfl (j := 0) rfl ?_
              refine i_get X F 0 rfl rfl fk_X7_32 dX7_row_42 rfl ?_
              refine g_iload_n X dX7_row_45 rfl (j := 1) rfl ?_
              refine g_new X clX5 wd1072 wd1096 wd633 (fs := [.null, .int 0, .int 0]) (by decide) (by decide) (by decide) dX7_row_46 (fun q hq => ?_)
              refine g_widen (k1 := 1) (k2 := 3) (by decide) (by decide) ?_
              refine g_dup X dX7_row_49 rfl ?_
              have FA := (FW.push (F.toFW ksA_act ksA_nd) hq (.inr (5, [.null, .int 0, .int 0]))).swap
              refine g_callI X (c_X5_init_s6 l G (h := q) FA) lk_X7_392 rfl rfl dX7_row_50 (Nat.le_of_ble_eq_true rfl) ⟨by decide, by decide⟩ ⟨by decide, by decide⟩ (fun L M hp => ?_)
              refine g_widen (k1 := 2) (k2 := 63) (by decide) (by decide) ?_
              clear FA
              obtain ⟨z86, FB⟩ := hp
              have FC : FW L M (((q, .inr (5, [.ref z86, .int 0, .int 0])) :: (z86, .inl (cy 2, 60, .inr (.inl (fun _ => 0)))) :: []) ++ (ksA act).map fun k => (a k, ent cy a C D R k)) := FW.selR (x := (z86, .inl (cy 2, 60, .inr (.inl (fun _ => 0)))) :: (q, .inr (5, [.ref z86, .int 0, .int 0])) :: []) FB [1, 0] (by decide) rfl
              have hno : ∀ k, 82 ≤ k ∧ k < 82 + 2 → (baseact k || act k) = false := noact82 HR hA82
              obtain ⟨a, act, C, D, F, I, HA, hold, hnew⟩ := grow (cy := cy) (a := a) (act := act) (C := C) (D := D) (R := R) I HA 82 2 [q, z86] (by decide) (by decide) blk_82.1 blk_82.2.1 blk_82.2.2 hno rfl FC
              have hq0 : q = a 82 := (hnew 82 ⟨by decide, by decide⟩).2.symm
              have e0 := (hold 0 (by decide)).1
              have eA := (hold 24 (by decide)).1
              rw [← e0] at X
              rw [hq0, ← e0, ← eA]
              have hacN := fun (k : Nat) (hk : ¬ (82 ≤ k ∧ k < 82 + 2)) => ((hold k hk).2.1).trans (hac0 k)
              have o80 : C 80 = C0 80 := ((hold 80 (by decide)).2.2.1).trans o80
              have o84 : C 84 = C0 84 := ((hold 84 (by decide)).2.2.1).trans o84
              have o86 : C 86 = C0 86 := ((hold 86 (by decide)).2.2.1).trans o86
              have hst := fun (k : Nat) (hk : baseact k = true) => ((hold k (fun z => by have y := hno k z; rw [hk] at y; cases y)).1).trans (hst k hk)
              have K : Kp [80, 81, 82, 83, 84, 85, 86, 87] C0 D0 C D := fun k hk => by
                have z : ¬ (82 ≤ k ∧ k < 82 + 2) := fun z => hk (by simp only [List.mem_cons, List.not_mem_nil, or_false]; omega)
                exact ⟨((hold k z).2.2.1).trans (K k hk).1, ((hold k z).2.2.2).trans (K k hk).2⟩
              have hN : NowOk (C 3) (C 27) (C 29) := by rw [(hold 3 (by decide)).2.2.1, (hold 27 (by decide)).2.2.1, (hold 29 (by decide)).2.2.1]; exact hN
              have act82 : (baseact 82 || act 82) = true := by rw [(hnew 82 ⟨by decide, by decide⟩).1]; rfl
              have act83 : (baseact 83 || act 83) = true := by rw [(hnew 83 ⟨by decide, by decide⟩).1]; rfl
              have hA82 : act 82 = true := (hnew 82 ⟨by decide, by decide⟩).1
              refine i_aast X F 24 rfl 82 act82 (t0 := 5) rfl (ci := 5) rfl (fun _ => rfl) rfl dX7_row_53 (vp_in_iff.mpr (by decide)) (fun M R F hR hRc => ?_)
              have HR : RA a act R := RA_24 HR 1 (by decide) (fun k hk => ⟨(hold k hk).1, (hold k hk).2.1⟩) (fun k hk => (hnew k hk).1) hR hRc
              clear hold hnew hRc hR FC FB hno e0 eA
              refine g_aload_n X dX7_row_54 rfl (j := 0) rfl ?_
              refine i_get X F 0 rfl rfl fk_X7_32 dX7_row_55 rfl ?_
              refine g_iload_n X dX7_row_58 rfl (j := 1) rfl ?_
              refine i_aald X F 24 rfl (t0 := 5) rfl rfl dX7_row_59 (vp_in_iff.mpr (by decide)) (v := .ref (a 82)) (by show va_rf (R 24 1) = _; rw [HR.1 1 (by decide)]; rw [if_pos hA82]; rfl) ?_
              refine g_iload_n X dX7_row_60 rfl (j := 2) rfl ?_
              refine g_iload_n X dX7_row_61 rfl (j := 3) rfl ?_
              refine g_callVV X (s_X5_begin_x82 l G F I (nI n17) n21 (by omega) (by omega) act82 act83) lk_X7_393 (F.1 82 (act82)).2 (F.1 82 (act82)).1 rfl rfl dX7_row_62 (Nat.le_of_ble_eq_true rfl) ⟨by decide, by decide⟩ ⟨by decide, by decide⟩ (fun L M hp => ?_)
              obtain ⟨C, D, F, I, K1, hr⟩ := hp
              have K := K.step K1 (by decide)
              have hN : NowOk (C 3) (C 27) (C 29) := by rw [(K1 3 (by decide)).1, (K1 27 (by decide)).1, (K1 29 (by decide)).1]; exact hN
              have o80 : C 80 = C0 80 := by rw [(K1 80 (by decide)).1]; exact o80
              have o84 : C 84 = C0 84 := by rw [(K1 84 (by decide)).1]; exact o84
              have o86 : C 86 = C0 86 := by rw [(K1 86 (by decide)).1]; exact o86
              obtain ⟨hw1, hw2⟩ := hr
              refine g_iconst X dX7_row_65 (v := 0) (by decide) ?_
              exact g_iret X hrt dX7_row_66 (by decide) (by decide) ⟨a, act, C, D, R, F, I, HA, HR, hst, hN, K, (row_k (by have tq : (1 : Int32).toInt = 1 := (by decide); omega)), (fun j hj => hacN (50 + 10 * j) (by omega)), Or.inl ⟨rfl, 1, by decide, rfl, (fun j hj => match j, hj with | 0, _ => (by rw [show decide ((0 : Nat) = 1) = false from rfl, Bool.or_false]; exact hacN 80 (by decide)) | 1, _ => (by rw [show decide ((1 : Nat) = 1) = true from rfl, Bool.or_true]; exact hA82) | 2, _ => (by rw [show decide ((2 : Nat) = 1) = false from rfl, Bool.or_false]; exact hacN 84 (by decide)) | 3, _ => (by rw [show decide ((3 : Nat) = 1) = false from rfl, Bool.or_false]; exact hacN 86 (by decide)) | j + 4, hj => absurd hj (by omega)), hw2, hw1, (fun j hj hne => match j, hj, hne with | 0, _, hne => o80 | 1, _, hne => absurd rfl hne | 2, _, hne => o84 | 3, _, hne => o86 | j + 4, hj, _ => absurd hj (by omega))⟩⟩
            · skip
              have act82 : (baseact 82 || act 82) = true := by rw [hA82]; rfl
              have act83 : (baseact 83 || act 83) = true := by rw [((HR.2.2.1 1 (by decide)).trans hA82)]; rfl
              refine i_aald X F 24 rfl (t0 := 5) rfl rfl dX7_row_37 (vp_in_iff.mpr (by decide)) (v := .ref (a 82)) (by show va_rf (R 24 1) = _; rw [HR.1 1 (by decide)]; rw [if_pos hA82]; rfl) ?_
              refine g_ifnonnull X dX7_row_38 (tgt := 54) (by decide) ?_
              refine g_aload_n X dX7_row_54 rfl (j := 0) rfl ?_
              refine i_get X F 0 rfl rfl fk_X7_32 dX7_row_55 rfl ?_
              refine g_iload_n X dX7_row_58 rfl (j := 1) rfl ?_
              refine i_aald X F 24 rfl (t0 := 5) rfl rfl dX7_row_59 (vp_in_iff.mpr (by decide)) (v := .ref (a 82)) (by show va_rf (R 24 1) = _; rw [HR.1 1 (by decide)]; rw [if_pos hA82]; rfl) ?_
              refine g_iload_n X dX7_row_60 rfl (j := 2) rfl ?_
              refine g_iload_n X dX7_row_61 rfl (j := 3) rfl ?_
              refine g_callVV X (s_X5_begin_x82 l G F I (nI n17) n21 (by omega) (by omega) act82 act83) lk_X7_393 (F.1 82 (act82)).2 (F.1 82 (act82)).1 rfl rfl dX7_row_62 (Nat.le_of_ble_eq_true rfl) ⟨by decide, by decide⟩ ⟨by decide, by decide⟩ (fun L M hp => ?_)
              obtain ⟨C, D, F, I, K1, hr⟩ := hp
              have K := K.step K1 (by decide)
              have hN : NowOk (C 3) (C 27) (C 29) := by rw [(K1 3 (by decide)).1, (K1 27 (by decide)).1, (K1 29 (by decide)).1]; exact hN
              have o80 : C 80 = C0 80 := by rw [(K1 80 (by decide)).1]; exact o80
              have o84 : C 84 = C0 84 := by rw [(K1 84 (by decide)).1]; exact o84
              have o86 : C 86 = C0 86 := by rw [(K1 86 (by decide)).1]; exact o86
              obtain ⟨hw1, hw2⟩ := hr
              refine g_iconst X dX7_row_65 (v := 0) (by decide) ?_
              exact g_iret X hrt dX7_row_66 (by decide) (by decide) ⟨a, act, C, D, R, F, I, HA, HR, hst, hN, K, (row_k (by have tq : (1 : Int32).toInt = 1 := (by decide); omega)), (fun j hj => rfl), Or.inl ⟨rfl, 1, by decide, rfl, (fun j hj => match j, hj with | 0, _ => (by rw [show decide ((0 : Nat) = 1) = false from rfl, Bool.or_false]) | 1, _ => (by rw [show decide ((1 : Nat) = 1) = true from rfl, Bool.or_true]; exact hA82) | 2, _ => (by rw [show decide ((2 : Nat) = 1) = false from rfl, Bool.or_false]) | 3, _ => (by rw [show decide ((3 : Nat) = 1) = false from rfl, Bool.or_false]) | j + 4, hj => absurd hj (by omega)), hw2, hw1, (fun j hj hne => match j, hj, hne with | 0, _, hne => o80 | 1, _, hne => absurd rfl hne | 2, _, hne => o84 | 3, _, hne => o86 | j + 4, hj, _ => absurd hj (by omega))⟩⟩
          · skip
            have q20t : ¬ (0 : Int32).toInt ≤ p2.toInt := fun z => q20 (Int32.le_iff_toInt_le.mpr z)
            have q20k : (0 : Int32).toInt = 0 := (by decide)
            have q20b := Int32.toInt_lt p2
            refine g_bipush X dX7_row_29 (v := -3) (by decide) ?_
            exact g_iret X hrt dX7_row_31 (by decide) (by decide) ⟨a, act, C, D, R, F, I, HA, HR, hst, hN, K, (row_n (by have tq : (1 : Int32).toInt = 1 := (by decide); omega)), (fun j hj => rfl), Or.inr ⟨by decide, (fun j hj => ⟨rfl, match j, hj with | 0, _ => o80 | 1, _ => o82 | 2, _ => o84 | 3, _ => o86 | j + 4, hj => absurd hj (by omega)⟩)⟩⟩
        · skip
          have q19t : ¬ p2.toInt ≤ (60 : Int32).toInt := fun z => q19 (Int32.le_iff_toInt_le.mpr z)
          have q19k : (60 : Int32).toInt = 60 := (by decide)
          have q19b := Int32.toInt_lt p2
          obtain ⟨n25, hn25, rfl⟩ := nI_of (x := p2) (fun z => by have z2 := Int32.lt_iff_toInt_lt.mp z; have z3 : (0 : Int32).toInt = 0 := (by decide); omega)
          rw [nI_toInt (by omega)] at q19t
          have tn25 := nI_toInt (n := n25) (by omega)
          refine g_bipush X dX7_row_22 (v := -2) (by decide) ?_
          exact g_iret X hrt dX7_row_24 (by decide) (by decide) ⟨a, act, C, D, R, F, I, HA, HR, hst, hN, K, (row_o (by have tq : (1 : Int32).toInt = 1 := (by decide); omega)), (fun j hj => rfl), Or.inr ⟨by decide, (fun j hj => ⟨rfl, match j, hj with | 0, _ => o80 | 1, _ => o82 | 2, _ => o84 | 3, _ => o86 | j + 4, hj => absurd hj (by omega)⟩)⟩⟩
  · skip
    refine g_iload_n X dX7_row_0 rfl (j := 1) rfl ?_
    refine g_callSI X (s_X7_isSlot_2 l G F I  ) lk_X7_389 rfl rfl dX7_row_1 (Nat.le_of_ble_eq_true rfl) ⟨by decide, by decide⟩ ⟨by decide, by decide⟩ (fun r26 L M hp => ?_)
    obtain ⟨C, D, F, I, K1, hr⟩ := hp
    have K := K.step K1 (by decide)
    have hN : NowOk (C 3) (C 27) (C 29) := by rw [(K1 3 (by decide)).1, (K1 27 (by decide)).1, (K1 29 (by decide)).1]; exact hN
    have o80 : C 80 = C0 80 := by rw [(K1 80 (by decide)).1]; exact o80
    have o82 : C 82 = C0 82 := by rw [(K1 82 (by decide)).1]; exact o82
    have o84 : C 84 = C0 84 := by rw [(K1 84 (by decide)).1]; exact o84
    have o86 : C 86 = C0 86 := by rw [(K1 86 (by decide)).1]; exact o86
    subst hr
    refine g_if_eq X dX7_row_4 (tgt := 22) (by decide) (fun q => absurd q (by decide)) (fun _ => ?_)
    refine g_iload_n X dX7_row_7 rfl (j := 2) rfl ?_
    refine g_if_lt X dX7_row_8 (tgt := 22) (by decide) (fun q27 => ?_) (fun q27 => ?_)
    · skip
      have q27t : p1.toInt < (0 : Int32).toInt := Int32.lt_iff_toInt_lt.mp q27
      have q27k : (0 : Int32).toInt = 0 := (by decide)
      have q27b := Int32.toInt_lt p1
      refine g_bipush X dX7_row_22 (v := -2) (by decide) ?_
      exact g_iret X hrt dX7_row_24 (by decide) (by decide) ⟨a, act, C, D, R, F, I, HA, HR, hst, hN, K, (row_o (by have tq : (2 : Int32).toInt = 2 := (by decide); omega)), (fun j hj => rfl), Or.inr ⟨by decide, (fun j hj => ⟨rfl, match j, hj with | 0, _ => o80 | 1, _ => o82 | 2, _ => o84 | 3, _ => o86 | j + 4, hj => absurd hj (by omega)⟩)⟩⟩
    · skip
      have q27t : ¬ p1.toInt < (0 : Int32).toInt := fun z => q27 (Int32.lt_iff_toInt_lt.mpr z)
      have q27k : (0 : Int32).toInt = 0 := (by decide)
      have q27b := Int32.toInt_lt p1
      obtain ⟨n28, hn28, rfl⟩ := nI_of (x := p1) (fun z => by have z2 := Int32.lt_iff_toInt_lt.mp z; have z3 : (0 : Int32).toInt = 0 := (by decide); omega)
      rw [nI_toInt (by omega)] at q27t
      have tn28 := nI_toInt (n := n28) (by omega)
      refine g_iload_n X dX7_row_11 rfl (j := 2) rfl ?_
      refine g_iconst X dX7_row_12 (v := 3) (by decide) ?_
      refine g_icmp_gt X dX7_row_13 (tgt := 22) (by decide) (fun q29 => ?_) (fun q29 => ?_)
      · skip
        have q29 : 3 < n28 := (nI_ltI (a := 3) (b := n28) (by omega) (by omega)).mp q29
        refine g_bipush X dX7_row_22 (v := -2) (by decide) ?_
        exact g_iret X hrt dX7_row_24 (by decide) (by decide) ⟨a, act, C, D, R, F, I, HA, HR, hst, hN, K, (row_o (by have tq : (2 : Int32).toInt = 2 := (by decide); omega)), (fun j hj => rfl), Or.inr ⟨by decide, (fun j hj => ⟨rfl, match j, hj with | 0, _ => o80 | 1, _ => o82 | 2, _ => o84 | 3, _ => o86 | j + 4, hj => absurd hj (by omega)⟩)⟩⟩
      · skip
        have q29 : ¬ 3 < n28 := fun z => q29 ((nI_ltI (a := 3) (b := n28) (by omega) (by omega)).mpr z)
        refine g_iload_n X dX7_row_16 rfl (j := 3) rfl ?_
        refine g_bipush X dX7_row_17 (v := 60) (by decide) ?_
        refine g_icmp_le X dX7_row_19 (tgt := 25) (by decide) (fun q30 => ?_) (fun q30 => ?_)
        · skip
          have q30t : p2.toInt ≤ (60 : Int32).toInt := Int32.le_iff_toInt_le.mp q30
          have q30k : (60 : Int32).toInt = 60 := (by decide)
          have q30b := Int32.toInt_lt p2
          refine g_iload_n X dX7_row_25 rfl (j := 3) rfl ?_
          refine g_if_ge X dX7_row_26 (tgt := 32) (by decide) (fun q31 => ?_) (fun q31 => ?_)
          · skip
            have q31t : (0 : Int32).toInt ≤ p2.toInt := Int32.le_iff_toInt_le.mp q31
            have q31k : (0 : Int32).toInt = 0 := (by decide)
            have q31b := Int32.toInt_lt p2
            obtain ⟨n32, hn32, rfl⟩ := nI_of (x := p2) (fun z => by have z2 := Int32.lt_iff_toInt_lt.mp z; have z3 : (0 : Int32).toInt = 0 := (by decide); omega)
            rw [nI_toInt (by omega)] at q31t
            have tn32 := nI_toInt (n := n32) (by omega)
            refine g_aload_n X dX7_row_32 rfl (j := 0) rfl ?_
            refine i_get X F 0 rfl rfl fk_X7_32 dX7_row_33 rfl ?_
            refine g_iload_n X dX7_row_36 rfl (j := 1) rfl ?_
            rcases (Bool.eq_false_or_eq_true (act 84)).symm with hA84 | hA84
            · skip
              refine i_aald X F 24 rfl (t0 := 5) rfl rfl dX7_row_37 (vp_in_iff.mpr (by decide)) (v := .null) (by show va_rf (R 24 2) = _; rw [HR.1 2 (by decide)]; rw [if_neg (by rw [hA84]; decide)]; rfl) ?_
              refine g_ifnonnullN X dX7_row_38 ?_
              refine g_aload_n X dX7_row_41 rfl (j := 0) rfl ?_
              refine i_get X F 0 rfl rfl fk_X7_32 dX7_row_42 rfl ?_
              refine g_iload_n X dX7_row_45 rfl (j := 1) rfl ?_
              refine g_new X clX5 wd1072 wd1096 wd633 (fs := [.null, .int 0, .int 0]) (by decide) (by decide) (by decide) dX7_row_46 (fun q hq => ?_)
              refine g_widen (k1 := 1) (k2 := 3) (by decide) (by decide) ?_
              refine g_dup X dX7_row_49 rfl ?_
              have FA := (FW.push (F.toFW ksA_act ksA_nd) hq (.inr (5, [.null, .int 0, .int 0]))).swap
              refine g_callI X (c_X5_init_s6 l G (h := q) FA) lk_X7_392 rfl rfl dX7_row_50 (Nat.le_of_ble_eq_true rfl) ⟨by decide, by decide⟩ ⟨by decide, by decide⟩ (fun L M hp => ?_)
              refine g_widen (k1 := 2) (k2 := 63) (by decide) (by decide) ?_
              clear FA
              obtain ⟨z86, FB⟩ := hp
              have FC : FW L M (((q, .inr (5, [.ref z86, .int 0, .int 0])) :: (z86, .inl (cy 2, 60, .inr (.inl (fun _ => 0)))) :: []) ++ (ksA act).map fun k => (a k, ent cy a C D R k)) := FW.selR (x := (z86, .inl (cy 2, 60, .inr (.inl (fun _ => 0)))) :: (q, .inr (5, [.ref z86, .int 0, .int 0])) :: []) FB [1, 0] (by decide) rfl
              have hno : ∀ k, 84 ≤ k ∧ k < 84 + 2 → (baseact k || act k) = false := noact84 HR hA84
              obtain ⟨a, act, C, D, F, I, HA, hold, hnew⟩ := grow (cy := cy) (a := a) (act := act) (C := C) (D := D) (R := R) I HA 84 2 [q, z86] (by decide) (by decide) blk_84.1 blk_84.2.1 blk_84.2.2 hno rfl FC
              have hq0 : q = a 84 := (hnew 84 ⟨by decide, by decide⟩).2.symm
              have e0 := (hold 0 (by decide)).1
              have eA := (hold 24 (by decide)).1
              rw [← e0] at X
              rw [hq0, ← e0, ← eA]
              have hacN := fun (k : Nat) (hk : ¬ (84 ≤ k ∧ k < 84 + 2)) => ((hold k hk).2.1).trans (hac0 k)
              have o80 : C 80 = C0 80 := ((hold 80 (by decide)).2.2.1).trans o80
              have o82 : C 82 = C0 82 := ((hold 82 (by decide)).2.2.1).trans o82
              have o86 : C 86 = C0 86 := ((hold 86 (by decide)).2.2.1).trans o86
              have hst := fun (k : Nat) (hk : baseact k = true) => ((hold k (fun z => by have y := hno k z; rw [hk] at y; cases y)).1).trans (hst k hk)
              have K : Kp [80, 81, 82, 83, 84, 85, 86, 87] C0 D0 C D := fun k hk => by
                have z : ¬ (84 ≤ k ∧ k < 84 + 2) := fun z => hk (by simp only [List.mem_cons, List.not_mem_nil, or_false]; omega)
                exact ⟨((hold k z).2.2.1).trans (K k hk).1, ((hold k z).2.2.2).trans (K k hk).2⟩
              have hN : NowOk (C 3) (C 27) (C 29) := by rw [(hold 3 (by decide)).2.2.1, (hold 27 (by decide)).2.2.1, (hold 29 (by decide)).2.2.1]; exact hN
              have act84 : (baseact 84 || act 84) = true := by rw [(hnew 84 ⟨by decide, by decide⟩).1]; rfl
              have act85 : (baseact 85 || act 85) = true := by rw [(hnew 85 ⟨by decide, by decide⟩).1]; rfl
              have hA84 : act 84 = true := (hnew 84 ⟨by decide, by decide⟩).1
              refine i_aast X F 24 rfl 84 act84 (t0 := 5) rfl (ci := 5) rfl (fun _ => rfl) rfl dX7_row_53 (vp_in_iff.mpr (by decide)) (fun M R F hR hRc => ?_)
              have HR : RA a act R := RA_24 HR 2 (by decide) (fun k hk => ⟨(hold k hk).1, (hold k hk).2.1⟩) (fun k hk => (hnew k hk).1) hR hRc
              clear hold hnew hRc hR FC FB hno e0 eA
              refine g_aload_n X dX7_row_54 rfl (j := 0) rfl ?_
              refine i_get X F 0 rfl rfl fk_X7_32 dX7_row_55 rfl ?_
              refine g_iload_n X dX7_row_58 rfl (j := 1) rfl ?_
              refine i_aald X F 24 rfl (t0 := 5) rfl rfl dX7_row_59 (vp_in_iff.mpr (by decide)) (v := .ref (a 84)) (by show va_rf (R 24 2) = _; rw [HR.1 2 (by decide)]; rw [if_pos hA84]; rfl) ?_
              refine g_iload_n X dX7_row_60 rfl (j := 2) rfl ?_
              refine g_iload_n X dX7_row_61 rfl (j := 3) rfl ?_
              refine g_callVV X (s_X5_begin_x84 l G F I (nI n28) n32 (by omega) (by omega) act84 act85) lk_X7_393 (F.1 84 (act84)).2 (F.1 84 (act84)).1 rfl rfl dX7_row_62 (Nat.le_of_ble_eq_true rfl) ⟨by decide, by decide⟩ ⟨by decide, by decide⟩ (fun L M hp => ?_)
              obtain ⟨C, D, F, I, K1, hr⟩ := hp
              have K := K.step K1 (by decide)
              have hN : NowOk (C 3) (C 27) (C 29) := by rw [(K1 3 (by decide)).1, (K1 27 (by decide)).1, (K1 29 (by decide)).1]; exact hN
              have o80 : C 80 = C0 80 := by rw [(K1 80 (by decide)).1]; exact o80
              have o82 : C 82 = C0 82 := by rw [(K1 82 (by decide)).1]; exact o82
              have o86 : C 86 = C0 86 := by rw [(K1 86 (by decide)).1]; exact o86
              obtain ⟨hw1, hw2⟩ := hr
              refine g_iconst X dX7_row_65 (v := 0) (by decide) ?_
              exact g_iret X hrt dX7_row_66 (by decide) (by decide) ⟨a, act, C, D, R, F, I, HA, HR, hst, hN, K, (row_k (by have tq : (2 : Int32).toInt = 2 := (by decide); omega)), (fun j hj => hacN (50 + 10 * j) (by omega)), Or.inl ⟨rfl, 2, by decide, rfl, (fun j hj => match j, hj with | 0, _ => (by rw [show decide ((0 : Nat) = 2) = false from rfl, Bool.or_false]; exact hacN 80 (by decide)) | 1, _ => (by rw [show decide ((1 : Nat) = 2) = false from rfl, Bool.or_false]; exact hacN 82 (by decide)) | 2, _ => (by rw [show decide ((2 : Nat) = 2) = true from rfl, Bool.or_true]; exact hA84) | 3, _ => (by rw [show decide ((3 : Nat) = 2) = false from rfl, Bool.or_false]; exact hacN 86 (by decide)) | j + 4, hj => absurd hj (by omega)), hw2, hw1, (fun j hj hne => match j, hj, hne with | 0, _, hne => o80 | 1, _, hne => o82 | 2, _, hne => absurd rfl hne | 3, _, hne => o86 | j + 4, hj, _ => absurd hj (by omega))⟩⟩
            · skip
              have act84 : (baseact 84 || act 84) = true := by rw [hA84]; rfl
              have act85 : (baseact 85 || act 85) = true := by rw [((HR.2.2.1 2 (by decide)).trans hA84)]; rfl
              refine i_aald X F 24 rfl (t0 := 5) rfl rfl dX7_row_37 (vp_in_iff.mpr (by decide)) (v := .ref (a 84)) (by show va_rf (R 24 2) = _; rw [HR.1 2 (by decide)]; rw [if_pos hA84]; rfl) ?_
              refine g_ifnonnull X dX7_row_38 (tgt := 54) (by decide) ?_
              refine g_aload_n X dX7_row_54 rfl (j := 0) rfl ?_
              refine i_get X F 0 rfl rfl fk_X7_32 dX7_row_55 rfl ?_
              refine g_iload_n X dX7_row_58 rfl (j := 1) rfl ?_
              refine i_aald X F 24 rfl (t0 := 5) rfl rfl dX7_row_59 (vp_in_iff.mpr (by decide)) (v := .ref (a 84)) (by show va_rf (R 24 2) = _; rw [HR.1 2 (by decide)]; rw [if_pos hA84]; rfl) ?_
              refine g_iload_n X dX7_row_60 rfl (j := 2) rfl ?_
              refine g_iload_n X dX7_row_61 rfl (j := 3) rfl ?_
              refine g_callVV X (s_X5_begin_x84 l G F I (nI n28) n32 (by omega) (by omega) act84 act85) lk_X7_393 (F.1 84 (act84)).2 (F.1 84 (act84)).1 rfl rfl dX7_row_62 (Nat.le_of_ble_eq_true rfl) ⟨by decide, by decide⟩ ⟨by decide, by decide⟩ (fun L M hp => ?_)
              obtain ⟨C, D, F, I, K1, hr⟩ := hp
              have K := K.step K1 (by decide)
              have hN : NowOk (C 3) (C 27) (C 29) := by rw [(K1 3 (by decide)).1, (K1 27 (by decide)).1, (K1 29 (by decide)).1]; exact hN
              have o80 : C 80 = C0 80 := by rw [(K1 80 (by decide)).1]; exact o80
              have o82 : C 82 = C0 82 := by rw [(K1 82 (by decide)).1]; exact o82
              have o86 : C 86 = C0 86 := by rw [(K1 86 (by decide)).1]; exact o86
              obtain ⟨hw1, hw2⟩ := hr
              refine g_iconst X dX7_row_65 (v := 0) (by decide) ?_
              exact g_iret X hrt dX7_row_66 (by decide) (by decide) ⟨a, act, C, D, R, F, I, HA, HR, hst, hN, K, (row_k (by have tq : (2 : Int32).toInt = 2 := (by decide); omega)), (fun j hj => rfl), Or.inl ⟨rfl, 2, by decide, rfl, (fun j hj => match j, hj with | 0, _ => (by rw [show decide ((0 : Nat) = 2) = false from rfl, Bool.or_false]) | 1, _ => (by rw [show decide ((1 : Nat) = 2) = false from rfl, Bool.or_false]) | 2, _ => (by rw [show decide ((2 : Nat) = 2) = true from rfl, Bool.or_true]; exact hA84) | 3, _ => (by rw [show decide ((3 : Nat) = 2) = false from rfl, Bool.or_false]) | j + 4, hj => absurd hj (by omega)), hw2, hw1, (fun j hj hne => match j, hj, hne with | 0, _, hne => o80 | 1, _, hne => o82 | 2, _, hne => absurd rfl hne | 3, _, hne => o86 | j + 4, hj, _ => absurd hj (by omega))⟩⟩
          · skip
            have q31t : ¬ (0 : Int32).toInt ≤ p2.toInt := fun z => q31 (Int32.le_iff_toInt_le.mpr z)
            have q31k : (0 : Int32).toInt = 0 := (by decide)
            have q31b := Int32.toInt_lt p2
            refine g_bipush X dX7_row_29 (v := -3) (by decide) ?_
            exact g_iret X hrt dX7_row_31 (by decide) (by decide) ⟨a, act, C, D, R, F, I, HA, HR, hst, hN, K, (row_n (by have tq : (2 : Int32).toInt = 2 := (by decide); omega)), (fun j hj => rfl), Or.inr ⟨by decide, (fun j hj => ⟨rfl, match j, hj with | 0, _ => o80 | 1, _ => o82 | 2, _ => o84 | 3, _ => o86 | j + 4, hj => absurd hj (by omega)⟩)⟩⟩
        · skip
          have q30t : ¬ p2.toInt ≤ (60 : Int32).toInt := fun z => q30 (Int32.le_iff_toInt_le.mpr z)
          have q30k : (60 : Int32).toInt = 60 := (by decide)
          have q30b := Int32.toInt_lt p2
          obtain ⟨n36, hn36, rfl⟩ := nI_of (x := p2) (fun z => by have z2 := Int32.lt_iff_toInt_lt.mp z; have z3 : (0 : Int32).toInt = 0 := (by decide); omega)
          rw [nI_toInt (by omega)] at q30t
          have tn36 := nI_toInt (n := n36) (by omega)
          refine g_bipush X dX7_row_22 (v := -2) (by decide) ?_
          exact g_iret X hrt dX7_row_24 (by decide) (by decide) ⟨a, act, C, D, R, F, I, HA, HR, hst, hN, K, (row_o (by have tq : (2 : Int32).toInt = 2 := (by decide); omega)), (fun j hj => rfl), Or.inr ⟨by decide, (fun j hj => ⟨rfl, match j, hj with | 0, _ => o80 | 1, _ => o82 | 2, _ => o84 | 3, _ => o86 | j + 4, hj => absurd hj (by omega)⟩)⟩⟩
  · skip
    refine g_iload_n X dX7_row_0 rfl (j := 1) rfl ?_
    refine g_callSI X (s_X7_isSlot_3 l G F I  ) lk_X7_389 rfl rfl dX7_row_1 (Nat.le_of_ble_eq_true rfl) ⟨by decide, by decide⟩ ⟨by decide, by decide⟩ (fun r37 L M hp => ?_)
    obtain ⟨C, D, F, I, K1, hr⟩ := hp
    have K := K.step K1 (by decide)
    have hN : NowOk (C 3) (C 27) (C 29) := by rw [(K1 3 (by decide)).1, (K1 27 (by decide)).1, (K1 29 (by decide)).1]; exact hN
    have o80 : C 80 = C0 80 := by rw [(K1 80 (by decide)).1]; exact o80
    have o82 : C 82 = C0 82 := by rw [(K1 82 (by decide)).1]; exact o82
    have o84 : C 84 = C0 84 := by rw [(K1 84 (by decide)).1]; exact o84
    have o86 : C 86 = C0 86 := by rw [(K1 86 (by decide)).1]; exact o86
    subst hr
    refine g_if_eq X dX7_row_4 (tgt := 22) (by decide) (fun q => absurd q (by decide)) (fun _ => ?_)
    refine g_iload_n X dX7_row_7 rfl (j := 2) rfl ?_
    refine g_if_lt X dX7_row_8 (tgt := 22) (by decide) (fun q38 => ?_) (fun q38 => ?_)
    · skip
      have q38t : p1.toInt < (0 : Int32).toInt := Int32.lt_iff_toInt_lt.mp q38
      have q38k : (0 : Int32).toInt = 0 := (by decide)
      have q38b := Int32.toInt_lt p1
      refine g_bipush X dX7_row_22 (v := -2) (by decide) ?_
      exact g_iret X hrt dX7_row_24 (by decide) (by decide) ⟨a, act, C, D, R, F, I, HA, HR, hst, hN, K, (row_o (by have tq : (3 : Int32).toInt = 3 := (by decide); omega)), (fun j hj => rfl), Or.inr ⟨by decide, (fun j hj => ⟨rfl, match j, hj with | 0, _ => o80 | 1, _ => o82 | 2, _ => o84 | 3, _ => o86 | j + 4, hj => absurd hj (by omega)⟩)⟩⟩
    · skip
      have q38t : ¬ p1.toInt < (0 : Int32).toInt := fun z => q38 (Int32.lt_iff_toInt_lt.mpr z)
      have q38k : (0 : Int32).toInt = 0 := (by decide)
      have q38b := Int32.toInt_lt p1
      obtain ⟨n39, hn39, rfl⟩ := nI_of (x := p1) (fun z => by have z2 := Int32.lt_iff_toInt_lt.mp z; have z3 : (0 : Int32).toInt = 0 := (by decide); omega)
      rw [nI_toInt (by omega)] at q38t
      have tn39 := nI_toInt (n := n39) (by omega)
      refine g_iload_n X dX7_row_11 rfl (j := 2) rfl ?_
      refine g_iconst X dX7_row_12 (v := 3) (by decide) ?_
      refine g_icmp_gt X dX7_row_13 (tgt := 22) (by decide) (fun q40 => ?_) (fun q40 => ?_)
      · skip
        have q40 : 3 < n39 := (nI_ltI (a := 3) (b := n39) (by omega) (by omega)).mp q40
        refine g_bipush X dX7_row_22 (v := -2) (by decide) ?_
        exact g_iret X hrt dX7_row_24 (by decide) (by decide) ⟨a, act, C, D, R, F, I, HA, HR, hst, hN, K, (row_o (by have tq : (3 : Int32).toInt = 3 := (by decide); omega)), (fun j hj => rfl), Or.inr ⟨by decide, (fun j hj => ⟨rfl, match j, hj with | 0, _ => o80 | 1, _ => o82 | 2, _ => o84 | 3, _ => o86 | j + 4, hj => absurd hj (by omega)⟩)⟩⟩
      · skip
        have q40 : ¬ 3 < n39 := fun z => q40 ((nI_ltI (a := 3) (b := n39) (by omega) (by omega)).mpr z)
        refine g_iload_n X dX7_row_16 rfl (j := 3) rfl ?_
        refine g_bipush X dX7_row_17 (v := 60) (by decide) ?_
        refine g_icmp_le X dX7_row_19 (tgt := 25) (by decide) (fun q41 => ?_) (fun q41 => ?_)
        · skip
          have q41t : p2.toInt ≤ (60 : Int32).toInt := Int32.le_iff_toInt_le.mp q41
          have q41k : (60 : Int32).toInt = 60 := (by decide)
          have q41b := Int32.toInt_lt p2
          refine g_iload_n X dX7_row_25 rfl (j := 3) rfl ?_
          refine g_if_ge X dX7_row_26 (tgt := 32) (by decide) (fun q42 => ?_) (fun q42 => ?_)
          · skip
            have q42t : (0 : Int32).toInt ≤ p2.toInt := Int32.le_iff_toInt_le.mp q42
            have q42k : (0 : Int32).toInt = 0 := (by decide)
            have q42b := Int32.toInt_lt p2
            obtain ⟨n43, hn43, rfl⟩ := nI_of (x := p2) (fun z => by have z2 := Int32.lt_iff_toInt_lt.mp z; have z3 : (0 : Int32).toInt = 0 := (by decide); omega)
            rw [nI_toInt (by omega)] at q42t
            have tn43 := nI_toInt (n := n43) (by omega)
            refine g_aload_n X dX7_row_32 rfl (j := 0) rfl ?_
            refine i_get X F 0 rfl rfl fk_X7_32 dX7_row_33 rfl ?_
            refine g_iload_n X dX7_row_36 rfl (j := 1) rfl ?_
            rcases (Bool.eq_false_or_eq_true (act 86)).symm with hA86 | hA86
            · skip
              refine i_aald X F 24 rfl (t0 := 5) rfl rfl dX7_row_37 (vp_in_iff.mpr (by decide)) (v := .null) (by show va_rf (R 24 3) = _; rw [HR.1 3 (by decide)]; rw [if_neg (by rw [hA86]; decide)]; rfl) ?_
              refine g_ifnonnullN X dX7_row_38 ?_
              refine g_aload_n X dX7_row_41 rfl (j := 0) rfl ?_
              refine i_get X F 0 rfl rfl fk_X7_32 dX7_row_42 rfl ?_
              refine g_iload_n X dX7_row_45 rfl (j := 1) rfl ?_
              refine g_new X clX5 wd1072 wd1096 wd633 (fs := [.null, .int 0, .int 0]) (by decide) (by decide) (by decide) dX7_row_46 (fun q hq => ?_)
              refine g_widen (k1 := 1) (k2 := 3) (by decide) (by decide) ?_
              refine g_dup X dX7_row_49 rfl ?_
              have FA := (FW.push (F.toFW ksA_act ksA_nd) hq (.inr (5, [.null, .int 0, .int 0]))).swap
              refine g_callI X (c_X5_init_s6 l G (h := q) FA) lk_X7_392 rfl rfl dX7_row_50 (Nat.le_of_ble_eq_true rfl) ⟨by decide, by decide⟩ ⟨by decide, by decide⟩ (fun L M hp => ?_)
              refine g_widen (k1 := 2) (k2 := 63) (by decide) (by decide) ?_
              clear FA
              obtain ⟨z86, FB⟩ := hp
              have FC : FW L M (((q, .inr (5, [.ref z86, .int 0, .int 0])) :: (z86, .inl (cy 2, 60, .inr (.inl (fun _ => 0)))) :: []) ++ (ksA act).map fun k => (a k, ent cy a C D R k)) := FW.selR (x := (z86, .inl (cy 2, 60, .inr (.inl (fun _ => 0)))) :: (q, .inr (5, [.ref z86, .int 0, .int 0])) :: []) FB [1, 0] (by decide) rfl
              have hno : ∀ k, 86 ≤ k ∧ k < 86 + 2 → (baseact k || act k) = false := noact86 HR hA86
              obtain ⟨a, act, C, D, F, I, HA, hold, hnew⟩ := grow (cy := cy) (a := a) (act := act) (C := C) (D := D) (R := R) I HA 86 2 [q, z86] (by decide) (by decide) blk_86.1 blk_86.2.1 blk_86.2.2 hno rfl FC
              have hq0 : q = a 86 := (hnew 86 ⟨by decide, by decide⟩).2.symm
              have e0 := (hold 0 (by decide)).1
              have eA := (hold 24 (by decide)).1
              rw [← e0] at X
              rw [hq0, ← e0, ← eA]
              have hacN := fun (k : Nat) (hk : ¬ (86 ≤ k ∧ k < 86 + 2)) => ((hold k hk).2.1).trans (hac0 k)
              have o80 : C 80 = C0 80 := ((hold 80 (by decide)).2.2.1).trans o80
              have o82 : C 82 = C0 82 := ((hold 82 (by decide)).2.2.1).trans o82
              have o84 : C 84 = C0 84 := ((hold 84 (by decide)).2.2.1).trans o84
              have hst := fun (k : Nat) (hk : baseact k = true) => ((hold k (fun z => by have y := hno k z; rw [hk] at y; cases y)).1).trans (hst k hk)
              have K : Kp [80, 81, 82, 83, 84, 85, 86, 87] C0 D0 C D := fun k hk => by
                have z : ¬ (86 ≤ k ∧ k < 86 + 2) := fun z => hk (by simp only [List.mem_cons, List.not_mem_nil, or_false]; omega)
                exact ⟨((hold k z).2.2.1).trans (K k hk).1, ((hold k z).2.2.2).trans (K k hk).2⟩
              have hN : NowOk (C 3) (C 27) (C 29) := by rw [(hold 3 (by decide)).2.2.1, (hold 27 (by decide)).2.2.1, (hold 29 (by decide)).2.2.1]; exact hN
              have act86 : (baseact 86 || act 86) = true := by rw [(hnew 86 ⟨by decide, by decide⟩).1]; rfl
              have act87 : (baseact 87 || act 87) = true := by rw [(hnew 87 ⟨by decide, by decide⟩).1]; rfl
              have hA86 : act 86 = true := (hnew 86 ⟨by decide, by decide⟩).1
              refine i_aast X F 24 rfl 86 act86 (t0 := 5) rfl (ci := 5) rfl (fun _ => rfl) rfl dX7_row_53 (vp_in_iff.mpr (by decide)) (fun M R F hR hRc => ?_)
              have HR : RA a act R := RA_24 HR 3 (by decide) (fun k hk => ⟨(hold k hk).1, (hold k hk).2.1⟩) (fun k hk => (hnew k hk).1) hR hRc
              clear hold hnew hRc hR FC FB hno e0 eA
              refine g_aload_n X dX7_row_54 rfl (j := 0) rfl ?_
              refine i_get X F 0 rfl rfl fk_X7_32 dX7_row_55 rfl ?_
              refine g_iload_n X dX7_row_58 rfl (j := 1) rfl ?_
              refine i_aald X F 24 rfl (t0 := 5) rfl rfl dX7_row_59 (vp_in_iff.mpr (by decide)) (v := .ref (a 86)) (by show va_rf (R 24 3) = _; rw [HR.1 3 (by decide)]; rw [if_pos hA86]; rfl) ?_
              refine g_iload_n X dX7_row_60 rfl (j := 2) rfl ?_
              refine g_iload_n X dX7_row_61 rfl (j := 3) rfl ?_
              refine g_callVV X (s_X5_begin_x86 l G F I (nI n39) n43 (by omega) (by omega) act86 act87) lk_X7_393 (F.1 86 (act86)).2 (F.1 86 (act86)).1 rfl rfl dX7_row_62 (Nat.le_of_ble_eq_true rfl) ⟨by decide, by decide⟩ ⟨by decide, by decide⟩ (fun L M hp => ?_)
              obtain ⟨C, D, F, I, K1, hr⟩ := hp
              have K := K.step K1 (by decide)
              have hN : NowOk (C 3) (C 27) (C 29) := by rw [(K1 3 (by decide)).1, (K1 27 (by decide)).1, (K1 29 (by decide)).1]; exact hN
              have o80 : C 80 = C0 80 := by rw [(K1 80 (by decide)).1]; exact o80
              have o82 : C 82 = C0 82 := by rw [(K1 82 (by decide)).1]; exact o82
              have o84 : C 84 = C0 84 := by rw [(K1 84 (by decide)).1]; exact o84
              obtain ⟨hw1, hw2⟩ := hr
              refine g_iconst X dX7_row_65 (v := 0) (by decide) ?_
              exact g_iret X hrt dX7_row_66 (by decide) (by decide) ⟨a, act, C, D, R, F, I, HA, HR, hst, hN, K, (row_k (by have tq : (3 : Int32).toInt = 3 := (by decide); omega)), (fun j hj => hacN (50 + 10 * j) (by omega)), Or.inl ⟨rfl, 3, by decide, rfl, (fun j hj => match j, hj with | 0, _ => (by rw [show decide ((0 : Nat) = 3) = false from rfl, Bool.or_false]; exact hacN 80 (by decide)) | 1, _ => (by rw [show decide ((1 : Nat) = 3) = false from rfl, Bool.or_false]; exact hacN 82 (by decide)) | 2, _ => (by rw [show decide ((2 : Nat) = 3) = false from rfl, Bool.or_false]; exact hacN 84 (by decide)) | 3, _ => (by rw [show decide ((3 : Nat) = 3) = true from rfl, Bool.or_true]; exact hA86) | j + 4, hj => absurd hj (by omega)), hw2, hw1, (fun j hj hne => match j, hj, hne with | 0, _, hne => o80 | 1, _, hne => o82 | 2, _, hne => o84 | 3, _, hne => absurd rfl hne | j + 4, hj, _ => absurd hj (by omega))⟩⟩
            · skip
              have act86 : (baseact 86 || act 86) = true := by rw [hA86]; rfl
              have act87 : (baseact 87 || act 87) = true := by rw [((HR.2.2.1 3 (by decide)).trans hA86)]; rfl
              refine i_aald X F 24 rfl (t0 := 5) rfl rfl dX7_row_37 (vp_in_iff.mpr (by decide)) (v := .ref (a 86)) (by show va_rf (R 24 3) = _; rw [HR.1 3 (by decide)]; rw [if_pos hA86]; rfl) ?_
              refine g_ifnonnull X dX7_row_38 (tgt := 54) (by decide) ?_
              refine g_aload_n X dX7_row_54 rfl (j := 0) rfl ?_
              refine i_get X F 0 rfl rfl fk_X7_32 dX7_row_55 rfl ?_
              refine g_iload_n X dX7_row_58 rfl (j := 1) rfl ?_
              refine i_aald X F 24 rfl (t0 := 5) rfl rfl dX7_row_59 (vp_in_iff.mpr (by decide)) (v := .ref (a 86)) (by show va_rf (R 24 3) = _; rw [HR.1 3 (by decide)]; rw [if_pos hA86]; rfl) ?_
              refine g_iload_n X dX7_row_60 rfl (j := 2) rfl ?_
              refine g_iload_n X dX7_row_61 rfl (j := 3) rfl ?_
              refine g_callVV X (s_X5_begin_x86 l G F I (nI n39) n43 (by omega) (by omega) act86 act87) lk_X7_393 (F.1 86 (act86)).2 (F.1 86 (act86)).1 rfl rfl dX7_row_62 (Nat.le_of_ble_eq_true rfl) ⟨by decide, by decide⟩ ⟨by decide, by decide⟩ (fun L M hp => ?_)
              obtain ⟨C, D, F, I, K1, hr⟩ := hp
              have K := K.step K1 (by decide)
              have hN : NowOk (C 3) (C 27) (C 29) := by rw [(K1 3 (by decide)).1, (K1 27 (by decide)).1, (K1 29 (by decide)).1]; exact hN
              have o80 : C 80 = C0 80 := by rw [(K1 80 (by decide)).1]; exact o80
              have o82 : C 82 = C0 82 := by rw [(K1 82 (by decide)).1]; exact o82
              have o84 : C 84 = C0 84 := by rw [(K1 84 (by decide)).1]; exact o84
              obtain ⟨hw1, hw2⟩ := hr
              refine g_iconst X dX7_row_65 (v := 0) (by decide) ?_
              exact g_iret X hrt dX7_row_66 (by decide) (by decide) ⟨a, act, C, D, R, F, I, HA, HR, hst, hN, K, (row_k (by have tq : (3 : Int32).toInt = 3 := (by decide); omega)), (fun j hj => rfl), Or.inl ⟨rfl, 3, by decide, rfl, (fun j hj => match j, hj with | 0, _ => (by rw [show decide ((0 : Nat) = 3) = false from rfl, Bool.or_false]) | 1, _ => (by rw [show decide ((1 : Nat) = 3) = false from rfl, Bool.or_false]) | 2, _ => (by rw [show decide ((2 : Nat) = 3) = false from rfl, Bool.or_false]) | 3, _ => (by rw [show decide ((3 : Nat) = 3) = true from rfl, Bool.or_true]; exact hA86) | j + 4, hj => absurd hj (by omega)), hw2, hw1, (fun j hj hne => match j, hj, hne with | 0, _, hne => o80 | 1, _, hne => o82 | 2, _, hne => o84 | 3, _, hne => absurd rfl hne | j + 4, hj, _ => absurd hj (by omega))⟩⟩
          · skip
            have q42t : ¬ (0 : Int32).toInt ≤ p2.toInt := fun z => q42 (Int32.le_iff_toInt_le.mpr z)
            have q42k : (0 : Int32).toInt = 0 := (by decide)
            have q42b := Int32.toInt_lt p2
            refine g_bipush X dX7_row_29 (v := -3) (by decide) ?_
            exact g_iret X hrt dX7_row_31 (by decide) (by decide) ⟨a, act, C, D, R, F, I, HA, HR, hst, hN, K, (row_n (by have tq : (3 : Int32).toInt = 3 := (by decide); omega)), (fun j hj => rfl), Or.inr ⟨by decide, (fun j hj => ⟨rfl, match j, hj with | 0, _ => o80 | 1, _ => o82 | 2, _ => o84 | 3, _ => o86 | j + 4, hj => absurd hj (by omega)⟩)⟩⟩
        · skip
          have q41t : ¬ p2.toInt ≤ (60 : Int32).toInt := fun z => q41 (Int32.le_iff_toInt_le.mpr z)
          have q41k : (60 : Int32).toInt = 60 := (by decide)
          have q41b := Int32.toInt_lt p2
          obtain ⟨n47, hn47, rfl⟩ := nI_of (x := p2) (fun z => by have z2 := Int32.lt_iff_toInt_lt.mp z; have z3 : (0 : Int32).toInt = 0 := (by decide); omega)
          rw [nI_toInt (by omega)] at q41t
          have tn47 := nI_toInt (n := n47) (by omega)
          refine g_bipush X dX7_row_22 (v := -2) (by decide) ?_
          exact g_iret X hrt dX7_row_24 (by decide) (by decide) ⟨a, act, C, D, R, F, I, HA, HR, hst, hN, K, (row_o (by have tq : (3 : Int32).toInt = 3 := (by decide); omega)), (fun j hj => rfl), Or.inr ⟨by decide, (fun j hj => ⟨rfl, match j, hj with | 0, _ => o80 | 1, _ => o82 | 2, _ => o84 | 3, _ => o86 | j + 4, hj => absurd hj (by omega)⟩)⟩⟩
