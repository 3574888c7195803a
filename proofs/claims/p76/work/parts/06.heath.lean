set_option maxHeartbeats 4000000 in
set_option maxRecDepth 100000 in
theorem s_X2_isTold (l : Launch) (G : va_G) {cy : Nat → ClassId} {L : List Nat} {M : Nat → va_E} {a : Nat → Nat} {act : Nat → Bool} {C0 : Nat → Nat → Int32} {D0 : Nat → Nat → Int64} {R : Nat → Nat → Option Nat} (F : WI L M a act (ent cy a C0 D0 R)) (I : Inv C0)   : MI l G cy yX2_isTold cX2_isTold 1 (some .boolean) 0 0 0 [.ref (a 3)] L M (fun r L2 M2 => ∃ C2 D2, WI L2 M2 a act (ent cy a C2 D2 R) ∧ Inv C2 ∧ Kp [] C0 D0 C2 D2 ∧ (r = 0 ∨ r = 1)) := by
  refine MI.of (own := RX2) rfl (by decide) (Nat.le_of_ble_eq_true rfl) ?_
  intro p e s m below meth c A X hrt hnm
  obtain ⟨C, D, hC0, hD0, F, I, K⟩ : ∃ C D, C = C0 ∧ D = D0 ∧ WI L M a act (ent cy a C D R) ∧ Inv C ∧ Kp [] C0 D0 C D := ⟨C0, D0, rfl, rfl, F, I, Kp.rf⟩
  refine g_aload_n X dX2_isTold_0 rfl (j := 0) rfl ?_
  refine i_get X F 3 rfl rfl fk_X2_9 dX2_isTold_1 rfl ?_
  refine Go.gen (fun o1 => ?_)
  refine g_if_le X dX2_isTold_4 (tgt := 11) (by decide) (fun q2 => ?_) (fun q2 => ?_)
  · skip
    have q2t : o1.toInt ≤ (0 : Int32).toInt := Int32.le_iff_toInt_le.mp q2
    have q2k : (0 : Int32).toInt = 0 := (by decide)
    have q2b := Int32.toInt_lt o1
    refine g_iconst X dX2_isTold_11 (v := 0) (by decide) ?_
    exact g_zret X hrt rfl dX2_isTold_12 (by decide) (by decide) ⟨C, D, F, I, K, Or.inl rfl⟩
  · skip
    have q2t : ¬ o1.toInt ≤ (0 : Int32).toInt := fun z => q2 (Int32.le_iff_toInt_le.mpr z)
    have q2k : (0 : Int32).toInt = 0 := (by decide)
    have q2b := Int32.toInt_lt o1
    obtain ⟨n3, hn3, rfl⟩ := nI_of (x := o1) (fun z => by have z2 := Int32.lt_iff_toInt_lt.mp z; have z3 : (0 : Int32).toInt = 0 := (by decide); omega)
    rw [nI_toInt (by omega)] at q2t
    have tn3 := nI_toInt (n := n3) (by omega)
    refine g_iconst X dX2_isTold_7 (v := 1) (by decide) ?_
    refine g_goto X dX2_isTold_8 (tgt := 12) (by decide) ?_
    exact g_zret X hrt rfl dX2_isTold_12 (by decide) (by decide) ⟨C, D, F, I, K, Or.inr rfl⟩
set_option maxHeartbeats 4000000 in
set_option maxRecDepth 100000 in
theorem s_X2_hasInn (l : Launch) (G : va_G) {cy : Nat → ClassId} {L : List Nat} {M : Nat → va_E} {a : Nat → Nat} {act : Nat → Bool} {C0 : Nat → Nat → Int32} {D0 : Nat → Nat → Int64} {R : Nat → Nat → Option Nat} (F : WI L M a act (ent cy a C0 D0 R)) (I : Inv C0) (p0 : Int32)  : MI l G cy yX2_hasInn cX2_hasInn 2 (some .boolean) 0 0 0 [.ref (a 3), .int p0] L M (fun r L2 M2 => ∃ C2 D2, WI L2 M2 a act (ent cy a C2 D2 R) ∧ Inv C2 ∧ Kp [] C0 D0 C2 D2 ∧ (r = 0 ∨ (r = 1 ∧ ∃ n : Nat, 0 ≤ n ∧ n ≤ 3 ∧ p0 = nI n))) := by
  refine MI.of (own := RX2) rfl (by decide) (Nat.le_of_ble_eq_true rfl) ?_
  intro p e s m below meth c A X hrt hnm
  obtain ⟨C, D, hC0, hD0, F, I, K⟩ : ∃ C D, C = C0 ∧ D = D0 ∧ WI L M a act (ent cy a C D R) ∧ Inv C ∧ Kp [] C0 D0 C D := ⟨C0, D0, rfl, rfl, F, I, Kp.rf⟩
  refine g_iload_n X dX2_hasInn_0 rfl (j := 1) rfl ?_
  refine g_if_lt X dX2_hasInn_1 (tgt := 16) (by decide) (fun q1 => ?_) (fun q1 => ?_)
  · skip
    have q1t : p0.toInt < (0 : Int32).toInt := Int32.lt_iff_toInt_lt.mp q1
    have q1k : (0 : Int32).toInt = 0 := (by decide)
    have q1b := Int32.toInt_lt p0
    refine g_iconst X dX2_hasInn_16 (v := 0) (by decide) ?_
    exact g_zret X hrt rfl dX2_hasInn_17 (by decide) (by decide) ⟨C, D, F, I, K, Or.inl rfl⟩
  · skip
    have q1t : ¬ p0.toInt < (0 : Int32).toInt := fun z => q1 (Int32.lt_iff_toInt_lt.mpr z)
    have q1k : (0 : Int32).toInt = 0 := (by decide)
    have q1b := Int32.toInt_lt p0
    obtain ⟨n2, hn2, rfl⟩ := nI_of (x := p0) (fun z => by have z2 := Int32.lt_iff_toInt_lt.mp z; have z3 : (0 : Int32).toInt = 0 := (by decide); omega)
    rw [nI_toInt (by omega)] at q1t
    have tn2 := nI_toInt (n := n2) (by omega)
    refine g_iload_n X dX2_hasInn_4 rfl (j := 1) rfl ?_
    refine g_aload_n X dX2_hasInn_5 rfl (j := 0) rfl ?_
    obtain ⟨n3, hn3, en3⟩ := rg_nat ((I 3 4).2.1 rfl) (by decide)
    refine i_get X F 3 rfl rfl fk_X2_24 dX2_hasInn_6 (v := .int (nI n3)) (congrArg (fun z => some (Value.int z)) en3) ?_
    refine g_icmp_ge X dX2_hasInn_9 (tgt := 16) (by decide) (fun q4 => ?_) (fun q4 => ?_)
    · skip
      have q4 : n3 ≤ n2 := (nI_leI (a := n3) (b := n2) (by omega) (by omega)).mp q4
      refine g_iconst X dX2_hasInn_16 (v := 0) (by decide) ?_
      exact g_zret X hrt rfl dX2_hasInn_17 (by decide) (by decide) ⟨C, D, F, I, K, Or.inl rfl⟩
    · skip
      have q4 : ¬ n3 ≤ n2 := fun z => q4 ((nI_leI (a := n3) (b := n2) (by omega) (by omega)).mpr z)
      refine g_iconst X dX2_hasInn_12 (v := 1) (by decide) ?_
      refine g_goto X dX2_hasInn_13 (tgt := 17) (by decide) ?_
      exact g_zret X hrt rfl dX2_hasInn_17 (by decide) (by decide) ⟨C, D, F, I, K, Or.inr ⟨rfl, n2, by omega, by omega, rfl⟩⟩
set_option maxHeartbeats 4000000 in
set_option maxRecDepth 100000 in
theorem s_X2_hasPost (l : Launch) (G : va_G) {cy : Nat → ClassId} {L : List Nat} {M : Nat → va_E} {a : Nat → Nat} {act : Nat → Bool} {C0 : Nat → Nat → Int32} {D0 : Nat → Nat → Int64} {R : Nat → Nat → Option Nat} (F : WI L M a act (ent cy a C0 D0 R)) (I : Inv C0) (p0 : Int32)  : MI l G cy yX2_hasPost cX2_hasPost 2 (some .boolean) 0 0 0 [.ref (a 3), .int p0] L M (fun r L2 M2 => ∃ C2 D2, WI L2 M2 a act (ent cy a C2 D2 R) ∧ Inv C2 ∧ Kp [] C0 D0 C2 D2 ∧ (r = 0 ∨ (r = 1 ∧ ∃ n : Nat, 0 ≤ n ∧ n ≤ 6 ∧ p0 = nI n))) := by
  refine MI.of (own := RX2) rfl (by decide) (Nat.le_of_ble_eq_true rfl) ?_
  intro p e s m below meth c A X hrt hnm
  obtain ⟨C, D, hC0, hD0, F, I, K⟩ : ∃ C D, C = C0 ∧ D = D0 ∧ WI L M a act (ent cy a C D R) ∧ Inv C ∧ Kp [] C0 D0 C D := ⟨C0, D0, rfl, rfl, F, I, Kp.rf⟩
  refine g_iload_n X dX2_hasPost_0 rfl (j := 1) rfl ?_
  refine g_if_lt X dX2_hasPost_1 (tgt := 16) (by decide) (fun q1 => ?_) (fun q1 => ?_)
  · skip
    have q1t : p0.toInt < (0 : Int32).toInt := Int32.lt_iff_toInt_lt.mp q1
    have q1k : (0 : Int32).toInt = 0 := (by decide)
    have q1b := Int32.toInt_lt p0
    refine g_iconst X dX2_hasPost_16 (v := 0) (by decide) ?_
    exact g_zret X hrt rfl dX2_hasPost_17 (by decide) (by decide) ⟨C, D, F, I, K, Or.inl rfl⟩
  · skip
    have q1t : ¬ p0.toInt < (0 : Int32).toInt := fun z => q1 (Int32.lt_iff_toInt_lt.mpr z)
    have q1k : (0 : Int32).toInt = 0 := (by decide)
    have q1b := Int32.toInt_lt p0
    obtain ⟨n2, hn2, rfl⟩ := nI_of (x := p0) (fun z => by have z2 := Int32.lt_iff_toInt_lt.mp z; have z3 : (0 : Int32).toInt = 0 := (by decide); omega)
    rw [nI_toInt (by omega)] at q1t
    have tn2 := nI_toInt (n := n2) (by omega)
    refine g_iload_n X dX2_hasPost_4 rfl (j := 1) rfl ?_
    refine g_aload_n X dX2_hasPost_5 rfl (j := 0) rfl ?_
    obtain ⟨n3, hn3, en3⟩ := rg_nat ((I 3 5).2.2.1 rfl) (by decide)
    refine i_get X F 3 rfl rfl fk_X2_27 dX2_hasPost_6 (v := .int (nI n3)) (congrArg (fun z => some (Value.int z)) en3) ?_
    refine g_icmp_ge X dX2_hasPost_9 (tgt := 16) (by decide) (fun q4 => ?_) (fun q4 => ?_)
    · skip
      have q4 : n3 ≤ n2 := (nI_leI (a := n3) (b := n2) (by omega) (by omega)).mp q4
      refine g_iconst X dX2_hasPost_16 (v := 0) (by decide) ?_
      exact g_zret X hrt rfl dX2_hasPost_17 (by decide) (by decide) ⟨C, D, F, I, K, Or.inl rfl⟩
    · skip
      have q4 : ¬ n3 ≤ n2 := fun z => q4 ((nI_leI (a := n3) (b := n2) (by omega) (by omega)).mpr z)
      refine g_iconst X dX2_hasPost_12 (v := 1) (by decide) ?_
      refine g_goto X dX2_hasPost_13 (tgt := 17) (by decide) ?_
      exact g_zret X hrt rfl dX2_hasPost_17 (by decide) (by decide) ⟨C, D, F, I, K, Or.inr ⟨rfl, n2, by omega, by omega, rfl⟩⟩
set_option maxHeartbeats 4000000 in
set_option maxRecDepth 100000 in
theorem s_X2_hasWalker (l : Launch) (G : va_G) {cy : Nat → ClassId} {L : List Nat} {M : Nat → va_E} {a : Nat → Nat} {act : Nat → Bool} {C0 : Nat → Nat → Int32} {D0 : Nat → Nat → Int64} {R : Nat → Nat → Option Nat} (F : WI L M a act (ent cy a C0 D0 R)) (I : Inv C0) (p0 : Int32)  : MI l G cy yX2_hasWalker cX2_hasWalker 2 (some .boolean) 0 0 0 [.ref (a 3), .int p0] L M (fun r L2 M2 => ∃ C2 D2, WI L2 M2 a act (ent cy a C2 D2 R) ∧ Inv C2 ∧ Kp [] C0 D0 C2 D2 ∧ (r = 0 ∨ (r = 1 ∧ ∃ n : Nat, 0 ≤ n ∧ n ≤ 7 ∧ p0 = nI n))) := by
  refine MI.of (own := RX2) rfl (by decide) (Nat.le_of_ble_eq_true rfl) ?_
  intro p e s m below meth c A X hrt hnm
  obtain ⟨C, D, hC0, hD0, F, I, K⟩ : ∃ C D, C = C0 ∧ D = D0 ∧ WI L M a act (ent cy a C D R) ∧ Inv C ∧ Kp [] C0 D0 C D := ⟨C0, D0, rfl, rfl, F, I, Kp.rf⟩
  refine g_iload_n X dX2_hasWalker_0 rfl (j := 1) rfl ?_
  refine g_if_lt X dX2_hasWalker_1 (tgt := 16) (by decide) (fun q1 => ?_) (fun q1 => ?_)
  · skip
    have q1t : p0.toInt < (0 : Int32).toInt := Int32.lt_iff_toInt_lt.mp q1
    have q1k : (0 : Int32).toInt = 0 := (by decide)
    have q1b := Int32.toInt_lt p0
    refine g_iconst X dX2_hasWalker_16 (v := 0) (by decide) ?_
    exact g_zret X hrt rfl dX2_hasWalker_17 (by decide) (by decide) ⟨C, D, F, I, K, Or.inl rfl⟩
  · skip
    have q1t : ¬ p0.toInt < (0 : Int32).toInt := fun z => q1 (Int32.lt_iff_toInt_lt.mpr z)
    have q1k : (0 : Int32).toInt = 0 := (by decide)
    have q1b := Int32.toInt_lt p0
    obtain ⟨n2, hn2, rfl⟩ := nI_of (x := p0) (fun z => by have z2 := Int32.lt_iff_toInt_lt.mp z; have z3 : (0 : Int32).toInt = 0 := (by decide); omega)
    rw [nI_toInt (by omega)] at q1t
    have tn2 := nI_toInt (n := n2) (by omega)
    refine g_iload_n X dX2_hasWalker_4 rfl (j := 1) rfl ?_
    refine g_aload_n X dX2_hasWalker_5 rfl (j := 0) rfl ?_
    obtain ⟨n3, hn3, en3⟩ := rg_nat ((I 3 8).2.2.2 rfl) (by decide)
    refine i_get X F 3 rfl rfl fk_X2_36 dX2_hasWalker_6 (v := .int (nI n3)) (congrArg (fun z => some (Value.int z)) en3) ?_
    refine g_icmp_ge X dX2_hasWalker_9 (tgt := 16) (by decide) (fun q4 => ?_) (fun q4 => ?_)
    · skip
      have q4 : n3 ≤ n2 := (nI_leI (a := n3) (b := n2) (by omega) (by omega)).mp q4
      refine g_iconst X dX2_hasWalker_16 (v := 0) (by decide) ?_
      exact g_zret X hrt rfl dX2_hasWalker_17 (by decide) (by decide) ⟨C, D, F, I, K, Or.inl rfl⟩
    · skip
      have q4 : ¬ n3 ≤ n2 := fun z => q4 ((nI_leI (a := n3) (b := n2) (by omega) (by omega)).mpr z)
      refine g_iconst X dX2_hasWalker_12 (v := 1) (by decide) ?_
      refine g_goto X dX2_hasWalker_13 (tgt := 17) (by decide) ?_
      exact g_zret X hrt rfl dX2_hasWalker_17 (by decide) (by decide) ⟨C, D, F, I, K, Or.inr ⟨rfl, n2, by omega, by omega, rfl⟩⟩
set_option maxHeartbeats 4000000 in
set_option maxRecDepth 100000 in
theorem s_X2_hasHour (l : Launch) (G : va_G) {cy : Nat → ClassId} {L : List Nat} {M : Nat → va_E} {a : Nat → Nat} {act : Nat → Bool} {C0 : Nat → Nat → Int32} {D0 : Nat → Nat → Int64} {R : Nat → Nat → Option Nat} (F : WI L M a act (ent cy a C0 D0 R)) (I : Inv C0) (p0 : Int32)  : MI l G cy yX2_hasHour cX2_hasHour 2 (some .boolean) 1 0 0 [.ref (a 3), .int p0] L M (fun r L2 M2 => ∃ C2 D2, WI L2 M2 a act (ent cy a C2 D2 R) ∧ Inv C2 ∧ Kp [] C0 D0 C2 D2 ∧ (r = 0 ∨ (r = 1 ∧ ∃ n : Nat, 0 ≤ n ∧ n ≤ 16 ∧ p0 = nI n))) := by
  refine MI.of (own := RX2) rfl (by decide) (Nat.le_of_ble_eq_true rfl) ?_
  intro p e s m below meth c A X hrt hnm
  obtain ⟨C, D, hC0, hD0, F, I, K⟩ : ∃ C D, C = C0 ∧ D = D0 ∧ WI L M a act (ent cy a C D R) ∧ Inv C ∧ Kp [] C0 D0 C D := ⟨C0, D0, rfl, rfl, F, I, Kp.rf⟩
  refine g_aload_n X dX2_hasHour_0 rfl (j := 0) rfl ?_
  refine g_callVI X (s_X2_isTold l G F I  ) lk_X2_91 (F.1 3 rfl).2 (F.1 3 rfl).1 rfl rfl dX2_hasHour_1 (Nat.le_of_ble_eq_true rfl) ⟨by decide, by decide⟩ ⟨by decide, by decide⟩ (fun r1 L M hp => ?_)
  obtain ⟨C, D, F, I, K1, hr⟩ := hp
  have K := K.step K1 (by decide)
  rcases hr with rfl | rfl
  · skip
    refine g_if_eq X dX2_hasHour_4 (tgt := 23) (by decide) (fun _ => ?_) (fun q => absurd (by decide) q)
    refine g_iconst X dX2_hasHour_23 (v := 0) (by decide) ?_
    exact g_zret X hrt rfl dX2_hasHour_24 (by decide) (by decide) ⟨C, D, F, I, K, Or.inl rfl⟩
  · skip
    refine g_if_eq X dX2_hasHour_4 (tgt := 23) (by decide) (fun q => absurd q (by decide)) (fun _ => ?_)
    refine g_iload_n X dX2_hasHour_7 rfl (j := 1) rfl ?_
    refine g_if_lt X dX2_hasHour_8 (tgt := 23) (by decide) (fun q2 => ?_) (fun q2 => ?_)
    · skip
      have q2t : p0.toInt < (0 : Int32).toInt := Int32.lt_iff_toInt_lt.mp q2
      have q2k : (0 : Int32).toInt = 0 := (by decide)
      have q2b := Int32.toInt_lt p0
      refine g_iconst X dX2_hasHour_23 (v := 0) (by decide) ?_
      exact g_zret X hrt rfl dX2_hasHour_24 (by decide) (by decide) ⟨C, D, F, I, K, Or.inl rfl⟩
    · skip
      have q2t : ¬ p0.toInt < (0 : Int32).toInt := fun z => q2 (Int32.lt_iff_toInt_lt.mpr z)
      have q2k : (0 : Int32).toInt = 0 := (by decide)
      have q2b := Int32.toInt_lt p0
      obtain ⟨n3, hn3, rfl⟩ := nI_of (x := p0) (fun z => by have z2 := Int32.lt_iff_toInt_lt.mp z; have z3 : (0 : Int32).toInt = 0 := (by decide); omega)
      rw [nI_toInt (by omega)] at q2t
      have tn3 := nI_toInt (n := n3) (by omega)
      refine g_iload_n X dX2_hasHour_11 rfl (j := 1) rfl ?_
      refine g_aload_n X dX2_hasHour_12 rfl (j := 0) rfl ?_
      obtain ⟨n4, hn4, en4⟩ := rg_nat ((I 3 1).1 rfl) (by decide)
      refine i_get X F 3 rfl rfl fk_X2_15 dX2_hasHour_13 (v := .int (nI n4)) (congrArg (fun z => some (Value.int z)) en4) ?_
      refine g_icmp_gt X dX2_hasHour_16 (tgt := 23) (by decide) (fun q5 => ?_) (fun q5 => ?_)
      · skip
        have q5 : n4 < n3 := (nI_ltI (a := n4) (b := n3) (by omega) (by omega)).mp q5
        refine g_iconst X dX2_hasHour_23 (v := 0) (by decide) ?_
        exact g_zret X hrt rfl dX2_hasHour_24 (by decide) (by decide) ⟨C, D, F, I, K, Or.inl rfl⟩
      · skip
        have q5 : ¬ n4 < n3 := fun z => q5 ((nI_ltI (a := n4) (b := n3) (by omega) (by omega)).mpr z)
        refine g_iconst X dX2_hasHour_19 (v := 1) (by decide) ?_
        refine g_goto X dX2_hasHour_20 (tgt := 24) (by decide) ?_
        exact g_zret X hrt rfl dX2_hasHour_24 (by decide) (by decide) ⟨C, D, F, I, K, Or.inr ⟨rfl, n3, by omega, by omega, rfl⟩⟩
set_option maxHeartbeats 4000000 in
set_option maxRecDepth 100000 in
theorem s_X2_hasHourAhead (l : Launch) (G : va_G) {cy : Nat → ClassId} {L : List Nat} {M : Nat → va_E} {a : Nat → Nat} {act : Nat → Bool} {C0 : Nat → Nat → Int32} {D0 : Nat → Nat → Int64} {R : Nat → Nat → Option Nat} (F : WI L M a act (ent cy a C0 D0 R)) (I : Inv C0) (p0 : Int32)  : MI l G cy yX2_hasHourAhead cX2_hasHourAhead 2 (some .boolean) 2 0 0 [.ref (a 3), .int p0] L M (fun r L2 M2 => ∃ C2 D2, WI L2 M2 a act (ent cy a C2 D2 R) ∧ Inv C2 ∧ Kp [] C0 D0 C2 D2 ∧ (r = 0 ∨ (r = 1 ∧ ∃ n : Nat, 0 ≤ n ∧ n ≤ 15 ∧ p0 = nI n))) := by
  refine MI.of (own := RX2) rfl (by decide) (Nat.le_of_ble_eq_true rfl) ?_
  intro p e s m below meth c A X hrt hnm
  obtain ⟨C, D, hC0, hD0, F, I, K⟩ : ∃ C D, C = C0 ∧ D = D0 ∧ WI L M a act (ent cy a C D R) ∧ Inv C ∧ Kp [] C0 D0 C D := ⟨C0, D0, rfl, rfl, F, I, Kp.rf⟩
  refine g_aload_n X dX2_hasHourAhead_0 rfl (j := 0) rfl ?_
  refine g_iload_n X dX2_hasHourAhead_1 rfl (j := 1) rfl ?_
  refine g_callVI X (s_X2_hasHour l G F I p0 ) lk_X2_95 (F.1 3 rfl).2 (F.1 3 rfl).1 rfl rfl dX2_hasHourAhead_2 (Nat.le_of_ble_eq_true rfl) ⟨by decide, by decide⟩ ⟨by decide, by decide⟩ (fun r1 L M hp => ?_)
  obtain ⟨C, D, F, I, K1, hr⟩ := hp
  have K := K.step K1 (by decide)
  rcases hr with rfl | ⟨rfl, n2, hn2a, hn2b, en2⟩
  · skip
    refine g_if_eq X dX2_hasHourAhead_5 (tgt := 20) (by decide) (fun _ => ?_) (fun q => absurd (by decide) q)
    refine g_iconst X dX2_hasHourAhead_20 (v := 0) (by decide) ?_
    exact g_zret X hrt rfl dX2_hasHourAhead_21 (by decide) (by decide) ⟨C, D, F, I, K, Or.inl rfl⟩
  · skip
    subst en2
    refine g_if_eq X dX2_hasHourAhead_5 (tgt := 20) (by decide) (fun q => absurd q (by decide)) (fun _ => ?_)
    refine g_iload_n X dX2_hasHourAhead_8 rfl (j := 1) rfl ?_
    refine g_aload_n X dX2_hasHourAhead_9 rfl (j := 0) rfl ?_
    obtain ⟨n3, hn3, en3⟩ := rg_nat ((I 3 1).1 rfl) (by decide)
    refine i_get X F 3 rfl rfl fk_X2_15 dX2_hasHourAhead_10 (v := .int (nI n3)) (congrArg (fun z => some (Value.int z)) en3) ?_
    refine g_icmp_ge X dX2_hasHourAhead_13 (tgt := 20) (by decide) (fun q4 => ?_) (fun q4 => ?_)
    · skip
      have q4 : n3 ≤ n2 := (nI_leI (a := n3) (b := n2) (by omega) (by omega)).mp q4
      refine g_iconst X dX2_hasHourAhead_20 (v := 0) (by decide) ?_
      exact g_zret X hrt rfl dX2_hasHourAhead_21 (by decide) (by decide) ⟨C, D, F, I, K, Or.inl rfl⟩
    · skip
      have q4 : ¬ n3 ≤ n2 := fun z => q4 ((nI_leI (a := n3) (b := n2) (by omega) (by omega)).mpr z)
      refine g_iconst X dX2_hasHourAhead_16 (v := 1) (by decide) ?_
      refine g_goto X dX2_hasHourAhead_17 (tgt := 21) (by decide) ?_
      exact g_zret X hrt rfl dX2_hasHourAhead_21 (by decide) (by decide) ⟨C, D, F, I, K, Or.inr ⟨rfl, n2, by omega, by omega, rfl⟩⟩
set_option maxHeartbeats 4000000 in
set_option maxRecDepth 100000 in
theorem s_X2_hasArm (l : Launch) (G : va_G) {cy : Nat → ClassId} {L : List Nat} {M : Nat → va_E} {a : Nat → Nat} {act : Nat → Bool} {C0 : Nat → Nat → Int32} {D0 : Nat → Nat → Int64} {R : Nat → Nat → Option Nat} (F : WI L M a act (ent cy a C0 D0 R)) (I : Inv C0) (p0 : Nat) (hp0a : 0 ≤ p0) (hp0b : p0 ≤ 6)  : MI l G cy yX2_hasArm cX2_hasArm 2 (some .boolean) 0 0 0 [.ref (a 3), .int (nI p0)] L M (fun r L2 M2 => ∃ C2 D2, WI L2 M2 a act (ent cy a C2 D2 R) ∧ Inv C2 ∧ Kp [] C0 D0 C2 D2 ∧ (r = 0 ∨ (r = 1 ∧ 1 ≤ (C2 5 p0).toInt))) := by
  refine MI.of (own := RX2) rfl (by decide) (Nat.le_of_ble_eq_true rfl) ?_
  intro p e s m below meth c A X hrt hnm
  obtain ⟨C, D, hC0, hD0, F, I, K⟩ : ∃ C D, C = C0 ∧ D = D0 ∧ WI L M a act (ent cy a C D R) ∧ Inv C ∧ Kp [] C0 D0 C D := ⟨C0, D0, rfl, rfl, F, I, Kp.rf⟩
  refine g_aload_n X dX2_hasArm_0 rfl (j := 0) rfl ?_
  refine i_get X F 3 rfl rfl fk_X2_43 dX2_hasArm_1 rfl ?_
  refine g_iload_n X dX2_hasArm_4 rfl (j := 1) rfl ?_
  obtain ⟨n1, hn1, en1⟩ := rg_nat (I 5 p0) (by decide)
  refine i_iald X F 5 rfl rfl dX2_hasArm_5 (vp_in_nI (by omega) (by decide)) (v := nI n1) (by rw [nI_clamp (by omega)]; exact en1) ?_
  refine g_if_le X dX2_hasArm_6 (tgt := 13) (by decide) (fun q2 => ?_) (fun q2 => ?_)
  · skip
    have q2 : n1 ≤ 0 := (nI_leI (a := n1) (b := 0) (by omega) (by omega)).mp q2
    refine g_iconst X dX2_hasArm_13 (v := 0) (by decide) ?_
    exact g_zret X hrt rfl dX2_hasArm_14 (by decide) (by decide) ⟨C, D, F, I, K, Or.inl rfl⟩
  · skip
    have q2 : ¬ n1 ≤ 0 := fun z => q2 ((nI_leI (a := n1) (b := 0) (by omega) (by omega)).mpr z)
    refine g_iconst X dX2_hasArm_9 (v := 1) (by decide) ?_
    refine g_goto X dX2_hasArm_10 (tgt := 14) (by decide) ?_
    exact g_zret X hrt rfl dX2_hasArm_14 (by decide) (by decide) ⟨C, D, F, I, K, Or.inr ⟨rfl, by rw [en1, nI_toInt (by omega)]; omega⟩⟩
set_option maxHeartbeats 4000000 in
set_option maxRecDepth 100000 in
theorem s_X2_goal (l : Launch) (G : va_G) {cy : Nat → ClassId} {L : List Nat} {M : Nat → va_E} {a : Nat → Nat} {act : Nat → Bool} {C0 : Nat → Nat → Int32} {D0 : Nat → Nat → Int64} {R : Nat → Nat → Option Nat} (F : WI L M a act (ent cy a C0 D0 R)) (I : Inv C0) (p0 : Nat) (hp0a : 0 ≤ p0) (hp0b : p0 ≤ 6) (p1 : Nat) (hp1a : 0 ≤ p1) (hp1b : p1 ≤ 3)  : MI l G cy yX2_goal cX2_goal 3 (some .int) 0 0 0 [.ref (a 3), .int (nI p0), .int (nI p1)] L M (fun r L2 M2 => ∃ C2 D2, WI L2 M2 a act (ent cy a C2 D2 R) ∧ Inv C2 ∧ Kp [] C0 D0 C2 D2 ∧ ∃ n : Nat, (n < 7 ∨ (10 ≤ n ∧ n < 14)) ∧ r = nI n) := by
  refine MI.of (own := RX2) rfl (by decide) (Nat.le_of_ble_eq_true rfl) ?_
  intro p e s m below meth c A X hrt hnm
  obtain ⟨C, D, hC0, hD0, F, I, K⟩ : ∃ C D, C = C0 ∧ D = D0 ∧ WI L M a act (ent cy a C D R) ∧ Inv C ∧ Kp [] C0 D0 C D := ⟨C0, D0, rfl, rfl, F, I, Kp.rf⟩
  refine g_aload_n X dX2_goal_0 rfl (j := 0) rfl ?_
  refine i_get X F 3 rfl rfl fk_X2_46 dX2_goal_1 rfl ?_
  refine g_iload_n X dX2_goal_4 rfl (j := 1) rfl ?_
  refine g_iconst X dX2_goal_5 (v := 4) (by decide) ?_
  refine g_imul X dX2_goal_6 ?_
  refine Go.top (v := .int (nI (p0 * 4))) (congrArg Value.int (pk_mul p0 4)) ?_
  refine g_iload_n X dX2_goal_7 rfl (j := 2) rfl ?_
  refine g_iadd X dX2_goal_8 ?_
  refine Go.top (v := .int (nI ((p0 * 4) + p1))) (congrArg Value.int (nI_add (p0 * 4) p1)) ?_
  obtain ⟨n1, hn1, en1⟩ := gl_nat (I 6 ((p0 * 4) + p1))
  refine i_iald X F 6 rfl rfl dX2_goal_9 (vp_in_nI (by omega) (by decide)) (v := nI n1) (by rw [nI_clamp (by omega)]; exact en1) ?_
  exact g_iret X hrt dX2_goal_10 (by decide) (by decide) ⟨C, D, F, I, K, ⟨n1, by omega, rfl⟩⟩
set_option maxHeartbeats 4000000 in
set_option maxRecDepth 100000 in
theorem s_X2_nextRoad (l : Launch) (G : va_G) {cy : Nat → ClassId} {L : List Nat} {M : Nat → va_E} {a : Nat → Nat} {act : Nat → Bool} {C0 : Nat → Nat → Int32} {D0 : Nat → Nat → Int64} {R : Nat → Nat → Option Nat} (F : WI L M a act (ent cy a C0 D0 R)) (I : Inv C0) (p0 : Nat) (hp0a : 0 ≤ p0) (hp0b : p0 ≤ 6) (p1 : Nat) (hp1a : 0 ≤ p1) (hp1b : p1 ≤ 3)  : MI l G cy yX2_nextRoad cX2_nextRoad 3 (some .int) 0 0 0 [.ref (a 3), .int (nI p0), .int (nI p1)] L M (fun r L2 M2 => ∃ C2 D2, WI L2 M2 a act (ent cy a C2 D2 R) ∧ Inv C2 ∧ Kp [] C0 D0 C2 D2 ∧ ∃ n : Nat, 0 ≤ n ∧ n ≤ 3 ∧ r = nI n) := by
  refine MI.of (own := RX2) rfl (by decide) (Nat.le_of_ble_eq_true rfl) ?_
  intro p e s m below meth c A X hrt hnm
  obtain ⟨C, D, hC0, hD0, F, I, K⟩ : ∃ C D, C = C0 ∧ D = D0 ∧ WI L M a act (ent cy a C D R) ∧ Inv C ∧ Kp [] C0 D0 C D := ⟨C0, D0, rfl, rfl, F, I, Kp.rf⟩
  refine g_iload_n X dX2_nextRoad_0 rfl (j := 2) rfl ?_
  refine g_iconst X dX2_nextRoad_1 (v := 1) (by decide) ?_
  refine g_iadd X dX2_nextRoad_2 ?_
  refine Go.top (v := .int (nI (p1 + 1))) (congrArg Value.int (nI_add p1 1)) ?_
  refine g_aload_n X dX2_nextRoad_3 rfl (j := 0) rfl ?_
  refine i_get X F 3 rfl rfl fk_X2_43 dX2_nextRoad_4 rfl ?_
  refine g_iload_n X dX2_nextRoad_7 rfl (j := 1) rfl ?_
  obtain ⟨n1, hn1, en1⟩ := rg_nat (I 5 p0) (by decide)
  refine i_iald X F 5 rfl rfl dX2_nextRoad_8 (vp_in_nI (by omega) (by decide)) (v := nI n1) (by rw [nI_clamp (by omega)]; exact en1) ?_
  refine g_icmp_ge X dX2_nextRoad_9 (tgt := 18) (by decide) (fun q2 => ?_) (fun q2 => ?_)
  · skip
    have q2 : n1 ≤ (p1 + 1) := (nI_leI (a := n1) (b := (p1 + 1)) (by omega) (by omega)).mp q2
    refine g_iconst X dX2_nextRoad_18 (v := 0) (by decide) ?_
    exact g_iret X hrt dX2_nextRoad_19 (by decide) (by decide) ⟨C, D, F, I, K, ⟨0, by omega, by omega, rfl⟩⟩
  · skip
    have q2 : ¬ n1 ≤ (p1 + 1) := fun z => q2 ((nI_leI (a := n1) (b := (p1 + 1)) (by omega) (by omega)).mpr z)
    refine g_iload_n X dX2_nextRoad_12 rfl (j := 2) rfl ?_
    refine g_iconst X dX2_nextRoad_13 (v := 1) (by decide) ?_
    refine g_iadd X dX2_nextRoad_14 ?_
    refine Go.top (v := .int (nI (p1 + 1))) (congrArg Value.int (nI_add p1 1)) ?_
    refine g_goto X dX2_nextRoad_15 (tgt := 19) (by decide) ?_
    exact g_iret X hrt dX2_nextRoad_19 (by decide) (by decide) ⟨C, D, F, I, K, ⟨(p1 + 1), by omega, by omega, rfl⟩⟩
set_option maxHeartbeats 4000000 in
set_option maxRecDepth 100000 in
theorem s_X2_innsBeside (l : Launch) (G : va_G) {cy : Nat → ClassId} {L : List Nat} {M : Nat → va_E} {a : Nat → Nat} {act : Nat → Bool} {C0 : Nat → Nat → Int32} {D0 : Nat → Nat → Int64} {R : Nat → Nat → Option Nat} (F : WI L M a act (ent cy a C0 D0 R)) (I : Inv C0) (p0 : Nat) (hp0a : 0 ≤ p0) (hp0b : p0 ≤ 6)  : MI l G cy yX2_innsBeside cX2_innsBeside 4 (some .int) 1 0 0 [.ref (a 3), .int (nI p0)] L M (fun r L2 M2 => ∃ C2 D2, WI L2 M2 a act (ent cy a C2 D2 R) ∧ Inv C2 ∧ Kp [] C0 D0 C2 D2 ∧ True) := by
  refine MI.of (own := RX2) rfl (by decide) (Nat.le_of_ble_eq_true rfl) ?_
  intro p e s m below meth c A X hrt hnm
  obtain ⟨C, D, hC0, hD0, F, I, K⟩ : ∃ C D, C = C0 ∧ D = D0 ∧ WI L M a act (ent cy a C D R) ∧ Inv C ∧ Kp [] C0 D0 C D := ⟨C0, D0, rfl, rfl, F, I, Kp.rf⟩
  refine g_iconst X dX2_innsBeside_0 (v := 0) (by decide) ?_
  refine g_istore_n X dX2_innsBeside_1 rfl (by decide) (lv2 := [(2, .int 0), (0, .ref (a 3)), (1, .int (nI p0))]) rfl ?_
  refine g_iconst X dX2_innsBeside_2 (v := 0) (by decide) ?_
  refine g_istore_n X dX2_innsBeside_3 rfl (by decide) (lv2 := [(3, .int 0), (2, .int 0), (0, .ref (a 3)), (1, .int (nI p0))]) rfl ?_
  refine g_lv [0, 1, 2, 3] (lv2 := [(3, .int 0), (2, .int 0), (0, .ref (a 3)), (1, .int (nI p0))]) rfl ?_
  refine i_loop (mods := []) (fun x : Nat × Int32 => 4 - x.1) (fun x => [(3, .int (nI (x.1))), (2, .int (x.2)), (0, .ref (a 3)), (1, .int (nI p0))]) (fun x C => 0 ≤ x.1 ∧ x.1 ≤ 4) (fun x L M C D F I K hP ih4 => ?_) ((0, 0) : Nat × Int32) F I K ⟨by show _ ≤ _; omega, by show _ ≤ _; omega⟩
  rcases x with ⟨i4_3, v4_2⟩
  obtain ⟨hi4_3a, hi4_3b⟩ := hP
  refine g_lv [0, 1, 2, 3] (lv2 := [(3, .int (nI i4_3)), (2, .int v4_2), (0, .ref (a 3)), (1, .int (nI p0))]) rfl ?_
  refine g_iload_n X dX2_innsBeside_4 rfl (j := 0) rfl ?_
  refine g_aload_n X dX2_innsBeside_5 rfl (j := 2) rfl ?_
  refine i_get X F 3 rfl rfl fk_X2_43 dX2_innsBeside_6 rfl ?_
  refine g_iload_n X dX2_innsBeside_9 rfl (j := 3) rfl ?_
  obtain ⟨n1, hn1, en1⟩ := rg_nat (I 5 p0) (by decide)
  refine i_iald X F 5 rfl rfl dX2_innsBeside_10 (vp_in_nI (by omega) (by decide)) (v := nI n1) (by rw [nI_clamp (by omega)]; exact en1) ?_
  refine g_icmp_ge X dX2_innsBeside_11 (tgt := 45) (by decide) (fun q2 => ?_) (fun q2 => ?_)
  · skip
    have q2 : n1 ≤ i4_3 := (nI_leI (a := n1) (b := i4_3) (by omega) (by omega)).mp q2
    refine g_iload_n X dX2_innsBeside_45 rfl (j := 1) rfl ?_
    exact g_iret X hrt dX2_innsBeside_46 (by decide) (by decide) ⟨C, D, F, I, K, trivial⟩
  · skip
    have q2 : ¬ n1 ≤ i4_3 := fun z => q2 ((nI_leI (a := n1) (b := i4_3) (by omega) (by omega)).mpr z)
    refine g_aload_n X dX2_innsBeside_14 rfl (j := 2) rfl ?_
    refine g_iload_n X dX2_innsBeside_15 rfl (j := 3) rfl ?_
    refine g_iload_n X dX2_innsBeside_16 rfl (j := 0) rfl ?_
    refine g_callVI X (s_X2_goal l G F I p0 (by omega) (by omega) i4_3 (by omega) (by omega) ) lk_X2_98 (F.1 3 rfl).2 (F.1 3 rfl).1 rfl rfl dX2_innsBeside_17 (Nat.le_of_ble_eq_true rfl) ⟨by decide, by decide⟩ ⟨by decide, by decide⟩ (fun r3 L M hp => ?_)
    obtain ⟨C, D, F, I, K1, hr⟩ := hp
    have K := K.step K1 (by decide)
    obtain ⟨n4, hn4, rfl⟩ := hr
    refine g_bipush X dX2_innsBeside_20 (v := 10) (by decide) ?_
    refine g_icmp_lt X dX2_innsBeside_22 (tgt := 39) (by decide) (fun q5 => ?_) (fun q5 => ?_)
    · skip
      have q5 : n4 < 10 := (nI_ltI (a := n4) (b := 10) (by omega) (by omega)).mp q5
      refine g_iinc X dX2_innsBeside_39 (j := 0) rfl (v := nI (i4_3 + 1)) (nI_1 i4_3) (by decide) (lv2 := [(3, .int (nI (i4_3 + 1))), (2, .int v4_2), (0, .ref (a 3)), (1, .int (nI p0))]) rfl ?_
      refine g_goto X dX2_innsBeside_42 (tgt := 4) (by decide) ?_
      refine g_lv [0, 1, 2, 3] (lv2 := [(3, .int (nI (i4_3 + 1))), (2, .int v4_2), (0, .ref (a 3)), (1, .int (nI p0))]) rfl ?_
      exact ih4 ((i4_3 + 1), v4_2) L M C D F I K ⟨by omega, by omega⟩ (by show _ < _; omega)
    · skip
      have q5 : ¬ n4 < 10 := fun z => q5 ((nI_ltI (a := n4) (b := 10) (by omega) (by omega)).mpr z)
      refine g_iload_n X dX2_innsBeside_25 rfl (j := 1) rfl ?_
      refine g_iconst X dX2_innsBeside_26 (v := 1) (by decide) ?_
      refine g_aload_n X dX2_innsBeside_27 rfl (j := 2) rfl ?_
      refine g_iload_n X dX2_innsBeside_28 rfl (j := 3) rfl ?_
      refine g_iload_n X dX2_innsBeside_29 rfl (j := 0) rfl ?_
      refine g_callVI X (s_X2_goal l G F I p0 (by omega) (by omega) i4_3 (by omega) (by omega) ) lk_X2_98 (F.1 3 rfl).2 (F.1 3 rfl).1 rfl rfl dX2_innsBeside_30 (Nat.le_of_ble_eq_true rfl) ⟨by decide, by decide⟩ ⟨by decide, by decide⟩ (fun r6 L M hp => ?_)
      obtain ⟨C, D, F, I, K1, hr⟩ := hp
      have K := K.step K1 (by decide)
      obtain ⟨n7, hn7, rfl⟩ := hr
      refine g_bipush X dX2_innsBeside_33 (v := 10) (by decide) ?_
      refine g_isub X dX2_innsBeside_35 ?_
      refine Go.gen (fun o8 => ?_)
      refine g_ishl X dX2_innsBeside_36 ?_
      refine Go.gen (fun o9 => ?_)
      refine g_ior X dX2_innsBeside_37 ?_
      refine Go.gen (fun o10 => ?_)
      refine g_istore_n X dX2_innsBeside_38 rfl (by decide) (lv2 := [(2, .int o10), (3, .int (nI i4_3)), (0, .ref (a 3)), (1, .int (nI p0))]) rfl ?_
      refine g_iinc X dX2_innsBeside_39 (j := 1) rfl (v := nI (i4_3 + 1)) (nI_1 i4_3) (by decide) (lv2 := [(3, .int (nI (i4_3 + 1))), (2, .int o10), (0, .ref (a 3)), (1, .int (nI p0))]) rfl ?_
      refine g_goto X dX2_innsBeside_42 (tgt := 4) (by decide) ?_
      refine g_lv [0, 1, 2, 3] (lv2 := [(3, .int (nI (i4_3 + 1))), (2, .int o10), (0, .ref (a 3)), (1, .int (nI p0))]) rfl ?_
      exact ih4 ((i4_3 + 1), o10) L M C D F I K ⟨by omega, by omega⟩ (by show _ < _; omega)
set_option maxHeartbeats 4000000 in
set_option maxRecDepth 100000 in
theorem s_X2_postsWithoutRoads (l : Launch) (G : va_G) {cy : Nat → ClassId} {L : List Nat} {M : Nat → va_E} {a : Nat → Nat} {act : Nat → Bool} {C0 : Nat → Nat → Int32} {D0 : Nat → Nat → Int64} {R : Nat → Nat → Option Nat} (F : WI L M a act (ent cy a C0 D0 R)) (I : Inv C0)   : MI l G cy yX2_postsWithoutRoads cX2_postsWithoutRoads 3 (some .int) 1 0 0 [.ref (a 3)] L M (fun r L2 M2 => ∃ C2 D2, WI L2 M2 a act (ent cy a C2 D2 R) ∧ Inv C2 ∧ Kp [] C0 D0 C2 D2 ∧ True) := by
  refine MI.of (own := RX2) rfl (by decide) (Nat.le_of_ble_eq_true rfl) ?_
  intro p e s m below meth c A X hrt hnm
  obtain ⟨C, D, hC0, hD0, F, I, K⟩ : ∃ C D, C = C0 ∧ D = D0 ∧ WI L M a act (ent cy a C D R) ∧ Inv C ∧ Kp [] C0 D0 C D := ⟨C0, D0, rfl, rfl, F, I, Kp.rf⟩
  refine g_iconst X dX2_postsWithoutRoads_0 (v := 0) (by decide) ?_
  refine g_istore_n X dX2_postsWithoutRoads_1 rfl (by decide) (lv2 := [(1, .int 0), (0, .ref (a 3))]) rfl ?_
  refine g_iconst X dX2_postsWithoutRoads_2 (v := 0) (by decide) ?_
  refine g_istore_n X dX2_postsWithoutRoads_3 rfl (by decide) (lv2 := [(2, .int 0), (1, .int 0), (0, .ref (a 3))]) rfl ?_
  refine g_lv [0, 1, 2] (lv2 := [(2, .int 0), (1, .int 0), (0, .ref (a 3))]) rfl ?_
  refine i_loop (mods := []) (fun x : Nat × Int32 => 7 - x.1) (fun x => [(2, .int (nI (x.1))), (1, .int (x.2)), (0, .ref (a 3))]) (fun x C => 0 ≤ x.1 ∧ x.1 ≤ 7) (fun x L M C D F I K hP ih4 => ?_) ((0, 0) : Nat × Int32) F I K ⟨by show _ ≤ _; omega, by show _ ≤ _; omega⟩
  rcases x with ⟨i4_2, v4_1⟩
  obtain ⟨hi4_2a, hi4_2b⟩ := hP
  refine g_lv [0, 1, 2] (lv2 := [(2, .int (nI i4_2)), (1, .int v4_1), (0, .ref (a 3))]) rfl ?_
  refine g_iload_n X dX2_postsWithoutRoads_4 rfl (j := 0) rfl ?_
  refine g_aload_n X dX2_postsWithoutRoads_5 rfl (j := 2) rfl ?_
  obtain ⟨n1, hn1, en1⟩ := rg_nat ((I 3 5).2.2.1 rfl) (by decide)
  refine i_get X F 3 rfl rfl fk_X2_27 dX2_postsWithoutRoads_6 (v := .int (nI n1)) (congrArg (fun z => some (Value.int z)) en1) ?_
  refine g_icmp_ge X dX2_postsWithoutRoads_9 (tgt := 32) (by decide) (fun q2 => ?_) (fun q2 => ?_)
  · skip
    have q2 : n1 ≤ i4_2 := (nI_leI (a := n1) (b := i4_2) (by omega) (by omega)).mp q2
    refine g_iload_n X dX2_postsWithoutRoads_32 rfl (j := 1) rfl ?_
    exact g_iret X hrt dX2_postsWithoutRoads_33 (by decide) (by decide) ⟨C, D, F, I, K, trivial⟩
  · skip
    have q2 : ¬ n1 ≤ i4_2 := fun z => q2 ((nI_leI (a := n1) (b := i4_2) (by omega) (by omega)).mpr z)
    refine g_aload_n X dX2_postsWithoutRoads_12 rfl (j := 2) rfl ?_
    refine g_iload_n X dX2_postsWithoutRoads_13 rfl (j := 0) rfl ?_
    refine g_callVI X (s_X2_hasArm l G F I i4_2 (by omega) (by omega) ) lk_X2_102 (F.1 3 rfl).2 (F.1 3 rfl).1 rfl rfl dX2_postsWithoutRoads_14 (Nat.le_of_ble_eq_true rfl) ⟨by decide, by decide⟩ ⟨by decide, by decide⟩ (fun r3 L M hp => ?_)
    obtain ⟨C, D, F, I, K1, hr⟩ := hp
    have K := K.step K1 (by decide)
    rcases hr with rfl | ⟨rfl, ra4⟩
    · skip
      refine g_if_ne X dX2_postsWithoutRoads_17 (tgt := 26) (by decide) (fun q => absurd (by decide) q) (fun _ => ?_)
      refine g_iload_n X dX2_postsWithoutRoads_20 rfl (j := 1) rfl ?_
      refine g_iconst X dX2_postsWithoutRoads_21 (v := 1) (by decide) ?_
      refine g_iload_n X dX2_postsWithoutRoads_22 rfl (j := 0) rfl ?_
      refine g_ishl X dX2_postsWithoutRoads_23 ?_
      refine Go.gen (fun o5 => ?_)
      refine g_ior X dX2_postsWithoutRoads_24 ?_
      refine Go.gen (fun o6 => ?_)
      refine g_istore_n X dX2_postsWithoutRoads_25 rfl (by decide) (lv2 := [(1, .int o6), (2, .int (nI i4_2)), (0, .ref (a 3))]) rfl ?_
      refine g_iinc X dX2_postsWithoutRoads_26 (j := 1) rfl (v := nI (i4_2 + 1)) (nI_1 i4_2) (by decide) (lv2 := [(2, .int (nI (i4_2 + 1))), (1, .int o6), (0, .ref (a 3))]) rfl ?_
      refine g_goto X dX2_postsWithoutRoads_29 (tgt := 4) (by decide) ?_
      refine g_lv [0, 1, 2] (lv2 := [(2, .int (nI (i4_2 + 1))), (1, .int o6), (0, .ref (a 3))]) rfl ?_
      exact ih4 ((i4_2 + 1), o6) L M C D F I K ⟨by omega, by omega⟩ (by show _ < _; omega)
    · skip
      refine g_if_ne X dX2_postsWithoutRoads_17 (tgt := 26) (by decide) (fun _ => ?_) (fun q => absurd q (by decide))
      refine g_iinc X dX2_postsWithoutRoads_26 (j := 0) rfl (v := nI (i4_2 + 1)) (nI_1 i4_2) (by decide) (lv2 := [(2, .int (nI (i4_2 + 1))), (1, .int v4_1), (0, .ref (a 3))]) rfl ?_
      refine g_goto X dX2_postsWithoutRoads_29 (tgt := 4) (by decide) ?_
      refine g_lv [0, 1, 2] (lv2 := [(2, .int (nI (i4_2 + 1))), (1, .int v4_1), (0, .ref (a 3))]) rfl ?_
      exact ih4 ((i4_2 + 1), v4_1) L M C D F I K ⟨by omega, by omega⟩ (by show _ < _; omega)
set_option maxHeartbeats 4000000 in
set_option maxRecDepth 100000 in
theorem s_X2_oneRoadOn (l : Launch) (G : va_G) {cy : Nat → ClassId} {L : List Nat} {M : Nat → va_E} {a : Nat → Nat} {act : Nat → Bool} {C0 : Nat → Nat → Int32} {D0 : Nat → Nat → Int64} {R : Nat → Nat → Option Nat} (F : WI L M a act (ent cy a C0 D0 R)) (I : Inv C0) (p0 : Int32)  : MI l G cy yX2_oneRoadOn cX2_oneRoadOn 5 (some .int) 1 0 0 [.ref (a 3), .int p0] L M (fun r L2 M2 => ∃ C2 D2, WI L2 M2 a act (ent cy a C2 D2 R) ∧ Inv C2 ∧ Kp [] C0 D0 C2 D2 ∧ True) := by
  refine MI.of (own := RX2) rfl (by decide) (Nat.le_of_ble_eq_true rfl) ?_
  intro p e s m below meth c A X hrt hnm
  obtain ⟨C, D, hC0, hD0, F, I, K⟩ : ∃ C D, C = C0 ∧ D = D0 ∧ WI L M a act (ent cy a C D R) ∧ Inv C ∧ Kp [] C0 D0 C D := ⟨C0, D0, rfl, rfl, F, I, Kp.rf⟩
  refine g_iload_n X dX2_oneRoadOn_0 rfl (j := 1) rfl ?_
  refine g_istore_n X dX2_oneRoadOn_1 rfl (by decide) (lv2 := [(2, .int p0), (0, .ref (a 3)), (1, .int p0)]) rfl ?_
  refine g_iconst X dX2_oneRoadOn_2 (v := 0) (by decide) ?_
  refine g_istore_n X dX2_oneRoadOn_3 rfl (by decide) (lv2 := [(3, .int 0), (2, .int p0), (0, .ref (a 3)), (1, .int p0)]) rfl ?_
  refine g_lv [0, 1, 2, 3] (lv2 := [(3, .int 0), (2, .int p0), (0, .ref (a 3)), (1, .int p0)]) rfl ?_
  refine i_loop (mods := []) (fun x : Nat × Int32 => 7 - x.1) (fun x => [(3, .int (nI (x.1))), (2, .int (x.2)), (0, .ref (a 3)), (1, .int p0)]) (fun x C => 0 ≤ x.1 ∧ x.1 ≤ 7) (fun x L M C D F I K hP ih4 => ?_) ((0, p0) : Nat × Int32) F I K ⟨by show _ ≤ _; omega, by show _ ≤ _; omega⟩
  rcases x with ⟨i4_3, v4_2⟩
  obtain ⟨hi4_3a, hi4_3b⟩ := hP
  refine g_lv [0, 1, 2, 3] (lv2 := [(3, .int (nI i4_3)), (2, .int v4_2), (0, .ref (a 3)), (1, .int p0)]) rfl ?_
  refine g_iload_n X dX2_oneRoadOn_4 rfl (j := 0) rfl ?_
  refine g_aload_n X dX2_oneRoadOn_5 rfl (j := 2) rfl ?_
  obtain ⟨n1, hn1, en1⟩ := rg_nat ((I 3 5).2.2.1 rfl) (by decide)
  refine i_get X F 3 rfl rfl fk_X2_27 dX2_oneRoadOn_6 (v := .int (nI n1)) (congrArg (fun z => some (Value.int z)) en1) ?_
  refine g_icmp_ge X dX2_oneRoadOn_9 (tgt := 58) (by decide) (fun q2 => ?_) (fun q2 => ?_)
  · skip
    have q2 : n1 ≤ i4_3 := (nI_leI (a := n1) (b := i4_3) (by omega) (by omega)).mp q2
    refine g_iload_n X dX2_oneRoadOn_58 rfl (j := 1) rfl ?_
    exact g_iret X hrt dX2_oneRoadOn_59 (by decide) (by decide) ⟨C, D, F, I, K, trivial⟩
  · skip
    have q2 : ¬ n1 ≤ i4_3 := fun z => q2 ((nI_leI (a := n1) (b := i4_3) (by omega) (by omega)).mpr z)
    refine g_iconst X dX2_oneRoadOn_12 (v := 0) (by decide) ?_
    refine g_istore X dX2_oneRoadOn_13 (by decide) (lv2 := [(4, .int 0), (3, .int (nI i4_3)), (2, .int v4_2), (0, .ref (a 3)), (1, .int p0)]) rfl ?_
    refine g_lv [0, 2, 1, 3, 4] (lv2 := [(4, .int 0), (2, .int v4_2), (3, .int (nI i4_3)), (0, .ref (a 3)), (1, .int p0)]) rfl ?_
    refine i_loop (mods := []) (fun x : Nat × Int32 => 4 - x.1) (fun x => [(4, .int (nI (x.1))), (2, .int (x.2)), (3, .int (nI i4_3)), (0, .ref (a 3)), (1, .int p0)]) (fun x C => 0 ≤ x.1 ∧ x.1 ≤ 4) (fun x L M C D F I K hP ih15 => ?_) ((0, v4_2) : Nat × Int32) F I K ⟨by show _ ≤ _; omega, by show _ ≤ _; omega⟩
    rcases x with ⟨i15_4, v15_2⟩
    obtain ⟨hi15_4a, hi15_4b⟩ := hP
    refine g_lv [0, 1, 2, 3, 4] (lv2 := [(4, .int (nI i15_4)), (2, .int v15_2), (3, .int (nI i4_3)), (0, .ref (a 3)), (1, .int p0)]) rfl ?_
    refine g_iload X dX2_oneRoadOn_15 (j := 0) rfl ?_
    refine g_aload_n X dX2_oneRoadOn_17 rfl (j := 3) rfl ?_
    refine i_get X F 3 rfl rfl fk_X2_43 dX2_oneRoadOn_18 rfl ?_
    refine g_iload_n X dX2_oneRoadOn_21 rfl (j := 2) rfl ?_
    obtain ⟨n3, hn3, en3⟩ := rg_nat (I 5 i4_3) (by decide)
    refine i_iald X F 5 rfl rfl dX2_oneRoadOn_22 (vp_in_nI (by omega) (by decide)) (v := nI n3) (by rw [nI_clamp (by omega)]; exact en3) ?_
    refine g_icmp_ge X dX2_oneRoadOn_23 (tgt := 52) (by decide) (fun q4 => ?_) (fun q4 => ?_)
    · skip
      have q4 : n3 ≤ i15_4 := (nI_leI (a := n3) (b := i15_4) (by omega) (by omega)).mp q4
      refine g_iinc X dX2_oneRoadOn_52 (j := 2) rfl (v := nI (i4_3 + 1)) (nI_1 i4_3) (by decide) (lv2 := [(3, .int (nI (i4_3 + 1))), (4, .int (nI i15_4)), (2, .int v15_2), (0, .ref (a 3)), (1, .int p0)]) rfl ?_
      refine g_goto X dX2_oneRoadOn_55 (tgt := 4) (by decide) ?_
      refine g_lv [0, 2, 3, 4] (lv2 := [(3, .int (nI (i4_3 + 1))), (2, .int v15_2), (0, .ref (a 3)), (1, .int p0)]) rfl ?_
      exact ih4 ((i4_3 + 1), v15_2) L M C D F I K ⟨by omega, by omega⟩ (by show _ < _; omega)
    · skip
      have q4 : ¬ n3 ≤ i15_4 := fun z => q4 ((nI_leI (a := n3) (b := i15_4) (by omega) (by omega)).mpr z)
      refine g_iload_n X dX2_oneRoadOn_26 rfl (j := 4) rfl ?_
      refine g_iload_n X dX2_oneRoadOn_27 rfl (j := 2) rfl ?_
      refine g_ishr X dX2_oneRoadOn_28 ?_
      refine Go.gen (fun o5 => ?_)
      refine g_iconst X dX2_oneRoadOn_29 (v := 1) (by decide) ?_
      refine g_iand X dX2_oneRoadOn_30 ?_
      refine Go.gen (fun o6 => ?_)
      refine g_if_eq X dX2_oneRoadOn_31 (tgt := 52) (by decide) (fun q7 => ?_) (fun q7 => ?_)
      · skip
        subst q7
        refine g_iinc X dX2_oneRoadOn_52 (j := 2) rfl (v := nI (i4_3 + 1)) (nI_1 i4_3) (by decide) (lv2 := [(3, .int (nI (i4_3 + 1))), (4, .int (nI i15_4)), (2, .int v15_2), (0, .ref (a 3)), (1, .int p0)]) rfl ?_
        refine g_goto X dX2_oneRoadOn_55 (tgt := 4) (by decide) ?_
        refine g_lv [0, 2, 3, 4] (lv2 := [(3, .int (nI (i4_3 + 1))), (2, .int v15_2), (0, .ref (a 3)), (1, .int p0)]) rfl ?_
        exact ih4 ((i4_3 + 1), v15_2) L M C D F I K ⟨by omega, by omega⟩ (by show _ < _; omega)
      · skip
        refine g_iload_n X dX2_oneRoadOn_34 rfl (j := 1) rfl ?_
        refine g_iconst X dX2_oneRoadOn_35 (v := 1) (by decide) ?_
        refine g_aload_n X dX2_oneRoadOn_36 rfl (j := 3) rfl ?_
        refine g_iload_n X dX2_oneRoadOn_37 rfl (j := 2) rfl ?_
        refine g_iload X dX2_oneRoadOn_38 (j := 0) rfl ?_
        refine g_callVI X (s_X2_goal l G F I i4_3 (by omega) (by omega) i15_4 (by omega) (by omega) ) lk_X2_98 (F.1 3 rfl).2 (F.1 3 rfl).1 rfl rfl dX2_oneRoadOn_40 (Nat.le_of_ble_eq_true rfl) ⟨by decide, by decide⟩ ⟨by decide, by decide⟩ (fun r8 L M hp => ?_)
        obtain ⟨C, D, F, I, K1, hr⟩ := hp
        have K := K.step K1 (by decide)
        obtain ⟨n9, hn9, rfl⟩ := hr
        refine g_ishl X dX2_oneRoadOn_43 ?_
        refine Go.gen (fun o10 => ?_)
        refine g_ior X dX2_oneRoadOn_44 ?_
        refine Go.gen (fun o11 => ?_)
        refine g_istore_n X dX2_oneRoadOn_45 rfl (by decide) (lv2 := [(2, .int o11), (4, .int (nI i15_4)), (3, .int (nI i4_3)), (0, .ref (a 3)), (1, .int p0)]) rfl ?_
        refine g_iinc X dX2_oneRoadOn_46 (j := 1) rfl (v := nI (i15_4 + 1)) (nI_1 i15_4) (by decide) (lv2 := [(4, .int (nI (i15_4 + 1))), (2, .int o11), (3, .int (nI i4_3)), (0, .ref (a 3)), (1, .int p0)]) rfl ?_
        refine g_goto X dX2_oneRoadOn_49 (tgt := 15) (by decide) ?_
        refine g_lv [0, 1, 2, 3, 4] (lv2 := [(4, .int (nI (i15_4 + 1))), (2, .int o11), (3, .int (nI i4_3)), (0, .ref (a 3)), (1, .int p0)]) rfl ?_
        exact ih15 ((i15_4 + 1), o11) L M C D F I K ⟨by omega, by omega⟩ (by show _ < _; omega)
set_option maxHeartbeats 4000000 in
set_option maxRecDepth 100000 in
theorem s_X2_placesFrom (l : Launch) (G : va_G) {cy : Nat → ClassId} {L : List Nat} {M : Nat → va_E} {a : Nat → Nat} {act : Nat → Bool} {C0 : Nat → Nat → Int32} {D0 : Nat → Nat → Int64} {R : Nat → Nat → Option Nat} (F : WI L M a act (ent cy a C0 D0 R)) (I : Inv C0) (p0 : Nat) (hp0a : 0 ≤ p0) (hp0b : p0 ≤ 6)  : MI l G cy yX2_placesFrom cX2_placesFrom 4 (some .int) 2 0 0 [.ref (a 3), .int (nI p0)] L M (fun r L2 M2 => ∃ C2 D2, WI L2 M2 a act (ent cy a C2 D2 R) ∧ Inv C2 ∧ Kp [] C0 D0 C2 D2 ∧ True) := by
  refine MI.of (own := RX2) rfl (by decide) (Nat.le_of_ble_eq_true rfl) ?_
  intro p e s m below meth c A X hrt hnm
  obtain ⟨C, D, hC0, hD0, F, I, K⟩ : ∃ C D, C = C0 ∧ D = D0 ∧ WI L M a act (ent cy a C D R) ∧ Inv C ∧ Kp [] C0 D0 C D := ⟨C0, D0, rfl, rfl, F, I, Kp.rf⟩
  refine g_iconst X dX2_placesFrom_0 (v := 1) (by decide) ?_
  refine g_iload_n X dX2_placesFrom_1 rfl (j := 1) rfl ?_
  refine g_ishl X dX2_placesFrom_2 ?_
  refine Go.gen (fun o1 => ?_)
  refine g_istore_n X dX2_placesFrom_3 rfl (by decide) (lv2 := [(2, .int o1), (0, .ref (a 3)), (1, .int (nI p0))]) rfl ?_
  refine g_iconst X dX2_placesFrom_4 (v := 0) (by decide) ?_
  refine g_istore_n X dX2_placesFrom_5 rfl (by decide) (lv2 := [(3, .int 0), (2, .int o1), (0, .ref (a 3)), (1, .int (nI p0))]) rfl ?_
  refine g_lv [0, 1, 2, 3] (lv2 := [(3, .int 0), (2, .int o1), (0, .ref (a 3)), (1, .int (nI p0))]) rfl ?_
  refine i_loop (mods := []) (fun x : Nat × Int32 => 7 - x.1) (fun x => [(3, .int (nI (x.1))), (2, .int (x.2)), (0, .ref (a 3)), (1, .int (nI p0))]) (fun x C => 0 ≤ x.1 ∧ x.1 ≤ 7) (fun x L M C D F I K hP ih6 => ?_) ((0, o1) : Nat × Int32) F I K ⟨by show _ ≤ _; omega, by show _ ≤ _; omega⟩
  rcases x with ⟨i6_3, v6_2⟩
  obtain ⟨hi6_3a, hi6_3b⟩ := hP
  refine g_lv [0, 1, 2, 3] (lv2 := [(3, .int (nI i6_3)), (2, .int v6_2), (0, .ref (a 3)), (1, .int (nI p0))]) rfl ?_
  refine g_iload_n X dX2_placesFrom_6 rfl (j := 0) rfl ?_
  refine g_bipush X dX2_placesFrom_7 (v := 7) (by decide) ?_
  refine g_icmp_ge X dX2_placesFrom_9 (tgt := 24) (by decide) (fun q2 => ?_) (fun q2 => ?_)
  · skip
    have q2 : 7 ≤ i6_3 := (nI_leI (a := 7) (b := i6_3) (by omega) (by omega)).mp q2
    refine g_iload_n X dX2_placesFrom_24 rfl (j := 1) rfl ?_
    exact g_iret X hrt dX2_placesFrom_25 (by decide) (by decide) ⟨C, D, F, I, K, trivial⟩
  · skip
    have q2 : ¬ 7 ≤ i6_3 := fun z => q2 ((nI_leI (a := 7) (b := i6_3) (by omega) (by omega)).mpr z)
    refine g_aload_n X dX2_placesFrom_12 rfl (j := 2) rfl ?_
    refine g_iload_n X dX2_placesFrom_13 rfl (j := 1) rfl ?_
    refine g_callVI X (s_X2_oneRoadOn l G F I v6_2 ) lk_X2_105 (F.1 3 rfl).2 (F.1 3 rfl).1 rfl rfl dX2_placesFrom_14 (Nat.le_of_ble_eq_true rfl) ⟨by decide, by decide⟩ ⟨by decide, by decide⟩ (fun r3 L M hp => ?_)
    obtain ⟨C, D, F, I, K1, hr⟩ := hp
    have K := K.step K1 (by decide)
    refine g_istore_n X dX2_placesFrom_17 rfl (by decide) (lv2 := [(2, .int r3), (3, .int (nI i6_3)), (0, .ref (a 3)), (1, .int (nI p0))]) rfl ?_
    refine g_iinc X dX2_placesFrom_18 (j := 1) rfl (v := nI (i6_3 + 1)) (nI_1 i6_3) (by decide) (lv2 := [(3, .int (nI (i6_3 + 1))), (2, .int r3), (0, .ref (a 3)), (1, .int (nI p0))]) rfl ?_
    refine g_goto X dX2_placesFrom_21 (tgt := 6) (by decide) ?_
    refine g_lv [0, 1, 2, 3] (lv2 := [(3, .int (nI (i6_3 + 1))), (2, .int r3), (0, .ref (a 3)), (1, .int (nI p0))]) rfl ?_
    exact ih6 ((i6_3 + 1), r3) L M C D F I K ⟨by omega, by omega⟩ (by show _ < _; omega)
set_option maxHeartbeats 4000000 in
set_option maxRecDepth 100000 in
theorem s_X2_distance (l : Launch) (G : va_G) {cy : Nat → ClassId} {L : List Nat} {M : Nat → va_E} {a : Nat → Nat} {act : Nat → Bool} {C0 : Nat → Nat → Int32} {D0 : Nat → Nat → Int64} {R : Nat → Nat → Option Nat} (F : WI L M a act (ent cy a C0 D0 R)) (I : Inv C0) (p0 : Nat) (hp0a : 0 ≤ p0) (hp0b : p0 ≤ 6) (p1 : Nat) (hp1 : p1 < 7 ∨ (10 ≤ p1 ∧ p1 < 14))  : MI l G cy yX2_distance cX2_distance 5 (some .int) 2 0 0 [.ref (a 3), .int (nI p0), .int (nI p1)] L M (fun r L2 M2 => ∃ C2 D2, WI L2 M2 a act (ent cy a C2 D2 R) ∧ Inv C2 ∧ Kp [] C0 D0 C2 D2 ∧ True) := by
  refine MI.of (own := RX2) rfl (by decide) (Nat.le_of_ble_eq_true rfl) ?_
  intro p e s m below meth c A X hrt hnm
  obtain ⟨C, D, hC0, hD0, F, I, K⟩ : ∃ C D, C = C0 ∧ D = D0 ∧ WI L M a act (ent cy a C D R) ∧ Inv C ∧ Kp [] C0 D0 C D := ⟨C0, D0, rfl, rfl, F, I, Kp.rf⟩
  refine g_iconst X dX2_distance_0 (v := 1) (by decide) ?_
  refine g_iload_n X dX2_distance_1 rfl (j := 1) rfl ?_
  refine g_ishl X dX2_distance_2 ?_
  refine Go.gen (fun o1 => ?_)
  refine g_istore_n X dX2_distance_3 rfl (by decide) (lv2 := [(3, .int o1), (0, .ref (a 3)), (1, .int (nI p0)), (2, .int (nI p1))]) rfl ?_
  refine g_iconst X dX2_distance_4 (v := 0) (by decide) ?_
  refine g_istore X dX2_distance_5 (by decide) (lv2 := [(4, .int 0), (3, .int o1), (0, .ref (a 3)), (1, .int (nI p0)), (2, .int (nI p1))]) rfl ?_
  refine g_lv [0, 1, 2, 3, 4] (lv2 := [(4, .int 0), (3, .int o1), (0, .ref (a 3)), (1, .int (nI p0)), (2, .int (nI p1))]) rfl ?_
  refine i_loop (mods := []) (fun x : Nat × Int32 => 8 - x.1) (fun x => [(4, .int (nI (x.1))), (3, .int (x.2)), (0, .ref (a 3)), (1, .int (nI p0)), (2, .int (nI p1))]) (fun x C => 0 ≤ x.1 ∧ x.1 ≤ 8) (fun x L M C D F I K hP ih7 => ?_) ((0, o1) : Nat × Int32) F I K ⟨by show _ ≤ _; omega, by show _ ≤ _; omega⟩
  rcases x with ⟨i7_4, v7_3⟩
  obtain ⟨hi7_4a, hi7_4b⟩ := hP
  refine g_lv [0, 1, 2, 3, 4] (lv2 := [(4, .int (nI i7_4)), (3, .int v7_3), (0, .ref (a 3)), (1, .int (nI p0)), (2, .int (nI p1))]) rfl ?_
  refine g_iload X dX2_distance_7 (j := 0) rfl ?_
  refine g_bipush X dX2_distance_9 (v := 7) (by decide) ?_
  refine g_icmp_gt X dX2_distance_11 (tgt := 37) (by decide) (fun q2 => ?_) (fun q2 => ?_)
  · skip
    have q2 : 7 < i7_4 := (nI_ltI (a := 7) (b := i7_4) (by omega) (by omega)).mp q2
    refine g_iconst X dX2_distance_37 (v := -1) (by decide) ?_
    exact g_iret X hrt dX2_distance_38 (by decide) (by decide) ⟨C, D, F, I, K, trivial⟩
  · skip
    have q2 : ¬ 7 < i7_4 := fun z => q2 ((nI_ltI (a := 7) (b := i7_4) (by omega) (by omega)).mpr z)
    refine g_iload_n X dX2_distance_14 rfl (j := 1) rfl ?_
    refine g_iload_n X dX2_distance_15 rfl (j := 4) rfl ?_
    refine g_ishr X dX2_distance_16 ?_
    refine Go.gen (fun o3 => ?_)
    refine g_iconst X dX2_distance_17 (v := 1) (by decide) ?_
    refine g_iand X dX2_distance_18 ?_
    refine Go.gen (fun o4 => ?_)
    refine g_if_eq X dX2_distance_19 (tgt := 25) (by decide) (fun q5 => ?_) (fun q5 => ?_)
    · skip
      subst q5
      refine g_aload_n X dX2_distance_25 rfl (j := 2) rfl ?_
      refine g_iload_n X dX2_distance_26 rfl (j := 1) rfl ?_
      refine g_callVI X (s_X2_oneRoadOn l G F I v7_3 ) lk_X2_105 (F.1 3 rfl).2 (F.1 3 rfl).1 rfl rfl dX2_distance_27 (Nat.le_of_ble_eq_true rfl) ⟨by decide, by decide⟩ ⟨by decide, by decide⟩ (fun r6 L M hp => ?_)
      obtain ⟨C, D, F, I, K1, hr⟩ := hp
      have K := K.step K1 (by decide)
      refine g_istore_n X dX2_distance_30 rfl (by decide) (lv2 := [(3, .int r6), (4, .int (nI i7_4)), (0, .ref (a 3)), (1, .int (nI p0)), (2, .int (nI p1))]) rfl ?_
      refine g_iinc X dX2_distance_31 (j := 1) rfl (v := nI (i7_4 + 1)) (nI_1 i7_4) (by decide) (lv2 := [(4, .int (nI (i7_4 + 1))), (3, .int r6), (0, .ref (a 3)), (1, .int (nI p0)), (2, .int (nI p1))]) rfl ?_
      refine g_goto X dX2_distance_34 (tgt := 7) (by decide) ?_
      refine g_lv [0, 1, 2, 3, 4] (lv2 := [(4, .int (nI (i7_4 + 1))), (3, .int r6), (0, .ref (a 3)), (1, .int (nI p0)), (2, .int (nI p1))]) rfl ?_
      exact ih7 ((i7_4 + 1), r6) L M C D F I K ⟨by omega, by omega⟩ (by show _ < _; omega)
    · skip
      refine g_iload X dX2_distance_22 (j := 0) rfl ?_
      exact g_iret X hrt dX2_distance_24 (by decide) (by decide) ⟨C, D, F, I, K, trivial⟩
set_option maxHeartbeats 4000000 in
set_option maxRecDepth 100000 in
theorem s_X2_allSettings (l : Launch) (G : va_G) {cy : Nat → ClassId} {L : List Nat} {M : Nat → va_E} {a : Nat → Nat} {act : Nat → Bool} {C0 : Nat → Nat → Int32} {D0 : Nat → Nat → Int64} {R : Nat → Nat → Option Nat} (F : WI L M a act (ent cy a C0 D0 R)) (I : Inv C0)   : MI l G cy yX2_allSettings cX2_allSettings 3 (some .int) 1 0 0 [.ref (a 3)] L M (fun r L2 M2 => ∃ C2 D2, WI L2 M2 a act (ent cy a C2 D2 R) ∧ Inv C2 ∧ Kp [] C0 D0 C2 D2 ∧ True) := by
  refine MI.of (own := RX2) rfl (by decide) (Nat.le_of_ble_eq_true rfl) ?_
  intro p e s m below meth c A X hrt hnm
  obtain ⟨C, D, hC0, hD0, F, I, K⟩ : ∃ C D, C = C0 ∧ D = D0 ∧ WI L M a act (ent cy a C D R) ∧ Inv C ∧ Kp [] C0 D0 C D := ⟨C0, D0, rfl, rfl, F, I, Kp.rf⟩
  refine g_iconst X dX2_allSettings_0 (v := 1) (by decide) ?_
  refine g_istore_n X dX2_allSettings_1 rfl (by decide) (lv2 := [(1, .int 1), (0, .ref (a 3))]) rfl ?_
  refine g_iconst X dX2_allSettings_2 (v := 0) (by decide) ?_
  refine g_istore_n X dX2_allSettings_3 rfl (by decide) (lv2 := [(2, .int 0), (1, .int 1), (0, .ref (a 3))]) rfl ?_
  refine g_lv [0, 1, 2] (lv2 := [(2, .int 0), (1, .int 1), (0, .ref (a 3))]) rfl ?_
  refine i_loop (mods := []) (fun x : Nat × Int32 => 7 - x.1) (fun x => [(2, .int (nI (x.1))), (1, .int (x.2)), (0, .ref (a 3))]) (fun x C => 0 ≤ x.1 ∧ x.1 ≤ 7) (fun x L M C D F I K hP ih4 => ?_) ((0, 1) : Nat × Int32) F I K ⟨by show _ ≤ _; omega, by show _ ≤ _; omega⟩
  rcases x with ⟨i4_2, v4_1⟩
  obtain ⟨hi4_2a, hi4_2b⟩ := hP
  refine g_lv [0, 1, 2] (lv2 := [(2, .int (nI i4_2)), (1, .int v4_1), (0, .ref (a 3))]) rfl ?_
  refine g_iload_n X dX2_allSettings_4 rfl (j := 0) rfl ?_
  refine g_aload_n X dX2_allSettings_5 rfl (j := 2) rfl ?_
  obtain ⟨n1, hn1, en1⟩ := rg_nat ((I 3 5).2.2.1 rfl) (by decide)
  refine i_get X F 3 rfl rfl fk_X2_27 dX2_allSettings_6 (v := .int (nI n1)) (congrArg (fun z => some (Value.int z)) en1) ?_
  refine g_icmp_ge X dX2_allSettings_9 (tgt := 35) (by decide) (fun q2 => ?_) (fun q2 => ?_)
  · skip
    have q2 : n1 ≤ i4_2 := (nI_leI (a := n1) (b := i4_2) (by omega) (by omega)).mp q2
    refine g_iload_n X dX2_allSettings_35 rfl (j := 1) rfl ?_
    exact g_iret X hrt dX2_allSettings_36 (by decide) (by decide) ⟨C, D, F, I, K, trivial⟩
  · skip
    have q2 : ¬ n1 ≤ i4_2 := fun z => q2 ((nI_leI (a := n1) (b := i4_2) (by omega) (by omega)).mpr z)
    refine g_aload_n X dX2_allSettings_12 rfl (j := 2) rfl ?_
    refine g_iload_n X dX2_allSettings_13 rfl (j := 0) rfl ?_
    refine g_callVI X (s_X2_hasArm l G F I i4_2 (by omega) (by omega) ) lk_X2_102 (F.1 3 rfl).2 (F.1 3 rfl).1 rfl rfl dX2_allSettings_14 (Nat.le_of_ble_eq_true rfl) ⟨by decide, by decide⟩ ⟨by decide, by decide⟩ (fun r3 L M hp => ?_)
    obtain ⟨C, D, F, I, K1, hr⟩ := hp
    have K := K.step K1 (by decide)
    rcases hr with rfl | ⟨rfl, ra4⟩
    · skip
      refine g_if_eq X dX2_allSettings_17 (tgt := 29) (by decide) (fun _ => ?_) (fun q => absurd (by decide) q)
      refine g_iinc X dX2_allSettings_29 (j := 0) rfl (v := nI (i4_2 + 1)) (nI_1 i4_2) (by decide) (lv2 := [(2, .int (nI (i4_2 + 1))), (1, .int v4_1), (0, .ref (a 3))]) rfl ?_
      refine g_goto X dX2_allSettings_32 (tgt := 4) (by decide) ?_
      refine g_lv [0, 1, 2] (lv2 := [(2, .int (nI (i4_2 + 1))), (1, .int v4_1), (0, .ref (a 3))]) rfl ?_
      exact ih4 ((i4_2 + 1), v4_1) L M C D F I K ⟨by omega, by omega⟩ (by show _ < _; omega)
    · skip
      refine g_if_eq X dX2_allSettings_17 (tgt := 29) (by decide) (fun q => absurd q (by decide)) (fun _ => ?_)
      refine g_iload_n X dX2_allSettings_20 rfl (j := 1) rfl ?_
      refine g_aload_n X dX2_allSettings_21 rfl (j := 2) rfl ?_
      refine i_get X F 3 rfl rfl fk_X2_43 dX2_allSettings_22 rfl ?_
      refine g_iload_n X dX2_allSettings_25 rfl (j := 0) rfl ?_
      obtain ⟨n5, hn5, en5⟩ := rg_nat (I 5 i4_2) (by decide)
      refine i_iald X F 5 rfl rfl dX2_allSettings_26 (vp_in_nI (by omega) (by decide)) (v := nI n5) (by rw [nI_clamp (by omega)]; exact en5) ?_
      refine g_imul X dX2_allSettings_27 ?_
      refine Go.gen (fun o6 => ?_)
      refine g_istore_n X dX2_allSettings_28 rfl (by decide) (lv2 := [(1, .int o6), (2, .int (nI i4_2)), (0, .ref (a 3))]) rfl ?_
      refine g_iinc X dX2_allSettings_29 (j := 1) rfl (v := nI (i4_2 + 1)) (nI_1 i4_2) (by decide) (lv2 := [(2, .int (nI (i4_2 + 1))), (1, .int o6), (0, .ref (a 3))]) rfl ?_
      refine g_goto X dX2_allSettings_32 (tgt := 4) (by decide) ?_
      refine g_lv [0, 1, 2] (lv2 := [(2, .int (nI (i4_2 + 1))), (1, .int o6), (0, .ref (a 3))]) rfl ?_
      exact ih4 ((i4_2 + 1), o6) L M C D F I K ⟨by omega, by omega⟩ (by show _ < _; omega)
set_option maxHeartbeats 4000000 in
set_option maxRecDepth 100000 in
theorem s_X2_settingNumber_28 (l : Launch) (G : va_G) {cy : Nat → ClassId} {L : List Nat} {M : Nat → va_E} {a : Nat → Nat} {act : Nat → Bool} {C0 : Nat → Nat → Int32} {D0 : Nat → Nat → Int64} {R : Nat → Nat → Option Nat} (F : WI L M a act (ent cy a C0 D0 R)) (I : Inv C0) (p1 : Nat) (hp1a : 0 ≤ p1) (hp1b : p1 ≤ 112)  : MI l G cy yX2_settingNumber cX2_settingNumber 6 (some .int) 1 0 0 [.ref (a 3), .ref (a 28), .int (nI p1)] L M (fun r L2 M2 => ∃ C2 D2, WI L2 M2 a act (ent cy a C2 D2 R) ∧ Inv C2 ∧ Kp [] C0 D0 C2 D2 ∧ True) := by
  refine MI.of (own := RX2) rfl (by decide) (Nat.le_of_ble_eq_true rfl) ?_
  intro p e s m below meth c A X hrt hnm
  obtain ⟨C, D, hC0, hD0, F, I, K⟩ : ∃ C D, C = C0 ∧ D = D0 ∧ WI L M a act (ent cy a C D R) ∧ Inv C ∧ Kp [] C0 D0 C D := ⟨C0, D0, rfl, rfl, F, I, Kp.rf⟩
  refine g_iconst X dX2_settingNumber_0 (v := 0) (by decide) ?_
  refine g_istore_n X dX2_settingNumber_1 rfl (by decide) (lv2 := [(3, .int 0), (0, .ref (a 3)), (1, .ref (a 28)), (2, .int (nI p1))]) rfl ?_
  refine g_iconst X dX2_settingNumber_2 (v := 1) (by decide) ?_
  refine g_istore X dX2_settingNumber_3 (by decide) (lv2 := [(4, .int 1), (3, .int 0), (0, .ref (a 3)), (1, .ref (a 28)), (2, .int (nI p1))]) rfl ?_
  refine g_iconst X dX2_settingNumber_5 (v := 0) (by decide) ?_
  refine g_istore X dX2_settingNumber_6 (by decide) (lv2 := [(5, .int 0), (4, .int 1), (3, .int 0), (0, .ref (a 3)), (1, .ref (a 28)), (2, .int (nI p1))]) rfl ?_
  refine g_lv [0, 2, 1, 3, 4, 5] (lv2 := [(5, .int 0), (3, .int 0), (4, .int 1), (0, .ref (a 3)), (1, .ref (a 28)), (2, .int (nI p1))]) rfl ?_
  refine i_loop (mods := []) (fun x : Nat × Int32 × Int32 => 7 - x.1) (fun x => [(5, .int (nI (x.1))), (3, .int (x.2.1)), (4, .int (x.2.2)), (0, .ref (a 3)), (1, .ref (a 28)), (2, .int (nI p1))]) (fun x C => 0 ≤ x.1 ∧ x.1 ≤ 7) (fun x L M C D F I K hP ih8 => ?_) ((0, 0, 1) : Nat × Int32 × Int32) F I K ⟨by show _ ≤ _; omega, by show _ ≤ _; omega⟩
  rcases x with ⟨i8_5, v8_3, v8_4⟩
  obtain ⟨hi8_5a, hi8_5b⟩ := hP
  refine g_lv [0, 1, 2, 3, 4, 5] (lv2 := [(5, .int (nI i8_5)), (3, .int v8_3), (4, .int v8_4), (0, .ref (a 3)), (1, .ref (a 28)), (2, .int (nI p1))]) rfl ?_
  refine g_iload X dX2_settingNumber_8 (j := 0) rfl ?_
  refine g_aload_n X dX2_settingNumber_10 rfl (j := 3) rfl ?_
  obtain ⟨n1, hn1, en1⟩ := rg_nat ((I 3 5).2.2.1 rfl) (by decide)
  refine i_get X F 3 rfl rfl fk_X2_27 dX2_settingNumber_11 (v := .int (nI n1)) (congrArg (fun z => some (Value.int z)) en1) ?_
  refine g_icmp_ge X dX2_settingNumber_14 (tgt := 56) (by decide) (fun q2 => ?_) (fun q2 => ?_)
  · skip
    have q2 : n1 ≤ i8_5 := (nI_leI (a := n1) (b := i8_5) (by omega) (by omega)).mp q2
    refine g_iload_n X dX2_settingNumber_56 rfl (j := 1) rfl ?_
    exact g_iret X hrt dX2_settingNumber_57 (by decide) (by decide) ⟨C, D, F, I, K, trivial⟩
  · skip
    have q2 : ¬ n1 ≤ i8_5 := fun z => q2 ((nI_leI (a := n1) (b := i8_5) (by omega) (by omega)).mpr z)
    refine g_aload_n X dX2_settingNumber_17 rfl (j := 3) rfl ?_
    refine g_iload X dX2_settingNumber_18 (j := 0) rfl ?_
    refine g_callVI X (s_X2_hasArm l G F I i8_5 (by omega) (by omega) ) lk_X2_102 (F.1 3 rfl).2 (F.1 3 rfl).1 rfl rfl dX2_settingNumber_20 (Nat.le_of_ble_eq_true rfl) ⟨by decide, by decide⟩ ⟨by decide, by decide⟩ (fun r3 L M hp => ?_)
    obtain ⟨C, D, F, I, K1, hr⟩ := hp
    have K := K.step K1 (by decide)
    rcases hr with rfl | ⟨rfl, ra4⟩
    · skip
      refine g_if_eq X dX2_settingNumber_23 (tgt := 50) (by decide) (fun _ => ?_) (fun q => absurd (by decide) q)
      refine g_iinc X dX2_settingNumber_50 (j := 0) rfl (v := nI (i8_5 + 1)) (nI_1 i8_5) (by decide) (lv2 := [(5, .int (nI (i8_5 + 1))), (3, .int v8_3), (4, .int v8_4), (0, .ref (a 3)), (1, .ref (a 28)), (2, .int (nI p1))]) rfl ?_
      refine g_goto X dX2_settingNumber_53 (tgt := 8) (by decide) ?_
      refine g_lv [0, 1, 2, 3, 4, 5] (lv2 := [(5, .int (nI (i8_5 + 1))), (3, .int v8_3), (4, .int v8_4), (0, .ref (a 3)), (1, .ref (a 28)), (2, .int (nI p1))]) rfl ?_
      exact ih8 ((i8_5 + 1), v8_3, v8_4) L M C D F I K ⟨by omega, by omega⟩ (by show _ < _; omega)
    · skip
      refine g_if_eq X dX2_settingNumber_23 (tgt := 50) (by decide) (fun q => absurd q (by decide)) (fun _ => ?_)
      refine g_iload_n X dX2_settingNumber_26 rfl (j := 1) rfl ?_
      refine g_aload_n X dX2_settingNumber_27 rfl (j := 4) rfl ?_
      refine g_iload_n X dX2_settingNumber_28 rfl (j := 5) rfl ?_
      refine g_iload X dX2_settingNumber_29 (j := 0) rfl ?_
      refine g_iadd X dX2_settingNumber_31 ?_
      refine Go.top (v := .int (nI (p1 + i8_5))) (congrArg Value.int (nI_add p1 i8_5)) ?_
      obtain ⟨n5, hn5, en5⟩ := rg_nat (I 28 (p1 + i8_5)) (by decide)
      refine i_iald X F 28 rfl rfl dX2_settingNumber_32 (vp_in_nI (by omega) (by decide)) (v := nI n5) (by rw [nI_clamp (by omega)]; exact en5) ?_
      refine g_iload X dX2_settingNumber_33 (j := 2) rfl ?_
      refine g_imul X dX2_settingNumber_35 ?_
      refine Go.gen (fun o6 => ?_)
      refine g_iadd X dX2_settingNumber_36 ?_
      refine Go.gen (fun o7 => ?_)
      refine g_istore_n X dX2_settingNumber_37 rfl (by decide) (lv2 := [(3, .int o7), (5, .int (nI i8_5)), (4, .int v8_4), (0, .ref (a 3)), (1, .ref (a 28)), (2, .int (nI p1))]) rfl ?_
      refine g_iload X dX2_settingNumber_38 (j := 2) rfl ?_
      refine g_aload_n X dX2_settingNumber_40 rfl (j := 3) rfl ?_
      refine i_get X F 3 rfl rfl fk_X2_43 dX2_settingNumber_41 rfl ?_
      refine g_iload X dX2_settingNumber_44 (j := 1) rfl ?_
      obtain ⟨n8, hn8, en8⟩ := rg_nat (I 5 i8_5) (by decide)
      refine i_iald X F 5 rfl rfl dX2_settingNumber_46 (vp_in_nI (by omega) (by decide)) (v := nI n8) (by rw [nI_clamp (by omega)]; exact en8) ?_
      refine g_imul X dX2_settingNumber_47 ?_
      refine Go.gen (fun o9 => ?_)
      refine g_istore X dX2_settingNumber_48 (by decide) (lv2 := [(4, .int o9), (3, .int o7), (5, .int (nI i8_5)), (0, .ref (a 3)), (1, .ref (a 28)), (2, .int (nI p1))]) rfl ?_
      refine g_iinc X dX2_settingNumber_50 (j := 2) rfl (v := nI (i8_5 + 1)) (nI_1 i8_5) (by decide) (lv2 := [(5, .int (nI (i8_5 + 1))), (4, .int o9), (3, .int o7), (0, .ref (a 3)), (1, .ref (a 28)), (2, .int (nI p1))]) rfl ?_
      refine g_goto X dX2_settingNumber_53 (tgt := 8) (by decide) ?_
      refine g_lv [0, 2, 1, 3, 4, 5] (lv2 := [(5, .int (nI (i8_5 + 1))), (3, .int o7), (4, .int o9), (0, .ref (a 3)), (1, .ref (a 28)), (2, .int (nI p1))]) rfl ?_
      exact ih8 ((i8_5 + 1), o7, o9) L M C D F I K ⟨by omega, by omega⟩ (by show _ < _; omega)
set_option maxHeartbeats 4000000 in
set_option maxRecDepth 100000 in
theorem s_X2_leadsToInn_28 (l : Launch) (G : va_G) {cy : Nat → ClassId} {L : List Nat} {M : Nat → va_E} {a : Nat → Nat} {act : Nat → Bool} {C0 : Nat → Nat → Int32} {D0 : Nat → Nat → Int64} {R : Nat → Nat → Option Nat} (F : WI L M a act (ent cy a C0 D0 R)) (I : Inv C0) (p1 : Nat) (hp1a : 0 ≤ p1) (hp1b : p1 ≤ 112) (p2 : Nat) (hp2a : 0 ≤ p2) (hp2b : p2 ≤ 6)  : MI l G cy yX2_leadsToInn cX2_leadsToInn 6 (some .boolean) 1 0 0 [.ref (a 3), .ref (a 28), .int (nI p1), .int (nI p2)] L M (fun r L2 M2 => ∃ C2 D2, WI L2 M2 a act (ent cy a C2 D2 R) ∧ Inv C2 ∧ Kp [] C0 D0 C2 D2 ∧ (r = 0 ∨ r = 1)) := by
  refine MI.of (own := RX2) rfl (by decide) (Nat.le_of_ble_eq_true rfl) ?_
  intro p e s m below meth c A X hrt hnm
  obtain ⟨C, D, hC0, hD0, F, I, K⟩ : ∃ C D, C = C0 ∧ D = D0 ∧ WI L M a act (ent cy a C D R) ∧ Inv C ∧ Kp [] C0 D0 C D := ⟨C0, D0, rfl, rfl, F, I, Kp.rf⟩
  refine g_iload_n X dX2_leadsToInn_0 rfl (j := 3) rfl ?_
  refine g_istore X dX2_leadsToInn_1 (by decide) (lv2 := [(4, .int (nI p2)), (0, .ref (a 3)), (1, .ref (a 28)), (2, .int (nI p1)), (3, .int (nI p2))]) rfl ?_
  refine g_iconst X dX2_leadsToInn_3 (v := 0) (by decide) ?_
  refine g_istore X dX2_leadsToInn_4 (by decide) (lv2 := [(5, .int 0), (4, .int (nI p2)), (0, .ref (a 3)), (1, .ref (a 28)), (2, .int (nI p1)), (3, .int (nI p2))]) rfl ?_
  refine g_lv [0, 1, 2, 3, 4, 5] (lv2 := [(5, .int 0), (4, .int (nI p2)), (0, .ref (a 3)), (1, .ref (a 28)), (2, .int (nI p1)), (3, .int (nI p2))]) rfl ?_
  refine i_loop (mods := []) (fun x : Nat × Nat => 7 - x.1) (fun x => [(5, .int (nI (x.1))), (4, .int (nI (x.2))), (0, .ref (a 3)), (1, .ref (a 28)), (2, .int (nI p1)), (3, .int (nI p2))]) (fun x C => 0 ≤ x.1 ∧ x.1 ≤ 7 ∧ (x.2 < 7 ∨ (10 ≤ x.2 ∧ x.2 < 14))) (fun x L M C D F I K hP ih6 => ?_) ((0, p2) : Nat × Nat) F I K ⟨by show _ ≤ _; omega, by show _ ≤ _; omega, by show _ ∨ _; omega⟩
  rcases x with ⟨i6_5, i6_4⟩
  obtain ⟨hi6_5a, hi6_5b, hi6_4⟩ := hP
  refine g_lv [0, 1, 2, 3, 4, 5] (lv2 := [(5, .int (nI i6_5)), (4, .int (nI i6_4)), (0, .ref (a 3)), (1, .ref (a 28)), (2, .int (nI p1)), (3, .int (nI p2))]) rfl ?_
  refine g_iload X dX2_leadsToInn_6 (j := 0) rfl ?_
  refine g_bipush X dX2_leadsToInn_8 (v := 7) (by decide) ?_
  refine g_icmp_ge X dX2_leadsToInn_10 (tgt := 49) (by decide) (fun q1 => ?_) (fun q1 => ?_)
  · skip
    have q1 : 7 ≤ i6_5 := (nI_leI (a := 7) (b := i6_5) (by omega) (by omega)).mp q1
    refine g_iload X dX2_leadsToInn_49 (j := 1) rfl ?_
    refine g_bipush X dX2_leadsToInn_51 (v := 10) (by decide) ?_
    refine g_icmp_lt X dX2_leadsToInn_53 (tgt := 60) (by decide) (fun q2 => ?_) (fun q2 => ?_)
    · skip
      have q2 : i6_4 < 10 := (nI_ltI (a := i6_4) (b := 10) (by omega) (by omega)).mp q2
      refine g_iconst X dX2_leadsToInn_60 (v := 0) (by decide) ?_
      exact g_zret X hrt rfl dX2_leadsToInn_61 (by decide) (by decide) ⟨C, D, F, I, K, Or.inl rfl⟩
    · skip
      have q2 : ¬ i6_4 < 10 := fun z => q2 ((nI_ltI (a := i6_4) (b := 10) (by omega) (by omega)).mpr z)
      refine g_iconst X dX2_leadsToInn_56 (v := 1) (by decide) ?_
      refine g_goto X dX2_leadsToInn_57 (tgt := 61) (by decide) ?_
      exact g_zret X hrt rfl dX2_leadsToInn_61 (by decide) (by decide) ⟨C, D, F, I, K, Or.inr rfl⟩
  · skip
    have q1 : ¬ 7 ≤ i6_5 := fun z => q1 ((nI_leI (a := 7) (b := i6_5) (by omega) (by omega)).mpr z)
    refine g_iload X dX2_leadsToInn_13 (j := 1) rfl ?_
    refine g_bipush X dX2_leadsToInn_15 (v := 10) (by decide) ?_
    refine g_icmp_ge X dX2_leadsToInn_17 (tgt := 49) (by decide) (fun q3 => ?_) (fun q3 => ?_)
    · skip
      have q3 : 10 ≤ i6_4 := (nI_leI (a := 10) (b := i6_4) (by omega) (by omega)).mp q3
      refine g_iload X dX2_leadsToInn_49 (j := 1) rfl ?_
      refine g_bipush X dX2_leadsToInn_51 (v := 10) (by decide) ?_
      refine g_icmp_lt X dX2_leadsToInn_53 (tgt := 60) (by decide) (fun q4 => ?_) (fun q4 => ?_)
      · skip
        have q4 : i6_4 < 10 := (nI_ltI (a := i6_4) (b := 10) (by omega) (by omega)).mp q4
        refine g_iconst X dX2_leadsToInn_60 (v := 0) (by decide) ?_
        exact g_zret X hrt rfl dX2_leadsToInn_61 (by decide) (by decide) ⟨C, D, F, I, K, Or.inl rfl⟩
      · skip
        have q4 : ¬ i6_4 < 10 := fun z => q4 ((nI_ltI (a := i6_4) (b := 10) (by omega) (by omega)).mpr z)
        refine g_iconst X dX2_leadsToInn_56 (v := 1) (by decide) ?_
        refine g_goto X dX2_leadsToInn_57 (tgt := 61) (by decide) ?_
        exact g_zret X hrt rfl dX2_leadsToInn_61 (by decide) (by decide) ⟨C, D, F, I, K, Or.inr rfl⟩
    · skip
      have q3 : ¬ 10 ≤ i6_4 := fun z => q3 ((nI_leI (a := 10) (b := i6_4) (by omega) (by omega)).mpr z)
      refine g_aload_n X dX2_leadsToInn_20 rfl (j := 2) rfl ?_
      refine g_iload X dX2_leadsToInn_21 (j := 1) rfl ?_
      refine g_callVI X (s_X2_hasArm l G F I i6_4 (by omega) (by omega) ) lk_X2_102 (F.1 3 rfl).2 (F.1 3 rfl).1 rfl rfl dX2_leadsToInn_23 (Nat.le_of_ble_eq_true rfl) ⟨by decide, by decide⟩ ⟨by decide, by decide⟩ (fun r5 L M hp => ?_)
      obtain ⟨C, D, F, I, K1, hr⟩ := hp
      have K := K.step K1 (by decide)
      rcases hr with rfl | ⟨rfl, ra6⟩
      · skip
        refine g_if_eq X dX2_leadsToInn_26 (tgt := 49) (by decide) (fun _ => ?_) (fun q => absurd (by decide) q)
        refine g_iload X dX2_leadsToInn_49 (j := 1) rfl ?_
        refine g_bipush X dX2_leadsToInn_51 (v := 10) (by decide) ?_
        refine g_icmp_lt X dX2_leadsToInn_53 (tgt := 60) (by decide) (fun q7 => ?_) (fun q7 => ?_)
        · skip
          have q7 : i6_4 < 10 := (nI_ltI (a := i6_4) (b := 10) (by omega) (by omega)).mp q7
          refine g_iconst X dX2_leadsToInn_60 (v := 0) (by decide) ?_
          exact g_zret X hrt rfl dX2_leadsToInn_61 (by decide) (by decide) ⟨C, D, F, I, K, Or.inl rfl⟩
        · skip
          have q7 : ¬ i6_4 < 10 := fun z => q7 ((nI_ltI (a := i6_4) (b := 10) (by omega) (by omega)).mpr z)
          refine g_iconst X dX2_leadsToInn_56 (v := 1) (by decide) ?_
          refine g_goto X dX2_leadsToInn_57 (tgt := 61) (by decide) ?_
          exact g_zret X hrt rfl dX2_leadsToInn_61 (by decide) (by decide) ⟨C, D, F, I, K, Or.inr rfl⟩
      · skip
        refine g_if_eq X dX2_leadsToInn_26 (tgt := 49) (by decide) (fun q => absurd q (by decide)) (fun _ => ?_)
        refine g_aload_n X dX2_leadsToInn_29 rfl (j := 2) rfl ?_
        refine g_iload X dX2_leadsToInn_30 (j := 1) rfl ?_
        refine g_aload_n X dX2_leadsToInn_32 rfl (j := 3) rfl ?_
        refine g_iload_n X dX2_leadsToInn_33 rfl (j := 4) rfl ?_
        refine g_iload X dX2_leadsToInn_34 (j := 1) rfl ?_
        refine g_iadd X dX2_leadsToInn_36 ?_
        refine Go.top (v := .int (nI (p1 + i6_4))) (congrArg Value.int (nI_add p1 i6_4)) ?_
        obtain ⟨n8, hn8, en8⟩ := rg_nat (I 28 (p1 + i6_4)) (by decide)
        refine i_iald X F 28 rfl rfl dX2_leadsToInn_37 (vp_in_nI (by omega) (by decide)) (v := nI n8) (by rw [nI_clamp (by omega)]; exact en8) ?_
        refine g_callVI X (s_X2_goal l G F I i6_4 (by omega) (by omega) n8 (by omega) (by omega) ) lk_X2_98 (F.1 3 rfl).2 (F.1 3 rfl).1 rfl rfl dX2_leadsToInn_38 (Nat.le_of_ble_eq_true rfl) ⟨by decide, by decide⟩ ⟨by decide, by decide⟩ (fun r9 L M hp => ?_)
        obtain ⟨C, D, F, I, K1, hr⟩ := hp
        have K := K.step K1 (by decide)
        have ra6 : 1 ≤ (C 5 i6_4).toInt := by rw [(K1 5 (by decide)).1]; exact ra6
        obtain ⟨n10, hn10, rfl⟩ := hr
        refine g_istore X dX2_leadsToInn_41 (by decide) (lv2 := [(4, .int (nI n10)), (5, .int (nI i6_5)), (0, .ref (a 3)), (1, .ref (a 28)), (2, .int (nI p1)), (3, .int (nI p2))]) rfl ?_
        refine g_iinc X dX2_leadsToInn_43 (j := 1) rfl (v := nI (i6_5 + 1)) (nI_1 i6_5) (by decide) (lv2 := [(5, .int (nI (i6_5 + 1))), (4, .int (nI n10)), (0, .ref (a 3)), (1, .ref (a 28)), (2, .int (nI p1)), (3, .int (nI p2))]) rfl ?_
        refine g_goto X dX2_leadsToInn_46 (tgt := 6) (by decide) ?_
        refine g_lv [0, 1, 2, 3, 4, 5] (lv2 := [(5, .int (nI (i6_5 + 1))), (4, .int (nI n10)), (0, .ref (a 3)), (1, .ref (a 28)), (2, .int (nI p1)), (3, .int (nI p2))]) rfl ?_
        exact ih6 ((i6_5 + 1), n10) L M C D F I K ⟨by omega, by omega, by omega⟩ (by show _ < _; omega)
set_option maxHeartbeats 4000000 in
set_option maxRecDepth 100000 in
theorem s_X2_isTree_28 (l : Launch) (G : va_G) {cy : Nat → ClassId} {L : List Nat} {M : Nat → va_E} {a : Nat → Nat} {act : Nat → Bool} {C0 : Nat → Nat → Int32} {D0 : Nat → Nat → Int64} {R : Nat → Nat → Option Nat} (F : WI L M a act (ent cy a C0 D0 R)) (I : Inv C0) (p1 : Nat) (hp1a : 0 ≤ p1) (hp1b : p1 ≤ 112)  : MI l G cy yX2_isTree cX2_isTree 4 (some .boolean) 2 0 0 [.ref (a 3), .ref (a 28), .int (nI p1)] L M (fun r L2 M2 => ∃ C2 D2, WI L2 M2 a act (ent cy a C2 D2 R) ∧ Inv C2 ∧ Kp [] C0 D0 C2 D2 ∧ (r = 0 ∨ r = 1)) := by
  refine MI.of (own := RX2) rfl (by decide) (Nat.le_of_ble_eq_true rfl) ?_
  intro p e s m below meth c A X hrt hnm
  obtain ⟨C, D, hC0, hD0, F, I, K⟩ : ∃ C D, C = C0 ∧ D = D0 ∧ WI L M a act (ent cy a C D R) ∧ Inv C ∧ Kp [] C0 D0 C D := ⟨C0, D0, rfl, rfl, F, I, Kp.rf⟩
  refine g_iconst X dX2_isTree_0 (v := 0) (by decide) ?_
  refine g_istore_n X dX2_isTree_1 rfl (by decide) (lv2 := [(3, .int 0), (0, .ref (a 3)), (1, .ref (a 28)), (2, .int (nI p1))]) rfl ?_
  refine g_lv [0, 1, 2, 3] (lv2 := [(3, .int 0), (0, .ref (a 3)), (1, .ref (a 28)), (2, .int (nI p1))]) rfl ?_
  refine i_loop (mods := []) (fun x : Nat => 7 - x) (fun x => [(3, .int (nI (x))), (0, .ref (a 3)), (1, .ref (a 28)), (2, .int (nI p1))]) (fun x C => 0 ≤ x ∧ x ≤ 7) (fun x L M C D F I K hP ih2 => ?_) ((0) : Nat) F I K ⟨by show _ ≤ _; omega, by show _ ≤ _; omega⟩
  obtain ⟨i2_3, rfl⟩ : ∃ z, z = x := ⟨_, rfl⟩
  obtain ⟨hi2_3a, hi2_3b⟩ := hP
  refine g_lv [0, 1, 2, 3] (lv2 := [(3, .int (nI i2_3)), (0, .ref (a 3)), (1, .ref (a 28)), (2, .int (nI p1))]) rfl ?_
  refine g_iload_n X dX2_isTree_2 rfl (j := 0) rfl ?_
  refine g_aload_n X dX2_isTree_3 rfl (j := 1) rfl ?_
  obtain ⟨n1, hn1, en1⟩ := rg_nat ((I 3 5).2.2.1 rfl) (by decide)
  refine i_get X F 3 rfl rfl fk_X2_27 dX2_isTree_4 (v := .int (nI n1)) (congrArg (fun z => some (Value.int z)) en1) ?_
  refine g_icmp_ge X dX2_isTree_7 (tgt := 36) (by decide) (fun q2 => ?_) (fun q2 => ?_)
  · skip
    have q2 : n1 ≤ i2_3 := (nI_leI (a := n1) (b := i2_3) (by omega) (by omega)).mp q2
    refine g_iconst X dX2_isTree_36 (v := 1) (by decide) ?_
    exact g_zret X hrt rfl dX2_isTree_37 (by decide) (by decide) ⟨C, D, F, I, K, Or.inr rfl⟩
  · skip
    have q2 : ¬ n1 ≤ i2_3 := fun z => q2 ((nI_leI (a := n1) (b := i2_3) (by omega) (by omega)).mpr z)
    refine g_aload_n X dX2_isTree_10 rfl (j := 1) rfl ?_
    refine g_iload_n X dX2_isTree_11 rfl (j := 0) rfl ?_
    refine g_callVI X (s_X2_hasArm l G F I i2_3 (by omega) (by omega) ) lk_X2_102 (F.1 3 rfl).2 (F.1 3 rfl).1 rfl rfl dX2_isTree_12 (Nat.le_of_ble_eq_true rfl) ⟨by decide, by decide⟩ ⟨by decide, by decide⟩ (fun r3 L M hp => ?_)
    obtain ⟨C, D, F, I, K1, hr⟩ := hp
    have K := K.step K1 (by decide)
    rcases hr with rfl | ⟨rfl, ra4⟩
    · skip
      refine g_if_eq X dX2_isTree_15 (tgt := 30) (by decide) (fun _ => ?_) (fun q => absurd (by decide) q)
      refine g_iinc X dX2_isTree_30 (j := 0) rfl (v := nI (i2_3 + 1)) (nI_1 i2_3) (by decide) (lv2 := [(3, .int (nI (i2_3 + 1))), (0, .ref (a 3)), (1, .ref (a 28)), (2, .int (nI p1))]) rfl ?_
      refine g_goto X dX2_isTree_33 (tgt := 2) (by decide) ?_
      refine g_lv [0, 1, 2, 3] (lv2 := [(3, .int (nI (i2_3 + 1))), (0, .ref (a 3)), (1, .ref (a 28)), (2, .int (nI p1))]) rfl ?_
      exact ih2 ((i2_3 + 1)) L M C D F I K ⟨by omega, by omega⟩ (by show _ < _; omega)
    · skip
      refine g_if_eq X dX2_isTree_15 (tgt := 30) (by decide) (fun q => absurd q (by decide)) (fun _ => ?_)
      refine g_aload_n X dX2_isTree_18 rfl (j := 1) rfl ?_
      refine g_aload_n X dX2_isTree_19 rfl (j := 2) rfl ?_
      refine g_iload_n X dX2_isTree_20 rfl (j := 3) rfl ?_
      refine g_iload_n X dX2_isTree_21 rfl (j := 0) rfl ?_
      refine g_callVI X (s_X2_leadsToInn_28 l G F I p1 (by omega) (by omega) i2_3 (by omega) (by omega) ) lk_X2_109 (F.1 3 rfl).2 (F.1 3 rfl).1 rfl rfl dX2_isTree_22 (Nat.le_of_ble_eq_true rfl) ⟨by decide, by decide⟩ ⟨by decide, by decide⟩ (fun r5 L M hp => ?_)
      obtain ⟨C, D, F, I, K1, hr⟩ := hp
      have K := K.step K1 (by decide)
      have ra4 : 1 ≤ (C 5 i2_3).toInt := by rw [(K1 5 (by decide)).1]; exact ra4
      rcases hr with rfl | rfl
      · skip
        refine g_if_ne X dX2_isTree_25 (tgt := 30) (by decide) (fun q => absurd (by decide) q) (fun _ => ?_)
        refine g_iconst X dX2_isTree_28 (v := 0) (by decide) ?_
        exact g_zret X hrt rfl dX2_isTree_29 (by decide) (by decide) ⟨C, D, F, I, K, Or.inl rfl⟩
      · skip
        refine g_if_ne X dX2_isTree_25 (tgt := 30) (by decide) (fun _ => ?_) (fun q => absurd q (by decide))
        refine g_iinc X dX2_isTree_30 (j := 0) rfl (v := nI (i2_3 + 1)) (nI_1 i2_3) (by decide) (lv2 := [(3, .int (nI (i2_3 + 1))), (0, .ref (a 3)), (1, .ref (a 28)), (2, .int (nI p1))]) rfl ?_
        refine g_goto X dX2_isTree_33 (tgt := 2) (by decide) ?_
        refine g_lv [0, 1, 2, 3] (lv2 := [(3, .int (nI (i2_3 + 1))), (0, .ref (a 3)), (1, .ref (a 28)), (2, .int (nI p1))]) rfl ?_
        exact ih2 ((i2_3 + 1)) L M C D F I K ⟨by omega, by omega⟩ (by show _ < _; omega)
set_option maxHeartbeats 4000000 in
set_option maxRecDepth 100000 in
theorem s_X2_leadsBack_28 (l : Launch) (G : va_G) {cy : Nat → ClassId} {L : List Nat} {M : Nat → va_E} {a : Nat → Nat} {act : Nat → Bool} {C0 : Nat → Nat → Int32} {D0 : Nat → Nat → Int64} {R : Nat → Nat → Option Nat} (F : WI L M a act (ent cy a C0 D0 R)) (I : Inv C0) (p1 : Nat) (hp1a : 0 ≤ p1) (hp1b : p1 ≤ 112) (p2 : Nat) (hp2a : 0 ≤ p2) (hp2b : p2 ≤ 6)  : MI l G cy yX2_leadsBack cX2_leadsBack 6 (some .boolean) 1 0 0 [.ref (a 3), .ref (a 28), .int (nI p1), .int (nI p2)] L M (fun r L2 M2 => ∃ C2 D2, WI L2 M2 a act (ent cy a C2 D2 R) ∧ Inv C2 ∧ Kp [] C0 D0 C2 D2 ∧ (r = 0 ∨ r = 1)) := by
  refine MI.of (own := RX2) rfl (by decide) (Nat.le_of_ble_eq_true rfl) ?_
  intro p e s m below meth c A X hrt hnm
  obtain ⟨C, D, hC0, hD0, F, I, K⟩ : ∃ C D, C = C0 ∧ D = D0 ∧ WI L M a act (ent cy a C D R) ∧ Inv C ∧ Kp [] C0 D0 C D := ⟨C0, D0, rfl, rfl, F, I, Kp.rf⟩
  refine g_iload_n X dX2_leadsBack_0 rfl (j := 3) rfl ?_
  refine g_istore X dX2_leadsBack_1 (by decide) (lv2 := [(4, .int (nI p2)), (0, .ref (a 3)), (1, .ref (a 28)), (2, .int (nI p1)), (3, .int (nI p2))]) rfl ?_
  refine g_iconst X dX2_leadsBack_3 (v := 0) (by decide) ?_
  refine g_istore X dX2_leadsBack_4 (by decide) (lv2 := [(5, .int 0), (4, .int (nI p2)), (0, .ref (a 3)), (1, .ref (a 28)), (2, .int (nI p1)), (3, .int (nI p2))]) rfl ?_
  refine g_lv [0, 1, 2, 3, 4, 5] (lv2 := [(5, .int 0), (4, .int (nI p2)), (0, .ref (a 3)), (1, .ref (a 28)), (2, .int (nI p1)), (3, .int (nI p2))]) rfl ?_
  refine i_loop (mods := []) (fun x : Nat × Nat => 7 - x.1) (fun x => [(5, .int (nI (x.1))), (4, .int (nI (x.2))), (0, .ref (a 3)), (1, .ref (a 28)), (2, .int (nI p1)), (3, .int (nI p2))]) (fun x C => 0 ≤ x.1 ∧ x.1 ≤ 7 ∧ (x.2 < 7 ∨ (10 ≤ x.2 ∧ x.2 < 14))) (fun x L M C D F I K hP ih6 => ?_) ((0, p2) : Nat × Nat) F I K ⟨by show _ ≤ _; omega, by show _ ≤ _; omega, by show _ ∨ _; omega⟩
  rcases x with ⟨i6_5, i6_4⟩
  obtain ⟨hi6_5a, hi6_5b, hi6_4⟩ := hP
  refine g_lv [0, 1, 2, 3, 4, 5] (lv2 := [(5, .int (nI i6_5)), (4, .int (nI i6_4)), (0, .ref (a 3)), (1, .ref (a 28)), (2, .int (nI p1)), (3, .int (nI p2))]) rfl ?_
  refine g_iload X dX2_leadsBack_6 (j := 0) rfl ?_
  refine g_bipush X dX2_leadsBack_8 (v := 7) (by decide) ?_
  refine g_icmp_ge X dX2_leadsBack_10 (tgt := 57) (by decide) (fun q1 => ?_) (fun q1 => ?_)
  · skip
    have q1 : 7 ≤ i6_5 := (nI_leI (a := 7) (b := i6_5) (by omega) (by omega)).mp q1
    refine g_iconst X dX2_leadsBack_57 (v := 0) (by decide) ?_
    exact g_zret X hrt rfl dX2_leadsBack_58 (by decide) (by decide) ⟨C, D, F, I, K, Or.inl rfl⟩
  · skip
    have q1 : ¬ 7 ≤ i6_5 := fun z => q1 ((nI_leI (a := 7) (b := i6_5) (by omega) (by omega)).mpr z)
    refine g_iload X dX2_leadsBack_13 (j := 1) rfl ?_
    refine g_bipush X dX2_leadsBack_15 (v := 10) (by decide) ?_
    refine g_icmp_ge X dX2_leadsBack_17 (tgt := 57) (by decide) (fun q2 => ?_) (fun q2 => ?_)
    · skip
      have q2 : 10 ≤ i6_4 := (nI_leI (a := 10) (b := i6_4) (by omega) (by omega)).mp q2
      refine g_iconst X dX2_leadsBack_57 (v := 0) (by decide) ?_
      exact g_zret X hrt rfl dX2_leadsBack_58 (by decide) (by decide) ⟨C, D, F, I, K, Or.inl rfl⟩
    · skip
      have q2 : ¬ 10 ≤ i6_4 := fun z => q2 ((nI_leI (a := 10) (b := i6_4) (by omega) (by omega)).mpr z)
      refine g_aload_n X dX2_leadsBack_20 rfl (j := 2) rfl ?_
      refine g_iload X dX2_leadsBack_21 (j := 1) rfl ?_
      refine g_callVI X (s_X2_hasArm l G F I i6_4 (by omega) (by omega) ) lk_X2_102 (F.1 3 rfl).2 (F.1 3 rfl).1 rfl rfl dX2_leadsBack_23 (Nat.le_of_ble_eq_true rfl) ⟨by decide, by decide⟩ ⟨by decide, by decide⟩ (fun r3 L M hp => ?_)
      obtain ⟨C, D, F, I, K1, hr⟩ := hp
      have K := K.step K1 (by decide)
      rcases hr with rfl | ⟨rfl, ra4⟩
      · skip
        refine g_if_eq X dX2_leadsBack_26 (tgt := 57) (by decide) (fun _ => ?_) (fun q => absurd (by decide) q)
        refine g_iconst X dX2_leadsBack_57 (v := 0) (by decide) ?_
        exact g_zret X hrt rfl dX2_leadsBack_58 (by decide) (by decide) ⟨C, D, F, I, K, Or.inl rfl⟩
      · skip
        refine g_if_eq X dX2_leadsBack_26 (tgt := 57) (by decide) (fun q => absurd q (by decide)) (fun _ => ?_)
        refine g_aload_n X dX2_leadsBack_29 rfl (j := 2) rfl ?_
        refine g_iload X dX2_leadsBack_30 (j := 1) rfl ?_
        refine g_aload_n X dX2_leadsBack_32 rfl (j := 3) rfl ?_
        refine g_iload_n X dX2_leadsBack_33 rfl (j := 4) rfl ?_
        refine g_iload X dX2_leadsBack_34 (j := 1) rfl ?_
        refine g_iadd X dX2_leadsBack_36 ?_
        refine Go.top (v := .int (nI (p1 + i6_4))) (congrArg Value.int (nI_add p1 i6_4)) ?_
        obtain ⟨n5, hn5, en5⟩ := rg_nat (I 28 (p1 + i6_4)) (by decide)
        refine i_iald X F 28 rfl rfl dX2_leadsBack_37 (vp_in_nI (by omega) (by decide)) (v := nI n5) (by rw [nI_clamp (by omega)]; exact en5) ?_
        refine g_callVI X (s_X2_goal l G F I i6_4 (by omega) (by omega) n5 (by omega) (by omega) ) lk_X2_98 (F.1 3 rfl).2 (F.1 3 rfl).1 rfl rfl dX2_leadsBack_38 (Nat.le_of_ble_eq_true rfl) ⟨by decide, by decide⟩ ⟨by decide, by decide⟩ (fun r6 L M hp => ?_)
        obtain ⟨C, D, F, I, K1, hr⟩ := hp
        have K := K.step K1 (by decide)
        have ra4 : 1 ≤ (C 5 i6_4).toInt := by rw [(K1 5 (by decide)).1]; exact ra4
        obtain ⟨n7, hn7, rfl⟩ := hr
        refine g_istore X dX2_leadsBack_41 (by decide) (lv2 := [(4, .int (nI n7)), (5, .int (nI i6_5)), (0, .ref (a 3)), (1, .ref (a 28)), (2, .int (nI p1)), (3, .int (nI p2))]) rfl ?_
        refine g_iload X dX2_leadsBack_43 (j := 0) rfl ?_
        refine g_iload_n X dX2_leadsBack_45 rfl (j := 5) rfl ?_
        refine g_icmp_ne X dX2_leadsBack_46 (tgt := 51) (by decide) (fun q8 => ?_) (fun q8 => ?_)
        · skip
          have q8 : ¬ n7 = p2 := fun z => q8 ((nI_eq (a := n7) (b := p2) (by omega) (by omega)).mpr z)
          refine g_iinc X dX2_leadsBack_51 (j := 1) rfl (v := nI (i6_5 + 1)) (nI_1 i6_5) (by decide) (lv2 := [(5, .int (nI (i6_5 + 1))), (4, .int (nI n7)), (0, .ref (a 3)), (1, .ref (a 28)), (2, .int (nI p1)), (3, .int (nI p2))]) rfl ?_
          refine g_goto X dX2_leadsBack_54 (tgt := 6) (by decide) ?_
          refine g_lv [0, 1, 2, 3, 4, 5] (lv2 := [(5, .int (nI (i6_5 + 1))), (4, .int (nI n7)), (0, .ref (a 3)), (1, .ref (a 28)), (2, .int (nI p1)), (3, .int (nI p2))]) rfl ?_
          exact ih6 ((i6_5 + 1), n7) L M C D F I K ⟨by omega, by omega, by omega⟩ (by show _ < _; omega)
        · skip
          have q8 : n7 = p2 := (nI_eq (a := n7) (b := p2) (by omega) (by omega)).mp q8
          refine g_iconst X dX2_leadsBack_49 (v := 1) (by decide) ?_
          exact g_zret X hrt rfl dX2_leadsBack_50 (by decide) (by decide) ⟨C, D, F, I, K, Or.inr rfl⟩
set_option maxHeartbeats 4000000 in
set_option maxRecDepth 100000 in
theorem s_X2_postsOnRings_28 (l : Launch) (G : va_G) {cy : Nat → ClassId} {L : List Nat} {M : Nat → va_E} {a : Nat → Nat} {act : Nat → Bool} {C0 : Nat → Nat → Int32} {D0 : Nat → Nat → Int64} {R : Nat → Nat → Option Nat} (F : WI L M a act (ent cy a C0 D0 R)) (I : Inv C0) (p1 : Nat) (hp1a : 0 ≤ p1) (hp1b : p1 ≤ 112)  : MI l G cy yX2_postsOnRings cX2_postsOnRings 5 (some .int) 2 0 0 [.ref (a 3), .ref (a 28), .int (nI p1)] L M (fun r L2 M2 => ∃ C2 D2, WI L2 M2 a act (ent cy a C2 D2 R) ∧ Inv C2 ∧ Kp [] C0 D0 C2 D2 ∧ True) := by
  refine MI.of (own := RX2) rfl (by decide) (Nat.le_of_ble_eq_true rfl) ?_
  intro p e s m below meth c A X hrt hnm
  obtain ⟨C, D, hC0, hD0, F, I, K⟩ : ∃ C D, C = C0 ∧ D = D0 ∧ WI L M a act (ent cy a C D R) ∧ Inv C ∧ Kp [] C0 D0 C D := ⟨C0, D0, rfl, rfl, F, I, Kp.rf⟩
  refine g_iconst X dX2_postsOnRings_0 (v := 0) (by decide) ?_
  refine g_istore_n X dX2_postsOnRings_1 rfl (by decide) (lv2 := [(3, .int 0), (0, .ref (a 3)), (1, .ref (a 28)), (2, .int (nI p1))]) rfl ?_
  refine g_iconst X dX2_postsOnRings_2 (v := 0) (by decide) ?_
  refine g_istore X dX2_postsOnRings_3 (by decide) (lv2 := [(4, .int 0), (3, .int 0), (0, .ref (a 3)), (1, .ref (a 28)), (2, .int (nI p1))]) rfl ?_
  refine g_lv [0, 1, 2, 3, 4] (lv2 := [(4, .int 0), (3, .int 0), (0, .ref (a 3)), (1, .ref (a 28)), (2, .int (nI p1))]) rfl ?_
  refine i_loop (mods := []) (fun x : Nat × Int32 => 7 - x.1) (fun x => [(4, .int (nI (x.1))), (3, .int (x.2)), (0, .ref (a 3)), (1, .ref (a 28)), (2, .int (nI p1))]) (fun x C => 0 ≤ x.1 ∧ x.1 ≤ 7) (fun x L M C D F I K hP ih5 => ?_) ((0, 0) : Nat × Int32) F I K ⟨by show _ ≤ _; omega, by show _ ≤ _; omega⟩
  rcases x with ⟨i5_4, v5_3⟩
  obtain ⟨hi5_4a, hi5_4b⟩ := hP
  refine g_lv [0, 1, 2, 3, 4] (lv2 := [(4, .int (nI i5_4)), (3, .int v5_3), (0, .ref (a 3)), (1, .ref (a 28)), (2, .int (nI p1))]) rfl ?_
  refine g_iload X dX2_postsOnRings_5 (j := 0) rfl ?_
  refine g_aload_n X dX2_postsOnRings_7 rfl (j := 2) rfl ?_
  obtain ⟨n1, hn1, en1⟩ := rg_nat ((I 3 5).2.2.1 rfl) (by decide)
  refine i_get X F 3 rfl rfl fk_X2_27 dX2_postsOnRings_8 (v := .int (nI n1)) (congrArg (fun z => some (Value.int z)) en1) ?_
  refine g_icmp_ge X dX2_postsOnRings_11 (tgt := 38) (by decide) (fun q2 => ?_) (fun q2 => ?_)
  · skip
    have q2 : n1 ≤ i5_4 := (nI_leI (a := n1) (b := i5_4) (by omega) (by omega)).mp q2
    refine g_iload_n X dX2_postsOnRings_38 rfl (j := 1) rfl ?_
    exact g_iret X hrt dX2_postsOnRings_39 (by decide) (by decide) ⟨C, D, F, I, K, trivial⟩
  · skip
    have q2 : ¬ n1 ≤ i5_4 := fun z => q2 ((nI_leI (a := n1) (b := i5_4) (by omega) (by omega)).mpr z)
    refine g_aload_n X dX2_postsOnRings_14 rfl (j := 2) rfl ?_
    refine g_aload_n X dX2_postsOnRings_15 rfl (j := 3) rfl ?_
    refine g_iload_n X dX2_postsOnRings_16 rfl (j := 4) rfl ?_
    refine g_iload X dX2_postsOnRings_17 (j := 0) rfl ?_
    refine g_callVI X (s_X2_leadsBack_28 l G F I p1 (by omega) (by omega) i5_4 (by omega) (by omega) ) lk_X2_113 (F.1 3 rfl).2 (F.1 3 rfl).1 rfl rfl dX2_postsOnRings_19 (Nat.le_of_ble_eq_true rfl) ⟨by decide, by decide⟩ ⟨by decide, by decide⟩ (fun r3 L M hp => ?_)
    obtain ⟨C, D, F, I, K1, hr⟩ := hp
    have K := K.step K1 (by decide)
    rcases hr with rfl | rfl
    · skip
      refine g_if_eq X dX2_postsOnRings_22 (tgt := 32) (by decide) (fun _ => ?_) (fun q => absurd (by decide) q)
      refine g_iinc X dX2_postsOnRings_32 (j := 0) rfl (v := nI (i5_4 + 1)) (nI_1 i5_4) (by decide) (lv2 := [(4, .int (nI (i5_4 + 1))), (3, .int v5_3), (0, .ref (a 3)), (1, .ref (a 28)), (2, .int (nI p1))]) rfl ?_
      refine g_goto X dX2_postsOnRings_35 (tgt := 5) (by decide) ?_
      refine g_lv [0, 1, 2, 3, 4] (lv2 := [(4, .int (nI (i5_4 + 1))), (3, .int v5_3), (0, .ref (a 3)), (1, .ref (a 28)), (2, .int (nI p1))]) rfl ?_
      exact ih5 ((i5_4 + 1), v5_3) L M C D F I K ⟨by omega, by omega⟩ (by show _ < _; omega)
    · skip
      refine g_if_eq X dX2_postsOnRings_22 (tgt := 32) (by decide) (fun q => absurd q (by decide)) (fun _ => ?_)
      refine g_iload_n X dX2_postsOnRings_25 rfl (j := 1) rfl ?_
      refine g_iconst X dX2_postsOnRings_26 (v := 1) (by decide) ?_
      refine g_iload X dX2_postsOnRings_27 (j := 0) rfl ?_
      refine g_ishl X dX2_postsOnRings_29 ?_
      refine Go.gen (fun o4 => ?_)
      refine g_ior X dX2_postsOnRings_30 ?_
      refine Go.gen (fun o5 => ?_)
      refine g_istore_n X dX2_postsOnRings_31 rfl (by decide) (lv2 := [(3, .int o5), (4, .int (nI i5_4)), (0, .ref (a 3)), (1, .ref (a 28)), (2, .int (nI p1))]) rfl ?_
      refine g_iinc X dX2_postsOnRings_32 (j := 1) rfl (v := nI (i5_4 + 1)) (nI_1 i5_4) (by decide) (lv2 := [(4, .int (nI (i5_4 + 1))), (3, .int o5), (0, .ref (a 3)), (1, .ref (a 28)), (2, .int (nI p1))]) rfl ?_
      refine g_goto X dX2_postsOnRings_35 (tgt := 5) (by decide) ?_
      refine g_lv [0, 1, 2, 3, 4] (lv2 := [(4, .int (nI (i5_4 + 1))), (3, .int o5), (0, .ref (a 3)), (1, .ref (a 28)), (2, .int (nI p1))]) rfl ?_
      exact ih5 ((i5_4 + 1), o5) L M C D F I K ⟨by omega, by omega⟩ (by show _ < _; omega)
set_option maxHeartbeats 4000000 in
set_option maxRecDepth 100000 in
theorem s_X2_sendBy_28 (l : Launch) (G : va_G) {cy : Nat → ClassId} {L : List Nat} {M : Nat → va_E} {a : Nat → Nat} {act : Nat → Bool} {C0 : Nat → Nat → Int32} {D0 : Nat → Nat → Int64} {R : Nat → Nat → Option Nat} (F : WI L M a act (ent cy a C0 D0 R)) (I : Inv C0) (p1 : Nat) (hp1a : 0 ≤ p1) (hp1b : p1 ≤ 112) (p2 : Nat) (hp2a : 0 ≤ p2) (hp2b : p2 ≤ 6) (p3 : Int32) (hra : 1 ≤ (C0 5 p2).toInt) : MI l G cy yX2_sendBy cX2_sendBy 7 (some .int) 0 0 0 [.ref (a 3), .ref (a 28), .int (nI p1), .int (nI p2), .int p3] L M (fun r L2 M2 => ∃ C2 D2, WI L2 M2 a act (ent cy a C2 D2 R) ∧ Inv C2 ∧ Kp [28] C0 D0 C2 D2 ∧ ∃ n : Nat, 0 ≤ n ∧ n ≤ 3 ∧ r = nI n) := by
  refine MI.of (own := RX2) rfl (by decide) (Nat.le_of_ble_eq_true rfl) ?_
  intro p e s m below meth c A X hrt hnm
  obtain ⟨C, D, hC0, hD0, F, I, K⟩ : ∃ C D, C = C0 ∧ D = D0 ∧ WI L M a act (ent cy a C D R) ∧ Inv C ∧ Kp [28] C0 D0 C D := ⟨C0, D0, rfl, rfl, F, I, Kp.rf⟩
  rw [← hC0] at hra
  refine g_aload_n X dX2_sendBy_0 rfl (j := 1) rfl ?_
  refine g_iload_n X dX2_sendBy_1 rfl (j := 2) rfl ?_
  refine g_iload_n X dX2_sendBy_2 rfl (j := 3) rfl ?_
  refine g_iadd X dX2_sendBy_3 ?_
  refine Go.top (v := .int (nI (p1 + p2))) (congrArg Value.int (nI_add p1 p2)) ?_
  obtain ⟨n1, hn1, en1⟩ := rg_nat (I 28 (p1 + p2)) (by decide)
  refine i_iald X F 28 rfl rfl dX2_sendBy_4 (vp_in_nI (by omega) (by decide)) (v := nI n1) (by rw [nI_clamp (by omega)]; exact en1) ?_
  refine g_istore X dX2_sendBy_5 (by decide) (lv2 := [(5, .int (nI n1)), (0, .ref (a 3)), (1, .ref (a 28)), (2, .int (nI p1)), (3, .int (nI p2)), (4, .int p3)]) rfl ?_
  refine g_iload X dX2_sendBy_7 (j := 0) rfl ?_
  refine g_iconst X dX2_sendBy_9 (v := 1) (by decide) ?_
  refine g_iadd X dX2_sendBy_10 ?_
  refine Go.top (v := .int (nI (n1 + 1))) (congrArg Value.int (nI_add n1 1)) ?_
  refine g_aload_n X dX2_sendBy_11 rfl (j := 1) rfl ?_
  refine i_get X F 3 rfl rfl fk_X2_43 dX2_sendBy_12 rfl ?_
  refine g_iload_n X dX2_sendBy_15 rfl (j := 4) rfl ?_
  obtain ⟨n2, hn2, en2⟩ := rg_nat (I 5 p2) (by decide)
  refine i_iald X F 5 rfl rfl dX2_sendBy_16 (vp_in_nI (by omega) (by decide)) (v := nI n2) (by rw [nI_clamp (by omega)]; exact en2) ?_
  refine g_icmp_ge X dX2_sendBy_17 (tgt := 27) (by decide) (fun q3 => ?_) (fun q3 => ?_)
  · skip
    have q3 : n2 ≤ (n1 + 1) := (nI_leI (a := n2) (b := (n1 + 1)) (by omega) (by omega)).mp q3
    refine g_iconst X dX2_sendBy_27 (v := 0) (by decide) ?_
    refine g_istore X dX2_sendBy_28 (by decide) (lv2 := [(6, .int 0), (5, .int (nI n1)), (0, .ref (a 3)), (1, .ref (a 28)), (2, .int (nI p1)), (3, .int (nI p2)), (4, .int p3)]) rfl ?_
    refine g_iload X dX2_sendBy_30 (j := 6) rfl ?_
    rcases sc4 p3 with h4 | h5 | rfl | rfl | rfl | rfl
    · skip
      refine g_tableOut X dX2_sendBy_32 (Or.inl (by have z := Int32.lt_iff_toInt_lt.mp h4; have k : (0 : Int32).toInt = 0 := (by decide); omega)) (tgt := 138) (by decide) ?_
      refine g_iload X dX2_sendBy_138 (j := 1) rfl ?_
      exact g_iret X hrt dX2_sendBy_140 (by decide) (by decide) ⟨C, D, F, I, K, ⟨n1, by omega, by omega, rfl⟩⟩
    · skip
      refine g_tableOut X dX2_sendBy_32 (Or.inr (by have z := Int32.le_iff_toInt_le.mp h5; have k : (4 : Int32).toInt = 4 := (by decide); omega)) (tgt := 138) (by decide) ?_
      refine g_iload X dX2_sendBy_138 (j := 1) rfl ?_
      exact g_iret X hrt dX2_sendBy_140 (by decide) (by decide) ⟨C, D, F, I, K, ⟨n1, by omega, by omega, rfl⟩⟩
    · skip
      refine g_tableIn X dX2_sendBy_32 (by decide) (by decide) (off := 32) (by decide) (tgt := 64) (by decide) ?_
      refine g_aload_n X dX2_sendBy_64 rfl (j := 3) rfl ?_
      refine g_iload_n X dX2_sendBy_65 rfl (j := 4) rfl ?_
      refine g_iload_n X dX2_sendBy_66 rfl (j := 5) rfl ?_
      refine g_iadd X dX2_sendBy_67 ?_
      refine Go.top (v := .int (nI (p1 + p2))) (congrArg Value.int (nI_add p1 p2)) ?_
      refine g_iload X dX2_sendBy_68 (j := 0) rfl ?_
      refine i_iast X F I 28 rfl (fun _ => rfl) dX2_sendBy_70 (vp_in_nI (by omega) (by decide)) (rg_of (n := 0) (by omega) (by omega) (by omega)) (fun M C F I K1 hC => ?_)
      have K := K.step K1 (by decide)
      refine g_iload X dX2_sendBy_71 (j := 1) rfl ?_
      exact g_iret X hrt dX2_sendBy_73 (by decide) (by decide) ⟨C, D, F, I, K, ⟨n1, by omega, by omega, rfl⟩⟩
    · skip
      refine g_tableIn X dX2_sendBy_32 (by decide) (by decide) (off := 42) (by decide) (tgt := 74) (by decide) ?_
      refine g_aload_n X dX2_sendBy_74 rfl (j := 3) rfl ?_
      refine g_iload_n X dX2_sendBy_75 rfl (j := 4) rfl ?_
      refine g_iload_n X dX2_sendBy_76 rfl (j := 5) rfl ?_
      refine g_iadd X dX2_sendBy_77 ?_
      refine Go.top (v := .int (nI (p1 + p2))) (congrArg Value.int (nI_add p1 p2)) ?_
      refine g_iload X dX2_sendBy_78 (j := 0) rfl ?_
      refine i_iast X F I 28 rfl (fun _ => rfl) dX2_sendBy_80 (vp_in_nI (by omega) (by decide)) (rg_of (n := 0) (by omega) (by omega) (by omega)) (fun M C F I K1 hC => ?_)
      have K := K.step K1 (by decide)
      refine g_iload X dX2_sendBy_81 (j := 0) rfl ?_
      exact g_iret X hrt dX2_sendBy_83 (by decide) (by decide) ⟨C, D, F, I, K, ⟨0, by omega, by omega, rfl⟩⟩
    · skip
      refine g_tableIn X dX2_sendBy_32 (by decide) (by decide) (off := 52) (by decide) (tgt := 84) (by decide) ?_
      refine g_aload_n X dX2_sendBy_84 rfl (j := 3) rfl ?_
      refine g_iload_n X dX2_sendBy_85 rfl (j := 4) rfl ?_
      refine g_iload_n X dX2_sendBy_86 rfl (j := 5) rfl ?_
      refine g_iadd X dX2_sendBy_87 ?_
      refine Go.top (v := .int (nI (p1 + p2))) (congrArg Value.int (nI_add p1 p2)) ?_
      refine g_iload X dX2_sendBy_88 (j := 1) rfl ?_
      refine g_if_le X dX2_sendBy_90 (tgt := 100) (by decide) (fun q6 => ?_) (fun q6 => ?_)
      · skip
        have q6 : n1 ≤ 0 := (nI_leI (a := n1) (b := 0) (by omega) (by omega)).mp q6
        refine g_aload_n X dX2_sendBy_100 rfl (j := 2) rfl ?_
        refine i_get X F 3 rfl rfl fk_X2_43 dX2_sendBy_101 rfl ?_
        refine g_iload_n X dX2_sendBy_104 rfl (j := 5) rfl ?_
        obtain ⟨n7, hn7, en7⟩ := rg_nat (I 5 p2) (by decide)
        refine i_iald X F 5 rfl rfl dX2_sendBy_105 (vp_in_nI (by omega) (by decide)) (v := nI n7) (by rw [nI_clamp (by omega)]; exact en7) ?_
        refine g_iconst X dX2_sendBy_106 (v := 1) (by decide) ?_
        have hn7_1 : 1 ≤ n7 := by rw [en7, nI_toInt (by omega)] at hra; omega
        refine g_isub X dX2_sendBy_107 ?_
        refine Go.top (v := .int (nI (n7 - 1))) (congrArg Value.int (pk_sub (a := n7) (b := 1) (by omega))) ?_
        refine i_iast X F I 28 rfl (fun _ => rfl) dX2_sendBy_108 (vp_in_nI (by omega) (by decide)) (rg_of (n := (n7 - 1)) (by omega) (by omega) (by omega)) (fun M C F I K1 hC => ?_)
        have K := K.step K1 (by decide)
        refine g_iload X dX2_sendBy_109 (j := 1) rfl ?_
        exact g_iret X hrt dX2_sendBy_111 (by decide) (by decide) ⟨C, D, F, I, K, ⟨n1, by omega, by omega, rfl⟩⟩
      · skip
        have q6 : ¬ n1 ≤ 0 := fun z => q6 ((nI_leI (a := n1) (b := 0) (by omega) (by omega)).mpr z)
        refine g_iload X dX2_sendBy_93 (j := 1) rfl ?_
        refine g_iconst X dX2_sendBy_95 (v := 1) (by decide) ?_
        refine g_isub X dX2_sendBy_96 ?_
        refine Go.top (v := .int (nI (n1 - 1))) (congrArg Value.int (pk_sub (a := n1) (b := 1) (by omega))) ?_
        refine g_goto X dX2_sendBy_97 (tgt := 108) (by decide) ?_
        refine i_iast X F I 28 rfl (fun _ => rfl) dX2_sendBy_108 (vp_in_nI (by omega) (by decide)) (rg_of (n := (n1 - 1)) (by omega) (by omega) (by omega)) (fun M C F I K1 hC => ?_)
        have K := K.step K1 (by decide)
        refine g_iload X dX2_sendBy_109 (j := 1) rfl ?_
        exact g_iret X hrt dX2_sendBy_111 (by decide) (by decide) ⟨C, D, F, I, K, ⟨n1, by omega, by omega, rfl⟩⟩
    · skip
      refine g_tableIn X dX2_sendBy_32 (by decide) (by decide) (off := 80) (by decide) (tgt := 112) (by decide) ?_
      refine g_aload_n X dX2_sendBy_112 rfl (j := 2) rfl ?_
      refine i_get X F 3 rfl rfl fk_X2_46 dX2_sendBy_113 rfl ?_
      refine g_iload_n X dX2_sendBy_116 rfl (j := 5) rfl ?_
      refine g_iconst X dX2_sendBy_117 (v := 4) (by decide) ?_
      refine g_imul X dX2_sendBy_118 ?_
      refine Go.top (v := .int (nI (p2 * 4))) (congrArg Value.int (pk_mul p2 4)) ?_
      refine g_iload X dX2_sendBy_119 (j := 1) rfl ?_
      refine g_iadd X dX2_sendBy_121 ?_
      refine Go.top (v := .int (nI ((p2 * 4) + n1))) (congrArg Value.int (nI_add (p2 * 4) n1)) ?_
      obtain ⟨n8, hn8, en8⟩ := gl_nat (I 6 ((p2 * 4) + n1))
      refine i_iald X F 6 rfl rfl dX2_sendBy_122 (vp_in_nI (by omega) (by decide)) (v := nI n8) (by rw [nI_clamp (by omega)]; exact en8) ?_
      refine g_bipush X dX2_sendBy_123 (v := 10) (by decide) ?_
      refine g_icmp_ge X dX2_sendBy_125 (tgt := 135) (by decide) (fun q9 => ?_) (fun q9 => ?_)
      · skip
        have q9 : 10 ≤ n8 := (nI_leI (a := 10) (b := n8) (by omega) (by omega)).mp q9
        refine g_iload X dX2_sendBy_135 (j := 1) rfl ?_
        exact g_iret X hrt dX2_sendBy_137 (by decide) (by decide) ⟨C, D, F, I, K, ⟨n1, by omega, by omega, rfl⟩⟩
      · skip
        have q9 : ¬ 10 ≤ n8 := fun z => q9 ((nI_leI (a := 10) (b := n8) (by omega) (by omega)).mpr z)
        refine g_aload_n X dX2_sendBy_128 rfl (j := 3) rfl ?_
        refine g_iload_n X dX2_sendBy_129 rfl (j := 4) rfl ?_
        refine g_iload_n X dX2_sendBy_130 rfl (j := 5) rfl ?_
        refine g_iadd X dX2_sendBy_131 ?_
        refine Go.top (v := .int (nI (p1 + p2))) (congrArg Value.int (nI_add p1 p2)) ?_
        refine g_iload X dX2_sendBy_132 (j := 0) rfl ?_
        refine i_iast X F I 28 rfl (fun _ => rfl) dX2_sendBy_134 (vp_in_nI (by omega) (by decide)) (rg_of (n := 0) (by omega) (by omega) (by omega)) (fun M C F I K1 hC => ?_)
        have K := K.step K1 (by decide)
        refine g_iload X dX2_sendBy_135 (j := 1) rfl ?_
        exact g_iret X hrt dX2_sendBy_137 (by decide) (by decide) ⟨C, D, F, I, K, ⟨n1, by omega, by omega, rfl⟩⟩
  · skip
    have q3 : ¬ n2 ≤ (n1 + 1) := fun z => q3 ((nI_leI (a := n2) (b := (n1 + 1)) (by omega) (by omega)).mpr z)
    refine g_iload X dX2_sendBy_20 (j := 0) rfl ?_
    refine g_iconst X dX2_sendBy_22 (v := 1) (by decide) ?_
    refine g_iadd X dX2_sendBy_23 ?_
    refine Go.top (v := .int (nI (n1 + 1))) (congrArg Value.int (nI_add n1 1)) ?_
    refine g_goto X dX2_sendBy_24 (tgt := 28) (by decide) ?_
    refine g_istore X dX2_sendBy_28 (by decide) (lv2 := [(6, .int (nI (n1 + 1))), (5, .int (nI n1)), (0, .ref (a 3)), (1, .ref (a 28)), (2, .int (nI p1)), (3, .int (nI p2)), (4, .int p3)]) rfl ?_
    refine g_iload X dX2_sendBy_30 (j := 6) rfl ?_
    rcases sc4 p3 with h10 | h11 | rfl | rfl | rfl | rfl
    · skip
      refine g_tableOut X dX2_sendBy_32 (Or.inl (by have z := Int32.lt_iff_toInt_lt.mp h10; have k : (0 : Int32).toInt = 0 := (by decide); omega)) (tgt := 138) (by decide) ?_
      refine g_iload X dX2_sendBy_138 (j := 1) rfl ?_
      exact g_iret X hrt dX2_sendBy_140 (by decide) (by decide) ⟨C, D, F, I, K, ⟨n1, by omega, by omega, rfl⟩⟩
    · skip
      refine g_tableOut X dX2_sendBy_32 (Or.inr (by have z := Int32.le_iff_toInt_le.mp h11; have k : (4 : Int32).toInt = 4 := (by decide); omega)) (tgt := 138) (by decide) ?_
      refine g_iload X dX2_sendBy_138 (j := 1) rfl ?_
      exact g_iret X hrt dX2_sendBy_140 (by decide) (by decide) ⟨C, D, F, I, K, ⟨n1, by omega, by omega, rfl⟩⟩
    · skip
      refine g_tableIn X dX2_sendBy_32 (by decide) (by decide) (off := 32) (by decide) (tgt := 64) (by decide) ?_
      refine g_aload_n X dX2_sendBy_64 rfl (j := 3) rfl ?_
      refine g_iload_n X dX2_sendBy_65 rfl (j := 4) rfl ?_
      refine g_iload_n X dX2_sendBy_66 rfl (j := 5) rfl ?_
      refine g_iadd X dX2_sendBy_67 ?_
      refine Go.top (v := .int (nI (p1 + p2))) (congrArg Value.int (nI_add p1 p2)) ?_
      refine g_iload X dX2_sendBy_68 (j := 0) rfl ?_
      refine i_iast X F I 28 rfl (fun _ => rfl) dX2_sendBy_70 (vp_in_nI (by omega) (by decide)) (rg_of (n := (n1 + 1)) (by omega) (by omega) (by omega)) (fun M C F I K1 hC => ?_)
      have K := K.step K1 (by decide)
      refine g_iload X dX2_sendBy_71 (j := 1) rfl ?_
      exact g_iret X hrt dX2_sendBy_73 (by decide) (by decide) ⟨C, D, F, I, K, ⟨n1, by omega, by omega, rfl⟩⟩
    · skip
      refine g_tableIn X dX2_sendBy_32 (by decide) (by decide) (off := 42) (by decide) (tgt := 74) (by decide) ?_
      refine g_aload_n X dX2_sendBy_74 rfl (j := 3) rfl ?_
      refine g_iload_n X dX2_sendBy_75 rfl (j := 4) rfl ?_
      refine g_iload_n X dX2_sendBy_76 rfl (j := 5) rfl ?_
      refine g_iadd X dX2_sendBy_77 ?_
      refine Go.top (v := .int (nI (p1 + p2))) (congrArg Value.int (nI_add p1 p2)) ?_
      refine g_iload X dX2_sendBy_78 (j := 0) rfl ?_
      refine i_iast X F I 28 rfl (fun _ => rfl) dX2_sendBy_80 (vp_in_nI (by omega) (by decide)) (rg_of (n := (n1 + 1)) (by omega) (by omega) (by omega)) (fun M C F I K1 hC => ?_)
      have K := K.step K1 (by decide)
      refine g_iload X dX2_sendBy_81 (j := 0) rfl ?_
      exact g_iret X hrt dX2_sendBy_83 (by decide) (by decide) ⟨C, D, F, I, K, ⟨(n1 + 1), by omega, by omega, rfl⟩⟩
    · skip
      refine g_tableIn X dX2_sendBy_32 (by decide) (by decide) (off := 52) (by decide) (tgt := 84) (by decide) ?_
      refine g_aload_n X dX2_sendBy_84 rfl (j := 3) rfl ?_
      refine g_iload_n X dX2_sendBy_85 rfl (j := 4) rfl ?_
      refine g_iload_n X dX2_sendBy_86 rfl (j := 5) rfl ?_
      refine g_iadd X dX2_sendBy_87 ?_
      refine Go.top (v := .int (nI (p1 + p2))) (congrArg Value.int (nI_add p1 p2)) ?_
      refine g_iload X dX2_sendBy_88 (j := 1) rfl ?_
      refine g_if_le X dX2_sendBy_90 (tgt := 100) (by decide) (fun q12 => ?_) (fun q12 => ?_)
      · skip
        have q12 : n1 ≤ 0 := (nI_leI (a := n1) (b := 0) (by omega) (by omega)).mp q12
        refine g_aload_n X dX2_sendBy_100 rfl (j := 2) rfl ?_
        refine i_get X F 3 rfl rfl fk_X2_43 dX2_sendBy_101 rfl ?_
        refine g_iload_n X dX2_sendBy_104 rfl (j := 5) rfl ?_
        obtain ⟨n13, hn13, en13⟩ := rg_nat (I 5 p2) (by decide)
        refine i_iald X F 5 rfl rfl dX2_sendBy_105 (vp_in_nI (by omega) (by decide)) (v := nI n13) (by rw [nI_clamp (by omega)]; exact en13) ?_
        refine g_iconst X dX2_sendBy_106 (v := 1) (by decide) ?_
        have hn13_1 : 1 ≤ n13 := by rw [en13, nI_toInt (by omega)] at hra; omega
        refine g_isub X dX2_sendBy_107 ?_
        refine Go.top (v := .int (nI (n13 - 1))) (congrArg Value.int (pk_sub (a := n13) (b := 1) (by omega))) ?_
        refine i_iast X F I 28 rfl (fun _ => rfl) dX2_sendBy_108 (vp_in_nI (by omega) (by decide)) (rg_of (n := (n13 - 1)) (by omega) (by omega) (by omega)) (fun M C F I K1 hC => ?_)
        have K := K.step K1 (by decide)
        refine g_iload X dX2_sendBy_109 (j := 1) rfl ?_
        exact g_iret X hrt dX2_sendBy_111 (by decide) (by decide) ⟨C, D, F, I, K, ⟨n1, by omega, by omega, rfl⟩⟩
      · skip
        have q12 : ¬ n1 ≤ 0 := fun z => q12 ((nI_leI (a := n1) (b := 0) (by omega) (by omega)).mpr z)
        refine g_iload X dX2_sendBy_93 (j := 1) rfl ?_
        refine g_iconst X dX2_sendBy_95 (v := 1) (by decide) ?_
        refine g_isub X dX2_sendBy_96 ?_
        refine Go.top (v := .int (nI (n1 - 1))) (congrArg Value.int (pk_sub (a := n1) (b := 1) (by omega))) ?_
        refine g_goto X dX2_sendBy_97 (tgt := 108) (by decide) ?_
        refine i_iast X F I 28 rfl (fun _ => rfl) dX2_sendBy_108 (vp_in_nI (by omega) (by decide)) (rg_of (n := (n1 - 1)) (by omega) (by omega) (by omega)) (fun M C F I K1 hC => ?_)
        have K := K.step K1 (by decide)
        refine g_iload X dX2_sendBy_109 (j := 1) rfl ?_
        exact g_iret X hrt dX2_sendBy_111 (by decide) (by decide) ⟨C, D, F, I, K, ⟨n1, by omega, by omega, rfl⟩⟩
    · skip
      refine g_tableIn X dX2_sendBy_32 (by decide) (by decide) (off := 80) (by decide) (tgt := 112) (by decide) ?_
      refine g_aload_n X dX2_sendBy_112 rfl (j := 2) rfl ?_
      refine i_get X F 3 rfl rfl fk_X2_46 dX2_sendBy_113 rfl ?_
      refine g_iload_n X dX2_sendBy_116 rfl (j := 5) rfl ?_
      refine g_iconst X dX2_sendBy_117 (v := 4) (by decide) ?_
      refine g_imul X dX2_sendBy_118 ?_
      refine Go.top (v := .int (nI (p2 * 4))) (congrArg Value.int (pk_mul p2 4)) ?_
      refine g_iload X dX2_sendBy_119 (j := 1) rfl ?_
      refine g_iadd X dX2_sendBy_121 ?_
      refine Go.top (v := .int (nI ((p2 * 4) + n1))) (congrArg Value.int (nI_add (p2 * 4) n1)) ?_
      obtain ⟨n14, hn14, en14⟩ := gl_nat (I 6 ((p2 * 4) + n1))
      refine i_iald X F 6 rfl rfl dX2_sendBy_122 (vp_in_nI (by omega) (by decide)) (v := nI n14) (by rw [nI_clamp (by omega)]; exact en14) ?_
      refine g_bipush X dX2_sendBy_123 (v := 10) (by decide) ?_
      refine g_icmp_ge X dX2_sendBy_125 (tgt := 135) (by decide) (fun q15 => ?_) (fun q15 => ?_)
      · skip
        have q15 : 10 ≤ n14 := (nI_leI (a := 10) (b := n14) (by omega) (by omega)).mp q15
        refine g_iload X dX2_sendBy_135 (j := 1) rfl ?_
        exact g_iret X hrt dX2_sendBy_137 (by decide) (by decide) ⟨C, D, F, I, K, ⟨n1, by omega, by omega, rfl⟩⟩
      · skip
        have q15 : ¬ 10 ≤ n14 := fun z => q15 ((nI_leI (a := 10) (b := n14) (by omega) (by omega)).mpr z)
        refine g_aload_n X dX2_sendBy_128 rfl (j := 3) rfl ?_
        refine g_iload_n X dX2_sendBy_129 rfl (j := 4) rfl ?_
        refine g_iload_n X dX2_sendBy_130 rfl (j := 5) rfl ?_
        refine g_iadd X dX2_sendBy_131 ?_
        refine Go.top (v := .int (nI (p1 + p2))) (congrArg Value.int (nI_add p1 p2)) ?_
        refine g_iload X dX2_sendBy_132 (j := 0) rfl ?_
        refine i_iast X F I 28 rfl (fun _ => rfl) dX2_sendBy_134 (vp_in_nI (by omega) (by decide)) (rg_of (n := (n1 + 1)) (by omega) (by omega) (by omega)) (fun M C F I K1 hC => ?_)
        have K := K.step K1 (by decide)
        refine g_iload X dX2_sendBy_135 (j := 1) rfl ?_
        exact g_iret X hrt dX2_sendBy_137 (by decide) (by decide) ⟨C, D, F, I, K, ⟨n1, by omega, by omega, rfl⟩⟩
set_option maxHeartbeats 4000000 in
set_option maxRecDepth 100000 in
theorem s_X2_settingNumber_34 (l : Launch) (G : va_G) {cy : Nat → ClassId} {L : List Nat} {M : Nat → va_E} {a : Nat → Nat} {act : Nat → Bool} {C0 : Nat → Nat → Int32} {D0 : Nat → Nat → Int64} {R : Nat → Nat → Option Nat} (F : WI L M a act (ent cy a C0 D0 R)) (I : Inv C0) (p1 : Nat) (hp1a : 0 ≤ p1) (hp1b : p1 ≤ 112)  : MI l G cy yX2_settingNumber cX2_settingNumber 6 (some .int) 1 0 0 [.ref (a 3), .ref (a 34), .int (nI p1)] L M (fun r L2 M2 => ∃ C2 D2, WI L2 M2 a act (ent cy a C2 D2 R) ∧ Inv C2 ∧ Kp [] C0 D0 C2 D2 ∧ True) := by
  refine MI.of (own := RX2) rfl (by decide) (Nat.le_of_ble_eq_true rfl) ?_
  intro p e s m below meth c A X hrt hnm
  obtain ⟨C, D, hC0, hD0, F, I, K⟩ : ∃ C D, C = C0 ∧ D = D0 ∧ WI L M a act (ent cy a C D R) ∧ Inv C ∧ Kp [] C0 D0 C D := ⟨C0, D0, rfl, rfl, F, I, Kp.rf⟩
  refine g_iconst X dX2_settingNumber_0 (v := 0) (by decide) ?_
  refine g_istore_n X dX2_settingNumber_1 rfl (by decide) (lv2 := [(3, .int 0), (0, .ref (a 3)), (1, .ref (a 34)), (2, .int (nI p1))]) rfl ?_
  refine g_iconst X dX2_settingNumber_2 (v := 1) (by decide) ?_
  refine g_istore X dX2_settingNumber_3 (by decide) (lv2 := [(4, .int 1), (3, .int 0), (0, .ref (a 3)), (1, .ref (a 34)), (2, .int (nI p1))]) rfl ?_
  refine g_iconst X dX2_settingNumber_5 (v := 0) (by decide) ?_
  refine g_istore X dX2_settingNumber_6 (by decide) (lv2 := [(5, .int 0), (4, .int 1), (3, .int 0), (0, .ref (a 3)), (1, .ref (a 34)), (2, .int (nI p1))]) rfl ?_
  refine g_lv [0, 2, 1, 3, 4, 5] (lv2 := [(5, .int 0), (3, .int 0), (4, .int 1), (0, .ref (a 3)), (1, .ref (a 34)), (2, .int (nI p1))]) rfl ?_
  refine i_loop (mods := []) (fun x : Nat × Int32 × Int32 => 7 - x.1) (fun x => [(5, .int (nI (x.1))), (3, .int (x.2.1)), (4, .int (x.2.2)), (0, .ref (a 3)), (1, .ref (a 34)), (2, .int (nI p1))]) (fun x C => 0 ≤ x.1 ∧ x.1 ≤ 7) (fun x L M C D F I K hP ih8 => ?_) ((0, 0, 1) : Nat × Int32 × Int32) F I K ⟨by show _ ≤ _; omega, by show _ ≤ _; omega⟩
  rcases x with ⟨i8_5, v8_3, v8_4⟩
  obtain ⟨hi8_5a, hi8_5b⟩ := hP
  refine g_lv [0, 1, 2, 3, 4, 5] (lv2 := [(5, .int (nI i8_5)), (3, .int v8_3), (4, .int v8_4), (0, .ref (a 3)), (1, .ref (a 34)), (2, .int (nI p1))]) rfl ?_
  refine g_iload X dX2_settingNumber_8 (j := 0) rfl ?_
  refine g_aload_n X dX2_settingNumber_10 rfl (j := 3) rfl ?_
  obtain ⟨n1, hn1, en1⟩ := rg_nat ((I 3 5).2.2.1 rfl) (by decide)
  refine i_get X F 3 rfl rfl fk_X2_27 dX2_settingNumber_11 (v := .int (nI n1)) (congrArg (fun z => some (Value.int z)) en1) ?_
  refine g_icmp_ge X dX2_settingNumber_14 (tgt := 56) (by decide) (fun q2 => ?_) (fun q2 => ?_)
  · skip
    have q2 : n1 ≤ i8_5 := (nI_leI (a := n1) (b := i8_5) (by omega) (by omega)).mp q2
    refine g_iload_n X dX2_settingNumber_56 rfl (j := 1) rfl ?_
    exact g_iret X hrt dX2_settingNumber_57 (by decide) (by decide) ⟨C, D, F, I, K, trivial⟩
  · skip
    have q2 : ¬ n1 ≤ i8_5 := fun z => q2 ((nI_leI (a := n1) (b := i8_5) (by omega) (by omega)).mpr z)
    refine g_aload_n X dX2_settingNumber_17 rfl (j := 3) rfl ?_
    refine g_iload X dX2_settingNumber_18 (j := 0) rfl ?_
    refine g_callVI X (s_X2_hasArm l G F I i8_5 (by omega) (by omega) ) lk_X2_102 (F.1 3 rfl).2 (F.1 3 rfl).1 rfl rfl dX2_settingNumber_20 (Nat.le_of_ble_eq_true rfl) ⟨by decide, by decide⟩ ⟨by decide, by decide⟩ (fun r3 L M hp => ?_)
    obtain ⟨C, D, F, I, K1, hr⟩ := hp
    have K := K.step K1 (by decide)
    rcases hr with rfl | ⟨rfl, ra4⟩
    · skip
      refine g_if_eq X dX2_settingNumber_23 (tgt := 50) (by decide) (fun _ => ?_) (fun q => absurd (by decide) q)
      refine g_iinc X dX2_settingNumber_50 (j := 0) rfl (v := nI (i8_5 + 1)) (nI_1 i8_5) (by decide) (lv2 := [(5, .int (nI (i8_5 + 1))), (3, .int v8_3), (4, .int v8_4), (0, .ref (a 3)), (1, .ref (a 34)), (2, .int (nI p1))]) rfl ?_
      refine g_goto X dX2_settingNumber_53 (tgt := 8) (by decide) ?_
      refine g_lv [0, 1, 2, 3, 4, 5] (lv2 := [(5, .int (nI (i8_5 + 1))), (3, .int v8_3), (4, .int v8_4), (0, .ref (a 3)), (1, .ref (a 34)), (2, .int (nI p1))]) rfl ?_
      exact ih8 ((i8_5 + 1), v8_3, v8_4) L M C D F I K ⟨by omega, by omega⟩ (by show _ < _; omega)
    · skip
      refine g_if_eq X dX2_settingNumber_23 (tgt := 50) (by decide) (fun q => absurd q (by decide)) (fun _ => ?_)
      refine g_iload_n X dX2_settingNumber_26 rfl (j := 1) rfl ?_
      refine g_aload_n X dX2_settingNumber_27 rfl (j := 4) rfl ?_
      refine g_iload_n X dX2_settingNumber_28 rfl (j := 5) rfl ?_
      refine g_iload X dX2_settingNumber_29 (j := 0) rfl ?_
      refine g_iadd X dX2_settingNumber_31 ?_
      refine Go.top (v := .int (nI (p1 + i8_5))) (congrArg Value.int (nI_add p1 i8_5)) ?_
      obtain ⟨n5, hn5, en5⟩ := rg_nat (I 34 (p1 + i8_5)) (by decide)
      refine i_iald X F 34 rfl rfl dX2_settingNumber_32 (vp_in_nI (by omega) (by decide)) (v := nI n5) (by rw [nI_clamp (by omega)]; exact en5) ?_
      refine g_iload X dX2_settingNumber_33 (j := 2) rfl ?_
      refine g_imul X dX2_settingNumber_35 ?_
      refine Go.gen (fun o6 => ?_)
      refine g_iadd X dX2_settingNumber_36 ?_
      refine Go.gen (fun o7 => ?_)
      refine g_istore_n X dX2_settingNumber_37 rfl (by decide) (lv2 := [(3, .int o7), (5, .int (nI i8_5)), (4, .int v8_4), (0, .ref (a 3)), (1, .ref (a 34)), (2, .int (nI p1))]) rfl ?_
      refine g_iload X dX2_settingNumber_38 (j := 2) rfl ?_
      refine g_aload_n X dX2_settingNumber_40 rfl (j := 3) rfl ?_
      refine i_get X F 3 rfl rfl fk_X2_43 dX2_settingNumber_41 rfl ?_
      refine g_iload X dX2_settingNumber_44 (j := 1) rfl ?_
      obtain ⟨n8, hn8, en8⟩ := rg_nat (I 5 i8_5) (by decide)
      refine i_iald X F 5 rfl rfl dX2_settingNumber_46 (vp_in_nI (by omega) (by decide)) (v := nI n8) (by rw [nI_clamp (by omega)]; exact en8) ?_
      refine g_imul X dX2_settingNumber_47 ?_
      refine Go.gen (fun o9 => ?_)
      refine g_istore X dX2_settingNumber_48 (by decide) (lv2 := [(4, .int o9), (3, .int o7), (5, .int (nI i8_5)), (0, .ref (a 3)), (1, .ref (a 34)), (2, .int (nI p1))]) rfl ?_
      refine g_iinc X dX2_settingNumber_50 (j := 2) rfl (v := nI (i8_5 + 1)) (nI_1 i8_5) (by decide) (lv2 := [(5, .int (nI (i8_5 + 1))), (4, .int o9), (3, .int o7), (0, .ref (a 3)), (1, .ref (a 34)), (2, .int (nI p1))]) rfl ?_
      refine g_goto X dX2_settingNumber_53 (tgt := 8) (by decide) ?_
      refine g_lv [0, 2, 1, 3, 4, 5] (lv2 := [(5, .int (nI (i8_5 + 1))), (3, .int o7), (4, .int o9), (0, .ref (a 3)), (1, .ref (a 34)), (2, .int (nI p1))]) rfl ?_
      exact ih8 ((i8_5 + 1), o7, o9) L M C D F I K ⟨by omega, by omega⟩ (by show _ < _; omega)
set_option maxHeartbeats 4000000 in
set_option maxRecDepth 100000 in
theorem s_X2_leadsToInn_34 (l : Launch) (G : va_G) {cy : Nat → ClassId} {L : List Nat} {M : Nat → va_E} {a : Nat → Nat} {act : Nat → Bool} {C0 : Nat → Nat → Int32} {D0 : Nat → Nat → Int64} {R : Nat → Nat → Option Nat} (F : WI L M a act (ent cy a C0 D0 R)) (I : Inv C0) (p1 : Nat) (hp1a : 0 ≤ p1) (hp1b : p1 ≤ 112) (p2 : Nat) (hp2a : 0 ≤ p2) (hp2b : p2 ≤ 6)  : MI l G cy yX2_leadsToInn cX2_leadsToInn 6 (some .boolean) 1 0 0 [.ref (a 3), .ref (a 34), .int (nI p1), .int (nI p2)] L M (fun r L2 M2 => ∃ C2 D2, WI L2 M2 a act (ent cy a C2 D2 R) ∧ Inv C2 ∧ Kp [] C0 D0 C2 D2 ∧ (r = 0 ∨ r = 1)) := by
  refine MI.of (own := RX2) rfl (by decide) (Nat.le_of_ble_eq_true rfl) ?_
  intro p e s m below meth c A X hrt hnm
  obtain ⟨C, D, hC0, hD0, F, I, K⟩ : ∃ C D, C = C0 ∧ D = D0 ∧ WI L M a act (ent cy a C D R) ∧ Inv C ∧ Kp [] C0 D0 C D := ⟨C0, D0, rfl, rfl, F, I, Kp.rf⟩
  refine g_iload_n X dX2_leadsToInn_0 rfl (j := 3) rfl ?_
  refine g_istore X dX2_leadsToInn_1 (by decide) (lv2 := [(4, .int (nI p2)), (0, .ref (a 3)), (1, .ref (a 34)), (2, .int (nI p1)), (3, .int (nI p2))]) rfl ?_
  refine g_iconst X dX2_leadsToInn_3 (v := 0) (by decide) ?_
  refine g_istore X dX2_leadsToInn_4 (by decide) (lv2 := [(5, .int 0), (4, .int (nI p2)), (0, .ref (a 3)), (1, .ref (a 34)), (2, .int (nI p1)), (3, .int (nI p2))]) rfl ?_
  refine g_lv [0, 1, 2, 3, 4, 5] (lv2 := [(5, .int 0), (4, .int (nI p2)), (0, .ref (a 3)), (1, .ref (a 34)), (2, .int (nI p1)), (3, .int (nI p2))]) rfl ?_
  refine i_loop (mods := []) (fun x : Nat × Nat => 7 - x.1) (fun x => [(5, .int (nI (x.1))), (4, .int (nI (x.2))), (0, .ref (a 3)), (1, .ref (a 34)), (2, .int (nI p1)), (3, .int (nI p2))]) (fun x C => 0 ≤ x.1 ∧ x.1 ≤ 7 ∧ (x.2 < 7 ∨ (10 ≤ x.2 ∧ x.2 < 14))) (fun x L M C D F I K hP ih6 => ?_) ((0, p2) : Nat × Nat) F I K ⟨by show _ ≤ _; omega, by show _ ≤ _; omega, by show _ ∨ _; omega⟩
  rcases x with ⟨i6_5, i6_4⟩
  obtain ⟨hi6_5a, hi6_5b, hi6_4⟩ := hP
  refine g_lv [0, 1, 2, 3, 4, 5] (lv2 := [(5, .int (nI i6_5)), (4, .int (nI i6_4)), (0, .ref (a 3)), (1, .ref (a 34)), (2, .int (nI p1)), (3, .int (nI p2))]) rfl ?_
  refine g_iload X dX2_leadsToInn_6 (j := 0) rfl ?_
  refine g_bipush X dX2_leadsToInn_8 (v := 7) (by decide) ?_
  refine g_icmp_ge X dX2_leadsToInn_10 (tgt := 49) (by decide) (fun q1 => ?_) (fun q1 => ?_)
  · skip
    have q1 : 7 ≤ i6_5 := (nI_leI (a := 7) (b := i6_5) (by omega) (by omega)).mp q1
    refine g_iload X dX2_leadsToInn_49 (j := 1) rfl ?_
    refine g_bipush X dX2_leadsToInn_51 (v := 10) (by decide) ?_
    refine g_icmp_lt X dX2_leadsToInn_53 (tgt := 60) (by decide) (fun q2 => ?_) (fun q2 => ?_)
    · skip
      have q2 : i6_4 < 10 := (nI_ltI (a := i6_4) (b := 10) (by omega) (by omega)).mp q2
      refine g_iconst X dX2_leadsToInn_60 (v := 0) (by decide) ?_
      exact g_zret X hrt rfl dX2_leadsToInn_61 (by decide) (by decide) ⟨C, D, F, I, K, Or.inl rfl⟩
    · skip
      have q2 : ¬ i6_4 < 10 := fun z => q2 ((nI_ltI (a := i6_4) (b := 10) (by omega) (by omega)).mpr z)
      refine g_iconst X dX2_leadsToInn_56 (v := 1) (by decide) ?_
      refine g_goto X dX2_leadsToInn_57 (tgt := 61) (by decide) ?_
      exact g_zret X hrt rfl dX2_leadsToInn_61 (by decide) (by decide) ⟨C, D, F, I, K, Or.inr rfl⟩
  · skip
    have q1 : ¬ 7 ≤ i6_5 := fun z => q1 ((nI_leI (a := 7) (b := i6_5) (by omega) (by omega)).mpr z)
    refine g_iload X dX2_leadsToInn_13 (j := 1) rfl ?_
    refine g_bipush X dX2_leadsToInn_15 (v := 10) (by decide) ?_
    refine g_icmp_ge X dX2_leadsToInn_17 (tgt := 49) (by decide) (fun q3 => ?_) (fun q3 => ?_)
    · skip
      have q3 : 10 ≤ i6_4 := (nI_leI (a := 10) (b := i6_4) (by omega) (by omega)).mp q3
      refine g_iload X dX2_leadsToInn_49 (j := 1) rfl ?_
      refine g_bipush X dX2_leadsToInn_51 (v := 10) (by decide) ?_
      refine g_icmp_lt X dX2_leadsToInn_53 (tgt := 60) (by decide) (fun q4 => ?_) (fun q4 => ?_)
      · skip
        have q4 : i6_4 < 10 := (nI_ltI (a := i6_4) (b := 10) (by omega) (by omega)).mp q4
        refine g_iconst X dX2_leadsToInn_60 (v := 0) (by decide) ?_
        exact g_zret X hrt rfl dX2_leadsToInn_61 (by decide) (by decide) ⟨C, D, F, I, K, Or.inl rfl⟩
      · skip
        have q4 : ¬ i6_4 < 10 := fun z => q4 ((nI_ltI (a := i6_4) (b := 10) (by omega) (by omega)).mpr z)
        refine g_iconst X dX2_leadsToInn_56 (v := 1) (by decide) ?_
        refine g_goto X dX2_leadsToInn_57 (tgt := 61) (by decide) ?_
        exact g_zret X hrt rfl dX2_leadsToInn_61 (by decide) (by decide) ⟨C, D, F, I, K, Or.inr rfl⟩
    · skip
      have q3 : ¬ 10 ≤ i6_4 := fun z => q3 ((nI_leI (a := 10) (b := i6_4) (by omega) (by omega)).mpr z)
      refine g_aload_n X dX2_leadsToInn_20 rfl (j := 2) rfl ?_
      refine g_iload X dX2_leadsToInn_21 (j := 1) rfl ?_
      refine g_callVI X (s_X2_hasArm l G F I i6_4 (by omega) (by omega) ) lk_X2_102 (F.1 3 rfl).2 (F.1 3 rfl).1 rfl rfl dX2_leadsToInn_23 (Nat.le_of_ble_eq_true rfl) ⟨by decide, by decide⟩ ⟨by decide, by decide⟩ (fun r5 L M hp => ?_)
      obtain ⟨C, D, F, I, K1, hr⟩ := hp
      have K := K.step K1 (by decide)
      rcases hr with rfl | ⟨rfl, ra6⟩
      · skip
        refine g_if_eq X dX2_leadsToInn_26 (tgt := 49) (by decide) (fun _ => ?_) (fun q => absurd (by decide) q)
        refine g_iload X dX2_leadsToInn_49 (j := 1) rfl ?_
        refine g_bipush X dX2_leadsToInn_51 (v := 10) (by decide) ?_
        refine g_icmp_lt X dX2_leadsToInn_53 (tgt := 60) (by decide) (fun q7 => ?_) (fun q7 => ?_)
        · skip
          have q7 : i6_4 < 10 := (nI_ltI (a := i6_4) (b := 10) (by omega) (by omega)).mp q7
          refine g_iconst X dX2_leadsToInn_60 (v := 0) (by decide) ?_
          exact g_zret X hrt rfl dX2_leadsToInn_61 (by decide) (by decide) ⟨C, D, F, I, K, Or.inl rfl⟩
        · skip
          have q7 : ¬ i6_4 < 10 := fun z => q7 ((nI_ltI (a := i6_4) (b := 10) (by omega) (by omega)).mpr z)
          refine g_iconst X dX2_leadsToInn_56 (v := 1) (by decide) ?_
          refine g_goto X dX2_leadsToInn_57 (tgt := 61) (by decide) ?_
          exact g_zret X hrt rfl dX2_leadsToInn_61 (by decide) (by decide) ⟨C, D, F, I, K, Or.inr rfl⟩
      · skip
        refine g_if_eq X dX2_leadsToInn_26 (tgt := 49) (by decide) (fun q => absurd q (by decide)) (fun _ => ?_)
        refine g_aload_n X dX2_leadsToInn_29 rfl (j := 2) rfl ?_
        refine g_iload X dX2_leadsToInn_30 (j := 1) rfl ?_
        refine g_aload_n X dX2_leadsToInn_32 rfl (j := 3) rfl ?_
        refine g_iload_n X dX2_leadsToInn_33 rfl (j := 4) rfl ?_
        refine g_iload X dX2_leadsToInn_34 (j := 1) rfl ?_
        refine g_iadd X dX2_leadsToInn_36 ?_
        refine Go.top (v := .int (nI (p1 + i6_4))) (congrArg Value.int (nI_add p1 i6_4)) ?_
        obtain ⟨n8, hn8, en8⟩ := rg_nat (I 34 (p1 + i6_4)) (by decide)
        refine i_iald X F 34 rfl rfl dX2_leadsToInn_37 (vp_in_nI (by omega) (by decide)) (v := nI n8) (by rw [nI_clamp (by omega)]; exact en8) ?_
        refine g_callVI X (s_X2_goal l G F I i6_4 (by omega) (by omega) n8 (by omega) (by omega) ) lk_X2_98 (F.1 3 rfl).2 (F.1 3 rfl).1 rfl rfl dX2_leadsToInn_38 (Nat.le_of_ble_eq_true rfl) ⟨by decide, by decide⟩ ⟨by decide, by decide⟩ (fun r9 L M hp => ?_)
        obtain ⟨C, D, F, I, K1, hr⟩ := hp
        have K := K.step K1 (by decide)
        have ra6 : 1 ≤ (C 5 i6_4).toInt := by rw [(K1 5 (by decide)).1]; exact ra6
        obtain ⟨n10, hn10, rfl⟩ := hr
        refine g_istore X dX2_leadsToInn_41 (by decide) (lv2 := [(4, .int (nI n10)), (5, .int (nI i6_5)), (0, .ref (a 3)), (1, .ref (a 34)), (2, .int (nI p1)), (3, .int (nI p2))]) rfl ?_
        refine g_iinc X dX2_leadsToInn_43 (j := 1) rfl (v := nI (i6_5 + 1)) (nI_1 i6_5) (by decide) (lv2 := [(5, .int (nI (i6_5 + 1))), (4, .int (nI n10)), (0, .ref (a 3)), (1, .ref (a 34)), (2, .int (nI p1)), (3, .int (nI p2))]) rfl ?_
        refine g_goto X dX2_leadsToInn_46 (tgt := 6) (by decide) ?_
        refine g_lv [0, 1, 2, 3, 4, 5] (lv2 := [(5, .int (nI (i6_5 + 1))), (4, .int (nI n10)), (0, .ref (a 3)), (1, .ref (a 34)), (2, .int (nI p1)), (3, .int (nI p2))]) rfl ?_
        exact ih6 ((i6_5 + 1), n10) L M C D F I K ⟨by omega, by omega, by omega⟩ (by show _ < _; omega)
set_option maxHeartbeats 4000000 in
set_option maxRecDepth 100000 in
theorem s_X2_isTree_34 (l : Launch) (G : va_G) {cy : Nat → ClassId} {L : List Nat} {M : Nat → va_E} {a : Nat → Nat} {act : Nat → Bool} {C0 : Nat → Nat → Int32} {D0 : Nat → Nat → Int64} {R : Nat → Nat → Option Nat} (F : WI L M a act (ent cy a C0 D0 R)) (I : Inv C0) (p1 : Nat) (hp1a : 0 ≤ p1) (hp1b : p1 ≤ 112)  : MI l G cy yX2_isTree cX2_isTree 4 (some .boolean) 2 0 0 [.ref (a 3), .ref (a 34), .int (nI p1)] L M (fun r L2 M2 => ∃ C2 D2, WI L2 M2 a act (ent cy a C2 D2 R) ∧ Inv C2 ∧ Kp [] C0 D0 C2 D2 ∧ (r = 0 ∨ r = 1)) := by
  refine MI.of (own := RX2) rfl (by decide) (Nat.le_of_ble_eq_true rfl) ?_
  intro p e s m below meth c A X hrt hnm
  obtain ⟨C, D, hC0, hD0, F, I, K⟩ : ∃ C D, C = C0 ∧ D = D0 ∧ WI L M a act (ent cy a C D R) ∧ Inv C ∧ Kp [] C0 D0 C D := ⟨C0, D0, rfl, rfl, F, I, Kp.rf⟩
  refine g_iconst X dX2_isTree_0 (v := 0) (by decide) ?_
  refine g_istore_n X dX2_isTree_1 rfl (by decide) (lv2 := [(3, .int 0), (0, .ref (a 3)), (1, .ref (a 34)), (2, .int (nI p1))]) rfl ?_
  refine g_lv [0, 1, 2, 3] (lv2 := [(3, .int 0), (0, .ref (a 3)), (1, .ref (a 34)), (2, .int (nI p1))]) rfl ?_
  refine i_loop (mods := []) (fun x : Nat => 7 - x) (fun x => [(3, .int (nI (x))), (0, .ref (a 3)), (1, .ref (a 34)), (2, .int (nI p1))]) (fun x C => 0 ≤ x ∧ x ≤ 7) (fun x L M C D F I K hP ih2 => ?_) ((0) : Nat) F I K ⟨by show _ ≤ _; omega, by show _ ≤ _; omega⟩
  obtain ⟨i2_3, rfl⟩ : ∃ z, z = x := ⟨_, rfl⟩
  obtain ⟨hi2_3a, hi2_3b⟩ := hP
  refine g_lv [0, 1, 2, 3] (lv2 := [(3, .int (nI i2_3)), (0, .ref (a 3)), (1, .ref (a 34)), (2, .int (nI p1))]) rfl ?_
  refine g_iload_n X dX2_isTree_2 rfl (j := 0) rfl ?_
  refine g_aload_n X dX2_isTree_3 rfl (j := 1) rfl ?_
  obtain ⟨n1, hn1, en1⟩ := rg_nat ((I 3 5).2.2.1 rfl) (by decide)
  refine i_get X F 3 rfl rfl fk_X2_27 dX2_isTree_4 (v := .int (nI n1)) (congrArg (fun z => some (Value.int z)) en1) ?_
  refine g_icmp_ge X dX2_isTree_7 (tgt := 36) (by decide) (fun q2 => ?_) (fun q2 => ?_)
  · skip
    have q2 : n1 ≤ i2_3 := (nI_leI (a := n1) (b := i2_3) (by omega) (by omega)).mp q2
    refine g_iconst X dX2_isTree_36 (v := 1) (by decide) ?_
    exact g_zret X hrt rfl dX2_isTree_37 (by decide) (by decide) ⟨C, D, F, I, K, Or.inr rfl⟩
  · skip
    have q2 : ¬ n1 ≤ i2_3 := fun z => q2 ((nI_leI (a := n1) (b := i2_3) (by omega) (by omega)).mpr z)
    refine g_aload_n X dX2_isTree_10 rfl (j := 1) rfl ?_
    refine g_iload_n X dX2_isTree_11 rfl (j := 0) rfl ?_
    refine g_callVI X (s_X2_hasArm l G F I i2_3 (by omega) (by omega) ) lk_X2_102 (F.1 3 rfl).2 (F.1 3 rfl).1 rfl rfl dX2_isTree_12 (Nat.le_of_ble_eq_true rfl) ⟨by decide, by decide⟩ ⟨by decide, by decide⟩ (fun r3 L M hp => ?_)
    obtain ⟨C, D, F, I, K1, hr⟩ := hp
    have K := K.step K1 (by decide)
    rcases hr with rfl | ⟨rfl, ra4⟩
    · skip
      refine g_if_eq X dX2_isTree_15 (tgt := 30) (by decide) (fun _ => ?_) (fun q => absurd (by decide) q)
      refine g_iinc X dX2_isTree_30 (j := 0) rfl (v := nI (i2_3 + 1)) (nI_1 i2_3) (by decide) (lv2 := [(3, .int (nI (i2_3 + 1))), (0, .ref (a 3)), (1, .ref (a 34)), (2, .int (nI p1))]) rfl ?_
      refine g_goto X dX2_isTree_33 (tgt := 2) (by decide) ?_
      refine g_lv [0, 1, 2, 3] (lv2 := [(3, .int (nI (i2_3 + 1))), (0, .ref (a 3)), (1, .ref (a 34)), (2, .int (nI p1))]) rfl ?_
      exact ih2 ((i2_3 + 1)) L M C D F I K ⟨by omega, by omega⟩ (by show _ < _; omega)
    · skip
      refine g_if_eq X dX2_isTree_15 (tgt := 30) (by decide) (fun q => absurd q (by decide)) (fun _ => ?_)
      refine g_aload_n X dX2_isTree_18 rfl (j := 1) rfl ?_
      refine g_aload_n X dX2_isTree_19 rfl (j := 2) rfl ?_
      refine g_iload_n X dX2_isTree_20 rfl (j := 3) rfl ?_
      refine g_iload_n X dX2_isTree_21 rfl (j := 0) rfl ?_
      refine g_callVI X (s_X2_leadsToInn_34 l G F I p1 (by omega) (by omega) i2_3 (by omega) (by omega) ) lk_X2_109 (F.1 3 rfl).2 (F.1 3 rfl).1 rfl rfl dX2_isTree_22 (Nat.le_of_ble_eq_true rfl) ⟨by decide, by decide⟩ ⟨by decide, by decide⟩ (fun r5 L M hp => ?_)
      obtain ⟨C, D, F, I, K1, hr⟩ := hp
      have K := K.step K1 (by decide)
      have ra4 : 1 ≤ (C 5 i2_3).toInt := by rw [(K1 5 (by decide)).1]; exact ra4
      rcases hr with rfl | rfl
      · skip
        refine g_if_ne X dX2_isTree_25 (tgt := 30) (by decide) (fun q => absurd (by decide) q) (fun _ => ?_)
        refine g_iconst X dX2_isTree_28 (v := 0) (by decide) ?_
        exact g_zret X hrt rfl dX2_isTree_29 (by decide) (by decide) ⟨C, D, F, I, K, Or.inl rfl⟩
      · skip
        refine g_if_ne X dX2_isTree_25 (tgt := 30) (by decide) (fun _ => ?_) (fun q => absurd q (by decide))
        refine g_iinc X dX2_isTree_30 (j := 0) rfl (v := nI (i2_3 + 1)) (nI_1 i2_3) (by decide) (lv2 := [(3, .int (nI (i2_3 + 1))), (0, .ref (a 3)), (1, .ref (a 34)), (2, .int (nI p1))]) rfl ?_
        refine g_goto X dX2_isTree_33 (tgt := 2) (by decide) ?_
        refine g_lv [0, 1, 2, 3] (lv2 := [(3, .int (nI (i2_3 + 1))), (0, .ref (a 3)), (1, .ref (a 34)), (2, .int (nI p1))]) rfl ?_
        exact ih2 ((i2_3 + 1)) L M C D F I K ⟨by omega, by omega⟩ (by show _ < _; omega)
set_option maxHeartbeats 4000000 in
set_option maxRecDepth 100000 in
theorem s_X2_leadsBack_34 (l : Launch) (G : va_G) {cy : Nat → ClassId} {L : List Nat} {M : Nat → va_E} {a : Nat → Nat} {act : Nat → Bool} {C0 : Nat → Nat → Int32} {D0 : Nat → Nat → Int64} {R : Nat → Nat → Option Nat} (F : WI L M a act (ent cy a C0 D0 R)) (I : Inv C0) (p1 : Nat) (hp1a : 0 ≤ p1) (hp1b : p1 ≤ 112) (p2 : Nat) (hp2a : 0 ≤ p2) (hp2b : p2 ≤ 6)  : MI l G cy yX2_leadsBack cX2_leadsBack 6 (some .boolean) 1 0 0 [.ref (a 3), .ref (a 34), .int (nI p1), .int (nI p2)] L M (fun r L2 M2 => ∃ C2 D2, WI L2 M2 a act (ent cy a C2 D2 R) ∧ Inv C2 ∧ Kp [] C0 D0 C2 D2 ∧ (r = 0 ∨ r = 1)) := by
  refine MI.of (own := RX2) rfl (by decide) (Nat.le_of_ble_eq_true rfl) ?_
  intro p e s m below meth c A X hrt hnm
  obtain ⟨C, D, hC0, hD0, F, I, K⟩ : ∃ C D, C = C0 ∧ D = D0 ∧ WI L M a act (ent cy a C D R) ∧ Inv C ∧ Kp [] C0 D0 C D := ⟨C0, D0, rfl, rfl, F, I, Kp.rf⟩
  refine g_iload_n X dX2_leadsBack_0 rfl (j := 3) rfl ?_
  refine g_istore X dX2_leadsBack_1 (by decide) (lv2 := [(4, .int (nI p2)), (0, .ref (a 3)), (1, .ref (a 34)), (2, .int (nI p1)), (3, .int (nI p2))]) rfl ?_
  refine g_iconst X dX2_leadsBack_3 (v := 0) (by decide) ?_
  refine g_istore X dX2_leadsBack_4 (by decide) (lv2 := [(5, .int 0), (4, .int (nI p2)), (0, .ref (a 3)), (1, .ref (a 34)), (2, .int (nI p1)), (3, .int (nI p2))]) rfl ?_
  refine g_lv [0, 1, 2, 3, 4, 5] (lv2 := [(5, .int 0), (4, .int (nI p2)), (0, .ref (a 3)), (1, .ref (a 34)), (2, .int (nI p1)), (3, .int (nI p2))]) rfl ?_
  refine i_loop (mods := []) (fun x : Nat × Nat => 7 - x.1) (fun x => [(5, .int (nI (x.1))), (4, .int (nI (x.2))), (0, .ref (a 3)), (1, .ref (a 34)), (2, .int (nI p1)), (3, .int (nI p2))]) (fun x C => 0 ≤ x.1 ∧ x.1 ≤ 7 ∧ (x.2 < 7 ∨ (10 ≤ x.2 ∧ x.2 < 14))) (fun x L M C D F I K hP ih6 => ?_) ((0, p2) : Nat × Nat) F I K ⟨by show _ ≤ _; omega, by show _ ≤ _; omega, by show _ ∨ _; omega⟩
  rcases x with ⟨i6_5, i6_4⟩
  obtain ⟨hi6_5a, hi6_5b, hi6_4⟩ := hP
  refine g_lv [0, 1, 2, 3, 4, 5] (lv2 := [(5, .int (nI i6_5)), (4, .int (nI i6_4)), (0, .ref (a 3)), (1, .ref (a 34)), (2, .int (nI p1)), (3, .int (nI p2))]) rfl ?_
  refine g_iload X dX2_leadsBack_6 (j := 0) rfl ?_
  refine g_bipush X dX2_leadsBack_8 (v := 7) (by decide) ?_
  refine g_icmp_ge X dX2_leadsBack_10 (tgt := 57) (by decide) (fun q1 => ?_) (fun q1 => ?_)
  · skip
    have q1 : 7 ≤ i6_5 := (nI_leI (a := 7) (b := i6_5) (by omega) (by omega)).mp q1
    refine g_iconst X dX2_leadsBack_57 (v := 0) (by decide) ?_
    exact g_zret X hrt rfl dX2_leadsBack_58 (by decide) (by decide) ⟨C, D, F, I, K, Or.inl rfl⟩
  · skip
    have q1 : ¬ 7 ≤ i6_5 := fun z => q1 ((nI_leI (a := 7) (b := i6_5) (by omega) (by omega)).mpr z)
    refine g_iload X dX2_leadsBack_13 (j := 1) rfl ?_
    refine g_bipush X dX2_leadsBack_15 (v := 10) (by decide) ?_
    refine g_icmp_ge X dX2_leadsBack_17 (tgt := 57) (by decide) (fun q2 => ?_) (fun q2 => ?_)
    · skip
      have q2 : 10 ≤ i6_4 := (nI_leI (a := 10) (b := i6_4) (by omega) (by omega)).mp q2
      refine g_iconst X dX2_leadsBack_57 (v := 0) (by decide) ?_
      exact g_zret X hrt rfl dX2_leadsBack_58 (by decide) (by decide) ⟨C, D, F, I, K, Or.inl rfl⟩
    · skip
      have q2 : ¬ 10 ≤ i6_4 := fun z => q2 ((nI_leI (a := 10) (b := i6_4) (by omega) (by omega)).mpr z)
      refine g_aload_n X dX2_leadsBack_20 rfl (j := 2) rfl ?_
      refine g_iload X dX2_leadsBack_21 (j := 1) rfl ?_
      refine g_callVI X (s_X2_hasArm l G F I i6_4 (by omega) (by omega) ) lk_X2_102 (F.1 3 rfl).2 (F.1 3 rfl).1 rfl rfl dX2_leadsBack_23 (Nat.le_of_ble_eq_true rfl) ⟨by decide, by decide⟩ ⟨by decide, by decide⟩ (fun r3 L M hp => ?_)
      obtain ⟨C, D, F, I, K1, hr⟩ := hp
      have K := K.step K1 (by decide)
      rcases hr with rfl | ⟨rfl, ra4⟩
      · skip
        refine g_if_eq X dX2_leadsBack_26 (tgt := 57) (by decide) (fun _ => ?_) (fun q => absurd (by decide) q)
        refine g_iconst X dX2_leadsBack_57 (v := 0) (by decide) ?_
        exact g_zret X hrt rfl dX2_leadsBack_58 (by decide) (by decide) ⟨C, D, F, I, K, Or.inl rfl⟩
      · skip
        refine g_if_eq X dX2_leadsBack_26 (tgt := 57) (by decide) (fun q => absurd q (by decide)) (fun _ => ?_)
        refine g_aload_n X dX2_leadsBack_29 rfl (j := 2) rfl ?_
        refine g_iload X dX2_leadsBack_30 (j := 1) rfl ?_
        refine g_aload_n X dX2_leadsBack_32 rfl (j := 3) rfl ?_
        refine g_iload_n X dX2_leadsBack_33 rfl (j := 4) rfl ?_
        refine g_iload X dX2_leadsBack_34 (j := 1) rfl ?_
        refine g_iadd X dX2_leadsBack_36 ?_
        refine Go.top (v := .int (nI (p1 + i6_4))) (congrArg Value.int (nI_add p1 i6_4)) ?_
        obtain ⟨n5, hn5, en5⟩ := rg_nat (I 34 (p1 + i6_4)) (by decide)
        refine i_iald X F 34 rfl rfl dX2_leadsBack_37 (vp_in_nI (by omega) (by decide)) (v := nI n5) (by rw [nI_clamp (by omega)]; exact en5) ?_
        refine g_callVI X (s_X2_goal l G F I i6_4 (by omega) (by omega) n5 (by omega) (by omega) ) lk_X2_98 (F.1 3 rfl).2 (F.1 3 rfl).1 rfl rfl dX2_leadsBack_38 (Nat.le_of_ble_eq_true rfl) ⟨by decide, by decide⟩ ⟨by decide, by decide⟩ (fun r6 L M hp => ?_)
        obtain ⟨C, D, F, I, K1, hr⟩ := hp
        have K := K.step K1 (by decide)
        have ra4 : 1 ≤ (C 5 i6_4).toInt := by rw [(K1 5 (by decide)).1]; exact ra4
        obtain ⟨n7, hn7, rfl⟩ := hr
        refine g_istore X dX2_leadsBack_41 (by decide) (lv2 := [(4, .int (nI n7)), (5, .int (nI i6_5)), (0, .ref (a 3)), (1, .ref (a 34)), (2, .int (nI p1)), (3, .int (nI p2))]) rfl ?_
        refine g_iload X dX2_leadsBack_43 (j := 0) rfl ?_
        refine g_iload_n X dX2_leadsBack_45 rfl (j := 5) rfl ?_
        refine g_icmp_ne X dX2_leadsBack_46 (tgt := 51) (by decide) (fun q8 => ?_) (fun q8 => ?_)
        · skip
          have q8 : ¬ n7 = p2 := fun z => q8 ((nI_eq (a := n7) (b := p2) (by omega) (by omega)).mpr z)
          refine g_iinc X dX2_leadsBack_51 (j := 1) rfl (v := nI (i6_5 + 1)) (nI_1 i6_5) (by decide) (lv2 := [(5, .int (nI (i6_5 + 1))), (4, .int (nI n7)), (0, .ref (a 3)), (1, .ref (a 34)), (2, .int (nI p1)), (3, .int (nI p2))]) rfl ?_
          refine g_goto X dX2_leadsBack_54 (tgt := 6) (by decide) ?_
          refine g_lv [0, 1, 2, 3, 4, 5] (lv2 := [(5, .int (nI (i6_5 + 1))), (4, .int (nI n7)), (0, .ref (a 3)), (1, .ref (a 34)), (2, .int (nI p1)), (3, .int (nI p2))]) rfl ?_
          exact ih6 ((i6_5 + 1), n7) L M C D F I K ⟨by omega, by omega, by omega⟩ (by show _ < _; omega)
        · skip
          have q8 : n7 = p2 := (nI_eq (a := n7) (b := p2) (by omega) (by omega)).mp q8
          refine g_iconst X dX2_leadsBack_49 (v := 1) (by decide) ?_
          exact g_zret X hrt rfl dX2_leadsBack_50 (by decide) (by decide) ⟨C, D, F, I, K, Or.inr rfl⟩
set_option maxHeartbeats 4000000 in
set_option maxRecDepth 100000 in
theorem s_X2_postsOnRings_34 (l : Launch) (G : va_G) {cy : Nat → ClassId} {L : List Nat} {M : Nat → va_E} {a : Nat → Nat} {act : Nat → Bool} {C0 : Nat → Nat → Int32} {D0 : Nat → Nat → Int64} {R : Nat → Nat → Option Nat} (F : WI L M a act (ent cy a C0 D0 R)) (I : Inv C0) (p1 : Nat) (hp1a : 0 ≤ p1) (hp1b : p1 ≤ 112)  : MI l G cy yX2_postsOnRings cX2_postsOnRings 5 (some .int) 2 0 0 [.ref (a 3), .ref (a 34), .int (nI p1)] L M (fun r L2 M2 => ∃ C2 D2, WI L2 M2 a act (ent cy a C2 D2 R) ∧ Inv C2 ∧ Kp [] C0 D0 C2 D2 ∧ True) := by
  refine MI.of (own := RX2) rfl (by decide) (Nat.le_of_ble_eq_true rfl) ?_
  intro p e s m below meth c A X hrt hnm
  obtain ⟨C, D, hC0, hD0, F, I, K⟩ : ∃ C D, C = C0 ∧ D = D0 ∧ WI L M a act (ent cy a C D R) ∧ Inv C ∧ Kp [] C0 D0 C D := ⟨C0, D0, rfl, rfl, F, I, Kp.rf⟩
  refine g_iconst X dX2_postsOnRings_0 (v := 0) (by decide) ?_
  refine g_istore_n X dX2_postsOnRings_1 rfl (by decide) (lv2 := [(3, .int 0), (0, .ref (a 3)), (1, .ref (a 34)), (2, .int (nI p1))]) rfl ?_
  refine g_iconst X dX2_postsOnRings_2 (v := 0) (by decide) ?_
  refine g_istore X dX2_postsOnRings_3 (by decide) (lv2 := [(4, .int 0), (3, .int 0), (0, .ref (a 3)), (1, .ref (a 34)), (2, .int (nI p1))]) rfl ?_
  refine g_lv [0, 1, 2, 3, 4] (lv2 := [(4, .int 0), (3, .int 0), (0, .ref (a 3)), (1, .ref (a 34)), (2, .int (nI p1))]) rfl ?_
  refine i_loop (mods := []) (fun x : Nat × Int32 => 7 - x.1) (fun x => [(4, .int (nI (x.1))), (3, .int (x.2)), (0, .ref (a 3)), (1, .ref (a 34)), (2, .int (nI p1))]) (fun x C => 0 ≤ x.1 ∧ x.1 ≤ 7) (fun x L M C D F I K hP ih5 => ?_) ((0, 0) : Nat × Int32) F I K ⟨by show _ ≤ _; omega, by show _ ≤ _; omega⟩
  rcases x with ⟨i5_4, v5_3⟩
  obtain ⟨hi5_4a, hi5_4b⟩ := hP
  refine g_lv [0, 1, 2, 3, 4] (lv2 := [(4, .int (nI i5_4)), (3, .int v5_3), (0, .ref (a 3)), (1, .ref (a 34)), (2, .int (nI p1))]) rfl ?_
  refine g_iload X dX2_postsOnRings_5 (j := 0) rfl ?_
  refine g_aload_n X dX2_postsOnRings_7 rfl (j := 2) rfl ?_
  obtain ⟨n1, hn1, en1⟩ := rg_nat ((I 3 5).2.2.1 rfl) (by decide)
  refine i_get X F 3 rfl rfl fk_X2_27 dX2_postsOnRings_8 (v := .int (nI n1)) (congrArg (fun z => some (Value.int z)) en1) ?_
  refine g_icmp_ge X dX2_postsOnRings_11 (tgt := 38) (by decide) (fun q2 => ?_) (fun q2 => ?_)
  · skip
    have q2 : n1 ≤ i5_4 := (nI_leI (a := n1) (b := i5_4) (by omega) (by omega)).mp q2
    refine g_iload_n X dX2_postsOnRings_38 rfl (j := 1) rfl ?_
    exact g_iret X hrt dX2_postsOnRings_39 (by decide) (by decide) ⟨C, D, F, I, K, trivial⟩
  · skip
    have q2 : ¬ n1 ≤ i5_4 := fun z => q2 ((nI_leI (a := n1) (b := i5_4) (by omega) (by omega)).mpr z)
    refine g_aload_n X dX2_postsOnRings_14 rfl (j := 2) rfl ?_
    refine g_aload_n X dX2_postsOnRings_15 rfl (j := 3) rfl ?_
    refine g_iload_n X dX2_postsOnRings_16 rfl (j := 4) rfl ?_
    refine g_iload X dX2_postsOnRings_17 (j := 0) rfl ?_
    refine g_callVI X (s_X2_leadsBack_34 l G F I p1 (by omega) (by omega) i5_4 (by omega) (by omega) ) lk_X2_113 (F.1 3 rfl).2 (F.1 3 rfl).1 rfl rfl dX2_postsOnRings_19 (Nat.le_of_ble_eq_true rfl) ⟨by decide, by decide⟩ ⟨by decide, by decide⟩ (fun r3 L M hp => ?_)
    obtain ⟨C, D, F, I, K1, hr⟩ := hp
    have K := K.step K1 (by decide)
    rcases hr with rfl | rfl
    · skip
      refine g_if_eq X dX2_postsOnRings_22 (tgt := 32) (by decide) (fun _ => ?_) (fun q => absurd (by decide) q)
      refine g_iinc X dX2_postsOnRings_32 (j := 0) rfl (v := nI (i5_4 + 1)) (nI_1 i5_4) (by decide) (lv2 := [(4, .int (nI (i5_4 + 1))), (3, .int v5_3), (0, .ref (a 3)), (1, .ref (a 34)), (2, .int (nI p1))]) rfl ?_
      refine g_goto X dX2_postsOnRings_35 (tgt := 5) (by decide) ?_
      refine g_lv [0, 1, 2, 3, 4] (lv2 := [(4, .int (nI (i5_4 + 1))), (3, .int v5_3), (0, .ref (a 3)), (1, .ref (a 34)), (2, .int (nI p1))]) rfl ?_
      exact ih5 ((i5_4 + 1), v5_3) L M C D F I K ⟨by omega, by omega⟩ (by show _ < _; omega)
    · skip
      refine g_if_eq X dX2_postsOnRings_22 (tgt := 32) (by decide) (fun q => absurd q (by decide)) (fun _ => ?_)
      refine g_iload_n X dX2_postsOnRings_25 rfl (j := 1) rfl ?_
      refine g_iconst X dX2_postsOnRings_26 (v := 1) (by decide) ?_
      refine g_iload X dX2_postsOnRings_27 (j := 0) rfl ?_
      refine g_ishl X dX2_postsOnRings_29 ?_
      refine Go.gen (fun o4 => ?_)
      refine g_ior X dX2_postsOnRings_30 ?_
      refine Go.gen (fun o5 => ?_)
      refine g_istore_n X dX2_postsOnRings_31 rfl (by decide) (lv2 := [(3, .int o5), (4, .int (nI i5_4)), (0, .ref (a 3)), (1, .ref (a 34)), (2, .int (nI p1))]) rfl ?_
      refine g_iinc X dX2_postsOnRings_32 (j := 1) rfl (v := nI (i5_4 + 1)) (nI_1 i5_4) (by decide) (lv2 := [(4, .int (nI (i5_4 + 1))), (3, .int o5), (0, .ref (a 3)), (1, .ref (a 34)), (2, .int (nI p1))]) rfl ?_
      refine g_goto X dX2_postsOnRings_35 (tgt := 5) (by decide) ?_
      refine g_lv [0, 1, 2, 3, 4] (lv2 := [(4, .int (nI (i5_4 + 1))), (3, .int o5), (0, .ref (a 3)), (1, .ref (a 34)), (2, .int (nI p1))]) rfl ?_
      exact ih5 ((i5_4 + 1), o5) L M C D F I K ⟨by omega, by omega⟩ (by show _ < _; omega)
set_option maxHeartbeats 4000000 in
set_option maxRecDepth 100000 in
theorem s_X2_sendBy_34 (l : Launch) (G : va_G) {cy : Nat → ClassId} {L : List Nat} {M : Nat → va_E} {a : Nat → Nat} {act : Nat → Bool} {C0 : Nat → Nat → Int32} {D0 : Nat → Nat → Int64} {R : Nat → Nat → Option Nat} (F : WI L M a act (ent cy a C0 D0 R)) (I : Inv C0) (p1 : Nat) (hp1a : 0 ≤ p1) (hp1b : p1 ≤ 112) (p2 : Nat) (hp2a : 0 ≤ p2) (hp2b : p2 ≤ 6) (p3 : Int32) (hra : 1 ≤ (C0 5 p2).toInt) : MI l G cy yX2_sendBy cX2_sendBy 7 (some .int) 0 0 0 [.ref (a 3), .ref (a 34), .int (nI p1), .int (nI p2), .int p3] L M (fun r L2 M2 => ∃ C2 D2, WI L2 M2 a act (ent cy a C2 D2 R) ∧ Inv C2 ∧ Kp [34] C0 D0 C2 D2 ∧ ∃ n : Nat, 0 ≤ n ∧ n ≤ 3 ∧ r = nI n) := by
  refine MI.of (own := RX2) rfl (by decide) (Nat.le_of_ble_eq_true rfl) ?_
  intro p e s m below meth c A X hrt hnm
  obtain ⟨C, D, hC0, hD0, F, I, K⟩ : ∃ C D, C = C0 ∧ D = D0 ∧ WI L M a act (ent cy a C D R) ∧ Inv C ∧ Kp [34] C0 D0 C D := ⟨C0, D0, rfl, rfl, F, I, Kp.rf⟩
  rw [← hC0] at hra
  refine g_aload_n X dX2_sendBy_0 rfl (j := 1) rfl ?_
  refine g_iload_n X dX2_sendBy_1 rfl (j := 2) rfl ?_
  refine g_iload_n X dX2_sendBy_2 rfl (j := 3) rfl ?_
  refine g_iadd X dX2_sendBy_3 ?_
  refine Go.top (v := .int (nI (p1 + p2))) (congrArg Value.int (nI_add p1 p2)) ?_
  obtain ⟨n1, hn1, en1⟩ := rg_nat (I 34 (p1 + p2)) (by decide)
  refine i_iald X F 34 rfl rfl dX2_sendBy_4 (vp_in_nI (by omega) (by decide)) (v := nI n1) (by rw [nI_clamp (by omega)]; exact en1) ?_
  refine g_istore X dX2_sendBy_5 (by decide) (lv2 := [(5, .int (nI n1)), (0, .ref (a 3)), (1, .ref (a 34)), (2, .int (nI p1)), (3, .int (nI p2)), (4, .int p3)]) rfl ?_
  refine g_iload X dX2_sendBy_7 (j := 0) rfl ?_
  refine g_iconst X dX2_sendBy_9 (v := 1) (by decide) ?_
  refine g_iadd X dX2_sendBy_10 ?_
  refine Go.top (v := .int (nI (n1 + 1))) (congrArg Value.int (nI_add n1 1)) ?_
  refine g_aload_n X dX2_sendBy_11 rfl (j := 1) rfl ?_
  refine i_get X F 3 rfl rfl fk_X2_43 dX2_sendBy_12 rfl ?_
  refine g_iload_n X dX2_sendBy_15 rfl (j := 4) rfl ?_
  obtain ⟨n2, hn2, en2⟩ := rg_nat (I 5 p2) (by decide)
  refine i_iald X F 5 rfl rfl dX2_sendBy_16 (vp_in_nI (by omega) (by decide)) (v := nI n2) (by rw [nI_clamp (by omega)]; exact en2) ?_
  refine g_icmp_ge X dX2_sendBy_17 (tgt := 27) (by decide) (fun q3 => ?_) (fun q3 => ?_)
  · skip
    have q3 : n2 ≤ (n1 + 1) := (nI_leI (a := n2) (b := (n1 + 1)) (by omega) (by omega)).mp q3
    refine g_iconst X dX2_sendBy_27 (v := 0) (by decide) ?_
    refine g_istore X dX2_sendBy_28 (by decide) (lv2 := [(6, .int 0), (5, .int (nI n1)), (0, .ref (a 3)), (1, .ref (a 34)), (2, .int (nI p1)), (3, .int (nI p2)), (4, .int p3)]) rfl ?_
    refine g_iload X dX2_sendBy_30 (j := 6) rfl ?_
    rcases sc4 p3 with h4 | h5 | rfl | rfl | rfl | rfl
    · skip
      refine g_tableOut X dX2_sendBy_32 (Or.inl (by have z := Int32.lt_iff_toInt_lt.mp h4; have k : (0 : Int32).toInt = 0 := (by decide); omega)) (tgt := 138) (by decide) ?_
      refine g_iload X dX2_sendBy_138 (j := 1) rfl ?_
      exact g_iret X hrt dX2_sendBy_140 (by decide) (by decide) ⟨C, D, F, I, K, ⟨n1, by omega, by omega, rfl⟩⟩
    · skip
      refine g_tableOut X dX2_sendBy_32 (Or.inr (by have z := Int32.le_iff_toInt_le.mp h5; have k : (4 : Int32).toInt = 4 := (by decide); omega)) (tgt := 138) (by decide) ?_
      refine g_iload X dX2_sendBy_138 (j := 1) rfl ?_
      exact g_iret X hrt dX2_sendBy_140 (by decide) (by decide) ⟨C, D, F, I, K, ⟨n1, by omega, by omega, rfl⟩⟩
    · skip
      refine g_tableIn X dX2_sendBy_32 (by decide) (by decide) (off := 32) (by decide) (tgt := 64) (by decide) ?_
      refine g_aload_n X dX2_sendBy_64 rfl (j := 3) rfl ?_
      refine g_iload_n X dX2_sendBy_65 rfl (j := 4) rfl ?_
      refine g_iload_n X dX2_sendBy_66 rfl (j := 5) rfl ?_
      refine g_iadd X dX2_sendBy_67 ?_
      refine Go.top (v := .int (nI (p1 + p2))) (congrArg Value.int (nI_add p1 p2)) ?_
      refine g_iload X dX2_sendBy_68 (j := 0) rfl ?_
      refine i_iast X F I 34 rfl (fun _ => rfl) dX2_sendBy_70 (vp_in_nI (by omega) (by decide)) (rg_of (n := 0) (by omega) (by omega) (by omega)) (fun M C F I K1 hC => ?_)
      have K := K.step K1 (by decide)
      refine g_iload X dX2_sendBy_71 (j := 1) rfl ?_
      exact g_iret X hrt dX2_sendBy_73 (by decide) (by decide) ⟨C, D, F, I, K, ⟨n1, by omega, by omega, rfl⟩⟩
    · skip
      refine g_tableIn X dX2_sendBy_32 (by decide) (by decide) (off := 42) (by decide) (tgt := 74) (by decide) ?_
      refine g_aload_n X dX2_sendBy_74 rfl (j := 3) rfl ?_
      refine g_iload_n X dX2_sendBy_75 rfl (j := 4) rfl ?_
      refine g_iload_n X dX2_sendBy_76 rfl (j := 5) rfl ?_
      refine g_iadd X dX2_sendBy_77 ?_
      refine Go.top (v := .int (nI (p1 + p2))) (congrArg Value.int (nI_add p1 p2)) ?_
      refine g_iload X dX2_sendBy_78 (j := 0) rfl ?_
      refine i_iast X F I 34 rfl (fun _ => rfl) dX2_sendBy_80 (vp_in_nI (by omega) (by decide)) (rg_of (n := 0) (by omega) (by omega) (by omega)) (fun M C F I K1 hC => ?_)
      have K := K.step K1 (by decide)
      refine g_iload X dX2_sendBy_81 (j := 0) rfl ?_
      exact g_iret X hrt dX2_sendBy_83 (by decide) (by decide) ⟨C, D, F, I, K, ⟨0, by omega, by omega, rfl⟩⟩
    · skip
      refine g_tableIn X dX2_sendBy_32 (by decide) (by decide) (off := 52) (by decide) (tgt := 84) (by decide) ?_
      refine g_aload_n X dX2_sendBy_84 rfl (j := 3) rfl ?_
      refine g_iload_n X dX2_sendBy_85 rfl (j := 4) rfl ?_
      refine g_iload_n X dX2_sendBy_86 rfl (j := 5) rfl ?_
      refine g_iadd X dX2_sendBy_87 ?_
      refine Go.top (v := .int (nI (p1 + p2))) (congrArg Value.int (nI_add p1 p2)) ?_
      refine g_iload X dX2_sendBy_88 (j := 1) rfl ?_
      refine g_if_le X dX2_sendBy_90 (tgt := 100) (by decide) (fun q6 => ?_) (fun q6 => ?_)
      · skip
        have q6 : n1 ≤ 0 := (nI_leI (a := n1) (b := 0) (by omega) (by omega)).mp q6
        refine g_aload_n X dX2_sendBy_100 rfl (j := 2) rfl ?_
        refine i_get X F 3 rfl rfl fk_X2_43 dX2_sendBy_101 rfl ?_
        refine g_iload_n X dX2_sendBy_104 rfl (j := 5) rfl ?_
        obtain ⟨n7, hn7, en7⟩ := rg_nat (I 5 p2) (by decide)
        refine i_iald X F 5 rfl rfl dX2_sendBy_105 (vp_in_nI (by omega) (by decide)) (v := nI n7) (by rw [nI_clamp (by omega)]; exact en7) ?_
        refine g_iconst X dX2_sendBy_106 (v := 1) (by decide) ?_
        have hn7_1 : 1 ≤ n7 := by rw [en7, nI_toInt (by omega)] at hra; omega
        refine g_isub X dX2_sendBy_107 ?_
        refine Go.top (v := .int (nI (n7 - 1))) (congrArg Value.int (pk_sub (a := n7) (b := 1) (by omega))) ?_
        refine i_iast X F I 34 rfl (fun _ => rfl) dX2_sendBy_108 (vp_in_nI (by omega) (by decide)) (rg_of (n := (n7 - 1)) (by omega) (by omega) (by omega)) (fun M C F I K1 hC => ?_)
        have K := K.step K1 (by decide)
        refine g_iload X dX2_sendBy_109 (j := 1) rfl ?_
        exact g_iret X hrt dX2_sendBy_111 (by decide) (by decide) ⟨C, D, F, I, K, ⟨n1, by omega, by omega, rfl⟩⟩
      · skip
        have q6 : ¬ n1 ≤ 0 := fun z => q6 ((nI_leI (a := n1) (b := 0) (by omega) (by omega)).mpr z)
        refine g_iload X dX2_sendBy_93 (j := 1) rfl ?_
        refine g_iconst X dX2_sendBy_95 (v := 1) (by decide) ?_
        refine g_isub X dX2_sendBy_96 ?_
        refine Go.top (v := .int (nI (n1 - 1))) (congrArg Value.int (pk_sub (a := n1) (b := 1) (by omega))) ?_
        refine g_goto X dX2_sendBy_97 (tgt := 108) (by decide) ?_
        refine i_iast X F I 34 rfl (fun _ => rfl) dX2_sendBy_108 (vp_in_nI (by omega) (by decide)) (rg_of (n := (n1 - 1)) (by omega) (by omega) (by omega)) (fun M C F I K1 hC => ?_)
        have K := K.step K1 (by decide)
        refine g_iload X dX2_sendBy_109 (j := 1) rfl ?_
        exact g_iret X hrt dX2_sendBy_111 (by decide) (by decide) ⟨C, D, F, I, K, ⟨n1, by omega, by omega, rfl⟩⟩
    · skip
      refine g_tableIn X dX2_sendBy_32 (by decide) (by decide) (off := 80) (by decide) (tgt := 112) (by decide) ?_
      refine g_aload_n X dX2_sendBy_112 rfl (j := 2) rfl ?_
      refine i_get X F 3 rfl rfl fk_X2_46 dX2_sendBy_113 rfl ?_
      refine g_iload_n X dX2_sendBy_116 rfl (j := 5) rfl ?_
      refine g_iconst X dX2_sendBy_117 (v := 4) (by decide) ?_
      refine g_imul X dX2_sendBy_118 ?_
      refine Go.top (v := .int (nI (p2 * 4))) (congrArg Value.int (pk_mul p2 4)) ?_
      refine g_iload X dX2_sendBy_119 (j := 1) rfl ?_
      refine g_iadd X dX2_sendBy_121 ?_
      refine Go.top (v := .int (nI ((p2 * 4) + n1))) (congrArg Value.int (nI_add (p2 * 4) n1)) ?_
      obtain ⟨n8, hn8, en8⟩ := gl_nat (I 6 ((p2 * 4) + n1))
      refine i_iald X F 6 rfl rfl dX2_sendBy_122 (vp_in_nI (by omega) (by decide)) (v := nI n8) (by rw [nI_clamp (by omega)]; exact en8) ?_
      refine g_bipush X dX2_sendBy_123 (v := 10) (by decide) ?_
      refine g_icmp_ge X dX2_sendBy_125 (tgt := 135) (by decide) (fun q9 => ?_) (fun q9 => ?_)
      · skip
        have q9 : 10 ≤ n8 := (nI_leI (a := 10) (b := n8) (by omega) (by omega)).mp q9
        refine g_iload X dX2_sendBy_135 (j := 1) rfl ?_
        exact g_iret X hrt dX2_sendBy_137 (by decide) (by decide) ⟨C, D, F, I, K, ⟨n1, by omega, by omega, rfl⟩⟩
      · skip
        have q9 : ¬ 10 ≤ n8 := fun z => q9 ((nI_leI (a := 10) (b := n8) (by omega) (by omega)).mpr z)
        refine g_aload_n X dX2_sendBy_128 rfl (j := 3) rfl ?_
        refine g_iload_n X dX2_sendBy_129 rfl (j := 4) rfl ?_
        refine g_iload_n X dX2_sendBy_130 rfl (j := 5) rfl ?_
        refine g_iadd X dX2_sendBy_131 ?_
        refine Go.top (v := .int (nI (p1 + p2))) (congrArg Value.int (nI_add p1 p2)) ?_
        refine g_iload X dX2_sendBy_132 (j := 0) rfl ?_
        refine i_iast X F I 34 rfl (fun _ => rfl) dX2_sendBy_134 (vp_in_nI (by omega) (by decide)) (rg_of (n := 0) (by omega) (by omega) (by omega)) (fun M C F I K1 hC => ?_)
        have K := K.step K1 (by decide)
        refine g_iload X dX2_sendBy_135 (j := 1) rfl ?_
        exact g_iret X hrt dX2_sendBy_137 (by decide) (by decide) ⟨C, D, F, I, K, ⟨n1, by omega, by omega, rfl⟩⟩
  · skip
    have q3 : ¬ n2 ≤ (n1 + 1) := fun z => q3 ((nI_leI (a := n2) (b := (n1 + 1)) (by omega) (by omega)).mpr z)
    refine g_iload X dX2_sendBy_20 (j := 0) rfl ?_
    refine g_iconst X dX2_sendBy_22 (v := 1) (by decide) ?_
    refine g_iadd X dX2_sendBy_23 ?_
    refine Go.top (v := .int (nI (n1 + 1))) (congrArg Value.int (nI_add n1 1)) ?_
    refine g_goto X dX2_sendBy_24 (tgt := 28) (by decide) ?_
    refine g_istore X dX2_sendBy_28 (by decide) (lv2 := [(6, .int (nI (n1 + 1))), (5, .int (nI n1)), (0, .ref (a 3)), (1, .ref (a 34)), (2, .int (nI p1)), (3, .int (nI p2)), (4, .int p3)]) rfl ?_
    refine g_iload X dX2_sendBy_30 (j := 6) rfl ?_
    rcases sc4 p3 with h10 | h11 | rfl | rfl | rfl | rfl
    · skip
      refine g_tableOut X dX2_sendBy_32 (Or.inl (by have z := Int32.lt_iff_toInt_lt.mp h10; have k : (0 : Int32).toInt = 0 := (by decide); omega)) (tgt := 138) (by decide) ?_
      refine g_iload X dX2_sendBy_138 (j := 1) rfl ?_
      exact g_iret X hrt dX2_sendBy_140 (by decide) (by decide) ⟨C, D, F, I, K, ⟨n1, by omega, by omega, rfl⟩⟩
    · skip
      refine g_tableOut X dX2_sendBy_32 (Or.inr (by have z := Int32.le_iff_toInt_le.mp h11; have k : (4 : Int32).toInt = 4 := (by decide); omega)) (tgt := 138) (by decide) ?_
      refine g_iload X dX2_sendBy_138 (j := 1) rfl ?_
      exact g_iret X hrt dX2_sendBy_140 (by decide) (by decide) ⟨C, D, F, I, K, ⟨n1, by omega, by omega, rfl⟩⟩
    · skip
      refine g_tableIn X dX2_sendBy_32 (by decide) (by decide) (off := 32) (by decide) (tgt := 64) (by decide) ?_
      refine g_aload_n X dX2_sendBy_64 rfl (j := 3) rfl ?_
      refine g_iload_n X dX2_sendBy_65 rfl (j := 4) rfl ?_
      refine g_iload_n X dX2_sendBy_66 rfl (j := 5) rfl ?_
      refine g_iadd X dX2_sendBy_67 ?_
      refine Go.top (v := .int (nI (p1 + p2))) (congrArg Value.int (nI_add p1 p2)) ?_
      refine g_iload X dX2_sendBy_68 (j := 0) rfl ?_
      refine i_iast X F I 34 rfl (fun _ => rfl) dX2_sendBy_70 (vp_in_nI (by omega) (by decide)) (rg_of (n := (n1 + 1)) (by omega) (by omega) (by omega)) (fun M C F I K1 hC => ?_)
      have K := K.step K1 (by decide)
      refine g_iload X dX2_sendBy_71 (j := 1) rfl ?_
      exact g_iret X hrt dX2_sendBy_73 (by decide) (by decide) ⟨C, D, F, I, K, ⟨n1, by omega, by omega, rfl⟩⟩
    · skip
      refine g_tableIn X dX2_sendBy_32 (by decide) (by decide) (off := 42) (by decide) (tgt := 74) (by decide) ?_
      refine g_aload_n X dX2_sendBy_74 rfl (j := 3) rfl ?_
      refine g_iload_n X dX2_sendBy_75 rfl (j := 4) rfl ?_
      refine g_iload_n X dX2_sendBy_76 rfl (j := 5) rfl ?_
      refine g_iadd X dX2_sendBy_77 ?_
      refine Go.top (v := .int (nI (p1 + p2))) (congrArg Value.int (nI_add p1 p2)) ?_
      refine g_iload X dX2_sendBy_78 (j := 0) rfl ?_
      refine i_iast X F I 34 rfl (fun _ => rfl) dX2_sendBy_80 (vp_in_nI (by omega) (by decide)) (rg_of (n := (n1 + 1)) (by omega) (by omega) (by omega)) (fun M C F I K1 hC => ?_)
      have K := K.step K1 (by decide)
      refine g_iload X dX2_sendBy_81 (j := 0) rfl ?_
      exact g_iret X hrt dX2_sendBy_83 (by decide) (by decide) ⟨C, D, F, I, K, ⟨(n1 + 1), by omega, by omega, rfl⟩⟩
    · skip
      refine g_tableIn X dX2_sendBy_32 (by decide) (by decide) (off := 52) (by decide) (tgt := 84) (by decide) ?_
      refine g_aload_n X dX2_sendBy_84 rfl (j := 3) rfl ?_
      refine g_iload_n X dX2_sendBy_85 rfl (j := 4) rfl ?_
      refine g_iload_n X dX2_sendBy_86 rfl (j := 5) rfl ?_
      refine g_iadd X dX2_sendBy_87 ?_
      refine Go.top (v := .int (nI (p1 + p2))) (congrArg Value.int (nI_add p1 p2)) ?_
      refine g_iload X dX2_sendBy_88 (j := 1) rfl ?_
      refine g_if_le X dX2_sendBy_90 (tgt := 100) (by decide) (fun q12 => ?_) (fun q12 => ?_)
      · skip
        have q12 : n1 ≤ 0 := (nI_leI (a := n1) (b := 0) (by omega) (by omega)).mp q12
        refine g_aload_n X dX2_sendBy_100 rfl (j := 2) rfl ?_
        refine i_get X F 3 rfl rfl fk_X2_43 dX2_sendBy_101 rfl ?_
        refine g_iload_n X dX2_sendBy_104 rfl (j := 5) rfl ?_
        obtain ⟨n13, hn13, en13⟩ := rg_nat (I 5 p2) (by decide)
        refine i_iald X F 5 rfl rfl dX2_sendBy_105 (vp_in_nI (by omega) (by decide)) (v := nI n13) (by rw [nI_clamp (by omega)]; exact en13) ?_
        refine g_iconst X dX2_sendBy_106 (v := 1) (by decide) ?_
        have hn13_1 : 1 ≤ n13 := by rw [en13, nI_toInt (by omega)] at hra; omega
        refine g_isub X dX2_sendBy_107 ?_
        refine Go.top (v := .int (nI (n13 - 1))) (congrArg Value.int (pk_sub (a := n13) (b := 1) (by omega))) ?_
        refine i_iast X F I 34 rfl (fun _ => rfl) dX2_sendBy_108 (vp_in_nI (by omega) (by decide)) (rg_of (n := (n13 - 1)) (by omega) (by omega) (by omega)) (fun M C F I K1 hC => ?_)
        have K := K.step K1 (by decide)
        refine g_iload X dX2_sendBy_109 (j := 1) rfl ?_
        exact g_iret X hrt dX2_sendBy_111 (by decide) (by decide) ⟨C, D, F, I, K, ⟨n1, by omega, by omega, rfl⟩⟩
      · skip
        have q12 : ¬ n1 ≤ 0 := fun z => q12 ((nI_leI (a := n1) (b := 0) (by omega) (by omega)).mpr z)
        refine g_iload X dX2_sendBy_93 (j := 1) rfl ?_
        refine g_iconst X dX2_sendBy_95 (v := 1) (by decide) ?_
        refine g_isub X dX2_sendBy_96 ?_
        refine Go.top (v := .int (nI (n1 - 1))) (congrArg Value.int (pk_sub (a := n1) (b := 1) (by omega))) ?_
        refine g_goto X dX2_sendBy_97 (tgt := 108) (by decide) ?_
        refine i_iast X F I 34 rfl (fun _ => rfl) dX2_sendBy_108 (vp_in_nI (by omega) (by decide)) (rg_of (n := (n1 - 1)) (by omega) (by omega) (by omega)) (fun M C F I K1 hC => ?_)
        have K := K.step K1 (by decide)
        refine g_iload X dX2_sendBy_109 (j := 1) rfl ?_
        exact g_iret X hrt dX2_sendBy_111 (by decide) (by decide) ⟨C, D, F, I, K, ⟨n1, by omega, by omega, rfl⟩⟩
    · skip
      refine g_tableIn X dX2_sendBy_32 (by decide) (by decide) (off := 80) (by decide) (tgt := 112) (by decide) ?_
      refine g_aload_n X dX2_sendBy_112 rfl (j := 2) rfl ?_
      refine i_get X F 3 rfl rfl fk_X2_46 dX2_sendBy_113 rfl ?_
      refine g_iload_n X dX2_sendBy_116 rfl (j := 5) rfl ?_
      refine g_iconst X dX2_sendBy_117 (v := 4) (by decide) ?_
      refine g_imul X dX2_sendBy_118 ?_
      refine Go.top (v := .int (nI (p2 * 4))) (congrArg Value.int (pk_mul p2 4)) ?_
      refine g_iload X dX2_sendBy_119 (j := 1) rfl ?_
      refine g_iadd X dX2_sendBy_121 ?_
      refine Go.top (v := .int (nI ((p2 * 4) + n1))) (congrArg Value.int (nI_add (p2 * 4) n1)) ?_
      obtain ⟨n14, hn14, en14⟩ := gl_nat (I 6 ((p2 * 4) + n1))
      refine i_iald X F 6 rfl rfl dX2_sendBy_122 (vp_in_nI (by omega) (by decide)) (v := nI n14) (by rw [nI_clamp (by omega)]; exact en14) ?_
      refine g_bipush X dX2_sendBy_123 (v := 10) (by decide) ?_
      refine g_icmp_ge X dX2_sendBy_125 (tgt := 135) (by decide) (fun q15 => ?_) (fun q15 => ?_)
      · skip
        have q15 : 10 ≤ n14 := (nI_leI (a := 10) (b := n14) (by omega) (by omega)).mp q15
        refine g_iload X dX2_sendBy_135 (j := 1) rfl ?_
        exact g_iret X hrt dX2_sendBy_137 (by decide) (by decide) ⟨C, D, F, I, K, ⟨n1, by omega, by omega, rfl⟩⟩
      · skip
        have q15 : ¬ 10 ≤ n14 := fun z => q15 ((nI_leI (a := 10) (b := n14) (by omega) (by omega)).mpr z)
        refine g_aload_n X dX2_sendBy_128 rfl (j := 3) rfl ?_
        refine g_iload_n X dX2_sendBy_129 rfl (j := 4) rfl ?_
        refine g_iload_n X dX2_sendBy_130 rfl (j := 5) rfl ?_
        refine g_iadd X dX2_sendBy_131 ?_
        refine Go.top (v := .int (nI (p1 + p2))) (congrArg Value.int (nI_add p1 p2)) ?_
        refine g_iload X dX2_sendBy_132 (j := 0) rfl ?_
        refine i_iast X F I 34 rfl (fun _ => rfl) dX2_sendBy_134 (vp_in_nI (by omega) (by decide)) (rg_of (n := (n1 + 1)) (by omega) (by omega) (by omega)) (fun M C F I K1 hC => ?_)
        have K := K.step K1 (by decide)
        refine g_iload X dX2_sendBy_135 (j := 1) rfl ?_
        exact g_iret X hrt dX2_sendBy_137 (by decide) (by decide) ⟨C, D, F, I, K, ⟨n1, by omega, by omega, rfl⟩⟩
set_option maxHeartbeats 4000000 in
set_option maxRecDepth 100000 in
theorem s_X2_settingNumber_38 (l : Launch) (G : va_G) {cy : Nat → ClassId} {L : List Nat} {M : Nat → va_E} {a : Nat → Nat} {act : Nat → Bool} {C0 : Nat → Nat → Int32} {D0 : Nat → Nat → Int64} {R : Nat → Nat → Option Nat} (F : WI L M a act (ent cy a C0 D0 R)) (I : Inv C0)   : MI l G cy yX2_settingNumber cX2_settingNumber 6 (some .int) 1 0 0 [.ref (a 3), .ref (a 38), .int 0] L M (fun r L2 M2 => ∃ C2 D2, WI L2 M2 a act (ent cy a C2 D2 R) ∧ Inv C2 ∧ Kp [] C0 D0 C2 D2 ∧ True) := by
  refine MI.of (own := RX2) rfl (by decide) (Nat.le_of_ble_eq_true rfl) ?_
  intro p e s m below meth c A X hrt hnm
  obtain ⟨C, D, hC0, hD0, F, I, K⟩ : ∃ C D, C = C0 ∧ D = D0 ∧ WI L M a act (ent cy a C D R) ∧ Inv C ∧ Kp [] C0 D0 C D := ⟨C0, D0, rfl, rfl, F, I, Kp.rf⟩
  refine g_iconst X dX2_settingNumber_0 (v := 0) (by decide) ?_
  refine g_istore_n X dX2_settingNumber_1 rfl (by decide) (lv2 := [(3, .int 0), (0, .ref (a 3)), (1, .ref (a 38)), (2, .int 0)]) rfl ?_
  refine g_iconst X dX2_settingNumber_2 (v := 1) (by decide) ?_
  refine g_istore X dX2_settingNumber_3 (by decide) (lv2 := [(4, .int 1), (3, .int 0), (0, .ref (a 3)), (1, .ref (a 38)), (2, .int 0)]) rfl ?_
  refine g_iconst X dX2_settingNumber_5 (v := 0) (by decide) ?_
  refine g_istore X dX2_settingNumber_6 (by decide) (lv2 := [(5, .int 0), (4, .int 1), (3, .int 0), (0, .ref (a 3)), (1, .ref (a 38)), (2, .int 0)]) rfl ?_
  refine g_lv [0, 2, 1, 3, 4, 5] (lv2 := [(5, .int 0), (3, .int 0), (4, .int 1), (0, .ref (a 3)), (1, .ref (a 38)), (2, .int 0)]) rfl ?_
  refine i_loop (mods := []) (fun x : Nat × Int32 × Int32 => 7 - x.1) (fun x => [(5, .int (nI (x.1))), (3, .int (x.2.1)), (4, .int (x.2.2)), (0, .ref (a 3)), (1, .ref (a 38)), (2, .int 0)]) (fun x C => 0 ≤ x.1 ∧ x.1 ≤ 7) (fun x L M C D F I K hP ih8 => ?_) ((0, 0, 1) : Nat × Int32 × Int32) F I K ⟨by show _ ≤ _; omega, by show _ ≤ _; omega⟩
  rcases x with ⟨i8_5, v8_3, v8_4⟩
  obtain ⟨hi8_5a, hi8_5b⟩ := hP
  refine g_lv [0, 1, 2, 3, 4, 5] (lv2 := [(5, .int (nI i8_5)), (3, .int v8_3), (4, .int v8_4), (0, .ref (a 3)), (1, .ref (a 38)), (2, .int 0)]) rfl ?_
  refine g_iload X dX2_settingNumber_8 (j := 0) rfl ?_
  refine g_aload_n X dX2_settingNumber_10 rfl (j := 3) rfl ?_
  obtain ⟨n1, hn1, en1⟩ := rg_nat ((I 3 5).2.2.1 rfl) (by decide)
  refine i_get X F 3 rfl rfl fk_X2_27 dX2_settingNumber_11 (v := .int (nI n1)) (congrArg (fun z => some (Value.int z)) en1) ?_
  refine g_icmp_ge X dX2_settingNumber_14 (tgt := 56) (by decide) (fun q2 => ?_) (fun q2 => ?_)
  · skip
    have q2 : n1 ≤ i8_5 := (nI_leI (a := n1) (b := i8_5) (by omega) (by omega)).mp q2
    refine g_iload_n X dX2_settingNumber_56 rfl (j := 1) rfl ?_
    exact g_iret X hrt dX2_settingNumber_57 (by decide) (by decide) ⟨C, D, F, I, K, trivial⟩
  · skip
    have q2 : ¬ n1 ≤ i8_5 := fun z => q2 ((nI_leI (a := n1) (b := i8_5) (by omega) (by omega)).mpr z)
    refine g_aload_n X dX2_settingNumber_17 rfl (j := 3) rfl ?_
    refine g_iload X dX2_settingNumber_18 (j := 0) rfl ?_
    refine g_callVI X (s_X2_hasArm l G F I i8_5 (by omega) (by omega) ) lk_X2_102 (F.1 3 rfl).2 (F.1 3 rfl).1 rfl rfl dX2_settingNumber_20 (Nat.le_of_ble_eq_true rfl) ⟨by decide, by decide⟩ ⟨by decide, by decide⟩ (fun r3 L M hp => ?_)
    obtain ⟨C, D, F, I, K1, hr⟩ := hp
    have K := K.step K1 (by decide)
    rcases hr with rfl | ⟨rfl, ra4⟩
    · skip
      refine g_if_eq X dX2_settingNumber_23 (tgt := 50) (by decide) (fun _ => ?_) (fun q => absurd (by decide) q)
      refine g_iinc X dX2_settingNumber_50 (j := 0) rfl (v := nI (i8_5 + 1)) (nI_1 i8_5) (by decide) (lv2 := [(5, .int (nI (i8_5 + 1))), (3, .int v8_3), (4, .int v8_4), (0, .ref (a 3)), (1, .ref (a 38)), (2, .int 0)]) rfl ?_
      refine g_goto X dX2_settingNumber_53 (tgt := 8) (by decide) ?_
      refine g_lv [0, 1, 2, 3, 4, 5] (lv2 := [(5, .int (nI (i8_5 + 1))), (3, .int v8_3), (4, .int v8_4), (0, .ref (a 3)), (1, .ref (a 38)), (2, .int 0)]) rfl ?_
      exact ih8 ((i8_5 + 1), v8_3, v8_4) L M C D F I K ⟨by omega, by omega⟩ (by show _ < _; omega)
    · skip
      refine g_if_eq X dX2_settingNumber_23 (tgt := 50) (by decide) (fun q => absurd q (by decide)) (fun _ => ?_)
      refine g_iload_n X dX2_settingNumber_26 rfl (j := 1) rfl ?_
      refine g_aload_n X dX2_settingNumber_27 rfl (j := 4) rfl ?_
      refine g_iload_n X dX2_settingNumber_28 rfl (j := 5) rfl ?_
      refine g_iload X dX2_settingNumber_29 (j := 0) rfl ?_
      refine g_iadd X dX2_settingNumber_31 ?_
      refine Go.top (v := .int (nI (0 + i8_5))) (congrArg Value.int (nI_add 0 i8_5)) ?_
      obtain ⟨n5, hn5, en5⟩ := rg_nat (I 38 (0 + i8_5)) (by decide)
      refine i_iald X F 38 rfl rfl dX2_settingNumber_32 (vp_in_nI (by omega) (by decide)) (v := nI n5) (by rw [nI_clamp (by omega)]; exact en5) ?_
      refine g_iload X dX2_settingNumber_33 (j := 2) rfl ?_
      refine g_imul X dX2_settingNumber_35 ?_
      refine Go.gen (fun o6 => ?_)
      refine g_iadd X dX2_settingNumber_36 ?_
      refine Go.gen (fun o7 => ?_)
      refine g_istore_n X dX2_settingNumber_37 rfl (by decide) (lv2 := [(3, .int o7), (5, .int (nI i8_5)), (4, .int v8_4), (0, .ref (a 3)), (1, .ref (a 38)), (2, .int 0)]) rfl ?_
      refine g_iload X dX2_settingNumber_38 (j := 2) rfl ?_
      refine g_aload_n X dX2_settingNumber_40 rfl (j := 3) rfl ?_
      refine i_get X F 3 rfl rfl fk_X2_43 dX2_settingNumber_41 rfl ?_
      refine g_iload X dX2_settingNumber_44 (j := 1) rfl ?_
      obtain ⟨n8, hn8, en8⟩ := rg_nat (I 5 i8_5) (by decide)
      refine i_iald X F 5 rfl rfl dX2_settingNumber_46 (vp_in_nI (by omega) (by decide)) (v := nI n8) (by rw [nI_clamp (by omega)]; exact en8) ?_
      refine g_imul X dX2_settingNumber_47 ?_
      refine Go.gen (fun o9 => ?_)
      refine g_istore X dX2_settingNumber_48 (by decide) (lv2 := [(4, .int o9), (3, .int o7), (5, .int (nI i8_5)), (0, .ref (a 3)), (1, .ref (a 38)), (2, .int 0)]) rfl ?_
      refine g_iinc X dX2_settingNumber_50 (j := 2) rfl (v := nI (i8_5 + 1)) (nI_1 i8_5) (by decide) (lv2 := [(5, .int (nI (i8_5 + 1))), (4, .int o9), (3, .int o7), (0, .ref (a 3)), (1, .ref (a 38)), (2, .int 0)]) rfl ?_
      refine g_goto X dX2_settingNumber_53 (tgt := 8) (by decide) ?_
      refine g_lv [0, 2, 1, 3, 4, 5] (lv2 := [(5, .int (nI (i8_5 + 1))), (3, .int o7), (4, .int o9), (0, .ref (a 3)), (1, .ref (a 38)), (2, .int 0)]) rfl ?_
      exact ih8 ((i8_5 + 1), o7, o9) L M C D F I K ⟨by omega, by omega⟩ (by show _ < _; omega)
set_option maxHeartbeats 4000000 in
set_option maxRecDepth 100000 in
theorem s_X2_leadsToInn_38 (l : Launch) (G : va_G) {cy : Nat → ClassId} {L : List Nat} {M : Nat → va_E} {a : Nat → Nat} {act : Nat → Bool} {C0 : Nat → Nat → Int32} {D0 : Nat → Nat → Int64} {R : Nat → Nat → Option Nat} (F : WI L M a act (ent cy a C0 D0 R)) (I : Inv C0) (p2 : Nat) (hp2a : 0 ≤ p2) (hp2b : p2 ≤ 6)  : MI l G cy yX2_leadsToInn cX2_leadsToInn 6 (some .boolean) 1 0 0 [.ref (a 3), .ref (a 38), .int 0, .int (nI p2)] L M (fun r L2 M2 => ∃ C2 D2, WI L2 M2 a act (ent cy a C2 D2 R) ∧ Inv C2 ∧ Kp [] C0 D0 C2 D2 ∧ (r = 0 ∨ r = 1)) := by
  refine MI.of (own := RX2) rfl (by decide) (Nat.le_of_ble_eq_true rfl) ?_
  intro p e s m below meth c A X hrt hnm
  obtain ⟨C, D, hC0, hD0, F, I, K⟩ : ∃ C D, C = C0 ∧ D = D0 ∧ WI L M a act (ent cy a C D R) ∧ Inv C ∧ Kp [] C0 D0 C D := ⟨C0, D0, rfl, rfl, F, I, Kp.rf⟩
  refine g_iload_n X dX2_leadsToInn_0 rfl (j := 3) rfl ?_
  refine g_istore X dX2_leadsToInn_1 (by decide) (lv2 := [(4, .int (nI p2)), (0, .ref (a 3)), (1, .ref (a 38)), (2, .int 0), (3, .int (nI p2))]) rfl ?_
  refine g_iconst X dX2_leadsToInn_3 (v := 0) (by decide) ?_
  refine g_istore X dX2_leadsToInn_4 (by decide) (lv2 := [(5, .int 0), (4, .int (nI p2)), (0, .ref (a 3)), (1, .ref (a 38)), (2, .int 0), (3, .int (nI p2))]) rfl ?_
  refine g_lv [0, 1, 2, 3, 4, 5] (lv2 := [(5, .int 0), (4, .int (nI p2)), (0, .ref (a 3)), (1, .ref (a 38)), (2, .int 0), (3, .int (nI p2))]) rfl ?_
  refine i_loop (mods := []) (fun x : Nat × Nat => 7 - x.1) (fun x => [(5, .int (nI (x.1))), (4, .int (nI (x.2))), (0, .ref (a 3)), (1, .ref (a 38)), (2, .int 0), (3, .int (nI p2))]) (fun x C => 0 ≤ x.1 ∧ x.1 ≤ 7 ∧ (x.2 < 7 ∨ (10 ≤ x.2 ∧ x.2 < 14))) (fun x L M C D F I K hP ih6 => ?_) ((0, p2) : Nat × Nat) F I K ⟨by show _ ≤ _; omega, by show _ ≤ _; omega, by show _ ∨ _; omega⟩
  rcases x with ⟨i6_5, i6_4⟩
  obtain ⟨hi6_5a, hi6_5b, hi6_4⟩ := hP
  refine g_lv [0, 1, 2, 3, 4, 5] (lv2 := [(5, .int (nI i6_5)), (4, .int (nI i6_4)), (0, .ref (a 3)), (1, .ref (a 38)), (2, .int 0), (3, .int (nI p2))]) rfl ?_
  refine g_iload X dX2_leadsToInn_6 (j := 0) rfl ?_
  refine g_bipush X dX2_leadsToInn_8 (v := 7) (by decide) ?_
  refine g_icmp_ge X dX2_leadsToInn_10 (tgt := 49) (by decide) (fun q1 => ?_) (fun q1 => ?_)
  · skip
    have q1 : 7 ≤ i6_5 := (nI_leI (a := 7) (b := i6_5) (by omega) (by omega)).mp q1
    refine g_iload X dX2_leadsToInn_49 (j := 1) rfl ?_
    refine g_bipush X dX2_leadsToInn_51 (v := 10) (by decide) ?_
    refine g_icmp_lt X dX2_leadsToInn_53 (tgt := 60) (by decide) (fun q2 => ?_) (fun q2 => ?_)
    · skip
      have q2 : i6_4 < 10 := (nI_ltI (a := i6_4) (b := 10) (by omega) (by omega)).mp q2
      refine g_iconst X dX2_leadsToInn_60 (v := 0) (by decide) ?_
      exact g_zret X hrt rfl dX2_leadsToInn_61 (by decide) (by decide) ⟨C, D, F, I, K, Or.inl rfl⟩
    · skip
      have q2 : ¬ i6_4 < 10 := fun z => q2 ((nI_ltI (a := i6_4) (b := 10) (by omega) (by omega)).mpr z)
      refine g_iconst X dX2_leadsToInn_56 (v := 1) (by decide) ?_
      refine g_goto X dX2_leadsToInn_57 (tgt := 61) (by decide) ?_
      exact g_zret X hrt rfl dX2_leadsToInn_61 (by decide) (by decide) ⟨C, D, F, I, K, Or.inr rfl⟩
  · skip
    have q1 : ¬ 7 ≤ i6_5 := fun z => q1 ((nI_leI (a := 7) (b := i6_5) (by omega) (by omega)).mpr z)
    refine g_iload X dX2_leadsToInn_13 (j := 1) rfl ?_
    refine g_bipush X dX2_leadsToInn_15 (v := 10) (by decide) ?_
    refine g_icmp_ge X dX2_leadsToInn_17 (tgt := 49) (by decide) (fun q3 => ?_) (fun q3 => ?_)
    · skip
      have q3 : 10 ≤ i6_4 := (nI_leI (a := 10) (b := i6_4) (by omega) (by omega)).mp q3
      refine g_iload X dX2_leadsToInn_49 (j := 1) rfl ?_
      refine g_bipush X dX2_leadsToInn_51 (v := 10) (by decide) ?_
      refine g_icmp_lt X dX2_leadsToInn_53 (tgt := 60) (by decide) (fun q4 => ?_) (fun q4 => ?_)
      · skip
        have q4 : i6_4 < 10 := (nI_ltI (a := i6_4) (b := 10) (by omega) (by omega)).mp q4
        refine g_iconst X dX2_leadsToInn_60 (v := 0) (by decide) ?_
        exact g_zret X hrt rfl dX2_leadsToInn_61 (by decide) (by decide) ⟨C, D, F, I, K, Or.inl rfl⟩
      · skip
        have q4 : ¬ i6_4 < 10 := fun z => q4 ((nI_ltI (a := i6_4) (b := 10) (by omega) (by omega)).mpr z)
        refine g_iconst X dX2_leadsToInn_56 (v := 1) (by decide) ?_
        refine g_goto X dX2_leadsToInn_57 (tgt := 61) (by decide) ?_
        exact g_zret X hrt rfl dX2_leadsToInn_61 (by decide) (by decide) ⟨C, D, F, I, K, Or.inr rfl⟩
    · skip
      have q3 : ¬ 10 ≤ i6_4 := fun z => q3 ((nI_leI (a := 10) (b := i6_4) (by omega) (by omega)).mpr z)
      refine g_aload_n X dX2_leadsToInn_20 rfl (j := 2) rfl ?_
      refine g_iload X dX2_leadsToInn_21 (j := 1) rfl ?_
      refine g_callVI X (s_X2_hasArm l G F I i6_4 (by omega) (by omega) ) lk_X2_102 (F.1 3 rfl).2 (F.1 3 rfl).1 rfl rfl dX2_leadsToInn_23 (Nat.le_of_ble_eq_true rfl) ⟨by decide, by decide⟩ ⟨by decide, by decide⟩ (fun r5 L M hp => ?_)
      obtain ⟨C, D, F, I, K1, hr⟩ := hp
      have K := K.step K1 (by decide)
      rcases hr with rfl | ⟨rfl, ra6⟩
      · skip
        refine g_if_eq X dX2_leadsToInn_26 (tgt := 49) (by decide) (fun _ => ?_) (fun q => absurd (by decide) q)
        refine g_iload X dX2_leadsToInn_49 (j := 1) rfl ?_
        refine g_bipush X dX2_leadsToInn_51 (v := 10) (by decide) ?_
        refine g_icmp_lt X dX2_leadsToInn_53 (tgt := 60) (by decide) (fun q7 => ?_) (fun q7 => ?_)
        · skip
          have q7 : i6_4 < 10 := (nI_ltI (a := i6_4) (b := 10) (by omega) (by omega)).mp q7
          refine g_iconst X dX2_leadsToInn_60 (v := 0) (by decide) ?_
          exact g_zret X hrt rfl dX2_leadsToInn_61 (by decide) (by decide) ⟨C, D, F, I, K, Or.inl rfl⟩
        · skip
          have q7 : ¬ i6_4 < 10 := fun z => q7 ((nI_ltI (a := i6_4) (b := 10) (by omega) (by omega)).mpr z)
          refine g_iconst X dX2_leadsToInn_56 (v := 1) (by decide) ?_
          refine g_goto X dX2_leadsToInn_57 (tgt := 61) (by decide) ?_
          exact g_zret X hrt rfl dX2_leadsToInn_61 (by decide) (by decide) ⟨C, D, F, I, K, Or.inr rfl⟩
      · skip
        refine g_if_eq X dX2_leadsToInn_26 (tgt := 49) (by decide) (fun q => absurd q (by decide)) (fun _ => ?_)
        refine g_aload_n X dX2_leadsToInn_29 rfl (j := 2) rfl ?_
        refine g_iload X dX2_leadsToInn_30 (j := 1) rfl ?_
        refine g_aload_n X dX2_leadsToInn_32 rfl (j := 3) rfl ?_
        refine g_iload_n X dX2_leadsToInn_33 rfl (j := 4) rfl ?_
        refine g_iload X dX2_leadsToInn_34 (j := 1) rfl ?_
        refine g_iadd X dX2_leadsToInn_36 ?_
        refine Go.top (v := .int (nI (0 + i6_4))) (congrArg Value.int (nI_add 0 i6_4)) ?_
        obtain ⟨n8, hn8, en8⟩ := rg_nat (I 38 (0 + i6_4)) (by decide)
        refine i_iald X F 38 rfl rfl dX2_leadsToInn_37 (vp_in_nI (by omega) (by decide)) (v := nI n8) (by rw [nI_clamp (by omega)]; exact en8) ?_
        refine g_callVI X (s_X2_goal l G F I i6_4 (by omega) (by omega) n8 (by omega) (by omega) ) lk_X2_98 (F.1 3 rfl).2 (F.1 3 rfl).1 rfl rfl dX2_leadsToInn_38 (Nat.le_of_ble_eq_true rfl) ⟨by decide, by decide⟩ ⟨by decide, by decide⟩ (fun r9 L M hp => ?_)
        obtain ⟨C, D, F, I, K1, hr⟩ := hp
        have K := K.step K1 (by decide)
        have ra6 : 1 ≤ (C 5 i6_4).toInt := by rw [(K1 5 (by decide)).1]; exact ra6
        obtain ⟨n10, hn10, rfl⟩ := hr
        refine g_istore X dX2_leadsToInn_41 (by decide) (lv2 := [(4, .int (nI n10)), (5, .int (nI i6_5)), (0, .ref (a 3)), (1, .ref (a 38)), (2, .int 0), (3, .int (nI p2))]) rfl ?_
        refine g_iinc X dX2_leadsToInn_43 (j := 1) rfl (v := nI (i6_5 + 1)) (nI_1 i6_5) (by decide) (lv2 := [(5, .int (nI (i6_5 + 1))), (4, .int (nI n10)), (0, .ref (a 3)), (1, .ref (a 38)), (2, .int 0), (3, .int (nI p2))]) rfl ?_
        refine g_goto X dX2_leadsToInn_46 (tgt := 6) (by decide) ?_
        refine g_lv [0, 1, 2, 3, 4, 5] (lv2 := [(5, .int (nI (i6_5 + 1))), (4, .int (nI n10)), (0, .ref (a 3)), (1, .ref (a 38)), (2, .int 0), (3, .int (nI p2))]) rfl ?_
        exact ih6 ((i6_5 + 1), n10) L M C D F I K ⟨by omega, by omega, by omega⟩ (by show _ < _; omega)
set_option maxHeartbeats 4000000 in
set_option maxRecDepth 100000 in
theorem s_X2_isTree_38 (l : Launch) (G : va_G) {cy : Nat → ClassId} {L : List Nat} {M : Nat → va_E} {a : Nat → Nat} {act : Nat → Bool} {C0 : Nat → Nat → Int32} {D0 : Nat → Nat → Int64} {R : Nat → Nat → Option Nat} (F : WI L M a act (ent cy a C0 D0 R)) (I : Inv C0)   : MI l G cy yX2_isTree cX2_isTree 4 (some .boolean) 2 0 0 [.ref (a 3), .ref (a 38), .int 0] L M (fun r L2 M2 => ∃ C2 D2, WI L2 M2 a act (ent cy a C2 D2 R) ∧ Inv C2 ∧ Kp [] C0 D0 C2 D2 ∧ (r = 0 ∨ r = 1)) := by
  refine MI.of (own := RX2) rfl (by decide) (Nat.le_of_ble_eq_true rfl) ?_
  intro p e s m below meth c A X hrt hnm
  obtain ⟨C, D, hC0, hD0, F, I, K⟩ : ∃ C D, C = C0 ∧ D = D0 ∧ WI L M a act (ent cy a C D R) ∧ Inv C ∧ Kp [] C0 D0 C D := ⟨C0, D0, rfl, rfl, F, I, Kp.rf⟩
  refine g_iconst X dX2_isTree_0 (v := 0) (by decide) ?_
  refine g_istore_n X dX2_isTree_1 rfl (by decide) (lv2 := [(3, .int 0), (0, .ref (a 3)), (1, .ref (a 38)), (2, .int 0)]) rfl ?_
  refine g_lv [0, 1, 2, 3] (lv2 := [(3, .int 0), (0, .ref (a 3)), (1, .ref (a 38)), (2, .int 0)]) rfl ?_
  refine i_loop (mods := []) (fun x : Nat => 7 - x) (fun x => [(3, .int (nI (x))), (0, .ref (a 3)), (1, .ref (a 38)), (2, .int 0)]) (fun x C => 0 ≤ x ∧ x ≤ 7) (fun x L M C D F I K hP ih2 => ?_) ((0) : Nat) F I K ⟨by show _ ≤ _; omega, by show _ ≤ _; omega⟩
  obtain ⟨i2_3, rfl⟩ : ∃ z, z = x := ⟨_, rfl⟩
  obtain ⟨hi2_3a, hi2_3b⟩ := hP
  refine g_lv [0, 1, 2, 3] (lv2 := [(3, .int (nI i2_3)), (0, .ref (a 3)), (1, .ref (a 38)), (2, .int 0)]) rfl ?_
  refine g_iload_n X dX2_isTree_2 rfl (j := 0) rfl ?_
  refine g_aload_n X dX2_isTree_3 rfl (j := 1) rfl ?_
  obtain ⟨n1, hn1, en1⟩ := rg_nat ((I 3 5).2.2.1 rfl) (by decide)
  refine i_get X F 3 rfl rfl fk_X2_27 dX2_isTree_4 (v := .int (nI n1)) (congrArg (fun z => some (Value.int z)) en1) ?_
  refine g_icmp_ge X dX2_isTree_7 (tgt := 36) (by decide) (fun q2 => ?_) (fun q2 => ?_)
  · skip
    have q2 : n1 ≤ i2_3 := (nI_leI (a := n1) (b := i2_3) (by omega) (by omega)).mp q2
    refine g_iconst X dX2_isTree_36 (v := 1) (by decide) ?_
    exact g_zret X hrt rfl dX2_isTree_37 (by decide) (by decide) ⟨C, D, F, I, K, Or.inr rfl⟩
  · skip
    have q2 : ¬ n1 ≤ i2_3 := fun z => q2 ((nI_leI (a := n1) (b := i2_3) (by omega) (by omega)).mpr z)
    refine g_aload_n X dX2_isTree_10 rfl (j := 1) rfl ?_
    refine g_iload_n X dX2_isTree_11 rfl (j := 0) rfl ?_
    refine g_callVI X (s_X2_hasArm l G F I i2_3 (by omega) (by omega) ) lk_X2_102 (F.1 3 rfl).2 (F.1 3 rfl).1 rfl rfl dX2_isTree_12 (Nat.le_of_ble_eq_true rfl) ⟨by decide, by decide⟩ ⟨by decide, by decide⟩ (fun r3 L M hp => ?_)
    obtain ⟨C, D, F, I, K1, hr⟩ := hp
    have K := K.step K1 (by decide)
    rcases hr with rfl | ⟨rfl, ra4⟩
    · skip
      refine g_if_eq X dX2_isTree_15 (tgt := 30) (by decide) (fun _ => ?_) (fun q => absurd (by decide) q)
      refine g_iinc X dX2_isTree_30 (j := 0) rfl (v := nI (i2_3 + 1)) (nI_1 i2_3) (by decide) (lv2 := [(3, .int (nI (i2_3 + 1))), (0, .ref (a 3)), (1, .ref (a 38)), (2, .int 0)]) rfl ?_
      refine g_goto X dX2_isTree_33 (tgt := 2) (by decide) ?_
      refine g_lv [0, 1, 2, 3] (lv2 := [(3, .int (nI (i2_3 + 1))), (0, .ref (a 3)), (1, .ref (a 38)), (2, .int 0)]) rfl ?_
      exact ih2 ((i2_3 + 1)) L M C D F I K ⟨by omega, by omega⟩ (by show _ < _; omega)
    · skip
      refine g_if_eq X dX2_isTree_15 (tgt := 30) (by decide) (fun q => absurd q (by decide)) (fun _ => ?_)
      refine g_aload_n X dX2_isTree_18 rfl (j := 1) rfl ?_
      refine g_aload_n X dX2_isTree_19 rfl (j := 2) rfl ?_
      refine g_iload_n X dX2_isTree_20 rfl (j := 3) rfl ?_
      refine g_iload_n X dX2_isTree_21 rfl (j := 0) rfl ?_
      refine g_callVI X (s_X2_leadsToInn_38 l G F I i2_3 (by omega) (by omega) ) lk_X2_109 (F.1 3 rfl).2 (F.1 3 rfl).1 rfl rfl dX2_isTree_22 (Nat.le_of_ble_eq_true rfl) ⟨by decide, by decide⟩ ⟨by decide, by decide⟩ (fun r5 L M hp => ?_)
      obtain ⟨C, D, F, I, K1, hr⟩ := hp
      have K := K.step K1 (by decide)
      have ra4 : 1 ≤ (C 5 i2_3).toInt := by rw [(K1 5 (by decide)).1]; exact ra4
      rcases hr with rfl | rfl
      · skip
        refine g_if_ne X dX2_isTree_25 (tgt := 30) (by decide) (fun q => absurd (by decide) q) (fun _ => ?_)
        refine g_iconst X dX2_isTree_28 (v := 0) (by decide) ?_
        exact g_zret X hrt rfl dX2_isTree_29 (by decide) (by decide) ⟨C, D, F, I, K, Or.inl rfl⟩
      · skip
        refine g_if_ne X dX2_isTree_25 (tgt := 30) (by decide) (fun _ => ?_) (fun q => absurd q (by decide))
        refine g_iinc X dX2_isTree_30 (j := 0) rfl (v := nI (i2_3 + 1)) (nI_1 i2_3) (by decide) (lv2 := [(3, .int (nI (i2_3 + 1))), (0, .ref (a 3)), (1, .ref (a 38)), (2, .int 0)]) rfl ?_
        refine g_goto X dX2_isTree_33 (tgt := 2) (by decide) ?_
        refine g_lv [0, 1, 2, 3] (lv2 := [(3, .int (nI (i2_3 + 1))), (0, .ref (a 3)), (1, .ref (a 38)), (2, .int 0)]) rfl ?_
        exact ih2 ((i2_3 + 1)) L M C D F I K ⟨by omega, by omega⟩ (by show _ < _; omega)
set_option maxHeartbeats 4000000 in
set_option maxRecDepth 100000 in
theorem s_X2_leadsBack_38 (l : Launch) (G : va_G) {cy : Nat → ClassId} {L : List Nat} {M : Nat → va_E} {a : Nat → Nat} {act : Nat → Bool} {C0 : Nat → Nat → Int32} {D0 : Nat → Nat → Int64} {R : Nat → Nat → Option Nat} (F : WI L M a act (ent cy a C0 D0 R)) (I : Inv C0) (p2 : Nat) (hp2a : 0 ≤ p2) (hp2b : p2 ≤ 6)  : MI l G cy yX2_leadsBack cX2_leadsBack 6 (some .boolean) 1 0 0 [.ref (a 3), .ref (a 38), .int 0, .int (nI p2)] L M (fun r L2 M2 => ∃ C2 D2, WI L2 M2 a act (ent cy a C2 D2 R) ∧ Inv C2 ∧ Kp [] C0 D0 C2 D2 ∧ (r = 0 ∨ r = 1)) := by
  refine MI.of (own := RX2) rfl (by decide) (Nat.le_of_ble_eq_true rfl) ?_
  intro p e s m below meth c A X hrt hnm
  obtain ⟨C, D, hC0, hD0, F, I, K⟩ : ∃ C D, C = C0 ∧ D = D0 ∧ WI L M a act (ent cy a C D R) ∧ Inv C ∧ Kp [] C0 D0 C D := ⟨C0, D0, rfl, rfl, F, I, Kp.rf⟩
  refine g_iload_n X dX2_leadsBack_0 rfl (j := 3) rfl ?_
  refine g_istore X dX2_leadsBack_1 (by decide) (lv2 := [(4, .int (nI p2)), (0, .ref (a 3)), (1, .ref (a 38)), (2, .int 0), (3, .int (nI p2))]) rfl ?_
  refine g_iconst X dX2_leadsBack_3 (v := 0) (by decide) ?_
  refine g_istore X dX2_leadsBack_4 (by decide) (lv2 := [(5, .int 0), (4, .int (nI p2)), (0, .ref (a 3)), (1, .ref (a 38)), (2, .int 0), (3, .int (nI p2))]) rfl ?_
  refine g_lv [0, 1, 2, 3, 4, 5] (lv2 := [(5, .int 0), (4, .int (nI p2)), (0, .ref (a 3)), (1, .ref (a 38)), (2, .int 0), (3, .int (nI p2))]) rfl ?_
  refine i_loop (mods := []) (fun x : Nat × Nat => 7 - x.1) (fun x => [(5, .int (nI (x.1))), (4, .int (nI (x.2))), (0, .ref (a 3)), (1, .ref (a 38)), (2, .int 0), (3, .int (nI p2))]) (fun x C => 0 ≤ x.1 ∧ x.1 ≤ 7 ∧ (x.2 < 7 ∨ (10 ≤ x.2 ∧ x.2 < 14))) (fun x L M C D F I K hP ih6 => ?_) ((0, p2) : Nat × Nat) F I K ⟨by show _ ≤ _; omega, by show _ ≤ _; omega, by show _ ∨ _; omega⟩
  rcases x with ⟨i6_5, i6_4⟩
  obtain ⟨hi6_5a, hi6_5b, hi6_4⟩ := hP
  refine g_lv [0, 1, 2, 3, 4, 5] (lv2 := [(5, .int (nI i6_5)), (4, .int (nI i6_4)), (0, .ref (a 3)), (1, .ref (a 38)), (2, .int 0), (3, .int (nI p2))]) rfl ?_
  refine g_iload X dX2_leadsBack_6 (j := 0) rfl ?_
  refine g_bipush X dX2_leadsBack_8 (v := 7) (by decide) ?_
  refine g_icmp_ge X dX2_leadsBack_10 (tgt := 57) (by decide) (fun q1 => ?_) (fun q1 => ?_)
  · skip
    have q1 : 7 ≤ i6_5 := (nI_leI (a := 7) (b := i6_5) (by omega) (by omega)).mp q1
    refine g_iconst X dX2_leadsBack_57 (v := 0) (by decide) ?_
    exact g_zret X hrt rfl dX2_leadsBack_58 (by decide) (by decide) ⟨C, D, F, I, K, Or.inl rfl⟩
  · skip
    have q1 : ¬ 7 ≤ i6_5 := fun z => q1 ((nI_leI (a := 7) (b := i6_5) (by omega) (by omega)).mpr z)
    refine g_iload X dX2_leadsBack_13 (j := 1) rfl ?_
    refine g_bipush X dX2_leadsBack_15 (v := 10) (by decide) ?_
    refine g_icmp_ge X dX2_leadsBack_17 (tgt := 57) (by decide) (fun q2 => ?_) (fun q2 => ?_)
    · skip
      have q2 : 10 ≤ i6_4 := (nI_leI (a := 10) (b := i6_4) (by omega) (by omega)).mp q2
      refine g_iconst X dX2_leadsBack_57 (v := 0) (by decide) ?_
      exact g_zret X hrt rfl dX2_leadsBack_58 (by decide) (by decide) ⟨C, D, F, I, K, Or.inl rfl⟩
    · skip
      have q2 : ¬ 10 ≤ i6_4 := fun z => q2 ((nI_leI (a := 10) (b := i6_4) (by omega) (by omega)).mpr z)
      refine g_aload_n X dX2_leadsBack_20 rfl (j := 2) rfl ?_
      refine g_iload X dX2_leadsBack_21 (j := 1) rfl ?_
      refine g_callVI X (s_X2_hasArm l G F I i6_4 (by omega) (by omega) ) lk_X2_102 (F.1 3 rfl).2 (F.1 3 rfl).1 rfl rfl dX2_leadsBack_23 (Nat.le_of_ble_eq_true rfl) ⟨by decide, by decide⟩ ⟨by decide, by decide⟩ (fun r3 L M hp => ?_)
      obtain ⟨C, D, F, I, K1, hr⟩ := hp
      have K := K.step K1 (by decide)
      rcases hr with rfl | ⟨rfl, ra4⟩
      · skip
        refine g_if_eq X dX2_leadsBack_26 (tgt := 57) (by decide) (fun _ => ?_) (fun q => absurd (by decide) q)
        refine g_iconst X dX2_leadsBack_57 (v := 0) (by decide) ?_
        exact g_zret X hrt rfl dX2_leadsBack_58 (by decide) (by decide) ⟨C, D, F, I, K, Or.inl rfl⟩
      · skip
        refine g_if_eq X dX2_leadsBack_26 (tgt := 57) (by decide) (fun q => absurd q (by decide)) (fun _ => ?_)
        refine g_aload_n X dX2_leadsBack_29 rfl (j := 2) rfl ?_
        refine g_iload X dX2_leadsBack_30 (j := 1) rfl ?_
        refine g_aload_n X dX2_leadsBack_32 rfl (j := 3) rfl ?_
        refine g_iload_n X dX2_leadsBack_33 rfl (j := 4) rfl ?_
        refine g_iload X dX2_leadsBack_34 (j := 1) rfl ?_
        refine g_iadd X dX2_leadsBack_36 ?_
        refine Go.top (v := .int (nI (0 + i6_4))) (congrArg Value.int (nI_add 0 i6_4)) ?_
        obtain ⟨n5, hn5, en5⟩ := rg_nat (I 38 (0 + i6_4)) (by decide)
        refine i_iald X F 38 rfl rfl dX2_leadsBack_37 (vp_in_nI (by omega) (by decide)) (v := nI n5) (by rw [nI_clamp (by omega)]; exact en5) ?_
        refine g_callVI X (s_X2_goal l G F I i6_4 (by omega) (by omega) n5 (by omega) (by omega) ) lk_X2_98 (F.1 3 rfl).2 (F.1 3 rfl).1 rfl rfl dX2_leadsBack_38 (Nat.le_of_ble_eq_true rfl) ⟨by decide, by decide⟩ ⟨by decide, by decide⟩ (fun r6 L M hp => ?_)
        obtain ⟨C, D, F, I, K1, hr⟩ := hp
        have K := K.step K1 (by decide)
        have ra4 : 1 ≤ (C 5 i6_4).toInt := by rw [(K1 5 (by decide)).1]; exact ra4
        obtain ⟨n7, hn7, rfl⟩ := hr
        refine g_istore X dX2_leadsBack_41 (by decide) (lv2 := [(4, .int (nI n7)), (5, .int (nI i6_5)), (0, .ref (a 3)), (1, .ref (a 38)), (2, .int 0), (3, .int (nI p2))]) rfl ?_
        refine g_iload X dX2_leadsBack_43 (j := 0) rfl ?_
        refine g_iload_n X dX2_leadsBack_45 rfl (j := 5) rfl ?_
        refine g_icmp_ne X dX2_leadsBack_46 (tgt := 51) (by decide) (fun q8 => ?_) (fun q8 => ?_)
        · skip
          have q8 : ¬ n7 = p2 := fun z => q8 ((nI_eq (a := n7) (b := p2) (by omega) (by omega)).mpr z)
          refine g_iinc X dX2_leadsBack_51 (j := 1) rfl (v := nI (i6_5 + 1)) (nI_1 i6_5) (by decide) (lv2 := [(5, .int (nI (i6_5 + 1))), (4, .int (nI n7)), (0, .ref (a 3)), (1, .ref (a 38)), (2, .int 0), (3, .int (nI p2))]) rfl ?_
          refine g_goto X dX2_leadsBack_54 (tgt := 6) (by decide) ?_
          refine g_lv [0, 1, 2, 3, 4, 5] (lv2 := [(5, .int (nI (i6_5 + 1))), (4, .int (nI n7)), (0, .ref (a 3)), (1, .ref (a 38)), (2, .int 0), (3, .int (nI p2))]) rfl ?_
          exact ih6 ((i6_5 + 1), n7) L M C D F I K ⟨by omega, by omega, by omega⟩ (by show _ < _; omega)
        · skip
          have q8 : n7 = p2 := (nI_eq (a := n7) (b := p2) (by omega) (by omega)).mp q8
          refine g_iconst X dX2_leadsBack_49 (v := 1) (by decide) ?_
          exact g_zret X hrt rfl dX2_leadsBack_50 (by decide) (by decide) ⟨C, D, F, I, K, Or.inr rfl⟩
set_option maxHeartbeats 4000000 in
set_option maxRecDepth 100000 in
theorem s_X2_postsOnRings_38 (l : Launch) (G : va_G) {cy : Nat → ClassId} {L : List Nat} {M : Nat → va_E} {a : Nat → Nat} {act : Nat → Bool} {C0 : Nat → Nat → Int32} {D0 : Nat → Nat → Int64} {R : Nat → Nat → Option Nat} (F : WI L M a act (ent cy a C0 D0 R)) (I : Inv C0)   : MI l G cy yX2_postsOnRings cX2_postsOnRings 5 (some .int) 2 0 0 [.ref (a 3), .ref (a 38), .int 0] L M (fun r L2 M2 => ∃ C2 D2, WI L2 M2 a act (ent cy a C2 D2 R) ∧ Inv C2 ∧ Kp [] C0 D0 C2 D2 ∧ True) := by
  refine MI.of (own := RX2) rfl (by decide) (Nat.le_of_ble_eq_true rfl) ?_
  intro p e s m below meth c A X hrt hnm
  obtain ⟨C, D, hC0, hD0, F, I, K⟩ : ∃ C D, C = C0 ∧ D = D0 ∧ WI L M a act (ent cy a C D R) ∧ Inv C ∧ Kp [] C0 D0 C D := ⟨C0, D0, rfl, rfl, F, I, Kp.rf⟩
  refine g_iconst X dX2_postsOnRings_0 (v := 0) (by decide) ?_
  refine g_istore_n X dX2_postsOnRings_1 rfl (by decide) (lv2 := [(3, .int 0), (0, .ref (a 3)), (1, .ref (a 38)), (2, .int 0)]) rfl ?_
  refine g_iconst X dX2_postsOnRings_2 (v := 0) (by decide) ?_
  refine g_istore X dX2_postsOnRings_3 (by decide) (lv2 := [(4, .int 0), (3, .int 0), (0, .ref (a 3)), (1, .ref (a 38)), (2, .int 0)]) rfl ?_
  refine g_lv [0, 1, 2, 3, 4] (lv2 := [(4, .int 0), (3, .int 0), (0, .ref (a 3)), (1, .ref (a 38)), (2, .int 0)]) rfl ?_
  refine i_loop (mods := []) (fun x : Nat × Int32 => 7 - x.1) (fun x => [(4, .int (nI (x.1))), (3, .int (x.2)), (0, .ref (a 3)), (1, .ref (a 38)), (2, .int 0)]) (fun x C => 0 ≤ x.1 ∧ x.1 ≤ 7) (fun x L M C D F I K hP ih5 => ?_) ((0, 0) : Nat × Int32) F I K ⟨by show _ ≤ _; omega, by show _ ≤ _; omega⟩
  rcases x with ⟨i5_4, v5_3⟩
  obtain ⟨hi5_4a, hi5_4b⟩ := hP
  refine g_lv [0, 1, 2, 3, 4] (lv2 := [(4, .int (nI i5_4)), (3, .int v5_3), (0, .ref (a 3)), (1, .ref (a 38)), (2, .int 0)]) rfl ?_
  refine g_iload X dX2_postsOnRings_5 (j := 0) rfl ?_
  refine g_aload_n X dX2_postsOnRings_7 rfl (j := 2) rfl ?_
  obtain ⟨n1, hn1, en1⟩ := rg_nat ((I 3 5).2.2.1 rfl) (by decide)
  refine i_get X F 3 rfl rfl fk_X2_27 dX2_postsOnRings_8 (v := .int (nI n1)) (congrArg (fun z => some (Value.int z)) en1) ?_
  refine g_icmp_ge X dX2_postsOnRings_11 (tgt := 38) (by decide) (fun q2 => ?_) (fun q2 => ?_)
  · skip
    have q2 : n1 ≤ i5_4 := (nI_leI (a := n1) (b := i5_4) (by omega) (by omega)).mp q2
    refine g_iload_n X dX2_postsOnRings_38 rfl (j := 1) rfl ?_
    exact g_iret X hrt dX2_postsOnRings_39 (by decide) (by decide) ⟨C, D, F, I, K, trivial⟩
  · skip
    have q2 : ¬ n1 ≤ i5_4 := fun z => q2 ((nI_leI (a := n1) (b := i5_4) (by omega) (by omega)).mpr z)
    refine g_aload_n X dX2_postsOnRings_14 rfl (j := 2) rfl ?_
    refine g_aload_n X dX2_postsOnRings_15 rfl (j := 3) rfl ?_
    refine g_iload_n X dX2_postsOnRings_16 rfl (j := 4) rfl ?_
    refine g_iload X dX2_postsOnRings_17 (j := 0) rfl ?_
    refine g_callVI X (s_X2_leadsBack_38 l G F I i5_4 (by omega) (by omega) ) lk_X2_113 (F.1 3 rfl).2 (F.1 3 rfl).1 rfl rfl dX2_postsOnRings_19 (Nat.le_of_ble_eq_true rfl) ⟨by decide, by decide⟩ ⟨by decide, by decide⟩ (fun r3 L M hp => ?_)
    obtain ⟨C, D, F, I, K1, hr⟩ := hp
    have K := K.step K1 (by decide)
    rcases hr with rfl | rfl
    · skip
      refine g_if_eq X dX2_postsOnRings_22 (tgt := 32) (by decide) (fun _ => ?_) (fun q => absurd (by decide) q)
      refine g_iinc X dX2_postsOnRings_32 (j := 0) rfl (v := nI (i5_4 + 1)) (nI_1 i5_4) (by decide) (lv2 := [(4, .int (nI (i5_4 + 1))), (3, .int v5_3), (0, .ref (a 3)), (1, .ref (a 38)), (2, .int 0)]) rfl ?_
      refine g_goto X dX2_postsOnRings_35 (tgt := 5) (by decide) ?_
      refine g_lv [0, 1, 2, 3, 4] (lv2 := [(4, .int (nI (i5_4 + 1))), (3, .int v5_3), (0, .ref (a 3)), (1, .ref (a 38)), (2, .int 0)]) rfl ?_
      exact ih5 ((i5_4 + 1), v5_3) L M C D F I K ⟨by omega, by omega⟩ (by show _ < _; omega)
    · skip
      refine g_if_eq X dX2_postsOnRings_22 (tgt := 32) (by decide) (fun q => absurd q (by decide)) (fun _ => ?_)
      refine g_iload_n X dX2_postsOnRings_25 rfl (j := 1) rfl ?_
      refine g_iconst X dX2_postsOnRings_26 (v := 1) (by decide) ?_
      refine g_iload X dX2_postsOnRings_27 (j := 0) rfl ?_
      refine g_ishl X dX2_postsOnRings_29 ?_
      refine Go.gen (fun o4 => ?_)
      refine g_ior X dX2_postsOnRings_30 ?_
      refine Go.gen (fun o5 => ?_)
      refine g_istore_n X dX2_postsOnRings_31 rfl (by decide) (lv2 := [(3, .int o5), (4, .int (nI i5_4)), (0, .ref (a 3)), (1, .ref (a 38)), (2, .int 0)]) rfl ?_
      refine g_iinc X dX2_postsOnRings_32 (j := 1) rfl (v := nI (i5_4 + 1)) (nI_1 i5_4) (by decide) (lv2 := [(4, .int (nI (i5_4 + 1))), (3, .int o5), (0, .ref (a 3)), (1, .ref (a 38)), (2, .int 0)]) rfl ?_
      refine g_goto X dX2_postsOnRings_35 (tgt := 5) (by decide) ?_
      refine g_lv [0, 1, 2, 3, 4] (lv2 := [(4, .int (nI (i5_4 + 1))), (3, .int o5), (0, .ref (a 3)), (1, .ref (a 38)), (2, .int 0)]) rfl ?_
      exact ih5 ((i5_4 + 1), o5) L M C D F I K ⟨by omega, by omega⟩ (by show _ < _; omega)
set_option maxHeartbeats 4000000 in
set_option maxRecDepth 100000 in
theorem s_X2_sendBy_38 (l : Launch) (G : va_G) {cy : Nat → ClassId} {L : List Nat} {M : Nat → va_E} {a : Nat → Nat} {act : Nat → Bool} {C0 : Nat → Nat → Int32} {D0 : Nat → Nat → Int64} {R : Nat → Nat → Option Nat} (F : WI L M a act (ent cy a C0 D0 R)) (I : Inv C0) (p2 : Nat) (hp2a : 0 ≤ p2) (hp2b : p2 ≤ 6) (p3 : Int32) (hra : 1 ≤ (C0 5 p2).toInt) : MI l G cy yX2_sendBy cX2_sendBy 7 (some .int) 0 0 0 [.ref (a 3), .ref (a 38), .int 0, .int (nI p2), .int p3] L M (fun r L2 M2 => ∃ C2 D2, WI L2 M2 a act (ent cy a C2 D2 R) ∧ Inv C2 ∧ Kp [38] C0 D0 C2 D2 ∧ ∃ n : Nat, 0 ≤ n ∧ n ≤ 3 ∧ r = nI n) := by
  refine MI.of (own := RX2) rfl (by decide) (Nat.le_of_ble_eq_true rfl) ?_
  intro p e s m below meth c A X hrt hnm
  obtain ⟨C, D, hC0, hD0, F, I, K⟩ : ∃ C D, C = C0 ∧ D = D0 ∧ WI L M a act (ent cy a C D R) ∧ Inv C ∧ Kp [38] C0 D0 C D := ⟨C0, D0, rfl, rfl, F, I, Kp.rf⟩
  rw [← hC0] at hra
  refine g_aload_n X dX2_sendBy_0 rfl (j := 1) rfl ?_
  refine g_iload_n X dX2_sendBy_1 rfl (j := 2) rfl ?_
  refine g_iload_n X dX2_sendBy_2 rfl (j := 3) rfl ?_
  refine g_iadd X dX2_sendBy_3 ?_
  refine Go.top (v := .int (nI (0 + p2))) (congrArg Value.int (nI_add 0 p2)) ?_
  obtain ⟨n1, hn1, en1⟩ := rg_nat (I 38 (0 + p2)) (by decide)
  refine i_iald X F 38 rfl rfl dX2_sendBy_4 (vp_in_nI (by omega) (by decide)) (v := nI n1) (by rw [nI_clamp (by omega)]; exact en1) ?_
  refine g_istore X dX2_sendBy_5 (by decide) (lv2 := [(5, .int (nI n1)), (0, .ref (a 3)), (1, .ref (a 38)), (2, .int 0), (3, .int (nI p2)), (4, .int p3)]) rfl ?_
  refine g_iload X dX2_sendBy_7 (j := 0) rfl ?_
  refine g_iconst X dX2_sendBy_9 (v := 1) (by decide) ?_
  refine g_iadd X dX2_sendBy_10 ?_
  refine Go.top (v := .int (nI (n1 + 1))) (congrArg Value.int (nI_add n1 1)) ?_
  refine g_aload_n X dX2_sendBy_11 rfl (j := 1) rfl ?_
  refine i_get X F 3 rfl rfl fk_X2_43 dX2_sendBy_12 rfl ?_
  refine g_iload_n X dX2_sendBy_15 rfl (j := 4) rfl ?_
  obtain ⟨n2, hn2, en2⟩ := rg_nat (I 5 p2) (by decide)
  refine i_iald X F 5 rfl rfl dX2_sendBy_16 (vp_in_nI (by omega) (by decide)) (v := nI n2) (by rw [nI_clamp (by omega)]; exact en2) ?_
  refine g_icmp_ge X dX2_sendBy_17 (tgt := 27) (by decide) (fun q3 => ?_) (fun q3 => ?_)
  · skip
    have q3 : n2 ≤ (n1 + 1) := (nI_leI (a := n2) (b := (n1 + 1)) (by omega) (by omega)).mp q3
    refine g_iconst X dX2_sendBy_27 (v := 0) (by decide) ?_
    refine g_istore X dX2_sendBy_28 (by decide) (lv2 := [(6, .int 0), (5, .int (nI n1)), (0, .ref (a 3)), (1, .ref (a 38)), (2, .int 0), (3, .int (nI p2)), (4, .int p3)]) rfl ?_
    refine g_iload X dX2_sendBy_30 (j := 6) rfl ?_
    rcases sc4 p3 with h4 | h5 | rfl | rfl | rfl | rfl
    · skip
      refine g_tableOut X dX2_sendBy_32 (Or.inl (by have z := Int32.lt_iff_toInt_lt.mp h4; have k : (0 : Int32).toInt = 0 := (by decide); omega)) (tgt := 138) (by decide) ?_
      refine g_iload X dX2_sendBy_138 (j := 1) rfl ?_
      exact g_iret X hrt dX2_sendBy_140 (by decide) (by decide) ⟨C, D, F, I, K, ⟨n1, by omega, by omega, rfl⟩⟩
    · skip
      refine g_tableOut X dX2_sendBy_32 (Or.inr (by have z := Int32.le_iff_toInt_le.mp h5; have k : (4 : Int32).toInt = 4 := (by decide); omega)) (tgt := 138) (by decide) ?_
      refine g_iload X dX2_sendBy_138 (j := 1) rfl ?_
      exact g_iret X hrt dX2_sendBy_140 (by decide) (by decide) ⟨C, D, F, I, K, ⟨n1, by omega, by omega, rfl⟩⟩
    · skip
      refine g_tableIn X dX2_sendBy_32 (by decide) (by decide) (off := 32) (by decide) (tgt := 64) (by decide) ?_
      refine g_aload_n X dX2_sendBy_64 rfl (j := 3) rfl ?_
      refine g_iload_n X dX2_sendBy_65 rfl (j := 4) rfl ?_
      refine g_iload_n X dX2_sendBy_66 rfl (j := 5) rfl ?_
      refine g_iadd X dX2_sendBy_67 ?_
      refine Go.top (v := .int (nI (0 + p2))) (congrArg Value.int (nI_add 0 p2)) ?_
      refine g_iload X dX2_sendBy_68 (j := 0) rfl ?_
      refine i_iast X F I 38 rfl (fun _ => rfl) dX2_sendBy_70 (vp_in_nI (by omega) (by decide)) (rg_of (n := 0) (by omega) (by omega) (by omega)) (fun M C F I K1 hC => ?_)
      have K := K.step K1 (by decide)
      refine g_iload X dX2_sendBy_71 (j := 1) rfl ?_
      exact g_iret X hrt dX2_sendBy_73 (by decide) (by decide) ⟨C, D, F, I, K, ⟨n1, by omega, by omega, rfl⟩⟩
    · skip
      refine g_tableIn X dX2_sendBy_32 (by decide) (by decide) (off := 42) (by decide) (tgt := 74) (by decide) ?_
      refine g_aload_n X dX2_sendBy_74 rfl (j := 3) rfl ?_
      refine g_iload_n X dX2_sendBy_75 rfl (j := 4) rfl ?_
      refine g_iload_n X dX2_sendBy_76 rfl (j := 5) rfl ?_
      refine g_iadd X dX2_sendBy_77 ?_
      refine Go.top (v := .int (nI (0 + p2))) (congrArg Value.int (nI_add 0 p2)) ?_
      refine g_iload X dX2_sendBy_78 (j := 0) rfl ?_
      refine i_iast X F I 38 rfl (fun _ => rfl) dX2_sendBy_80 (vp_in_nI (by omega) (by decide)) (rg_of (n := 0) (by omega) (by omega) (by omega)) (fun M C F I K1 hC => ?_)
      have K := K.step K1 (by decide)
      refine g_iload X dX2_sendBy_81 (j := 0) rfl ?_
      exact g_iret X hrt dX2_sendBy_83 (by decide) (by decide) ⟨C, D, F, I, K, ⟨0, by omega, by omega, rfl⟩⟩
    · skip
      refine g_tableIn X dX2_sendBy_32 (by decide) (by decide) (off := 52) (by decide) (tgt := 84) (by decide) ?_
      refine g_aload_n X dX2_sendBy_84 rfl (j := 3) rfl ?_
      refine g_iload_n X dX2_sendBy_85 rfl (j := 4) rfl ?_
      refine g_iload_n X dX2_sendBy_86 rfl (j := 5) rfl ?_
      refine g_iadd X dX2_sendBy_87 ?_
      refine Go.top (v := .int (nI (0 + p2))) (congrArg Value.int (nI_add 0 p2)) ?_
      refine g_iload X dX2_sendBy_88 (j := 1) rfl ?_
      refine g_if_le X dX2_sendBy_90 (tgt := 100) (by decide) (fun q6 => ?_) (fun q6 => ?_)
      · skip
        have q6 : n1 ≤ 0 := (nI_leI (a := n1) (b := 0) (by omega) (by omega)).mp q6
        refine g_aload_n X dX2_sendBy_100 rfl (j := 2) rfl ?_
        refine i_get X F 3 rfl rfl fk_X2_43 dX2_sendBy_101 rfl ?_
        refine g_iload_n X dX2_sendBy_104 rfl (j := 5) rfl ?_
        obtain ⟨n7, hn7, en7⟩ := rg_nat (I 5 p2) (by decide)
        refine i_iald X F 5 rfl rfl dX2_sendBy_105 (vp_in_nI (by omega) (by decide)) (v := nI n7) (by rw [nI_clamp (by omega)]; exact en7) ?_
        refine g_iconst X dX2_sendBy_106 (v := 1) (by decide) ?_
        have hn7_1 : 1 ≤ n7 := by rw [en7, nI_toInt (by omega)] at hra; omega
        refine g_isub X dX2_sendBy_107 ?_
        refine Go.top (v := .int (nI (n7 - 1))) (congrArg Value.int (pk_sub (a := n7) (b := 1) (by omega))) ?_
        refine i_iast X F I 38 rfl (fun _ => rfl) dX2_sendBy_108 (vp_in_nI (by omega) (by decide)) (rg_of (n := (n7 - 1)) (by omega) (by omega) (by omega)) (fun M C F I K1 hC => ?_)
        have K := K.step K1 (by decide)
        refine g_iload X dX2_sendBy_109 (j := 1) rfl ?_
        exact g_iret X hrt dX2_sendBy_111 (by decide) (by decide) ⟨C, D, F, I, K, ⟨n1, by omega, by omega, rfl⟩⟩
      · skip
        have q6 : ¬ n1 ≤ 0 := fun z => q6 ((nI_leI (a := n1) (b := 0) (by omega) (by omega)).mpr z)
        refine g_iload X dX2_sendBy_93 (j := 1) rfl ?_
        refine g_iconst X dX2_sendBy_95 (v := 1) (by decide) ?_
        refine g_isub X dX2_sendBy_96 ?_
        refine Go.top (v := .int (nI (n1 - 1))) (congrArg Value.int (pk_sub (a := n1) (b := 1) (by omega))) ?_
        refine g_goto X dX2_sendBy_97 (tgt := 108) (by decide) ?_
        refine i_iast X F I 38 rfl (fun _ => rfl) dX2_sendBy_108 (vp_in_nI (by omega) (by decide)) (rg_of (n := (n1 - 1)) (by omega) (by omega) (by omega)) (fun M C F I K1 hC => ?_)
        have K := K.step K1 (by decide)
        refine g_iload X dX2_sendBy_109 (j := 1) rfl ?_
        exact g_iret X hrt dX2_sendBy_111 (by decide) (by decide) ⟨C, D, F, I, K, ⟨n1, by omega, by omega, rfl⟩⟩
    · skip
      refine g_tableIn X dX2_sendBy_32 (by decide) (by decide) (off := 80) (by decide) (tgt := 112) (by decide) ?_
      refine g_aload_n X dX2_sendBy_112 rfl (j := 2) rfl ?_
      refine i_get X F 3 rfl rfl fk_X2_46 dX2_sendBy_113 rfl ?_
      refine g_iload_n X dX2_sendBy_116 rfl (j := 5) rfl ?_
      refine g_iconst X dX2_sendBy_117 (v := 4) (by decide) ?_
      refine g_imul X dX2_sendBy_118 ?_
      refine Go.top (v := .int (nI (p2 * 4))) (congrArg Value.int (pk_mul p2 4)) ?_
      refine g_iload X dX2_sendBy_119 (j := 1) rfl ?_
      refine g_iadd X dX2_sendBy_121 ?_
      refine Go.top (v := .int (nI ((p2 * 4) + n1))) (congrArg Value.int (nI_add (p2 * 4) n1)) ?_
      obtain ⟨n8, hn8, en8⟩ := gl_nat (I 6 ((p2 * 4) + n1))
      refine i_iald X F 6 rfl rfl dX2_sendBy_122 (vp_in_nI (by omega) (by decide)) (v := nI n8) (by rw [nI_clamp (by omega)]; exact en8) ?_
      refine g_bipush X dX2_sendBy_123 (v := 10) (by decide) ?_
      refine g_icmp_ge X dX2_sendBy_125 (tgt := 135) (by decide) (fun q9 => ?_) (fun q9 => ?_)
      · skip
        have q9 : 10 ≤ n8 := (nI_leI (a := 10) (b := n8) (by omega) (by omega)).mp q9
        refine g_iload X dX2_sendBy_135 (j := 1) rfl ?_
        exact g_iret X hrt dX2_sendBy_137 (by decide) (by decide) ⟨C, D, F, I, K, ⟨n1, by omega, by omega, rfl⟩⟩
      · skip
        have q9 : ¬ 10 ≤ n8 := fun z => q9 ((nI_leI (a := 10) (b := n8) (by omega) (by omega)).mpr z)
        refine g_aload_n X dX2_sendBy_128 rfl (j := 3) rfl ?_
        refine g_iload_n X dX2_sendBy_129 rfl (j := 4) rfl ?_
        refine g_iload_n X dX2_sendBy_130 rfl (j := 5) rfl ?_
        refine g_iadd X dX2_sendBy_131 ?_
        refine Go.top (v := .int (nI (0 + p2))) (congrArg Value.int (nI_add 0 p2)) ?_
        refine g_iload X dX2_sendBy_132 (j := 0) rfl ?_
        refine i_iast X F I 38 rfl (fun _ => rfl) dX2_sendBy_134 (vp_in_nI (by omega) (by decide)) (rg_of (n := 0) (by omega) (by omega) (by omega)) (fun M C F I K1 hC => ?_)
        have K := K.step K1 (by decide)
        refine g_iload X dX2_sendBy_135 (j := 1) rfl ?_
        exact g_iret X hrt dX2_sendBy_137 (by decide) (by decide) ⟨C, D, F, I, K, ⟨n1, by omega, by omega, rfl⟩⟩
  · skip
    have q3 : ¬ n2 ≤ (n1 + 1) := fun z => q3 ((nI_leI (a := n2) (b := (n1 + 1)) (by omega) (by omega)).mpr z)
    refine g_iload X dX2_sendBy_20 (j := 0) rfl ?_
    refine g_iconst X dX2_sendBy_22 (v := 1) (by decide) ?_
    refine g_iadd X dX2_sendBy_23 ?_
    refine Go.top (v := .int (nI (n1 + 1))) (congrArg Value.int (nI_add n1 1)) ?_
    refine g_goto X dX2_sendBy_24 (tgt := 28) (by decide) ?_
    refine g_istore X dX2_sendBy_28 (by decide) (lv2 := [(6, .int (nI (n1 + 1))), (5, .int (nI n1)), (0, .ref (a 3)), (1, .ref (a 38)), (2, .int 0), (3, .int (nI p2)), (4, .int p3)]) rfl ?_
    refine g_iload X dX2_sendBy_30 (j := 6) rfl ?_
    rcases sc4 p3 with h10 | h11 | rfl | rfl | rfl | rfl
    · skip
      refine g_tableOut X dX2_sendBy_32 (Or.inl (by have z := Int32.lt_iff_toInt_lt.mp h10; have k : (0 : Int32).toInt = 0 := (by decide); omega)) (tgt := 138) (by decide) ?_
      refine g_iload X dX2_sendBy_138 (j := 1) rfl ?_
      exact g_iret X hrt dX2_sendBy_140 (by decide) (by decide) ⟨C, D, F, I, K, ⟨n1, by omega, by omega, rfl⟩⟩
    · skip
      refine g_tableOut X dX2_sendBy_32 (Or.inr (by have z := Int32.le_iff_toInt_le.mp h11; have k : (4 : Int32).toInt = 4 := (by decide); omega)) (tgt := 138) (by decide) ?_
      refine g_iload X dX2_sendBy_138 (j := 1) rfl ?_
      exact g_iret X hrt dX2_sendBy_140 (by decide) (by decide) ⟨C, D, F, I, K, ⟨n1, by omega, by omega, rfl⟩⟩
    · skip
      refine g_tableIn X dX2_sendBy_32 (by decide) (by decide) (off := 32) (by decide) (tgt := 64) (by decide) ?_
      refine g_aload_n X dX2_sendBy_64 rfl (j := 3) rfl ?_
      refine g_iload_n X dX2_sendBy_65 rfl (j := 4) rfl ?_
      refine g_iload_n X dX2_sendBy_66 rfl (j := 5) rfl ?_
      refine g_iadd X dX2_sendBy_67 ?_
      refine Go.top (v := .int (nI (0 + p2))) (congrArg Value.int (nI_add 0 p2)) ?_
      refine g_iload X dX2_sendBy_68 (j := 0) rfl ?_
      refine i_iast X F I 38 rfl (fun _ => rfl) dX2_sendBy_70 (vp_in_nI (by omega) (by decide)) (rg_of (n := (n1 + 1)) (by omega) (by omega) (by omega)) (fun M C F I K1 hC => ?_)
      have K := K.step K1 (by decide)
      refine g_iload X dX2_sendBy_71 (j := 1) rfl ?_
      exact g_iret X hrt dX2_sendBy_73 (by decide) (by decide) ⟨C, D, F, I, K, ⟨n1, by omega, by omega, rfl⟩⟩
    · skip
      refine g_tableIn X dX2_sendBy_32 (by decide) (by decide) (off := 42) (by decide) (tgt := 74) (by decide) ?_
      refine g_aload_n X dX2_sendBy_74 rfl (j := 3) rfl ?_
      refine g_iload_n X dX2_sendBy_75 rfl (j := 4) rfl ?_
      refine g_iload_n X dX2_sendBy_76 rfl (j := 5) rfl ?_
      refine g_iadd X dX2_sendBy_77 ?_
      refine Go.top (v := .int (nI (0 + p2))) (congrArg Value.int (nI_add 0 p2)) ?_
      refine g_iload X dX2_sendBy_78 (j := 0) rfl ?_
      refine i_iast X F I 38 rfl (fun _ => rfl) dX2_sendBy_80 (vp_in_nI (by omega) (by decide)) (rg_of (n := (n1 + 1)) (by omega) (by omega) (by omega)) (fun M C F I K1 hC => ?_)
      have K := K.step K1 (by decide)
      refine g_iload X dX2_sendBy_81 (j := 0) rfl ?_
      exact g_iret X hrt dX2_sendBy_83 (by decide) (by decide) ⟨C, D, F, I, K, ⟨(n1 + 1), by omega, by omega, rfl⟩⟩
    · skip
      refine g_tableIn X dX2_sendBy_32 (by decide) (by decide) (off := 52) (by decide) (tgt := 84) (by decide) ?_
      refine g_aload_n X dX2_sendBy_84 rfl (j := 3) rfl ?_
      refine g_iload_n X dX2_sendBy_85 rfl (j := 4) rfl ?_
      refine g_iload_n X dX2_sendBy_86 rfl (j := 5) rfl ?_
      refine g_iadd X dX2_sendBy_87 ?_
      refine Go.top (v := .int (nI (0 + p2))) (congrArg Value.int (nI_add 0 p2)) ?_
      refine g_iload X dX2_sendBy_88 (j := 1) rfl ?_
      refine g_if_le X dX2_sendBy_90 (tgt := 100) (by decide) (fun q12 => ?_) (fun q12 => ?_)
      · skip
        have q12 : n1 ≤ 0 := (nI_leI (a := n1) (b := 0) (by omega) (by omega)).mp q12
        refine g_aload_n X dX2_sendBy_100 rfl (j := 2) rfl ?_
        refine i_get X F 3 rfl rfl fk_X2_43 dX2_sendBy_101 rfl ?_
        refine g_iload_n X dX2_sendBy_104 rfl (j := 5) rfl ?_
        obtain ⟨n13, hn13, en13⟩ := rg_nat (I 5 p2) (by decide)
        refine i_iald X F 5 rfl rfl dX2_sendBy_105 (vp_in_nI (by omega) (by decide)) (v := nI n13) (by rw [nI_clamp (by omega)]; exact en13) ?_
        refine g_iconst X dX2_sendBy_106 (v := 1) (by decide) ?_
        have hn13_1 : 1 ≤ n13 := by rw [en13, nI_toInt (by omega)] at hra; omega
        refine g_isub X dX2_sendBy_107 ?_
        refine Go.top (v := .int (nI (n13 - 1))) (congrArg Value.int (pk_sub (a := n13) (b := 1) (by omega))) ?_
        refine i_iast X F I 38 rfl (fun _ => rfl) dX2_sendBy_108 (vp_in_nI (by omega) (by decide)) (rg_of (n := (n13 - 1)) (by omega) (by omega) (by omega)) (fun M C F I K1 hC => ?_)
        have K := K.step K1 (by decide)
        refine g_iload X dX2_sendBy_109 (j := 1) rfl ?_
        exact g_iret X hrt dX2_sendBy_111 (by decide) (by decide) ⟨C, D, F, I, K, ⟨n1, by omega, by omega, rfl⟩⟩
      · skip
        have q12 : ¬ n1 ≤ 0 := fun z => q12 ((nI_leI (a := n1) (b := 0) (by omega) (by omega)).mpr z)
        refine g_iload X dX2_sendBy_93 (j := 1) rfl ?_
        refine g_iconst X dX2_sendBy_95 (v := 1) (by decide) ?_
        refine g_isub X dX2_sendBy_96 ?_
        refine Go.top (v := .int (nI (n1 - 1))) (congrArg Value.int (pk_sub (a := n1) (b := 1) (by omega))) ?_
        refine g_goto X dX2_sendBy_97 (tgt := 108) (by decide) ?_
        refine i_iast X F I 38 rfl (fun _ => rfl) dX2_sendBy_108 (vp_in_nI (by omega) (by decide)) (rg_of (n := (n1 - 1)) (by omega) (by omega) (by omega)) (fun M C F I K1 hC => ?_)
        have K := K.step K1 (by decide)
        refine g_iload X dX2_sendBy_109 (j := 1) rfl ?_
        exact g_iret X hrt dX2_sendBy_111 (by decide) (by decide) ⟨C, D, F, I, K, ⟨n1, by omega, by omega, rfl⟩⟩
    · skip
      refine g_tableIn X dX2_sendBy_32 (by decide) (by decide) (off := 80) (by decide) (tgt := 112) (by decide) ?_
      refine g_aload_n X dX2_sendBy_112 rfl (j := 2) rfl ?_
      refine i_get X F 3 rfl rfl fk_X2_46 dX2_sendBy_113 rfl ?_
      refine g_iload_n X dX2_sendBy_116 rfl (j := 5) rfl ?_
      refine g_iconst X dX2_sendBy_117 (v := 4) (by decide) ?_
      refine g_imul X dX2_sendBy_118 ?_
      refine Go.top (v := .int (nI (p2 * 4))) (congrArg Value.int (pk_mul p2 4)) ?_
      refine g_iload X dX2_sendBy_119 (j := 1) rfl ?_
      refine g_iadd X dX2_sendBy_121 ?_
      refine Go.top (v := .int (nI ((p2 * 4) + n1))) (congrArg Value.int (nI_add (p2 * 4) n1)) ?_
      obtain ⟨n14, hn14, en14⟩ := gl_nat (I 6 ((p2 * 4) + n1))
      refine i_iald X F 6 rfl rfl dX2_sendBy_122 (vp_in_nI (by omega) (by decide)) (v := nI n14) (by rw [nI_clamp (by omega)]; exact en14) ?_
      refine g_bipush X dX2_sendBy_123 (v := 10) (by decide) ?_
      refine g_icmp_ge X dX2_sendBy_125 (tgt := 135) (by decide) (fun q15 => ?_) (fun q15 => ?_)
      · skip
        have q15 : 10 ≤ n14 := (nI_leI (a := 10) (b := n14) (by omega) (by omega)).mp q15
        refine g_iload X dX2_sendBy_135 (j := 1) rfl ?_
        exact g_iret X hrt dX2_sendBy_137 (by decide) (by decide) ⟨C, D, F, I, K, ⟨n1, by omega, by omega, rfl⟩⟩
      · skip
        have q15 : ¬ 10 ≤ n14 := fun z => q15 ((nI_leI (a := 10) (b := n14) (by omega) (by omega)).mpr z)
        refine g_aload_n X dX2_sendBy_128 rfl (j := 3) rfl ?_
        refine g_iload_n X dX2_sendBy_129 rfl (j := 4) rfl ?_
        refine g_iload_n X dX2_sendBy_130 rfl (j := 5) rfl ?_
        refine g_iadd X dX2_sendBy_131 ?_
        refine Go.top (v := .int (nI (0 + p2))) (congrArg Value.int (nI_add 0 p2)) ?_
        refine g_iload X dX2_sendBy_132 (j := 0) rfl ?_
        refine i_iast X F I 38 rfl (fun _ => rfl) dX2_sendBy_134 (vp_in_nI (by omega) (by decide)) (rg_of (n := (n1 + 1)) (by omega) (by omega) (by omega)) (fun M C F I K1 hC => ?_)
        have K := K.step K1 (by decide)
        refine g_iload X dX2_sendBy_135 (j := 1) rfl ?_
        exact g_iret X hrt dX2_sendBy_137 (by decide) (by decide) ⟨C, D, F, I, K, ⟨n1, by omega, by omega, rfl⟩⟩
set_option maxHeartbeats 4000000 in
set_option maxRecDepth 100000 in
theorem s_J6_bitCount_0f7a4 (l : Launch) (G : va_G) {cy : Nat → ClassId} {L : List Nat} {M : Nat → va_E} {a : Nat → Nat} {act : Nat → Bool} {C0 : Nat → Nat → Int32} {D0 : Nat → Nat → Int64} {R : Nat → Nat → Option Nat} (F : WI L M a act (ent cy a C0 D0 R)) (I : Inv C0) (p0 : Int32)  : MI l G cy yJ6_bitCount_0f7a4 cJ6_bitCount_0f7a4 1 (some .int) 0 0 0 [.int p0] L M (fun r L2 M2 => ∃ C2 D2, WI L2 M2 a act (ent cy a C2 D2 R) ∧ Inv C2 ∧ Kp [] C0 D0 C2 D2 ∧ r = bcI p0) := by
  refine MI.of (own := RJ6) rfl (by decide) (Nat.le_of_ble_eq_true rfl) ?_
  intro p e s m below meth c A X hrt hnm
  obtain ⟨C, D, hC0, hD0, F, I, K⟩ : ∃ C D, C = C0 ∧ D = D0 ∧ WI L M a act (ent cy a C D R) ∧ Inv C ∧ Kp [] C0 D0 C D := ⟨C0, D0, rfl, rfl, F, I, Kp.rf⟩
  refine g_iload_n X dJ6_bitCount_0f7a4_0 rfl (j := 0) rfl ?_
  refine g_iload_n X dJ6_bitCount_0f7a4_1 rfl (j := 0) rfl ?_
  refine g_iconst X dJ6_bitCount_0f7a4_2 (v := 1) (by decide) ?_
  refine g_iushr X dJ6_bitCount_0f7a4_3 rfl ?_
  refine g_ldcw X (v := 1431655765) wd36 dJ6_bitCount_0f7a4_4 ?_
  refine g_iand X dJ6_bitCount_0f7a4_7 ?_
  refine g_isub X dJ6_bitCount_0f7a4_8 ?_
  refine Go.top (v := .int (bc1 p0)) rfl ?_
  refine g_istore_n X dJ6_bitCount_0f7a4_9 rfl (by decide) (lv2 := [(0, .int ((bc1 p0)))]) rfl ?_
  refine g_iload_n X dJ6_bitCount_0f7a4_10 rfl (j := 0) rfl ?_
  refine g_ldcw X (v := 858993459) wd37 dJ6_bitCount_0f7a4_11 ?_
  refine g_iand X dJ6_bitCount_0f7a4_14 ?_
  refine g_iload_n X dJ6_bitCount_0f7a4_15 rfl (j := 0) rfl ?_
  refine g_iconst X dJ6_bitCount_0f7a4_16 (v := 2) (by decide) ?_
  refine g_iushr X dJ6_bitCount_0f7a4_17 rfl ?_
  refine g_ldcw X (v := 858993459) wd37 dJ6_bitCount_0f7a4_18 ?_
  refine g_iand X dJ6_bitCount_0f7a4_21 ?_
  refine g_iadd X dJ6_bitCount_0f7a4_22 ?_
  refine Go.top (v := .int (bc2 (bc1 p0))) rfl ?_
  refine g_istore_n X dJ6_bitCount_0f7a4_23 rfl (by decide) (lv2 := [(0, .int ((bc2 (bc1 p0))))]) rfl ?_
  refine g_iload_n X dJ6_bitCount_0f7a4_24 rfl (j := 0) rfl ?_
  refine g_iload_n X dJ6_bitCount_0f7a4_25 rfl (j := 0) rfl ?_
  refine g_iconst X dJ6_bitCount_0f7a4_26 (v := 4) (by decide) ?_
  refine g_iushr X dJ6_bitCount_0f7a4_27 rfl ?_
  refine g_iadd X dJ6_bitCount_0f7a4_28 ?_
  refine g_ldcw X (v := 252645135) wd38 dJ6_bitCount_0f7a4_29 ?_
  refine g_iand X dJ6_bitCount_0f7a4_32 ?_
  refine Go.top (v := .int (bc3 (bc2 (bc1 p0)))) rfl ?_
  refine g_istore_n X dJ6_bitCount_0f7a4_33 rfl (by decide) (lv2 := [(0, .int ((bc3 (bc2 (bc1 p0)))))]) rfl ?_
  refine g_iload_n X dJ6_bitCount_0f7a4_34 rfl (j := 0) rfl ?_
  refine g_iload_n X dJ6_bitCount_0f7a4_35 rfl (j := 0) rfl ?_
  refine g_bipush X dJ6_bitCount_0f7a4_36 (v := 8) (by decide) ?_
  refine g_iushr X dJ6_bitCount_0f7a4_38 rfl ?_
  refine g_iadd X dJ6_bitCount_0f7a4_39 ?_
  refine Go.top (v := .int (bc4 (bc3 (bc2 (bc1 p0))))) rfl ?_
  refine g_istore_n X dJ6_bitCount_0f7a4_40 rfl (by decide) (lv2 := [(0, .int ((bc4 (bc3 (bc2 (bc1 p0))))))]) rfl ?_
  refine g_iload_n X dJ6_bitCount_0f7a4_41 rfl (j := 0) rfl ?_
  refine g_iload_n X dJ6_bitCount_0f7a4_42 rfl (j := 0) rfl ?_
  refine g_bipush X dJ6_bitCount_0f7a4_43 (v := 16) (by decide) ?_
  refine g_iushr X dJ6_bitCount_0f7a4_45 rfl ?_
  refine g_iadd X dJ6_bitCount_0f7a4_46 ?_
  refine Go.top (v := .int (bc5 (bc4 (bc3 (bc2 (bc1 p0)))))) rfl ?_
  refine g_istore_n X dJ6_bitCount_0f7a4_47 rfl (by decide) (lv2 := [(0, .int ((bc5 (bc4 (bc3 (bc2 (bc1 p0)))))))]) rfl ?_
  refine g_iload_n X dJ6_bitCount_0f7a4_48 rfl (j := 0) rfl ?_
  refine g_bipush X dJ6_bitCount_0f7a4_49 (v := 63) (by decide) ?_
  refine g_iand X dJ6_bitCount_0f7a4_51 ?_
  exact g_iret X hrt dJ6_bitCount_0f7a4_52 (by decide) (by decide) ⟨C, D, F, I, K, rfl⟩
