set_option maxHeartbeats 4000000 in
set_option maxRecDepth 100000 in
theorem s_X2_hasPlace (l : Launch) (G : va_G) {cy : Nat → ClassId} {L : List Nat} {M : Nat → va_E} {a : Nat → Nat} {act : Nat → Bool} {C0 : Nat → Nat → Int32} {D0 : Nat → Nat → Int64} {R : Nat → Nat → Option Nat} (F : WI L M a act (ent cy a C0 D0 R)) (I : Inv C0) (p0 : Int32)  : MI l G cy yX2_hasPlace cX2_hasPlace 2 (some .boolean) 1 0 0 [.ref (a 3), .int p0] L M (fun r L2 M2 => ∃ C2 D2, WI L2 M2 a act (ent cy a C2 D2 R) ∧ Inv C2 ∧ Kp [] C0 D0 C2 D2 ∧ (r = 0 ∨ (r = 1 ∧ ∃ n : Nat, (n < 7 ∨ (10 ≤ n ∧ n < 14)) ∧ p0 = nI n))) := by
  refine MI.of (own := RX2) rfl (by decide) (Nat.le_of_ble_eq_true rfl) ?_
  intro p e s m below meth c A X hrt hnm
  obtain ⟨C, D, hC0, hD0, F, I, K⟩ : ∃ C D, C = C0 ∧ D = D0 ∧ WI L M a act (ent cy a C D R) ∧ Inv C ∧ Kp [] C0 D0 C D := ⟨C0, D0, rfl, rfl, F, I, Kp.rf⟩
  refine g_iload_n X dX2_hasPlace_0 rfl (j := 1) rfl ?_
  refine g_bipush X dX2_hasPlace_1 (v := 10) (by decide) ?_
  refine g_icmp_ge X dX2_hasPlace_3 (tgt := 14) (by decide) (fun q1 => ?_) (fun q1 => ?_)
  · skip
    have q1t : (10 : Int32).toInt ≤ p0.toInt := Int32.le_iff_toInt_le.mp q1
    have q1k : (10 : Int32).toInt = 10 := (by decide)
    have q1b := Int32.toInt_lt p0
    obtain ⟨n2, hn2, rfl⟩ := nI_of (x := p0) (fun z => by have z2 := Int32.lt_iff_toInt_lt.mp z; have z3 : (0 : Int32).toInt = 0 := (by decide); omega)
    rw [nI_toInt (by omega)] at q1t
    have tn2 := nI_toInt (n := n2) (by omega)
    refine g_aload_n X dX2_hasPlace_14 rfl (j := 0) rfl ?_
    refine g_iload_n X dX2_hasPlace_15 rfl (j := 1) rfl ?_
    refine g_bipush X dX2_hasPlace_16 (v := 10) (by decide) ?_
    refine g_isub X dX2_hasPlace_18 ?_
    refine Go.top (v := .int (nI (n2 - 10))) (congrArg Value.int (pk_sub (a := n2) (b := 10) (by omega))) ?_
    refine g_callVI X (s_X2_hasInn l G F I (nI (n2 - 10)) ) lk_X2_88 (F.1 3 rfl).2 (F.1 3 rfl).1 rfl rfl dX2_hasPlace_19 (Nat.le_of_ble_eq_true rfl) ⟨by decide, by decide⟩ ⟨by decide, by decide⟩ (fun r3 L M hp => ?_)
    obtain ⟨C, D, F, I, K1, hr⟩ := hp
    have K := K.step K1 (by decide)
    rcases hr with rfl | ⟨rfl, n4, hn4a, hn4b, en4⟩
    · skip
      exact g_zret X hrt rfl dX2_hasPlace_22 (by decide) (by decide) ⟨C, D, F, I, K, Or.inl rfl⟩
    · skip
      have en4 := (nI_eq (by omega) (by omega)).mp en4
      exact g_zret X hrt rfl dX2_hasPlace_22 (by decide) (by decide) ⟨C, D, F, I, K, Or.inr ⟨rfl, n2, by omega, rfl⟩⟩
  · skip
    have q1t : ¬ (10 : Int32).toInt ≤ p0.toInt := fun z => q1 (Int32.le_iff_toInt_le.mpr z)
    have q1k : (10 : Int32).toInt = 10 := (by decide)
    have q1b := Int32.toInt_lt p0
    refine g_aload_n X dX2_hasPlace_6 rfl (j := 0) rfl ?_
    refine g_iload_n X dX2_hasPlace_7 rfl (j := 1) rfl ?_
    refine g_callVI X (s_X2_hasPost l G F I p0 ) lk_X2_84 (F.1 3 rfl).2 (F.1 3 rfl).1 rfl rfl dX2_hasPlace_8 (Nat.le_of_ble_eq_true rfl) ⟨by decide, by decide⟩ ⟨by decide, by decide⟩ (fun r5 L M hp => ?_)
    obtain ⟨C, D, F, I, K1, hr⟩ := hp
    have K := K.step K1 (by decide)
    rcases hr with rfl | ⟨rfl, n6, hn6a, hn6b, en6⟩
    · skip
      refine g_goto X dX2_hasPlace_11 (tgt := 22) (by decide) ?_
      exact g_zret X hrt rfl dX2_hasPlace_22 (by decide) (by decide) ⟨C, D, F, I, K, Or.inl rfl⟩
    · skip
      subst en6
      refine g_goto X dX2_hasPlace_11 (tgt := 22) (by decide) ?_
      exact g_zret X hrt rfl dX2_hasPlace_22 (by decide) (by decide) ⟨C, D, F, I, K, Or.inr ⟨rfl, n6, by omega, rfl⟩⟩
set_option maxHeartbeats 4000000 in
set_option maxRecDepth 100000 in
theorem s_X7_isEither (l : Launch) (G : va_G) {cy : Nat → ClassId} {L : List Nat} {M : Nat → va_E} {a : Nat → Nat} {act : Nat → Bool} {C0 : Nat → Nat → Int32} {D0 : Nat → Nat → Int64} {R : Nat → Nat → Option Nat} (F : WI L M a act (ent cy a C0 D0 R)) (I : Inv C0) (p0 : Int32)  : MI l G cy yX7_isEither cX7_isEither 1 (some .boolean) 0 0 0 [.int p0] L M (fun r L2 M2 => ∃ C2 D2, WI L2 M2 a act (ent cy a C2 D2 R) ∧ Inv C2 ∧ Kp [] C0 D0 C2 D2 ∧ (r = 0 ∨ r = 1)) := by
  refine MI.of (own := RX7) rfl (by decide) (Nat.le_of_ble_eq_true rfl) ?_
  intro p e s m below meth c A X hrt hnm
  obtain ⟨C, D, hC0, hD0, F, I, K⟩ : ∃ C D, C = C0 ∧ D = D0 ∧ WI L M a act (ent cy a C D R) ∧ Inv C ∧ Kp [] C0 D0 C D := ⟨C0, D0, rfl, rfl, F, I, Kp.rf⟩
  refine g_iload_n X dX7_isEither_0 rfl (j := 0) rfl ?_
  refine g_if_eq X dX7_isEither_1 (tgt := 9) (by decide) (fun q1 => ?_) (fun q1 => ?_)
  · skip
    subst q1
    refine g_iconst X dX7_isEither_9 (v := 1) (by decide) ?_
    refine g_goto X dX7_isEither_10 (tgt := 14) (by decide) ?_
    exact g_zret X hrt rfl dX7_isEither_14 (by decide) (by decide) ⟨C, D, F, I, K, Or.inr rfl⟩
  · skip
    refine g_iload_n X dX7_isEither_4 rfl (j := 0) rfl ?_
    refine g_iconst X dX7_isEither_5 (v := 1) (by decide) ?_
    refine g_icmp_ne X dX7_isEither_6 (tgt := 13) (by decide) (fun q2 => ?_) (fun q2 => ?_)
    · skip
      refine g_iconst X dX7_isEither_13 (v := 0) (by decide) ?_
      exact g_zret X hrt rfl dX7_isEither_14 (by decide) (by decide) ⟨C, D, F, I, K, Or.inl rfl⟩
    · skip
      subst q2
      refine g_iconst X dX7_isEither_9 (v := 1) (by decide) ?_
      refine g_goto X dX7_isEither_10 (tgt := 14) (by decide) ?_
      exact g_zret X hrt rfl dX7_isEither_14 (by decide) (by decide) ⟨C, D, F, I, K, Or.inr rfl⟩
set_option maxHeartbeats 4000000 in
set_option maxRecDepth 100000 in
theorem s_X7_isFewInARow (l : Launch) (G : va_G) {cy : Nat → ClassId} {L : List Nat} {M : Nat → va_E} {a : Nat → Nat} {act : Nat → Bool} {C0 : Nat → Nat → Int32} {D0 : Nat → Nat → Int64} {R : Nat → Nat → Option Nat} (F : WI L M a act (ent cy a C0 D0 R)) (I : Inv C0) (p0 : Int32)  : MI l G cy yX7_isFewInARow cX7_isFewInARow 1 (some .boolean) 0 0 0 [.int p0] L M (fun r L2 M2 => ∃ C2 D2, WI L2 M2 a act (ent cy a C2 D2 R) ∧ Inv C2 ∧ Kp [] C0 D0 C2 D2 ∧ (r = 0 ∨ (r = 1 ∧ ∃ n : Nat, 1 ≤ n ∧ n ≤ 20 ∧ p0 = nI n))) := by
  refine MI.of (own := RX7) rfl (by decide) (Nat.le_of_ble_eq_true rfl) ?_
  intro p e s m below meth c A X hrt hnm
  obtain ⟨C, D, hC0, hD0, F, I, K⟩ : ∃ C D, C = C0 ∧ D = D0 ∧ WI L M a act (ent cy a C D R) ∧ Inv C ∧ Kp [] C0 D0 C D := ⟨C0, D0, rfl, rfl, F, I, Kp.rf⟩
  refine g_iload_n X dX7_isFewInARow_0 rfl (j := 0) rfl ?_
  refine g_iconst X dX7_isFewInARow_1 (v := 1) (by decide) ?_
  refine g_icmp_lt X dX7_isFewInARow_2 (tgt := 15) (by decide) (fun q1 => ?_) (fun q1 => ?_)
  · skip
    have q1t : p0.toInt < (1 : Int32).toInt := Int32.lt_iff_toInt_lt.mp q1
    have q1k : (1 : Int32).toInt = 1 := (by decide)
    have q1b := Int32.toInt_lt p0
    refine g_iconst X dX7_isFewInARow_15 (v := 0) (by decide) ?_
    exact g_zret X hrt rfl dX7_isFewInARow_16 (by decide) (by decide) ⟨C, D, F, I, K, Or.inl rfl⟩
  · skip
    have q1t : ¬ p0.toInt < (1 : Int32).toInt := fun z => q1 (Int32.lt_iff_toInt_lt.mpr z)
    have q1k : (1 : Int32).toInt = 1 := (by decide)
    have q1b := Int32.toInt_lt p0
    obtain ⟨n2, hn2, rfl⟩ := nI_of (x := p0) (fun z => by have z2 := Int32.lt_iff_toInt_lt.mp z; have z3 : (0 : Int32).toInt = 0 := (by decide); omega)
    rw [nI_toInt (by omega)] at q1t
    have tn2 := nI_toInt (n := n2) (by omega)
    refine g_iload_n X dX7_isFewInARow_5 rfl (j := 0) rfl ?_
    refine g_bipush X dX7_isFewInARow_6 (v := 20) (by decide) ?_
    refine g_icmp_gt X dX7_isFewInARow_8 (tgt := 15) (by decide) (fun q3 => ?_) (fun q3 => ?_)
    · skip
      have q3 : 20 < n2 := (nI_ltI (a := 20) (b := n2) (by omega) (by omega)).mp q3
      refine g_iconst X dX7_isFewInARow_15 (v := 0) (by decide) ?_
      exact g_zret X hrt rfl dX7_isFewInARow_16 (by decide) (by decide) ⟨C, D, F, I, K, Or.inl rfl⟩
    · skip
      have q3 : ¬ 20 < n2 := fun z => q3 ((nI_ltI (a := 20) (b := n2) (by omega) (by omega)).mpr z)
      refine g_iconst X dX7_isFewInARow_11 (v := 1) (by decide) ?_
      refine g_goto X dX7_isFewInARow_12 (tgt := 16) (by decide) ?_
      exact g_zret X hrt rfl dX7_isFewInARow_16 (by decide) (by decide) ⟨C, D, F, I, K, Or.inr ⟨rfl, n2, by omega, by omega, rfl⟩⟩
set_option maxHeartbeats 4000000 in
set_option maxRecDepth 100000 in
theorem s_X7_isSeed (l : Launch) (G : va_G) {cy : Nat → ClassId} {L : List Nat} {M : Nat → va_E} {a : Nat → Nat} {act : Nat → Bool} {C0 : Nat → Nat → Int32} {D0 : Nat → Nat → Int64} {R : Nat → Nat → Option Nat} (F : WI L M a act (ent cy a C0 D0 R)) (I : Inv C0) (p0 : Int32)  : MI l G cy yX7_isSeed cX7_isSeed 1 (some .boolean) 0 0 0 [.int p0] L M (fun r L2 M2 => ∃ C2 D2, WI L2 M2 a act (ent cy a C2 D2 R) ∧ Inv C2 ∧ Kp [] C0 D0 C2 D2 ∧ (r = 0 ∨ r = 1)) := by
  refine MI.of (own := RX7) rfl (by decide) (Nat.le_of_ble_eq_true rfl) ?_
  intro p e s m below meth c A X hrt hnm
  obtain ⟨C, D, hC0, hD0, F, I, K⟩ : ∃ C D, C = C0 ∧ D = D0 ∧ WI L M a act (ent cy a C D R) ∧ Inv C ∧ Kp [] C0 D0 C D := ⟨C0, D0, rfl, rfl, F, I, Kp.rf⟩
  refine g_iload_n X dX7_isSeed_0 rfl (j := 0) rfl ?_
  refine g_if_lt X dX7_isSeed_1 (tgt := 15) (by decide) (fun q1 => ?_) (fun q1 => ?_)
  · skip
    have q1t : p0.toInt < (0 : Int32).toInt := Int32.lt_iff_toInt_lt.mp q1
    have q1k : (0 : Int32).toInt = 0 := (by decide)
    have q1b := Int32.toInt_lt p0
    refine g_iconst X dX7_isSeed_15 (v := 0) (by decide) ?_
    exact g_zret X hrt rfl dX7_isSeed_16 (by decide) (by decide) ⟨C, D, F, I, K, Or.inl rfl⟩
  · skip
    have q1t : ¬ p0.toInt < (0 : Int32).toInt := fun z => q1 (Int32.lt_iff_toInt_lt.mpr z)
    have q1k : (0 : Int32).toInt = 0 := (by decide)
    have q1b := Int32.toInt_lt p0
    obtain ⟨n2, hn2, rfl⟩ := nI_of (x := p0) (fun z => by have z2 := Int32.lt_iff_toInt_lt.mp z; have z3 : (0 : Int32).toInt = 0 := (by decide); omega)
    rw [nI_toInt (by omega)] at q1t
    have tn2 := nI_toInt (n := n2) (by omega)
    refine g_iload_n X dX7_isSeed_4 rfl (j := 0) rfl ?_
    refine g_ldcw X (v := 2000000000) wd191 dX7_isSeed_5 ?_
    refine g_icmp_gt X dX7_isSeed_8 (tgt := 15) (by decide) (fun q3 => ?_) (fun q3 => ?_)
    · skip
      have q3 : 2000000000 < n2 := (nI_ltI (a := 2000000000) (b := n2) (by omega) (by omega)).mp q3
      refine g_iconst X dX7_isSeed_15 (v := 0) (by decide) ?_
      exact g_zret X hrt rfl dX7_isSeed_16 (by decide) (by decide) ⟨C, D, F, I, K, Or.inl rfl⟩
    · skip
      have q3 : ¬ 2000000000 < n2 := fun z => q3 ((nI_ltI (a := 2000000000) (b := n2) (by omega) (by omega)).mpr z)
      refine g_iconst X dX7_isSeed_11 (v := 1) (by decide) ?_
      refine g_goto X dX7_isSeed_12 (tgt := 16) (by decide) ?_
      exact g_zret X hrt rfl dX7_isSeed_16 (by decide) (by decide) ⟨C, D, F, I, K, Or.inr rfl⟩
set_option maxHeartbeats 4000000 in
set_option maxRecDepth 100000 in
theorem s_X7_isSlot (l : Launch) (G : va_G) {cy : Nat → ClassId} {L : List Nat} {M : Nat → va_E} {a : Nat → Nat} {act : Nat → Bool} {C0 : Nat → Nat → Int32} {D0 : Nat → Nat → Int64} {R : Nat → Nat → Option Nat} (F : WI L M a act (ent cy a C0 D0 R)) (I : Inv C0) (p0 : Int32)  : MI l G cy yX7_isSlot cX7_isSlot 1 (some .boolean) 0 0 0 [.int p0] L M (fun r L2 M2 => ∃ C2 D2, WI L2 M2 a act (ent cy a C2 D2 R) ∧ Inv C2 ∧ Kp [] C0 D0 C2 D2 ∧ (r = 0 ∨ (r = 1 ∧ ∃ n : Nat, 0 ≤ n ∧ n ≤ 3 ∧ p0 = nI n))) := by
  refine MI.of (own := RX7) rfl (by decide) (Nat.le_of_ble_eq_true rfl) ?_
  intro p e s m below meth c A X hrt hnm
  obtain ⟨C, D, hC0, hD0, F, I, K⟩ : ∃ C D, C = C0 ∧ D = D0 ∧ WI L M a act (ent cy a C D R) ∧ Inv C ∧ Kp [] C0 D0 C D := ⟨C0, D0, rfl, rfl, F, I, Kp.rf⟩
  refine g_iload_n X dX7_isSlot_0 rfl (j := 0) rfl ?_
  refine g_if_lt X dX7_isSlot_1 (tgt := 13) (by decide) (fun q1 => ?_) (fun q1 => ?_)
  · skip
    have q1t : p0.toInt < (0 : Int32).toInt := Int32.lt_iff_toInt_lt.mp q1
    have q1k : (0 : Int32).toInt = 0 := (by decide)
    have q1b := Int32.toInt_lt p0
    refine g_iconst X dX7_isSlot_13 (v := 0) (by decide) ?_
    exact g_zret X hrt rfl dX7_isSlot_14 (by decide) (by decide) ⟨C, D, F, I, K, Or.inl rfl⟩
  · skip
    have q1t : ¬ p0.toInt < (0 : Int32).toInt := fun z => q1 (Int32.lt_iff_toInt_lt.mpr z)
    have q1k : (0 : Int32).toInt = 0 := (by decide)
    have q1b := Int32.toInt_lt p0
    obtain ⟨n2, hn2, rfl⟩ := nI_of (x := p0) (fun z => by have z2 := Int32.lt_iff_toInt_lt.mp z; have z3 : (0 : Int32).toInt = 0 := (by decide); omega)
    rw [nI_toInt (by omega)] at q1t
    have tn2 := nI_toInt (n := n2) (by omega)
    refine g_iload_n X dX7_isSlot_4 rfl (j := 0) rfl ?_
    refine g_iconst X dX7_isSlot_5 (v := 4) (by decide) ?_
    refine g_icmp_ge X dX7_isSlot_6 (tgt := 13) (by decide) (fun q3 => ?_) (fun q3 => ?_)
    · skip
      have q3 : 4 ≤ n2 := (nI_leI (a := 4) (b := n2) (by omega) (by omega)).mp q3
      refine g_iconst X dX7_isSlot_13 (v := 0) (by decide) ?_
      exact g_zret X hrt rfl dX7_isSlot_14 (by decide) (by decide) ⟨C, D, F, I, K, Or.inl rfl⟩
    · skip
      have q3 : ¬ 4 ≤ n2 := fun z => q3 ((nI_leI (a := 4) (b := n2) (by omega) (by omega)).mpr z)
      refine g_iconst X dX7_isSlot_9 (v := 1) (by decide) ?_
      refine g_goto X dX7_isSlot_10 (tgt := 14) (by decide) ?_
      exact g_zret X hrt rfl dX7_isSlot_14 (by decide) (by decide) ⟨C, D, F, I, K, Or.inr ⟨rfl, n2, by omega, by omega, rfl⟩⟩
set_option maxHeartbeats 4000000 in
set_option maxRecDepth 100000 in
theorem s_X7_isFogHour (l : Launch) (G : va_G) {cy : Nat → ClassId} {L : List Nat} {M : Nat → va_E} {a : Nat → Nat} {act : Nat → Bool} {C0 : Nat → Nat → Int32} {D0 : Nat → Nat → Int64} {R : Nat → Nat → Option Nat} (F : WI L M a act (ent cy a C0 D0 R)) (I : Inv C0) (p0 : Int32)  : MI l G cy yX7_isFogHour cX7_isFogHour 2 (some .boolean) 3 0 0 [.ref (a 0), .int p0] L M (fun r L2 M2 => ∃ C2 D2, WI L2 M2 a act (ent cy a C2 D2 R) ∧ Inv C2 ∧ Kp [] C0 D0 C2 D2 ∧ (r = 0 ∨ (r = 1 ∧ ∃ n : Nat, 0 ≤ n ∧ n ≤ 7 ∧ p0 = nI n))) := by
  refine MI.of (own := RX7) rfl (by decide) (Nat.le_of_ble_eq_true rfl) ?_
  intro p e s m below meth c A X hrt hnm
  obtain ⟨C, D, hC0, hD0, F, I, K⟩ : ∃ C D, C = C0 ∧ D = D0 ∧ WI L M a act (ent cy a C D R) ∧ Inv C ∧ Kp [] C0 D0 C D := ⟨C0, D0, rfl, rfl, F, I, Kp.rf⟩
  refine g_aload_n X dX7_isFogHour_0 rfl (j := 0) rfl ?_
  refine i_get X F 0 rfl rfl fk_X7_19 dX7_isFogHour_1 rfl ?_
  refine g_iload_n X dX7_isFogHour_4 rfl (j := 1) rfl ?_
  refine g_callVI X (s_X2_hasHourAhead l G F I p0 ) lk_X7_149 (F.1 3 rfl).2 (F.1 3 rfl).1 rfl rfl dX7_isFogHour_5 (Nat.le_of_ble_eq_true rfl) ⟨by decide, by decide⟩ ⟨by decide, by decide⟩ (fun r1 L M hp => ?_)
  obtain ⟨C, D, F, I, K1, hr⟩ := hp
  have K := K.step K1 (by decide)
  rcases hr with rfl | ⟨rfl, n2, hn2a, hn2b, en2⟩
  · skip
    refine g_if_eq X dX7_isFogHour_8 (tgt := 21) (by decide) (fun _ => ?_) (fun q => absurd (by decide) q)
    refine g_iconst X dX7_isFogHour_21 (v := 0) (by decide) ?_
    exact g_zret X hrt rfl dX7_isFogHour_22 (by decide) (by decide) ⟨C, D, F, I, K, Or.inl rfl⟩
  · skip
    subst en2
    refine g_if_eq X dX7_isFogHour_8 (tgt := 21) (by decide) (fun q => absurd q (by decide)) (fun _ => ?_)
    refine g_iload_n X dX7_isFogHour_11 rfl (j := 1) rfl ?_
    refine g_bipush X dX7_isFogHour_12 (v := 7) (by decide) ?_
    refine g_icmp_gt X dX7_isFogHour_14 (tgt := 21) (by decide) (fun q3 => ?_) (fun q3 => ?_)
    · skip
      have q3 : 7 < n2 := (nI_ltI (a := 7) (b := n2) (by omega) (by omega)).mp q3
      refine g_iconst X dX7_isFogHour_21 (v := 0) (by decide) ?_
      exact g_zret X hrt rfl dX7_isFogHour_22 (by decide) (by decide) ⟨C, D, F, I, K, Or.inl rfl⟩
    · skip
      have q3 : ¬ 7 < n2 := fun z => q3 ((nI_ltI (a := 7) (b := n2) (by omega) (by omega)).mpr z)
      refine g_iconst X dX7_isFogHour_17 (v := 1) (by decide) ?_
      refine g_goto X dX7_isFogHour_18 (tgt := 22) (by decide) ?_
      exact g_zret X hrt rfl dX7_isFogHour_22 (by decide) (by decide) ⟨C, D, F, I, K, Or.inr ⟨rfl, n2, by omega, by omega, rfl⟩⟩
set_option maxHeartbeats 4000000 in
set_option maxRecDepth 100000 in
theorem s_X7_room (l : Launch) (G : va_G) {cy : Nat → ClassId} {L : List Nat} {M : Nat → va_E} {a : Nat → Nat} {act : Nat → Bool} {C0 : Nat → Nat → Int32} {D0 : Nat → Nat → Int64} {R : Nat → Nat → Option Nat} (F : WI L M a act (ent cy a C0 D0 R)) (I : Inv C0) (p0 : Int32)  : MI l G cy yX7_room cX7_room 2 (some .int) 1 0 0 [.ref (a 0), .int p0] L M (fun r L2 M2 => ∃ C2 D2, WI L2 M2 a act (ent cy a C2 D2 R) ∧ Inv C2 ∧ Kp [] C0 D0 C2 D2 ∧ True) := by
  refine MI.of (own := RX7) rfl (by decide) (Nat.le_of_ble_eq_true rfl) ?_
  intro p e s m below meth c A X hrt hnm
  obtain ⟨C, D, hC0, hD0, F, I, K⟩ : ∃ C D, C = C0 ∧ D = D0 ∧ WI L M a act (ent cy a C D R) ∧ Inv C ∧ Kp [] C0 D0 C D := ⟨C0, D0, rfl, rfl, F, I, Kp.rf⟩
  refine g_aload_n X dX7_room_0 rfl (j := 0) rfl ?_
  refine i_get X F 0 rfl rfl fk_X7_19 dX7_room_1 rfl ?_
  refine g_iload_n X dX7_room_4 rfl (j := 1) rfl ?_
  refine g_callVI X (s_X2_hasInn l G F I p0 ) lk_X7_99 (F.1 3 rfl).2 (F.1 3 rfl).1 rfl rfl dX7_room_5 (Nat.le_of_ble_eq_true rfl) ⟨by decide, by decide⟩ ⟨by decide, by decide⟩ (fun r1 L M hp => ?_)
  obtain ⟨C, D, F, I, K1, hr⟩ := hp
  have K := K.step K1 (by decide)
  rcases hr with rfl | ⟨rfl, n2, hn2a, hn2b, en2⟩
  · skip
    refine g_if_eq X dX7_room_8 (tgt := 23) (by decide) (fun _ => ?_) (fun q => absurd (by decide) q)
    refine g_bipush X dX7_room_23 (v := -2) (by decide) ?_
    exact g_iret X hrt dX7_room_25 (by decide) (by decide) ⟨C, D, F, I, K, trivial⟩
  · skip
    subst en2
    refine g_if_eq X dX7_room_8 (tgt := 23) (by decide) (fun q => absurd q (by decide)) (fun _ => ?_)
    refine g_aload_n X dX7_room_11 rfl (j := 0) rfl ?_
    refine i_get X F 0 rfl rfl fk_X7_19 dX7_room_12 rfl ?_
    refine i_get X F 3 rfl rfl fk_X7_103 dX7_room_15 rfl ?_
    refine g_iload_n X dX7_room_18 rfl (j := 1) rfl ?_
    refine i_iald X F 4 rfl rfl dX7_room_19 (vp_in_nI (by omega) (by decide)) rfl ?_
    refine Go.gen (fun o3 => ?_)
    refine g_goto X dX7_room_20 (tgt := 25) (by decide) ?_
    exact g_iret X hrt dX7_room_25 (by decide) (by decide) ⟨C, D, F, I, K, trivial⟩
set_option maxHeartbeats 4000000 in
set_option maxRecDepth 100000 in
theorem s_X7_roads (l : Launch) (G : va_G) {cy : Nat → ClassId} {L : List Nat} {M : Nat → va_E} {a : Nat → Nat} {act : Nat → Bool} {C0 : Nat → Nat → Int32} {D0 : Nat → Nat → Int64} {R : Nat → Nat → Option Nat} (F : WI L M a act (ent cy a C0 D0 R)) (I : Inv C0) (p0 : Int32)  : MI l G cy yX7_roads cX7_roads 2 (some .int) 1 0 0 [.ref (a 0), .int p0] L M (fun r L2 M2 => ∃ C2 D2, WI L2 M2 a act (ent cy a C2 D2 R) ∧ Inv C2 ∧ Kp [] C0 D0 C2 D2 ∧ True) := by
  refine MI.of (own := RX7) rfl (by decide) (Nat.le_of_ble_eq_true rfl) ?_
  intro p e s m below meth c A X hrt hnm
  obtain ⟨C, D, hC0, hD0, F, I, K⟩ : ∃ C D, C = C0 ∧ D = D0 ∧ WI L M a act (ent cy a C D R) ∧ Inv C ∧ Kp [] C0 D0 C D := ⟨C0, D0, rfl, rfl, F, I, Kp.rf⟩
  refine g_aload_n X dX7_roads_0 rfl (j := 0) rfl ?_
  refine i_get X F 0 rfl rfl fk_X7_19 dX7_roads_1 rfl ?_
  refine g_iload_n X dX7_roads_4 rfl (j := 1) rfl ?_
  refine g_callVI X (s_X2_hasPost l G F I p0 ) lk_X7_106 (F.1 3 rfl).2 (F.1 3 rfl).1 rfl rfl dX7_roads_5 (Nat.le_of_ble_eq_true rfl) ⟨by decide, by decide⟩ ⟨by decide, by decide⟩ (fun r1 L M hp => ?_)
  obtain ⟨C, D, F, I, K1, hr⟩ := hp
  have K := K.step K1 (by decide)
  rcases hr with rfl | ⟨rfl, n2, hn2a, hn2b, en2⟩
  · skip
    refine g_if_eq X dX7_roads_8 (tgt := 23) (by decide) (fun _ => ?_) (fun q => absurd (by decide) q)
    refine g_bipush X dX7_roads_23 (v := -2) (by decide) ?_
    exact g_iret X hrt dX7_roads_25 (by decide) (by decide) ⟨C, D, F, I, K, trivial⟩
  · skip
    subst en2
    refine g_if_eq X dX7_roads_8 (tgt := 23) (by decide) (fun q => absurd q (by decide)) (fun _ => ?_)
    refine g_aload_n X dX7_roads_11 rfl (j := 0) rfl ?_
    refine i_get X F 0 rfl rfl fk_X7_19 dX7_roads_12 rfl ?_
    refine i_get X F 3 rfl rfl fk_X7_109 dX7_roads_15 rfl ?_
    refine g_iload_n X dX7_roads_18 rfl (j := 1) rfl ?_
    obtain ⟨n3, hn3, en3⟩ := rg_nat (I 5 n2) (by decide)
    refine i_iald X F 5 rfl rfl dX7_roads_19 (vp_in_nI (by omega) (by decide)) (v := nI n3) (by rw [nI_clamp (by omega)]; exact en3) ?_
    refine g_goto X dX7_roads_20 (tgt := 25) (by decide) ?_
    exact g_iret X hrt dX7_roads_25 (by decide) (by decide) ⟨C, D, F, I, K, trivial⟩
set_option maxHeartbeats 4000000 in
set_option maxRecDepth 100000 in
theorem s_X7_goes (l : Launch) (G : va_G) {cy : Nat → ClassId} {L : List Nat} {M : Nat → va_E} {a : Nat → Nat} {act : Nat → Bool} {C0 : Nat → Nat → Int32} {D0 : Nat → Nat → Int64} {R : Nat → Nat → Option Nat} (F : WI L M a act (ent cy a C0 D0 R)) (I : Inv C0) (p0 : Int32) (p1 : Int32)  : MI l G cy yX7_goes cX7_goes 3 (some .int) 1 0 0 [.ref (a 0), .int p0, .int p1] L M (fun r L2 M2 => ∃ C2 D2, WI L2 M2 a act (ent cy a C2 D2 R) ∧ Inv C2 ∧ Kp [] C0 D0 C2 D2 ∧ True) := by
  refine MI.of (own := RX7) rfl (by decide) (Nat.le_of_ble_eq_true rfl) ?_
  intro p e s m below meth c A X hrt hnm
  obtain ⟨C, D, hC0, hD0, F, I, K⟩ : ∃ C D, C = C0 ∧ D = D0 ∧ WI L M a act (ent cy a C D R) ∧ Inv C ∧ Kp [] C0 D0 C D := ⟨C0, D0, rfl, rfl, F, I, Kp.rf⟩
  refine g_aload_n X dX7_goes_0 rfl (j := 0) rfl ?_
  refine i_get X F 0 rfl rfl fk_X7_19 dX7_goes_1 rfl ?_
  refine g_iload_n X dX7_goes_4 rfl (j := 1) rfl ?_
  refine g_callVI X (s_X2_hasPost l G F I p0 ) lk_X7_106 (F.1 3 rfl).2 (F.1 3 rfl).1 rfl rfl dX7_goes_5 (Nat.le_of_ble_eq_true rfl) ⟨by decide, by decide⟩ ⟨by decide, by decide⟩ (fun r1 L M hp => ?_)
  obtain ⟨C, D, F, I, K1, hr⟩ := hp
  have K := K.step K1 (by decide)
  rcases hr with rfl | ⟨rfl, n2, hn2a, hn2b, en2⟩
  · skip
    refine g_if_eq X dX7_goes_8 (tgt := 15) (by decide) (fun _ => ?_) (fun q => absurd (by decide) q)
    refine g_bipush X dX7_goes_15 (v := -2) (by decide) ?_
    exact g_iret X hrt dX7_goes_17 (by decide) (by decide) ⟨C, D, F, I, K, trivial⟩
  · skip
    subst en2
    refine g_if_eq X dX7_goes_8 (tgt := 15) (by decide) (fun q => absurd q (by decide)) (fun _ => ?_)
    refine g_iload_n X dX7_goes_11 rfl (j := 2) rfl ?_
    refine g_if_ge X dX7_goes_12 (tgt := 18) (by decide) (fun q3 => ?_) (fun q3 => ?_)
    · skip
      have q3t : (0 : Int32).toInt ≤ p1.toInt := Int32.le_iff_toInt_le.mp q3
      have q3k : (0 : Int32).toInt = 0 := (by decide)
      have q3b := Int32.toInt_lt p1
      obtain ⟨n4, hn4, rfl⟩ := nI_of (x := p1) (fun z => by have z2 := Int32.lt_iff_toInt_lt.mp z; have z3 : (0 : Int32).toInt = 0 := (by decide); omega)
      rw [nI_toInt (by omega)] at q3t
      have tn4 := nI_toInt (n := n4) (by omega)
      refine g_iload_n X dX7_goes_18 rfl (j := 2) rfl ?_
      refine g_aload_n X dX7_goes_19 rfl (j := 0) rfl ?_
      refine i_get X F 0 rfl rfl fk_X7_19 dX7_goes_20 rfl ?_
      refine i_get X F 3 rfl rfl fk_X7_109 dX7_goes_23 rfl ?_
      refine g_iload_n X dX7_goes_26 rfl (j := 1) rfl ?_
      obtain ⟨n5, hn5, en5⟩ := rg_nat (I 5 n2) (by decide)
      refine i_iald X F 5 rfl rfl dX7_goes_27 (vp_in_nI (by omega) (by decide)) (v := nI n5) (by rw [nI_clamp (by omega)]; exact en5) ?_
      refine g_icmp_ge X dX7_goes_28 (tgt := 43) (by decide) (fun q6 => ?_) (fun q6 => ?_)
      · skip
        have q6 : n5 ≤ n4 := (nI_leI (a := n5) (b := n4) (by omega) (by omega)).mp q6
        refine g_iconst X dX7_goes_43 (v := -1) (by decide) ?_
        exact g_iret X hrt dX7_goes_44 (by decide) (by decide) ⟨C, D, F, I, K, trivial⟩
      · skip
        have q6 : ¬ n5 ≤ n4 := fun z => q6 ((nI_leI (a := n5) (b := n4) (by omega) (by omega)).mpr z)
        refine g_aload_n X dX7_goes_31 rfl (j := 0) rfl ?_
        refine i_get X F 0 rfl rfl fk_X7_19 dX7_goes_32 rfl ?_
        refine g_iload_n X dX7_goes_35 rfl (j := 1) rfl ?_
        refine g_iload_n X dX7_goes_36 rfl (j := 2) rfl ?_
        refine g_callVI X (s_X2_goal l G F I n2 (by omega) (by omega) n4 (by omega) (by omega) ) lk_X7_112 (F.1 3 rfl).2 (F.1 3 rfl).1 rfl rfl dX7_goes_37 (Nat.le_of_ble_eq_true rfl) ⟨by decide, by decide⟩ ⟨by decide, by decide⟩ (fun r7 L M hp => ?_)
        obtain ⟨C, D, F, I, K1, hr⟩ := hp
        have K := K.step K1 (by decide)
        obtain ⟨n8, hn8, rfl⟩ := hr
        refine g_goto X dX7_goes_40 (tgt := 44) (by decide) ?_
        exact g_iret X hrt dX7_goes_44 (by decide) (by decide) ⟨C, D, F, I, K, trivial⟩
    · skip
      have q3t : ¬ (0 : Int32).toInt ≤ p1.toInt := fun z => q3 (Int32.le_iff_toInt_le.mpr z)
      have q3k : (0 : Int32).toInt = 0 := (by decide)
      have q3b := Int32.toInt_lt p1
      refine g_bipush X dX7_goes_15 (v := -2) (by decide) ?_
      exact g_iret X hrt dX7_goes_17 (by decide) (by decide) ⟨C, D, F, I, K, trivial⟩
set_option maxHeartbeats 4000000 in
set_option maxRecDepth 100000 in
theorem s_X7_told (l : Launch) (G : va_G) {cy : Nat → ClassId} {L : List Nat} {M : Nat → va_E} {a : Nat → Nat} {act : Nat → Bool} {C0 : Nat → Nat → Int32} {D0 : Nat → Nat → Int64} {R : Nat → Nat → Option Nat} (F : WI L M a act (ent cy a C0 D0 R)) (I : Inv C0) (p0 : Int32)  : MI l G cy yX7_told cX7_told 2 (some .int) 1 0 0 [.ref (a 0), .int p0] L M (fun r L2 M2 => ∃ C2 D2, WI L2 M2 a act (ent cy a C2 D2 R) ∧ Inv C2 ∧ Kp [] C0 D0 C2 D2 ∧ True) := by
  refine MI.of (own := RX7) rfl (by decide) (Nat.le_of_ble_eq_true rfl) ?_
  intro p e s m below meth c A X hrt hnm
  obtain ⟨C, D, hC0, hD0, F, I, K⟩ : ∃ C D, C = C0 ∧ D = D0 ∧ WI L M a act (ent cy a C D R) ∧ Inv C ∧ Kp [] C0 D0 C D := ⟨C0, D0, rfl, rfl, F, I, Kp.rf⟩
  refine g_aload_n X dX7_told_0 rfl (j := 0) rfl ?_
  refine i_get X F 0 rfl rfl fk_X7_19 dX7_told_1 rfl ?_
  refine g_iload_n X dX7_told_4 rfl (j := 1) rfl ?_
  refine g_callVI X (s_X2_hasPost l G F I p0 ) lk_X7_106 (F.1 3 rfl).2 (F.1 3 rfl).1 rfl rfl dX7_told_5 (Nat.le_of_ble_eq_true rfl) ⟨by decide, by decide⟩ ⟨by decide, by decide⟩ (fun r1 L M hp => ?_)
  obtain ⟨C, D, F, I, K1, hr⟩ := hp
  have K := K.step K1 (by decide)
  rcases hr with rfl | ⟨rfl, n2, hn2a, hn2b, en2⟩
  · skip
    refine g_if_ne X dX7_told_8 (tgt := 14) (by decide) (fun q => absurd (by decide) q) (fun _ => ?_)
    refine g_bipush X dX7_told_11 (v := -2) (by decide) ?_
    exact g_iret X hrt dX7_told_13 (by decide) (by decide) ⟨C, D, F, I, K, trivial⟩
  · skip
    subst en2
    refine g_if_ne X dX7_told_8 (tgt := 14) (by decide) (fun _ => ?_) (fun q => absurd q (by decide))
    refine g_aload_n X dX7_told_14 rfl (j := 0) rfl ?_
    refine i_get X F 0 rfl rfl fk_X7_19 dX7_told_15 rfl ?_
    refine g_iload_n X dX7_told_18 rfl (j := 1) rfl ?_
    refine g_callVI X (s_X2_hasArm l G F I n2 (by omega) (by omega) ) lk_X7_116 (F.1 3 rfl).2 (F.1 3 rfl).1 rfl rfl dX7_told_19 (Nat.le_of_ble_eq_true rfl) ⟨by decide, by decide⟩ ⟨by decide, by decide⟩ (fun r3 L M hp => ?_)
    obtain ⟨C, D, F, I, K1, hr⟩ := hp
    have K := K.step K1 (by decide)
    rcases hr with rfl | ⟨rfl, ra4⟩
    · skip
      refine g_if_eq X dX7_told_22 (tgt := 37) (by decide) (fun _ => ?_) (fun q => absurd (by decide) q)
      refine g_iconst X dX7_told_37 (v := -1) (by decide) ?_
      exact g_iret X hrt dX7_told_38 (by decide) (by decide) ⟨C, D, F, I, K, trivial⟩
    · skip
      refine g_if_eq X dX7_told_22 (tgt := 37) (by decide) (fun q => absurd q (by decide)) (fun _ => ?_)
      refine g_aload_n X dX7_told_25 rfl (j := 0) rfl ?_
      refine i_get X F 0 rfl rfl fk_X7_19 dX7_told_26 rfl ?_
      refine i_get X F 3 rfl rfl fk_X7_119 dX7_told_29 rfl ?_
      refine g_iload_n X dX7_told_32 rfl (j := 1) rfl ?_
      obtain ⟨n5, hn5, en5⟩ := rg_nat (I 7 n2) (by decide)
      refine i_iald X F 7 rfl rfl dX7_told_33 (vp_in_nI (by omega) (by decide)) (v := nI n5) (by rw [nI_clamp (by omega)]; exact en5) ?_
      refine g_goto X dX7_told_34 (tgt := 38) (by decide) ?_
      exact g_iret X hrt dX7_told_38 (by decide) (by decide) ⟨C, D, F, I, K, trivial⟩
set_option maxHeartbeats 4000000 in
set_option maxRecDepth 100000 in
theorem s_X7_walker (l : Launch) (G : va_G) {cy : Nat → ClassId} {L : List Nat} {M : Nat → va_E} {a : Nat → Nat} {act : Nat → Bool} {C0 : Nat → Nat → Int32} {D0 : Nat → Nat → Int64} {R : Nat → Nat → Option Nat} (F : WI L M a act (ent cy a C0 D0 R)) (I : Inv C0) (p0 : Int32) (p1 : Int32)  : MI l G cy yX7_walker cX7_walker 3 (some .int) 1 0 0 [.ref (a 0), .int p0, .int p1] L M (fun r L2 M2 => ∃ C2 D2, WI L2 M2 a act (ent cy a C2 D2 R) ∧ Inv C2 ∧ Kp [] C0 D0 C2 D2 ∧ True) := by
  refine MI.of (own := RX7) rfl (by decide) (Nat.le_of_ble_eq_true rfl) ?_
  intro p e s m below meth c A X hrt hnm
  obtain ⟨C, D, hC0, hD0, F, I, K⟩ : ∃ C D, C = C0 ∧ D = D0 ∧ WI L M a act (ent cy a C D R) ∧ Inv C ∧ Kp [] C0 D0 C D := ⟨C0, D0, rfl, rfl, F, I, Kp.rf⟩
  refine g_aload_n X dX7_walker_0 rfl (j := 0) rfl ?_
  refine i_get X F 0 rfl rfl fk_X7_19 dX7_walker_1 rfl ?_
  refine g_iload_n X dX7_walker_4 rfl (j := 1) rfl ?_
  refine g_callVI X (s_X2_hasWalker l G F I p0 ) lk_X7_122 (F.1 3 rfl).2 (F.1 3 rfl).1 rfl rfl dX7_walker_5 (Nat.le_of_ble_eq_true rfl) ⟨by decide, by decide⟩ ⟨by decide, by decide⟩ (fun r1 L M hp => ?_)
  obtain ⟨C, D, F, I, K1, hr⟩ := hp
  have K := K.step K1 (by decide)
  rcases hr with rfl | ⟨rfl, n2, hn2a, hn2b, en2⟩
  · skip
    refine g_if_eq X dX7_walker_8 (tgt := 18) (by decide) (fun _ => ?_) (fun q => absurd (by decide) q)
    refine g_bipush X dX7_walker_18 (v := -2) (by decide) ?_
    exact g_iret X hrt dX7_walker_20 (by decide) (by decide) ⟨C, D, F, I, K, trivial⟩
  · skip
    subst en2
    refine g_if_eq X dX7_walker_8 (tgt := 18) (by decide) (fun q => absurd q (by decide)) (fun _ => ?_)
    refine g_iload_n X dX7_walker_11 rfl (j := 2) rfl ?_
    refine g_callSI X (s_X7_isEither l G F I p1 ) lk_X7_125 rfl rfl dX7_walker_12 (Nat.le_of_ble_eq_true rfl) ⟨by decide, by decide⟩ ⟨by decide, by decide⟩ (fun r3 L M hp => ?_)
    obtain ⟨C, D, F, I, K1, hr⟩ := hp
    have K := K.step K1 (by decide)
    rcases hr with rfl | rfl
    · skip
      refine g_if_ne X dX7_walker_15 (tgt := 21) (by decide) (fun q => absurd (by decide) q) (fun _ => ?_)
      refine g_bipush X dX7_walker_18 (v := -2) (by decide) ?_
      exact g_iret X hrt dX7_walker_20 (by decide) (by decide) ⟨C, D, F, I, K, trivial⟩
    · skip
      refine g_if_ne X dX7_walker_15 (tgt := 21) (by decide) (fun _ => ?_) (fun q => absurd q (by decide))
      refine g_iload_n X dX7_walker_21 rfl (j := 2) rfl ?_
      refine g_if_ne X dX7_walker_22 (tgt := 37) (by decide) (fun q4 => ?_) (fun q4 => ?_)
      · skip
        refine g_aload_n X dX7_walker_37 rfl (j := 0) rfl ?_
        refine i_get X F 0 rfl rfl fk_X7_19 dX7_walker_38 rfl ?_
        refine i_get X F 3 rfl rfl fk_X7_131 dX7_walker_41 rfl ?_
        refine g_iload_n X dX7_walker_44 rfl (j := 1) rfl ?_
        refine i_iald X F 9 rfl rfl dX7_walker_45 (vp_in_nI (by omega) (by decide)) rfl ?_
        refine Go.gen (fun o5 => ?_)
        exact g_iret X hrt dX7_walker_46 (by decide) (by decide) ⟨C, D, F, I, K, trivial⟩
      · skip
        subst q4
        refine g_aload_n X dX7_walker_25 rfl (j := 0) rfl ?_
        refine i_get X F 0 rfl rfl fk_X7_19 dX7_walker_26 rfl ?_
        refine i_get X F 3 rfl rfl fk_X7_128 dX7_walker_29 rfl ?_
        refine g_iload_n X dX7_walker_32 rfl (j := 1) rfl ?_
        obtain ⟨n6, hn6, en6⟩ := rg_nat (I 8 n2) (by decide)
        refine i_iald X F 8 rfl rfl dX7_walker_33 (vp_in_nI (by omega) (by decide)) (v := nI n6) (by rw [nI_clamp (by omega)]; exact en6) ?_
        refine g_goto X dX7_walker_34 (tgt := 46) (by decide) ?_
        exact g_iret X hrt dX7_walker_46 (by decide) (by decide) ⟨C, D, F, I, K, trivial⟩
set_option maxHeartbeats 4000000 in
set_option maxRecDepth 100000 in
theorem s_X7_at (l : Launch) (G : va_G) {cy : Nat → ClassId} {L : List Nat} {M : Nat → va_E} {a : Nat → Nat} {act : Nat → Bool} {C0 : Nat → Nat → Int32} {D0 : Nat → Nat → Int64} {R : Nat → Nat → Option Nat} (F : WI L M a act (ent cy a C0 D0 R)) (I : Inv C0) (p0 : Int32) (p1 : Int32)  : MI l G cy yX7_at cX7_at 3 (some .int) 2 0 0 [.ref (a 0), .int p0, .int p1] L M (fun r L2 M2 => ∃ C2 D2, WI L2 M2 a act (ent cy a C2 D2 R) ∧ Inv C2 ∧ Kp [] C0 D0 C2 D2 ∧ True) := by
  refine MI.of (own := RX7) rfl (by decide) (Nat.le_of_ble_eq_true rfl) ?_
  intro p e s m below meth c A X hrt hnm
  obtain ⟨C, D, hC0, hD0, F, I, K⟩ : ∃ C D, C = C0 ∧ D = D0 ∧ WI L M a act (ent cy a C D R) ∧ Inv C ∧ Kp [] C0 D0 C D := ⟨C0, D0, rfl, rfl, F, I, Kp.rf⟩
  refine g_aload_n X dX7_at_0 rfl (j := 0) rfl ?_
  refine i_get X F 0 rfl rfl fk_X7_19 dX7_at_1 rfl ?_
  refine g_iload_n X dX7_at_4 rfl (j := 1) rfl ?_
  refine g_callVI X (s_X2_hasWalker l G F I p0 ) lk_X7_122 (F.1 3 rfl).2 (F.1 3 rfl).1 rfl rfl dX7_at_5 (Nat.le_of_ble_eq_true rfl) ⟨by decide, by decide⟩ ⟨by decide, by decide⟩ (fun r1 L M hp => ?_)
  obtain ⟨C, D, F, I, K1, hr⟩ := hp
  have K := K.step K1 (by decide)
  rcases hr with rfl | ⟨rfl, n2, hn2a, hn2b, en2⟩
  · skip
    refine g_if_eq X dX7_at_8 (tgt := 22) (by decide) (fun _ => ?_) (fun q => absurd (by decide) q)
    refine g_bipush X dX7_at_22 (v := -2) (by decide) ?_
    exact g_iret X hrt dX7_at_24 (by decide) (by decide) ⟨C, D, F, I, K, trivial⟩
  · skip
    subst en2
    refine g_if_eq X dX7_at_8 (tgt := 22) (by decide) (fun q => absurd q (by decide)) (fun _ => ?_)
    refine g_aload_n X dX7_at_11 rfl (j := 0) rfl ?_
    refine i_get X F 0 rfl rfl fk_X7_19 dX7_at_12 rfl ?_
    refine g_iload_n X dX7_at_15 rfl (j := 2) rfl ?_
    refine g_callVI X (s_X2_hasHour l G F I p1 ) lk_X7_134 (F.1 3 rfl).2 (F.1 3 rfl).1 rfl rfl dX7_at_16 (Nat.le_of_ble_eq_true rfl) ⟨by decide, by decide⟩ ⟨by decide, by decide⟩ (fun r3 L M hp => ?_)
    obtain ⟨C, D, F, I, K1, hr⟩ := hp
    have K := K.step K1 (by decide)
    rcases hr with rfl | ⟨rfl, n4, hn4a, hn4b, en4⟩
    · skip
      refine g_if_ne X dX7_at_19 (tgt := 25) (by decide) (fun q => absurd (by decide) q) (fun _ => ?_)
      refine g_bipush X dX7_at_22 (v := -2) (by decide) ?_
      exact g_iret X hrt dX7_at_24 (by decide) (by decide) ⟨C, D, F, I, K, trivial⟩
    · skip
      subst en4
      refine g_if_ne X dX7_at_19 (tgt := 25) (by decide) (fun _ => ?_) (fun q => absurd q (by decide))
      refine g_aload_n X dX7_at_25 rfl (j := 0) rfl ?_
      refine i_get X F 0 rfl rfl fk_X7_41 dX7_at_26 rfl ?_
      refine g_iload_n X dX7_at_29 rfl (j := 1) rfl ?_
      refine g_iload_n X dX7_at_30 rfl (j := 2) rfl ?_
      refine g_callVI X (s_X4_placeOf_25 l G F I n2 (by omega) (by omega) n4 (by omega) (by omega) ) lk_X7_137 (F.1 25 rfl).2 (F.1 25 rfl).1 rfl rfl dX7_at_31 (Nat.le_of_ble_eq_true rfl) ⟨by decide, by decide⟩ ⟨by decide, by decide⟩ (fun r5 L M hp => ?_)
      obtain ⟨C, D, F, I, K1, hr⟩ := hp
      have K := K.step K1 (by decide)
      obtain ⟨hr, hpln6⟩ := hr
      rcases okp_nat hr with rfl | ⟨n6, hn6, rfl⟩
      · skip
        exact g_iret X hrt dX7_at_34 (by decide) (by decide) ⟨C, D, F, I, K, trivial⟩
      · skip
        exact g_iret X hrt dX7_at_34 (by decide) (by decide) ⟨C, D, F, I, K, trivial⟩
set_option maxHeartbeats 4000000 in
set_option maxRecDepth 100000 in
theorem s_X7_arm (l : Launch) (G : va_G) {cy : Nat → ClassId} {L : List Nat} {M : Nat → va_E} {a : Nat → Nat} {act : Nat → Bool} {C0 : Nat → Nat → Int32} {D0 : Nat → Nat → Int64} {R : Nat → Nat → Option Nat} (F : WI L M a act (ent cy a C0 D0 R)) (I : Inv C0) (p0 : Int32) (p1 : Int32)  : MI l G cy yX7_arm cX7_arm 3 (some .int) 2 0 0 [.ref (a 0), .int p0, .int p1] L M (fun r L2 M2 => ∃ C2 D2, WI L2 M2 a act (ent cy a C2 D2 R) ∧ Inv C2 ∧ Kp [] C0 D0 C2 D2 ∧ True) := by
  refine MI.of (own := RX7) rfl (by decide) (Nat.le_of_ble_eq_true rfl) ?_
  intro p e s m below meth c A X hrt hnm
  obtain ⟨C, D, hC0, hD0, F, I, K⟩ : ∃ C D, C = C0 ∧ D = D0 ∧ WI L M a act (ent cy a C D R) ∧ Inv C ∧ Kp [] C0 D0 C D := ⟨C0, D0, rfl, rfl, F, I, Kp.rf⟩
  refine g_aload_n X dX7_arm_0 rfl (j := 0) rfl ?_
  refine i_get X F 0 rfl rfl fk_X7_19 dX7_arm_1 rfl ?_
  refine g_iload_n X dX7_arm_4 rfl (j := 1) rfl ?_
  refine g_callVI X (s_X2_hasPost l G F I p0 ) lk_X7_106 (F.1 3 rfl).2 (F.1 3 rfl).1 rfl rfl dX7_arm_5 (Nat.le_of_ble_eq_true rfl) ⟨by decide, by decide⟩ ⟨by decide, by decide⟩ (fun r1 L M hp => ?_)
  obtain ⟨C, D, F, I, K1, hr⟩ := hp
  have K := K.step K1 (by decide)
  rcases hr with rfl | ⟨rfl, n2, hn2a, hn2b, en2⟩
  · skip
    refine g_if_eq X dX7_arm_8 (tgt := 22) (by decide) (fun _ => ?_) (fun q => absurd (by decide) q)
    refine g_bipush X dX7_arm_22 (v := -2) (by decide) ?_
    exact g_iret X hrt dX7_arm_24 (by decide) (by decide) ⟨C, D, F, I, K, trivial⟩
  · skip
    subst en2
    refine g_if_eq X dX7_arm_8 (tgt := 22) (by decide) (fun q => absurd q (by decide)) (fun _ => ?_)
    refine g_aload_n X dX7_arm_11 rfl (j := 0) rfl ?_
    refine i_get X F 0 rfl rfl fk_X7_19 dX7_arm_12 rfl ?_
    refine g_iload_n X dX7_arm_15 rfl (j := 2) rfl ?_
    refine g_callVI X (s_X2_hasHour l G F I p1 ) lk_X7_134 (F.1 3 rfl).2 (F.1 3 rfl).1 rfl rfl dX7_arm_16 (Nat.le_of_ble_eq_true rfl) ⟨by decide, by decide⟩ ⟨by decide, by decide⟩ (fun r3 L M hp => ?_)
    obtain ⟨C, D, F, I, K1, hr⟩ := hp
    have K := K.step K1 (by decide)
    rcases hr with rfl | ⟨rfl, n4, hn4a, hn4b, en4⟩
    · skip
      refine g_if_ne X dX7_arm_19 (tgt := 25) (by decide) (fun q => absurd (by decide) q) (fun _ => ?_)
      refine g_bipush X dX7_arm_22 (v := -2) (by decide) ?_
      exact g_iret X hrt dX7_arm_24 (by decide) (by decide) ⟨C, D, F, I, K, trivial⟩
    · skip
      subst en4
      refine g_if_ne X dX7_arm_19 (tgt := 25) (by decide) (fun _ => ?_) (fun q => absurd q (by decide))
      refine g_aload_n X dX7_arm_25 rfl (j := 0) rfl ?_
      refine i_get X F 0 rfl rfl fk_X7_41 dX7_arm_26 rfl ?_
      refine g_iload_n X dX7_arm_29 rfl (j := 1) rfl ?_
      refine g_iload_n X dX7_arm_30 rfl (j := 2) rfl ?_
      refine g_callVI X (s_X4_armOf_25 l G F I n2 (by omega) (by omega) n4 (by omega) (by omega) ) lk_X7_140 (F.1 25 rfl).2 (F.1 25 rfl).1 rfl rfl dX7_arm_31 (Nat.le_of_ble_eq_true rfl) ⟨by decide, by decide⟩ ⟨by decide, by decide⟩ (fun r5 L M hp => ?_)
      obtain ⟨C, D, F, I, K1, hr⟩ := hp
      have K := K.step K1 (by decide)
      exact g_iret X hrt dX7_arm_34 (by decide) (by decide) ⟨C, D, F, I, K, trivial⟩
set_option maxHeartbeats 4000000 in
set_option maxRecDepth 100000 in
theorem s_X7_here (l : Launch) (G : va_G) {cy : Nat → ClassId} {L : List Nat} {M : Nat → va_E} {a : Nat → Nat} {act : Nat → Bool} {C0 : Nat → Nat → Int32} {D0 : Nat → Nat → Int64} {R : Nat → Nat → Option Nat} (F : WI L M a act (ent cy a C0 D0 R)) (I : Inv C0) (p0 : Int32) (p1 : Int32)  : MI l G cy yX7_here cX7_here 3 (some .int) 2 0 0 [.ref (a 0), .int p0, .int p1] L M (fun r L2 M2 => ∃ C2 D2, WI L2 M2 a act (ent cy a C2 D2 R) ∧ Inv C2 ∧ Kp [] C0 D0 C2 D2 ∧ True) := by
  refine MI.of (own := RX7) rfl (by decide) (Nat.le_of_ble_eq_true rfl) ?_
  intro p e s m below meth c A X hrt hnm
  obtain ⟨C, D, hC0, hD0, F, I, K⟩ : ∃ C D, C = C0 ∧ D = D0 ∧ WI L M a act (ent cy a C D R) ∧ Inv C ∧ Kp [] C0 D0 C D := ⟨C0, D0, rfl, rfl, F, I, Kp.rf⟩
  refine g_aload_n X dX7_here_0 rfl (j := 0) rfl ?_
  refine i_get X F 0 rfl rfl fk_X7_19 dX7_here_1 rfl ?_
  refine g_iload_n X dX7_here_4 rfl (j := 1) rfl ?_
  refine g_callVI X (s_X2_hasPlace l G F I p0 ) lk_X7_143 (F.1 3 rfl).2 (F.1 3 rfl).1 rfl rfl dX7_here_5 (Nat.le_of_ble_eq_true rfl) ⟨by decide, by decide⟩ ⟨by decide, by decide⟩ (fun r1 L M hp => ?_)
  obtain ⟨C, D, F, I, K1, hr⟩ := hp
  have K := K.step K1 (by decide)
  rcases hr with rfl | ⟨rfl, n2, hn2, en2⟩
  · skip
    refine g_if_eq X dX7_here_8 (tgt := 22) (by decide) (fun _ => ?_) (fun q => absurd (by decide) q)
    refine g_bipush X dX7_here_22 (v := -2) (by decide) ?_
    exact g_iret X hrt dX7_here_24 (by decide) (by decide) ⟨C, D, F, I, K, trivial⟩
  · skip
    subst en2
    refine g_if_eq X dX7_here_8 (tgt := 22) (by decide) (fun q => absurd q (by decide)) (fun _ => ?_)
    refine g_aload_n X dX7_here_11 rfl (j := 0) rfl ?_
    refine i_get X F 0 rfl rfl fk_X7_19 dX7_here_12 rfl ?_
    refine g_iload_n X dX7_here_15 rfl (j := 2) rfl ?_
    refine g_callVI X (s_X2_hasHour l G F I p1 ) lk_X7_134 (F.1 3 rfl).2 (F.1 3 rfl).1 rfl rfl dX7_here_16 (Nat.le_of_ble_eq_true rfl) ⟨by decide, by decide⟩ ⟨by decide, by decide⟩ (fun r3 L M hp => ?_)
    obtain ⟨C, D, F, I, K1, hr⟩ := hp
    have K := K.step K1 (by decide)
    rcases hr with rfl | ⟨rfl, n4, hn4a, hn4b, en4⟩
    · skip
      refine g_if_ne X dX7_here_19 (tgt := 25) (by decide) (fun q => absurd (by decide) q) (fun _ => ?_)
      refine g_bipush X dX7_here_22 (v := -2) (by decide) ?_
      exact g_iret X hrt dX7_here_24 (by decide) (by decide) ⟨C, D, F, I, K, trivial⟩
    · skip
      subst en4
      refine g_if_ne X dX7_here_19 (tgt := 25) (by decide) (fun _ => ?_) (fun q => absurd q (by decide))
      refine g_aload_n X dX7_here_25 rfl (j := 0) rfl ?_
      refine i_get X F 0 rfl rfl fk_X7_41 dX7_here_26 rfl ?_
      refine g_iload_n X dX7_here_29 rfl (j := 1) rfl ?_
      refine g_iload_n X dX7_here_30 rfl (j := 2) rfl ?_
      refine g_callVI X (s_X4_walkersAt_25 l G F I (nI n2) n4 (by omega) (by omega) ) lk_X7_146 (F.1 25 rfl).2 (F.1 25 rfl).1 rfl rfl dX7_here_31 (Nat.le_of_ble_eq_true rfl) ⟨by decide, by decide⟩ ⟨by decide, by decide⟩ (fun r5 L M hp => ?_)
      obtain ⟨C, D, F, I, K1, hr⟩ := hp
      have K := K.step K1 (by decide)
      exact g_iret X hrt dX7_here_34 (by decide) (by decide) ⟨C, D, F, I, K, trivial⟩
set_option maxHeartbeats 4000000 in
set_option maxRecDepth 100000 in
theorem s_X7_sent (l : Launch) (G : va_G) {cy : Nat → ClassId} {L : List Nat} {M : Nat → va_E} {a : Nat → Nat} {act : Nat → Bool} {C0 : Nat → Nat → Int32} {D0 : Nat → Nat → Int64} {R : Nat → Nat → Option Nat} (F : WI L M a act (ent cy a C0 D0 R)) (I : Inv C0) (p0 : Int32)  : MI l G cy yX7_sent cX7_sent 2 (some .int) 3 0 0 [.ref (a 0), .int p0] L M (fun r L2 M2 => ∃ C2 D2, WI L2 M2 a act (ent cy a C2 D2 R) ∧ Inv C2 ∧ Kp [] C0 D0 C2 D2 ∧ True) := by
  refine MI.of (own := RX7) rfl (by decide) (Nat.le_of_ble_eq_true rfl) ?_
  intro p e s m below meth c A X hrt hnm
  obtain ⟨C, D, hC0, hD0, F, I, K⟩ : ∃ C D, C = C0 ∧ D = D0 ∧ WI L M a act (ent cy a C D R) ∧ Inv C ∧ Kp [] C0 D0 C D := ⟨C0, D0, rfl, rfl, F, I, Kp.rf⟩
  refine g_aload_n X dX7_sent_0 rfl (j := 0) rfl ?_
  refine i_get X F 0 rfl rfl fk_X7_19 dX7_sent_1 rfl ?_
  refine g_iload_n X dX7_sent_4 rfl (j := 1) rfl ?_
  refine g_callVI X (s_X2_hasHourAhead l G F I p0 ) lk_X7_149 (F.1 3 rfl).2 (F.1 3 rfl).1 rfl rfl dX7_sent_5 (Nat.le_of_ble_eq_true rfl) ⟨by decide, by decide⟩ ⟨by decide, by decide⟩ (fun r1 L M hp => ?_)
  obtain ⟨C, D, F, I, K1, hr⟩ := hp
  have K := K.step K1 (by decide)
  rcases hr with rfl | ⟨rfl, n2, hn2a, hn2b, en2⟩
  · skip
    refine g_if_eq X dX7_sent_8 (tgt := 22) (by decide) (fun _ => ?_) (fun q => absurd (by decide) q)
    refine g_bipush X dX7_sent_22 (v := -2) (by decide) ?_
    exact g_iret X hrt dX7_sent_24 (by decide) (by decide) ⟨C, D, F, I, K, trivial⟩
  · skip
    subst en2
    refine g_if_eq X dX7_sent_8 (tgt := 22) (by decide) (fun q => absurd q (by decide)) (fun _ => ?_)
    refine g_aload_n X dX7_sent_11 rfl (j := 0) rfl ?_
    refine i_get X F 0 rfl rfl fk_X7_41 dX7_sent_12 rfl ?_
    refine g_iload_n X dX7_sent_15 rfl (j := 1) rfl ?_
    refine g_callVI X (s_X4_walkersSent_25 l G F I n2 (by omega) (by omega) ) lk_X7_152 (F.1 25 rfl).2 (F.1 25 rfl).1 rfl rfl dX7_sent_16 (Nat.le_of_ble_eq_true rfl) ⟨by decide, by decide⟩ ⟨by decide, by decide⟩ (fun r3 L M hp => ?_)
    obtain ⟨C, D, F, I, K1, hr⟩ := hp
    have K := K.step K1 (by decide)
    refine g_goto X dX7_sent_19 (tgt := 24) (by decide) ?_
    exact g_iret X hrt dX7_sent_24 (by decide) (by decide) ⟨C, D, F, I, K, trivial⟩
set_option maxHeartbeats 4000000 in
set_option maxRecDepth 100000 in
theorem s_X7_sends (l : Launch) (G : va_G) {cy : Nat → ClassId} {L : List Nat} {M : Nat → va_E} {a : Nat → Nat} {act : Nat → Bool} {C0 : Nat → Nat → Int32} {D0 : Nat → Nat → Int64} {R : Nat → Nat → Option Nat} (F : WI L M a act (ent cy a C0 D0 R)) (I : Inv C0) (p0 : Int32)  : MI l G cy yX7_sends cX7_sends 2 (some .int) 3 0 0 [.ref (a 0), .int p0] L M (fun r L2 M2 => ∃ C2 D2, WI L2 M2 a act (ent cy a C2 D2 R) ∧ Inv C2 ∧ Kp [] C0 D0 C2 D2 ∧ True) := by
  refine MI.of (own := RX7) rfl (by decide) (Nat.le_of_ble_eq_true rfl) ?_
  intro p e s m below meth c A X hrt hnm
  obtain ⟨C, D, hC0, hD0, F, I, K⟩ : ∃ C D, C = C0 ∧ D = D0 ∧ WI L M a act (ent cy a C D R) ∧ Inv C ∧ Kp [] C0 D0 C D := ⟨C0, D0, rfl, rfl, F, I, Kp.rf⟩
  refine g_aload_n X dX7_sends_0 rfl (j := 0) rfl ?_
  refine i_get X F 0 rfl rfl fk_X7_19 dX7_sends_1 rfl ?_
  refine g_iload_n X dX7_sends_4 rfl (j := 1) rfl ?_
  refine g_callVI X (s_X2_hasPost l G F I p0 ) lk_X7_106 (F.1 3 rfl).2 (F.1 3 rfl).1 rfl rfl dX7_sends_5 (Nat.le_of_ble_eq_true rfl) ⟨by decide, by decide⟩ ⟨by decide, by decide⟩ (fun r1 L M hp => ?_)
  obtain ⟨C, D, F, I, K1, hr⟩ := hp
  have K := K.step K1 (by decide)
  rcases hr with rfl | ⟨rfl, n2, hn2a, hn2b, en2⟩
  · skip
    refine g_if_eq X dX7_sends_8 (tgt := 22) (by decide) (fun _ => ?_) (fun q => absurd (by decide) q)
    refine g_bipush X dX7_sends_22 (v := -2) (by decide) ?_
    exact g_iret X hrt dX7_sends_24 (by decide) (by decide) ⟨C, D, F, I, K, trivial⟩
  · skip
    subst en2
    refine g_if_eq X dX7_sends_8 (tgt := 22) (by decide) (fun q => absurd q (by decide)) (fun _ => ?_)
    refine g_aload_n X dX7_sends_11 rfl (j := 0) rfl ?_
    refine i_get X F 0 rfl rfl fk_X7_41 dX7_sends_12 rfl ?_
    refine g_iload_n X dX7_sends_15 rfl (j := 1) rfl ?_
    refine g_callVI X (s_X4_timesPostSent_25 l G F I n2 (by omega) (by omega) ) lk_X7_156 (F.1 25 rfl).2 (F.1 25 rfl).1 rfl rfl dX7_sends_16 (Nat.le_of_ble_eq_true rfl) ⟨by decide, by decide⟩ ⟨by decide, by decide⟩ (fun r3 L M hp => ?_)
    obtain ⟨C, D, F, I, K1, hr⟩ := hp
    have K := K.step K1 (by decide)
    refine g_goto X dX7_sends_19 (tgt := 24) (by decide) ?_
    exact g_iret X hrt dX7_sends_24 (by decide) (by decide) ⟨C, D, F, I, K, trivial⟩
set_option maxHeartbeats 4000000 in
set_option maxRecDepth 100000 in
theorem s_X7_used (l : Launch) (G : va_G) {cy : Nat → ClassId} {L : List Nat} {M : Nat → va_E} {a : Nat → Nat} {act : Nat → Bool} {C0 : Nat → Nat → Int32} {D0 : Nat → Nat → Int64} {R : Nat → Nat → Option Nat} (F : WI L M a act (ent cy a C0 D0 R)) (I : Inv C0) (p0 : Int32) (p1 : Int32)  : MI l G cy yX7_used cX7_used 3 (some .int) 2 0 0 [.ref (a 0), .int p0, .int p1] L M (fun r L2 M2 => ∃ C2 D2, WI L2 M2 a act (ent cy a C2 D2 R) ∧ Inv C2 ∧ Kp [] C0 D0 C2 D2 ∧ True) := by
  refine MI.of (own := RX7) rfl (by decide) (Nat.le_of_ble_eq_true rfl) ?_
  intro p e s m below meth c A X hrt hnm
  obtain ⟨C, D, hC0, hD0, F, I, K⟩ : ∃ C D, C = C0 ∧ D = D0 ∧ WI L M a act (ent cy a C D R) ∧ Inv C ∧ Kp [] C0 D0 C D := ⟨C0, D0, rfl, rfl, F, I, Kp.rf⟩
  refine g_aload_n X dX7_used_0 rfl (j := 0) rfl ?_
  refine i_get X F 0 rfl rfl fk_X7_19 dX7_used_1 rfl ?_
  refine g_iload_n X dX7_used_4 rfl (j := 1) rfl ?_
  refine g_callVI X (s_X2_hasPost l G F I p0 ) lk_X7_106 (F.1 3 rfl).2 (F.1 3 rfl).1 rfl rfl dX7_used_5 (Nat.le_of_ble_eq_true rfl) ⟨by decide, by decide⟩ ⟨by decide, by decide⟩ (fun r1 L M hp => ?_)
  obtain ⟨C, D, F, I, K1, hr⟩ := hp
  have K := K.step K1 (by decide)
  rcases hr with rfl | ⟨rfl, n2, hn2a, hn2b, en2⟩
  · skip
    refine g_if_eq X dX7_used_8 (tgt := 15) (by decide) (fun _ => ?_) (fun q => absurd (by decide) q)
    refine g_bipush X dX7_used_15 (v := -2) (by decide) ?_
    exact g_iret X hrt dX7_used_17 (by decide) (by decide) ⟨C, D, F, I, K, trivial⟩
  · skip
    subst en2
    refine g_if_eq X dX7_used_8 (tgt := 15) (by decide) (fun q => absurd q (by decide)) (fun _ => ?_)
    refine g_iload_n X dX7_used_11 rfl (j := 2) rfl ?_
    refine g_if_ge X dX7_used_12 (tgt := 18) (by decide) (fun q3 => ?_) (fun q3 => ?_)
    · skip
      have q3t : (0 : Int32).toInt ≤ p1.toInt := Int32.le_iff_toInt_le.mp q3
      have q3k : (0 : Int32).toInt = 0 := (by decide)
      have q3b := Int32.toInt_lt p1
      obtain ⟨n4, hn4, rfl⟩ := nI_of (x := p1) (fun z => by have z2 := Int32.lt_iff_toInt_lt.mp z; have z3 : (0 : Int32).toInt = 0 := (by decide); omega)
      rw [nI_toInt (by omega)] at q3t
      have tn4 := nI_toInt (n := n4) (by omega)
      refine g_iload_n X dX7_used_18 rfl (j := 2) rfl ?_
      refine g_aload_n X dX7_used_19 rfl (j := 0) rfl ?_
      refine i_get X F 0 rfl rfl fk_X7_19 dX7_used_20 rfl ?_
      refine i_get X F 3 rfl rfl fk_X7_109 dX7_used_23 rfl ?_
      refine g_iload_n X dX7_used_26 rfl (j := 1) rfl ?_
      obtain ⟨n5, hn5, en5⟩ := rg_nat (I 5 n2) (by decide)
      refine i_iald X F 5 rfl rfl dX7_used_27 (vp_in_nI (by omega) (by decide)) (v := nI n5) (by rw [nI_clamp (by omega)]; exact en5) ?_
      refine g_icmp_ge X dX7_used_28 (tgt := 43) (by decide) (fun q6 => ?_) (fun q6 => ?_)
      · skip
        have q6 : n5 ≤ n4 := (nI_leI (a := n5) (b := n4) (by omega) (by omega)).mp q6
        refine g_iconst X dX7_used_43 (v := -1) (by decide) ?_
        exact g_iret X hrt dX7_used_44 (by decide) (by decide) ⟨C, D, F, I, K, trivial⟩
      · skip
        have q6 : ¬ n5 ≤ n4 := fun z => q6 ((nI_leI (a := n5) (b := n4) (by omega) (by omega)).mpr z)
        refine g_aload_n X dX7_used_31 rfl (j := 0) rfl ?_
        refine i_get X F 0 rfl rfl fk_X7_41 dX7_used_32 rfl ?_
        refine g_iload_n X dX7_used_35 rfl (j := 1) rfl ?_
        refine g_iload_n X dX7_used_36 rfl (j := 2) rfl ?_
        refine g_callVI X (s_X4_timesRoadUsed_25 l G F I (nI n2) (nI n4) ) lk_X7_159 (F.1 25 rfl).2 (F.1 25 rfl).1 rfl rfl dX7_used_37 (Nat.le_of_ble_eq_true rfl) ⟨by decide, by decide⟩ ⟨by decide, by decide⟩ (fun r7 L M hp => ?_)
        obtain ⟨C, D, F, I, K1, hr⟩ := hp
        have K := K.step K1 (by decide)
        refine g_goto X dX7_used_40 (tgt := 44) (by decide) ?_
        exact g_iret X hrt dX7_used_44 (by decide) (by decide) ⟨C, D, F, I, K, trivial⟩
    · skip
      have q3t : ¬ (0 : Int32).toInt ≤ p1.toInt := fun z => q3 (Int32.le_iff_toInt_le.mpr z)
      have q3k : (0 : Int32).toInt = 0 := (by decide)
      have q3b := Int32.toInt_lt p1
      refine g_bipush X dX7_used_15 (v := -2) (by decide) ?_
      exact g_iret X hrt dX7_used_17 (by decide) (by decide) ⟨C, D, F, I, K, trivial⟩
set_option maxHeartbeats 4000000 in
set_option maxRecDepth 100000 in
theorem s_X7_walks (l : Launch) (G : va_G) {cy : Nat → ClassId} {L : List Nat} {M : Nat → va_E} {a : Nat → Nat} {act : Nat → Bool} {C0 : Nat → Nat → Int32} {D0 : Nat → Nat → Int64} {R : Nat → Nat → Option Nat} (F : WI L M a act (ent cy a C0 D0 R)) (I : Inv C0) (p0 : Int32)  : MI l G cy yX7_walks cX7_walks 2 (some .int) 2 0 0 [.ref (a 0), .int p0] L M (fun r L2 M2 => ∃ C2 D2, WI L2 M2 a act (ent cy a C2 D2 R) ∧ Inv C2 ∧ Kp [] C0 D0 C2 D2 ∧ True) := by
  refine MI.of (own := RX7) rfl (by decide) (Nat.le_of_ble_eq_true rfl) ?_
  intro p e s m below meth c A X hrt hnm
  obtain ⟨C, D, hC0, hD0, F, I, K⟩ : ∃ C D, C = C0 ∧ D = D0 ∧ WI L M a act (ent cy a C D R) ∧ Inv C ∧ Kp [] C0 D0 C D := ⟨C0, D0, rfl, rfl, F, I, Kp.rf⟩
  refine g_aload_n X dX7_walks_0 rfl (j := 0) rfl ?_
  refine i_get X F 0 rfl rfl fk_X7_19 dX7_walks_1 rfl ?_
  refine g_iload_n X dX7_walks_4 rfl (j := 1) rfl ?_
  refine g_callVI X (s_X2_hasWalker l G F I p0 ) lk_X7_122 (F.1 3 rfl).2 (F.1 3 rfl).1 rfl rfl dX7_walks_5 (Nat.le_of_ble_eq_true rfl) ⟨by decide, by decide⟩ ⟨by decide, by decide⟩ (fun r1 L M hp => ?_)
  obtain ⟨C, D, F, I, K1, hr⟩ := hp
  have K := K.step K1 (by decide)
  rcases hr with rfl | ⟨rfl, n2, hn2a, hn2b, en2⟩
  · skip
    refine g_if_eq X dX7_walks_8 (tgt := 22) (by decide) (fun _ => ?_) (fun q => absurd (by decide) q)
    refine g_bipush X dX7_walks_22 (v := -2) (by decide) ?_
    exact g_iret X hrt dX7_walks_24 (by decide) (by decide) ⟨C, D, F, I, K, trivial⟩
  · skip
    subst en2
    refine g_if_eq X dX7_walks_8 (tgt := 22) (by decide) (fun q => absurd q (by decide)) (fun _ => ?_)
    refine g_aload_n X dX7_walks_11 rfl (j := 0) rfl ?_
    refine i_get X F 0 rfl rfl fk_X7_41 dX7_walks_12 rfl ?_
    refine g_iload_n X dX7_walks_15 rfl (j := 1) rfl ?_
    refine g_callVI X (s_X4_timesWalked_25 l G F I n2 (by omega) (by omega) ) lk_X7_162 (F.1 25 rfl).2 (F.1 25 rfl).1 rfl rfl dX7_walks_16 (Nat.le_of_ble_eq_true rfl) ⟨by decide, by decide⟩ ⟨by decide, by decide⟩ (fun r3 L M hp => ?_)
    obtain ⟨C, D, F, I, K1, hr⟩ := hp
    have K := K.step K1 (by decide)
    refine g_goto X dX7_walks_19 (tgt := 24) (by decide) ?_
    exact g_iret X hrt dX7_walks_24 (by decide) (by decide) ⟨C, D, F, I, K, trivial⟩
set_option maxHeartbeats 4000000 in
set_option maxRecDepth 100000 in
theorem s_X7_home (l : Launch) (G : va_G) {cy : Nat → ClassId} {L : List Nat} {M : Nat → va_E} {a : Nat → Nat} {act : Nat → Bool} {C0 : Nat → Nat → Int32} {D0 : Nat → Nat → Int64} {R : Nat → Nat → Option Nat} (F : WI L M a act (ent cy a C0 D0 R)) (I : Inv C0) (p0 : Int32)  : MI l G cy yX7_home cX7_home 2 (some .int) 2 0 0 [.ref (a 0), .int p0] L M (fun r L2 M2 => ∃ C2 D2, WI L2 M2 a act (ent cy a C2 D2 R) ∧ Inv C2 ∧ Kp [] C0 D0 C2 D2 ∧ True) := by
  refine MI.of (own := RX7) rfl (by decide) (Nat.le_of_ble_eq_true rfl) ?_
  intro p e s m below meth c A X hrt hnm
  obtain ⟨C, D, hC0, hD0, F, I, K⟩ : ∃ C D, C = C0 ∧ D = D0 ∧ WI L M a act (ent cy a C D R) ∧ Inv C ∧ Kp [] C0 D0 C D := ⟨C0, D0, rfl, rfl, F, I, Kp.rf⟩
  refine g_aload_n X dX7_home_0 rfl (j := 0) rfl ?_
  refine i_get X F 0 rfl rfl fk_X7_19 dX7_home_1 rfl ?_
  refine g_iload_n X dX7_home_4 rfl (j := 1) rfl ?_
  refine g_callVI X (s_X2_hasWalker l G F I p0 ) lk_X7_122 (F.1 3 rfl).2 (F.1 3 rfl).1 rfl rfl dX7_home_5 (Nat.le_of_ble_eq_true rfl) ⟨by decide, by decide⟩ ⟨by decide, by decide⟩ (fun r1 L M hp => ?_)
  obtain ⟨C, D, F, I, K1, hr⟩ := hp
  have K := K.step K1 (by decide)
  rcases hr with rfl | ⟨rfl, n2, hn2a, hn2b, en2⟩
  · skip
    refine g_if_eq X dX7_home_8 (tgt := 22) (by decide) (fun _ => ?_) (fun q => absurd (by decide) q)
    refine g_bipush X dX7_home_22 (v := -2) (by decide) ?_
    exact g_iret X hrt dX7_home_24 (by decide) (by decide) ⟨C, D, F, I, K, trivial⟩
  · skip
    subst en2
    refine g_if_eq X dX7_home_8 (tgt := 22) (by decide) (fun q => absurd q (by decide)) (fun _ => ?_)
    refine g_aload_n X dX7_home_11 rfl (j := 0) rfl ?_
    refine i_get X F 0 rfl rfl fk_X7_41 dX7_home_12 rfl ?_
    refine g_iload_n X dX7_home_15 rfl (j := 1) rfl ?_
    refine g_callVI X (s_X4_firstHourHome_25 l G F I n2 (by omega) (by omega) ) lk_X7_165 (F.1 25 rfl).2 (F.1 25 rfl).1 rfl rfl dX7_home_16 (Nat.le_of_ble_eq_true rfl) ⟨by decide, by decide⟩ ⟨by decide, by decide⟩ (fun r3 L M hp => ?_)
    obtain ⟨C, D, F, I, K1, hr⟩ := hp
    have K := K.step K1 (by decide)
    refine g_goto X dX7_home_19 (tgt := 24) (by decide) ?_
    exact g_iret X hrt dX7_home_24 (by decide) (by decide) ⟨C, D, F, I, K, trivial⟩
set_option maxHeartbeats 4000000 in
set_option maxRecDepth 100000 in
theorem s_X7_inn (l : Launch) (G : va_G) {cy : Nat → ClassId} {L : List Nat} {M : Nat → va_E} {a : Nat → Nat} {act : Nat → Bool} {C0 : Nat → Nat → Int32} {D0 : Nat → Nat → Int64} {R : Nat → Nat → Option Nat} (F : WI L M a act (ent cy a C0 D0 R)) (I : Inv C0) (p0 : Int32)  : MI l G cy yX7_inn cX7_inn 3 (some .int) 1 0 0 [.ref (a 0), .int p0] L M (fun r L2 M2 => ∃ C2 D2, WI L2 M2 a act (ent cy a C2 D2 R) ∧ Inv C2 ∧ Kp [] C0 D0 C2 D2 ∧ True) := by
  refine MI.of (own := RX7) rfl (by decide) (Nat.le_of_ble_eq_true rfl) ?_
  intro p e s m below meth c A X hrt hnm
  obtain ⟨C, D, hC0, hD0, F, I, K⟩ : ∃ C D, C = C0 ∧ D = D0 ∧ WI L M a act (ent cy a C D R) ∧ Inv C ∧ Kp [] C0 D0 C D := ⟨C0, D0, rfl, rfl, F, I, Kp.rf⟩
  refine g_aload_n X dX7_inn_0 rfl (j := 0) rfl ?_
  refine i_get X F 0 rfl rfl fk_X7_19 dX7_inn_1 rfl ?_
  refine g_iload_n X dX7_inn_4 rfl (j := 1) rfl ?_
  refine g_callVI X (s_X2_hasWalker l G F I p0 ) lk_X7_122 (F.1 3 rfl).2 (F.1 3 rfl).1 rfl rfl dX7_inn_5 (Nat.le_of_ble_eq_true rfl) ⟨by decide, by decide⟩ ⟨by decide, by decide⟩ (fun r1 L M hp => ?_)
  obtain ⟨C, D, F, I, K1, hr⟩ := hp
  have K := K.step K1 (by decide)
  rcases hr with rfl | ⟨rfl, n2, hn2a, hn2b, en2⟩
  · skip
    refine g_if_ne X dX7_inn_8 (tgt := 14) (by decide) (fun q => absurd (by decide) q) (fun _ => ?_)
    refine g_bipush X dX7_inn_11 (v := -2) (by decide) ?_
    exact g_iret X hrt dX7_inn_13 (by decide) (by decide) ⟨C, D, F, I, K, trivial⟩
  · skip
    subst en2
    refine g_if_ne X dX7_inn_8 (tgt := 14) (by decide) (fun _ => ?_) (fun q => absurd q (by decide))
    refine g_aload_n X dX7_inn_14 rfl (j := 0) rfl ?_
    refine i_get X F 0 rfl rfl fk_X7_41 dX7_inn_15 rfl ?_
    refine g_iload_n X dX7_inn_18 rfl (j := 1) rfl ?_
    refine g_aload_n X dX7_inn_19 rfl (j := 0) rfl ?_
    refine i_get X F 0 rfl rfl fk_X7_19 dX7_inn_20 rfl ?_
    obtain ⟨n3, hn3, en3⟩ := rg_nat ((I 3 1).1 rfl) (by decide)
    refine i_get X F 3 rfl rfl fk_X7_168 dX7_inn_23 (v := .int (nI n3)) (congrArg (fun z => some (Value.int z)) en3) ?_
    refine g_callVI X (s_X4_placeOf_25 l G F I n2 (by omega) (by omega) n3 (by omega) (by omega) ) lk_X7_137 (F.1 25 rfl).2 (F.1 25 rfl).1 rfl rfl dX7_inn_26 (Nat.le_of_ble_eq_true rfl) ⟨by decide, by decide⟩ ⟨by decide, by decide⟩ (fun r4 L M hp => ?_)
    obtain ⟨C, D, F, I, K1, hr⟩ := hp
    have K := K.step K1 (by decide)
    obtain ⟨hr, hpln5⟩ := hr
    rcases okp_nat hr with rfl | ⟨n5, hn5, rfl⟩
    · skip
      refine g_istore_n X dX7_inn_29 rfl (by decide) (lv2 := [(2, .int (-1)), (0, .ref (a 0)), (1, .int (nI n2))]) rfl ?_
      refine g_iload_n X dX7_inn_30 rfl (j := 0) rfl ?_
      refine g_bipush X dX7_inn_31 (v := 10) (by decide) ?_
      refine g_icmp_lt X dX7_inn_33 (tgt := 43) (by decide) (fun _ => ?_) (fun q => absurd (by decide) q)
      refine g_iconst X dX7_inn_43 (v := -1) (by decide) ?_
      exact g_iret X hrt dX7_inn_44 (by decide) (by decide) ⟨C, D, F, I, K, trivial⟩
    · skip
      refine g_istore_n X dX7_inn_29 rfl (by decide) (lv2 := [(2, .int (nI n5)), (0, .ref (a 0)), (1, .int (nI n2))]) rfl ?_
      refine g_iload_n X dX7_inn_30 rfl (j := 0) rfl ?_
      refine g_bipush X dX7_inn_31 (v := 10) (by decide) ?_
      refine g_icmp_lt X dX7_inn_33 (tgt := 43) (by decide) (fun q6 => ?_) (fun q6 => ?_)
      · skip
        have q6 : n5 < 10 := (nI_ltI (a := n5) (b := 10) (by omega) (by omega)).mp q6
        refine g_iconst X dX7_inn_43 (v := -1) (by decide) ?_
        exact g_iret X hrt dX7_inn_44 (by decide) (by decide) ⟨C, D, F, I, K, trivial⟩
      · skip
        have q6 : ¬ n5 < 10 := fun z => q6 ((nI_ltI (a := n5) (b := 10) (by omega) (by omega)).mpr z)
        refine g_iload_n X dX7_inn_36 rfl (j := 0) rfl ?_
        refine g_bipush X dX7_inn_37 (v := 10) (by decide) ?_
        refine g_isub X dX7_inn_39 ?_
        refine Go.top (v := .int (nI (n5 - 10))) (congrArg Value.int (pk_sub (a := n5) (b := 10) (by omega))) ?_
        refine g_goto X dX7_inn_40 (tgt := 44) (by decide) ?_
        exact g_iret X hrt dX7_inn_44 (by decide) (by decide) ⟨C, D, F, I, K, trivial⟩
set_option maxHeartbeats 4000000 in
set_option maxRecDepth 100000 in
theorem s_X7_trail (l : Launch) (G : va_G) {cy : Nat → ClassId} {L : List Nat} {M : Nat → va_E} {a : Nat → Nat} {act : Nat → Bool} {C0 : Nat → Nat → Int32} {D0 : Nat → Nat → Int64} {R : Nat → Nat → Option Nat} (F : WI L M a act (ent cy a C0 D0 R)) (I : Inv C0) (p0 : Int32)  : MI l G cy yX7_trail cX7_trail 2 (some .int) 3 0 0 [.ref (a 0), .int p0] L M (fun r L2 M2 => ∃ C2 D2, WI L2 M2 a act (ent cy a C2 D2 R) ∧ Inv C2 ∧ Kp [] C0 D0 C2 D2 ∧ True) := by
  refine MI.of (own := RX7) rfl (by decide) (Nat.le_of_ble_eq_true rfl) ?_
  intro p e s m below meth c A X hrt hnm
  obtain ⟨C, D, hC0, hD0, F, I, K⟩ : ∃ C D, C = C0 ∧ D = D0 ∧ WI L M a act (ent cy a C D R) ∧ Inv C ∧ Kp [] C0 D0 C D := ⟨C0, D0, rfl, rfl, F, I, Kp.rf⟩
  refine g_aload_n X dX7_trail_0 rfl (j := 0) rfl ?_
  refine i_get X F 0 rfl rfl fk_X7_19 dX7_trail_1 rfl ?_
  refine g_iload_n X dX7_trail_4 rfl (j := 1) rfl ?_
  refine g_callVI X (s_X2_hasWalker l G F I p0 ) lk_X7_122 (F.1 3 rfl).2 (F.1 3 rfl).1 rfl rfl dX7_trail_5 (Nat.le_of_ble_eq_true rfl) ⟨by decide, by decide⟩ ⟨by decide, by decide⟩ (fun r1 L M hp => ?_)
  obtain ⟨C, D, F, I, K1, hr⟩ := hp
  have K := K.step K1 (by decide)
  rcases hr with rfl | ⟨rfl, n2, hn2a, hn2b, en2⟩
  · skip
    refine g_if_eq X dX7_trail_8 (tgt := 22) (by decide) (fun _ => ?_) (fun q => absurd (by decide) q)
    refine g_bipush X dX7_trail_22 (v := -2) (by decide) ?_
    exact g_iret X hrt dX7_trail_24 (by decide) (by decide) ⟨C, D, F, I, K, trivial⟩
  · skip
    subst en2
    refine g_if_eq X dX7_trail_8 (tgt := 22) (by decide) (fun q => absurd q (by decide)) (fun _ => ?_)
    refine g_aload_n X dX7_trail_11 rfl (j := 0) rfl ?_
    refine i_get X F 0 rfl rfl fk_X7_41 dX7_trail_12 rfl ?_
    refine g_iload_n X dX7_trail_15 rfl (j := 1) rfl ?_
    refine g_callVI X (s_X4_postsVisited_25 l G F I n2 (by omega) (by omega) ) lk_X7_171 (F.1 25 rfl).2 (F.1 25 rfl).1 rfl rfl dX7_trail_16 (Nat.le_of_ble_eq_true rfl) ⟨by decide, by decide⟩ ⟨by decide, by decide⟩ (fun r3 L M hp => ?_)
    obtain ⟨C, D, F, I, K1, hr⟩ := hp
    have K := K.step K1 (by decide)
    refine g_goto X dX7_trail_19 (tgt := 24) (by decide) ?_
    exact g_iret X hrt dX7_trail_24 (by decide) (by decide) ⟨C, D, F, I, K, trivial⟩
set_option maxHeartbeats 4000000 in
set_option maxRecDepth 100000 in
theorem s_X7_again (l : Launch) (G : va_G) {cy : Nat → ClassId} {L : List Nat} {M : Nat → va_E} {a : Nat → Nat} {act : Nat → Bool} {C0 : Nat → Nat → Int32} {D0 : Nat → Nat → Int64} {R : Nat → Nat → Option Nat} (F : WI L M a act (ent cy a C0 D0 R)) (I : Inv C0) (p0 : Int32)  : MI l G cy yX7_again cX7_again 2 (some .int) 3 0 0 [.ref (a 0), .int p0] L M (fun r L2 M2 => ∃ C2 D2, WI L2 M2 a act (ent cy a C2 D2 R) ∧ Inv C2 ∧ Kp [] C0 D0 C2 D2 ∧ True) := by
  refine MI.of (own := RX7) rfl (by decide) (Nat.le_of_ble_eq_true rfl) ?_
  intro p e s m below meth c A X hrt hnm
  obtain ⟨C, D, hC0, hD0, F, I, K⟩ : ∃ C D, C = C0 ∧ D = D0 ∧ WI L M a act (ent cy a C D R) ∧ Inv C ∧ Kp [] C0 D0 C D := ⟨C0, D0, rfl, rfl, F, I, Kp.rf⟩
  refine g_aload_n X dX7_again_0 rfl (j := 0) rfl ?_
  refine i_get X F 0 rfl rfl fk_X7_19 dX7_again_1 rfl ?_
  refine g_iload_n X dX7_again_4 rfl (j := 1) rfl ?_
  refine g_callVI X (s_X2_hasWalker l G F I p0 ) lk_X7_122 (F.1 3 rfl).2 (F.1 3 rfl).1 rfl rfl dX7_again_5 (Nat.le_of_ble_eq_true rfl) ⟨by decide, by decide⟩ ⟨by decide, by decide⟩ (fun r1 L M hp => ?_)
  obtain ⟨C, D, F, I, K1, hr⟩ := hp
  have K := K.step K1 (by decide)
  rcases hr with rfl | ⟨rfl, n2, hn2a, hn2b, en2⟩
  · skip
    refine g_if_eq X dX7_again_8 (tgt := 22) (by decide) (fun _ => ?_) (fun q => absurd (by decide) q)
    refine g_bipush X dX7_again_22 (v := -2) (by decide) ?_
    exact g_iret X hrt dX7_again_24 (by decide) (by decide) ⟨C, D, F, I, K, trivial⟩
  · skip
    subst en2
    refine g_if_eq X dX7_again_8 (tgt := 22) (by decide) (fun q => absurd q (by decide)) (fun _ => ?_)
    refine g_aload_n X dX7_again_11 rfl (j := 0) rfl ?_
    refine i_get X F 0 rfl rfl fk_X7_41 dX7_again_12 rfl ?_
    refine g_iload_n X dX7_again_15 rfl (j := 1) rfl ?_
    refine g_callVI X (s_X4_timesReturned_25 l G F I n2 (by omega) (by omega) ) lk_X7_174 (F.1 25 rfl).2 (F.1 25 rfl).1 rfl rfl dX7_again_16 (Nat.le_of_ble_eq_true rfl) ⟨by decide, by decide⟩ ⟨by decide, by decide⟩ (fun r3 L M hp => ?_)
    obtain ⟨C, D, F, I, K1, hr⟩ := hp
    have K := K.step K1 (by decide)
    refine g_goto X dX7_again_19 (tgt := 24) (by decide) ?_
    exact g_iret X hrt dX7_again_24 (by decide) (by decide) ⟨C, D, F, I, K, trivial⟩
set_option maxHeartbeats 4000000 in
set_option maxRecDepth 100000 in
theorem s_X7_lingers (l : Launch) (G : va_G) {cy : Nat → ClassId} {L : List Nat} {M : Nat → va_E} {a : Nat → Nat} {act : Nat → Bool} {C0 : Nat → Nat → Int32} {D0 : Nat → Nat → Int64} {R : Nat → Nat → Option Nat} (F : WI L M a act (ent cy a C0 D0 R)) (I : Inv C0) (p0 : Int32)  : MI l G cy yX7_lingers cX7_lingers 2 (some .int) 3 0 0 [.ref (a 0), .int p0] L M (fun r L2 M2 => ∃ C2 D2, WI L2 M2 a act (ent cy a C2 D2 R) ∧ Inv C2 ∧ Kp [] C0 D0 C2 D2 ∧ True) := by
  refine MI.of (own := RX7) rfl (by decide) (Nat.le_of_ble_eq_true rfl) ?_
  intro p e s m below meth c A X hrt hnm
  obtain ⟨C, D, hC0, hD0, F, I, K⟩ : ∃ C D, C = C0 ∧ D = D0 ∧ WI L M a act (ent cy a C D R) ∧ Inv C ∧ Kp [] C0 D0 C D := ⟨C0, D0, rfl, rfl, F, I, Kp.rf⟩
  refine g_aload_n X dX7_lingers_0 rfl (j := 0) rfl ?_
  refine i_get X F 0 rfl rfl fk_X7_19 dX7_lingers_1 rfl ?_
  refine g_iload_n X dX7_lingers_4 rfl (j := 1) rfl ?_
  refine g_callVI X (s_X2_hasWalker l G F I p0 ) lk_X7_122 (F.1 3 rfl).2 (F.1 3 rfl).1 rfl rfl dX7_lingers_5 (Nat.le_of_ble_eq_true rfl) ⟨by decide, by decide⟩ ⟨by decide, by decide⟩ (fun r1 L M hp => ?_)
  obtain ⟨C, D, F, I, K1, hr⟩ := hp
  have K := K.step K1 (by decide)
  rcases hr with rfl | ⟨rfl, n2, hn2a, hn2b, en2⟩
  · skip
    refine g_if_eq X dX7_lingers_8 (tgt := 22) (by decide) (fun _ => ?_) (fun q => absurd (by decide) q)
    refine g_bipush X dX7_lingers_22 (v := -2) (by decide) ?_
    exact g_iret X hrt dX7_lingers_24 (by decide) (by decide) ⟨C, D, F, I, K, trivial⟩
  · skip
    subst en2
    refine g_if_eq X dX7_lingers_8 (tgt := 22) (by decide) (fun q => absurd q (by decide)) (fun _ => ?_)
    refine g_aload_n X dX7_lingers_11 rfl (j := 0) rfl ?_
    refine i_get X F 0 rfl rfl fk_X7_41 dX7_lingers_12 rfl ?_
    refine g_iload_n X dX7_lingers_15 rfl (j := 1) rfl ?_
    refine g_callVI X (s_X4_hoursLingered_25 l G F I n2 (by omega) (by omega) ) lk_X7_177 (F.1 25 rfl).2 (F.1 25 rfl).1 rfl rfl dX7_lingers_16 (Nat.le_of_ble_eq_true rfl) ⟨by decide, by decide⟩ ⟨by decide, by decide⟩ (fun r3 L M hp => ?_)
    obtain ⟨C, D, F, I, K1, hr⟩ := hp
    have K := K.step K1 (by decide)
    refine g_goto X dX7_lingers_19 (tgt := 24) (by decide) ?_
    exact g_iret X hrt dX7_lingers_24 (by decide) (by decide) ⟨C, D, F, I, K, trivial⟩
set_option maxHeartbeats 4000000 in
set_option maxRecDepth 100000 in
theorem s_X7_doors (l : Launch) (G : va_G) {cy : Nat → ClassId} {L : List Nat} {M : Nat → va_E} {a : Nat → Nat} {act : Nat → Bool} {C0 : Nat → Nat → Int32} {D0 : Nat → Nat → Int64} {R : Nat → Nat → Option Nat} (F : WI L M a act (ent cy a C0 D0 R)) (I : Inv C0) (p0 : Int32)  : MI l G cy yX7_doors cX7_doors 2 (some .int) 2 0 0 [.ref (a 0), .int p0] L M (fun r L2 M2 => ∃ C2 D2, WI L2 M2 a act (ent cy a C2 D2 R) ∧ Inv C2 ∧ Kp [] C0 D0 C2 D2 ∧ True) := by
  refine MI.of (own := RX7) rfl (by decide) (Nat.le_of_ble_eq_true rfl) ?_
  intro p e s m below meth c A X hrt hnm
  obtain ⟨C, D, hC0, hD0, F, I, K⟩ : ∃ C D, C = C0 ∧ D = D0 ∧ WI L M a act (ent cy a C D R) ∧ Inv C ∧ Kp [] C0 D0 C D := ⟨C0, D0, rfl, rfl, F, I, Kp.rf⟩
  refine g_aload_n X dX7_doors_0 rfl (j := 0) rfl ?_
  refine i_get X F 0 rfl rfl fk_X7_19 dX7_doors_1 rfl ?_
  refine g_iload_n X dX7_doors_4 rfl (j := 1) rfl ?_
  refine g_callVI X (s_X2_hasPost l G F I p0 ) lk_X7_106 (F.1 3 rfl).2 (F.1 3 rfl).1 rfl rfl dX7_doors_5 (Nat.le_of_ble_eq_true rfl) ⟨by decide, by decide⟩ ⟨by decide, by decide⟩ (fun r1 L M hp => ?_)
  obtain ⟨C, D, F, I, K1, hr⟩ := hp
  have K := K.step K1 (by decide)
  rcases hr with rfl | ⟨rfl, n2, hn2a, hn2b, en2⟩
  · skip
    refine g_if_eq X dX7_doors_8 (tgt := 22) (by decide) (fun _ => ?_) (fun q => absurd (by decide) q)
    refine g_bipush X dX7_doors_22 (v := -2) (by decide) ?_
    exact g_iret X hrt dX7_doors_24 (by decide) (by decide) ⟨C, D, F, I, K, trivial⟩
  · skip
    subst en2
    refine g_if_eq X dX7_doors_8 (tgt := 22) (by decide) (fun q => absurd q (by decide)) (fun _ => ?_)
    refine g_aload_n X dX7_doors_11 rfl (j := 0) rfl ?_
    refine i_get X F 0 rfl rfl fk_X7_19 dX7_doors_12 rfl ?_
    refine g_iload_n X dX7_doors_15 rfl (j := 1) rfl ?_
    refine g_callVI X (s_X2_innsBeside l G F I n2 (by omega) (by omega) ) lk_X7_180 (F.1 3 rfl).2 (F.1 3 rfl).1 rfl rfl dX7_doors_16 (Nat.le_of_ble_eq_true rfl) ⟨by decide, by decide⟩ ⟨by decide, by decide⟩ (fun r3 L M hp => ?_)
    obtain ⟨C, D, F, I, K1, hr⟩ := hp
    have K := K.step K1 (by decide)
    refine g_goto X dX7_doors_19 (tgt := 24) (by decide) ?_
    exact g_iret X hrt dX7_doors_24 (by decide) (by decide) ⟨C, D, F, I, K, trivial⟩
set_option maxHeartbeats 4000000 in
set_option maxRecDepth 100000 in
theorem s_X7_guests (l : Launch) (G : va_G) {cy : Nat → ClassId} {L : List Nat} {M : Nat → va_E} {a : Nat → Nat} {act : Nat → Bool} {C0 : Nat → Nat → Int32} {D0 : Nat → Nat → Int64} {R : Nat → Nat → Option Nat} (F : WI L M a act (ent cy a C0 D0 R)) (I : Inv C0) (p0 : Int32) (p1 : Int32)  : MI l G cy yX7_guests cX7_guests 3 (some .int) 3 0 0 [.ref (a 0), .int p0, .int p1] L M (fun r L2 M2 => ∃ C2 D2, WI L2 M2 a act (ent cy a C2 D2 R) ∧ Inv C2 ∧ Kp [] C0 D0 C2 D2 ∧ True) := by
  refine MI.of (own := RX7) rfl (by decide) (Nat.le_of_ble_eq_true rfl) ?_
  intro p e s m below meth c A X hrt hnm
  obtain ⟨C, D, hC0, hD0, F, I, K⟩ : ∃ C D, C = C0 ∧ D = D0 ∧ WI L M a act (ent cy a C D R) ∧ Inv C ∧ Kp [] C0 D0 C D := ⟨C0, D0, rfl, rfl, F, I, Kp.rf⟩
  refine g_aload_n X dX7_guests_0 rfl (j := 0) rfl ?_
  refine i_get X F 0 rfl rfl fk_X7_19 dX7_guests_1 rfl ?_
  refine g_iload_n X dX7_guests_4 rfl (j := 1) rfl ?_
  refine g_callVI X (s_X2_hasInn l G F I p0 ) lk_X7_99 (F.1 3 rfl).2 (F.1 3 rfl).1 rfl rfl dX7_guests_5 (Nat.le_of_ble_eq_true rfl) ⟨by decide, by decide⟩ ⟨by decide, by decide⟩ (fun r1 L M hp => ?_)
  obtain ⟨C, D, F, I, K1, hr⟩ := hp
  have K := K.step K1 (by decide)
  rcases hr with rfl | ⟨rfl, n2, hn2a, hn2b, en2⟩
  · skip
    refine g_if_eq X dX7_guests_8 (tgt := 22) (by decide) (fun _ => ?_) (fun q => absurd (by decide) q)
    refine g_bipush X dX7_guests_22 (v := -2) (by decide) ?_
    exact g_iret X hrt dX7_guests_24 (by decide) (by decide) ⟨C, D, F, I, K, trivial⟩
  · skip
    subst en2
    refine g_if_eq X dX7_guests_8 (tgt := 22) (by decide) (fun q => absurd q (by decide)) (fun _ => ?_)
    refine g_aload_n X dX7_guests_11 rfl (j := 0) rfl ?_
    refine i_get X F 0 rfl rfl fk_X7_19 dX7_guests_12 rfl ?_
    refine g_iload_n X dX7_guests_15 rfl (j := 2) rfl ?_
    refine g_callVI X (s_X2_hasHour l G F I p1 ) lk_X7_134 (F.1 3 rfl).2 (F.1 3 rfl).1 rfl rfl dX7_guests_16 (Nat.le_of_ble_eq_true rfl) ⟨by decide, by decide⟩ ⟨by decide, by decide⟩ (fun r3 L M hp => ?_)
    obtain ⟨C, D, F, I, K1, hr⟩ := hp
    have K := K.step K1 (by decide)
    rcases hr with rfl | ⟨rfl, n4, hn4a, hn4b, en4⟩
    · skip
      refine g_if_ne X dX7_guests_19 (tgt := 25) (by decide) (fun q => absurd (by decide) q) (fun _ => ?_)
      refine g_bipush X dX7_guests_22 (v := -2) (by decide) ?_
      exact g_iret X hrt dX7_guests_24 (by decide) (by decide) ⟨C, D, F, I, K, trivial⟩
    · skip
      subst en4
      refine g_if_ne X dX7_guests_19 (tgt := 25) (by decide) (fun _ => ?_) (fun q => absurd q (by decide))
      refine g_aload_n X dX7_guests_25 rfl (j := 0) rfl ?_
      refine i_get X F 0 rfl rfl fk_X7_41 dX7_guests_26 rfl ?_
      refine g_iload_n X dX7_guests_29 rfl (j := 1) rfl ?_
      refine g_iload_n X dX7_guests_30 rfl (j := 2) rfl ?_
      refine g_callVI X (s_X4_guestsIn_25 l G F I n2 (by omega) (by omega) n4 (by omega) (by omega) ) lk_X7_183 (F.1 25 rfl).2 (F.1 25 rfl).1 rfl rfl dX7_guests_31 (Nat.le_of_ble_eq_true rfl) ⟨by decide, by decide⟩ ⟨by decide, by decide⟩ (fun r5 L M hp => ?_)
      obtain ⟨C, D, F, I, K1, hr⟩ := hp
      have K := K.step K1 (by decide)
      exact g_iret X hrt dX7_guests_34 (by decide) (by decide) ⟨C, D, F, I, K, trivial⟩
set_option maxHeartbeats 4000000 in
set_option maxRecDepth 100000 in
theorem s_X7_full (l : Launch) (G : va_G) {cy : Nat → ClassId} {L : List Nat} {M : Nat → va_E} {a : Nat → Nat} {act : Nat → Bool} {C0 : Nat → Nat → Int32} {D0 : Nat → Nat → Int64} {R : Nat → Nat → Option Nat} (F : WI L M a act (ent cy a C0 D0 R)) (I : Inv C0) (p0 : Int32)  : MI l G cy yX7_full cX7_full 2 (some .int) 4 0 0 [.ref (a 0), .int p0] L M (fun r L2 M2 => ∃ C2 D2, WI L2 M2 a act (ent cy a C2 D2 R) ∧ Inv C2 ∧ Kp [] C0 D0 C2 D2 ∧ True) := by
  refine MI.of (own := RX7) rfl (by decide) (Nat.le_of_ble_eq_true rfl) ?_
  intro p e s m below meth c A X hrt hnm
  obtain ⟨C, D, hC0, hD0, F, I, K⟩ : ∃ C D, C = C0 ∧ D = D0 ∧ WI L M a act (ent cy a C D R) ∧ Inv C ∧ Kp [] C0 D0 C D := ⟨C0, D0, rfl, rfl, F, I, Kp.rf⟩
  refine g_aload_n X dX7_full_0 rfl (j := 0) rfl ?_
  refine i_get X F 0 rfl rfl fk_X7_19 dX7_full_1 rfl ?_
  refine g_iload_n X dX7_full_4 rfl (j := 1) rfl ?_
  refine g_callVI X (s_X2_hasInn l G F I p0 ) lk_X7_99 (F.1 3 rfl).2 (F.1 3 rfl).1 rfl rfl dX7_full_5 (Nat.le_of_ble_eq_true rfl) ⟨by decide, by decide⟩ ⟨by decide, by decide⟩ (fun r1 L M hp => ?_)
  obtain ⟨C, D, F, I, K1, hr⟩ := hp
  have K := K.step K1 (by decide)
  rcases hr with rfl | ⟨rfl, n2, hn2a, hn2b, en2⟩
  · skip
    refine g_if_eq X dX7_full_8 (tgt := 22) (by decide) (fun _ => ?_) (fun q => absurd (by decide) q)
    refine g_bipush X dX7_full_22 (v := -2) (by decide) ?_
    exact g_iret X hrt dX7_full_24 (by decide) (by decide) ⟨C, D, F, I, K, trivial⟩
  · skip
    subst en2
    refine g_if_eq X dX7_full_8 (tgt := 22) (by decide) (fun q => absurd q (by decide)) (fun _ => ?_)
    refine g_aload_n X dX7_full_11 rfl (j := 0) rfl ?_
    refine i_get X F 0 rfl rfl fk_X7_41 dX7_full_12 rfl ?_
    refine g_iload_n X dX7_full_15 rfl (j := 1) rfl ?_
    refine g_callVI X (s_X4_firstHourFull_25 l G F I n2 (by omega) (by omega) ) lk_X7_186 (F.1 25 rfl).2 (F.1 25 rfl).1 rfl rfl dX7_full_16 (Nat.le_of_ble_eq_true rfl) ⟨by decide, by decide⟩ ⟨by decide, by decide⟩ (fun r3 L M hp => ?_)
    obtain ⟨C, D, F, I, K1, hr⟩ := hp
    have K := K.step K1 (by decide)
    refine g_goto X dX7_full_19 (tgt := 24) (by decide) ?_
    exact g_iret X hrt dX7_full_24 (by decide) (by decide) ⟨C, D, F, I, K, trivial⟩
set_option maxHeartbeats 4000000 in
set_option maxRecDepth 100000 in
theorem s_X7_inside (l : Launch) (G : va_G) {cy : Nat → ClassId} {L : List Nat} {M : Nat → va_E} {a : Nat → Nat} {act : Nat → Bool} {C0 : Nat → Nat → Int32} {D0 : Nat → Nat → Int64} {R : Nat → Nat → Option Nat} (F : WI L M a act (ent cy a C0 D0 R)) (I : Inv C0) (p0 : Int32)  : MI l G cy yX7_inside cX7_inside 2 (some .int) 2 0 0 [.ref (a 0), .int p0] L M (fun r L2 M2 => ∃ C2 D2, WI L2 M2 a act (ent cy a C2 D2 R) ∧ Inv C2 ∧ Kp [] C0 D0 C2 D2 ∧ True) := by
  refine MI.of (own := RX7) rfl (by decide) (Nat.le_of_ble_eq_true rfl) ?_
  intro p e s m below meth c A X hrt hnm
  obtain ⟨C, D, hC0, hD0, F, I, K⟩ : ∃ C D, C = C0 ∧ D = D0 ∧ WI L M a act (ent cy a C D R) ∧ Inv C ∧ Kp [] C0 D0 C D := ⟨C0, D0, rfl, rfl, F, I, Kp.rf⟩
  refine g_aload_n X dX7_inside_0 rfl (j := 0) rfl ?_
  refine i_get X F 0 rfl rfl fk_X7_19 dX7_inside_1 rfl ?_
  refine g_iload_n X dX7_inside_4 rfl (j := 1) rfl ?_
  refine g_callVI X (s_X2_hasHour l G F I p0 ) lk_X7_134 (F.1 3 rfl).2 (F.1 3 rfl).1 rfl rfl dX7_inside_5 (Nat.le_of_ble_eq_true rfl) ⟨by decide, by decide⟩ ⟨by decide, by decide⟩ (fun r1 L M hp => ?_)
  obtain ⟨C, D, F, I, K1, hr⟩ := hp
  have K := K.step K1 (by decide)
  rcases hr with rfl | ⟨rfl, n2, hn2a, hn2b, en2⟩
  · skip
    refine g_if_eq X dX7_inside_8 (tgt := 22) (by decide) (fun _ => ?_) (fun q => absurd (by decide) q)
    refine g_bipush X dX7_inside_22 (v := -2) (by decide) ?_
    exact g_iret X hrt dX7_inside_24 (by decide) (by decide) ⟨C, D, F, I, K, trivial⟩
  · skip
    subst en2
    refine g_if_eq X dX7_inside_8 (tgt := 22) (by decide) (fun q => absurd q (by decide)) (fun _ => ?_)
    refine g_aload_n X dX7_inside_11 rfl (j := 0) rfl ?_
    refine i_get X F 0 rfl rfl fk_X7_41 dX7_inside_12 rfl ?_
    refine g_iload_n X dX7_inside_15 rfl (j := 1) rfl ?_
    refine g_callVI X (s_X4_walkersInside_25 l G F I n2 (by omega) (by omega) ) lk_X7_192 (F.1 25 rfl).2 (F.1 25 rfl).1 rfl rfl dX7_inside_16 (Nat.le_of_ble_eq_true rfl) ⟨by decide, by decide⟩ ⟨by decide, by decide⟩ (fun r3 L M hp => ?_)
    obtain ⟨C, D, F, I, K1, hr⟩ := hp
    have K := K.step K1 (by decide)
    refine g_goto X dX7_inside_19 (tgt := 24) (by decide) ?_
    exact g_iret X hrt dX7_inside_24 (by decide) (by decide) ⟨C, D, F, I, K, trivial⟩
set_option maxHeartbeats 4000000 in
set_option maxRecDepth 100000 in
theorem s_X7_outside (l : Launch) (G : va_G) {cy : Nat → ClassId} {L : List Nat} {M : Nat → va_E} {a : Nat → Nat} {act : Nat → Bool} {C0 : Nat → Nat → Int32} {D0 : Nat → Nat → Int64} {R : Nat → Nat → Option Nat} (F : WI L M a act (ent cy a C0 D0 R)) (I : Inv C0) (p0 : Int32)  : MI l G cy yX7_outside cX7_outside 2 (some .int) 2 0 0 [.ref (a 0), .int p0] L M (fun r L2 M2 => ∃ C2 D2, WI L2 M2 a act (ent cy a C2 D2 R) ∧ Inv C2 ∧ Kp [] C0 D0 C2 D2 ∧ True) := by
  refine MI.of (own := RX7) rfl (by decide) (Nat.le_of_ble_eq_true rfl) ?_
  intro p e s m below meth c A X hrt hnm
  obtain ⟨C, D, hC0, hD0, F, I, K⟩ : ∃ C D, C = C0 ∧ D = D0 ∧ WI L M a act (ent cy a C D R) ∧ Inv C ∧ Kp [] C0 D0 C D := ⟨C0, D0, rfl, rfl, F, I, Kp.rf⟩
  refine g_aload_n X dX7_outside_0 rfl (j := 0) rfl ?_
  refine i_get X F 0 rfl rfl fk_X7_19 dX7_outside_1 rfl ?_
  refine g_iload_n X dX7_outside_4 rfl (j := 1) rfl ?_
  refine g_callVI X (s_X2_hasHour l G F I p0 ) lk_X7_134 (F.1 3 rfl).2 (F.1 3 rfl).1 rfl rfl dX7_outside_5 (Nat.le_of_ble_eq_true rfl) ⟨by decide, by decide⟩ ⟨by decide, by decide⟩ (fun r1 L M hp => ?_)
  obtain ⟨C, D, F, I, K1, hr⟩ := hp
  have K := K.step K1 (by decide)
  rcases hr with rfl | ⟨rfl, n2, hn2a, hn2b, en2⟩
  · skip
    refine g_if_eq X dX7_outside_8 (tgt := 22) (by decide) (fun _ => ?_) (fun q => absurd (by decide) q)
    refine g_bipush X dX7_outside_22 (v := -2) (by decide) ?_
    exact g_iret X hrt dX7_outside_24 (by decide) (by decide) ⟨C, D, F, I, K, trivial⟩
  · skip
    subst en2
    refine g_if_eq X dX7_outside_8 (tgt := 22) (by decide) (fun q => absurd q (by decide)) (fun _ => ?_)
    refine g_aload_n X dX7_outside_11 rfl (j := 0) rfl ?_
    refine i_get X F 0 rfl rfl fk_X7_41 dX7_outside_12 rfl ?_
    refine g_iload_n X dX7_outside_15 rfl (j := 1) rfl ?_
    refine g_callVI X (s_X4_walkersOutside_25 l G F I n2 (by omega) (by omega) ) lk_X7_195 (F.1 25 rfl).2 (F.1 25 rfl).1 rfl rfl dX7_outside_16 (Nat.le_of_ble_eq_true rfl) ⟨by decide, by decide⟩ ⟨by decide, by decide⟩ (fun r3 L M hp => ?_)
    obtain ⟨C, D, F, I, K1, hr⟩ := hp
    have K := K.step K1 (by decide)
    refine g_goto X dX7_outside_19 (tgt := 24) (by decide) ?_
    exact g_iret X hrt dX7_outside_24 (by decide) (by decide) ⟨C, D, F, I, K, trivial⟩
set_option maxHeartbeats 4000000 in
set_option maxRecDepth 100000 in
theorem s_X7_done (l : Launch) (G : va_G) {cy : Nat → ClassId} {L : List Nat} {M : Nat → va_E} {a : Nat → Nat} {act : Nat → Bool} {C0 : Nat → Nat → Int32} {D0 : Nat → Nat → Int64} {R : Nat → Nat → Option Nat} (F : WI L M a act (ent cy a C0 D0 R)) (I : Inv C0)   : MI l G cy yX7_done cX7_done 1 (some .int) 3 0 0 [.ref (a 0)] L M (fun r L2 M2 => ∃ C2 D2, WI L2 M2 a act (ent cy a C2 D2 R) ∧ Inv C2 ∧ Kp [] C0 D0 C2 D2 ∧ True) := by
  refine MI.of (own := RX7) rfl (by decide) (Nat.le_of_ble_eq_true rfl) ?_
  intro p e s m below meth c A X hrt hnm
  obtain ⟨C, D, hC0, hD0, F, I, K⟩ : ∃ C D, C = C0 ∧ D = D0 ∧ WI L M a act (ent cy a C D R) ∧ Inv C ∧ Kp [] C0 D0 C D := ⟨C0, D0, rfl, rfl, F, I, Kp.rf⟩
  refine g_aload_n X dX7_done_0 rfl (j := 0) rfl ?_
  refine i_get X F 0 rfl rfl fk_X7_19 dX7_done_1 rfl ?_
  refine g_callVI X (s_X2_isTold l G F I  ) lk_X7_198 (F.1 3 rfl).2 (F.1 3 rfl).1 rfl rfl dX7_done_4 (Nat.le_of_ble_eq_true rfl) ⟨by decide, by decide⟩ ⟨by decide, by decide⟩ (fun r1 L M hp => ?_)
  obtain ⟨C, D, F, I, K1, hr⟩ := hp
  have K := K.step K1 (by decide)
  rcases hr with rfl | rfl
  · skip
    refine g_if_eq X dX7_done_7 (tgt := 20) (by decide) (fun _ => ?_) (fun q => absurd (by decide) q)
    refine g_bipush X dX7_done_20 (v := -2) (by decide) ?_
    exact g_iret X hrt dX7_done_22 (by decide) (by decide) ⟨C, D, F, I, K, trivial⟩
  · skip
    refine g_if_eq X dX7_done_7 (tgt := 20) (by decide) (fun q => absurd q (by decide)) (fun _ => ?_)
    refine g_aload_n X dX7_done_10 rfl (j := 0) rfl ?_
    refine i_get X F 0 rfl rfl fk_X7_41 dX7_done_11 rfl ?_
    refine g_callVI X (s_X4_firstHourAllInside_25 l G F I  ) lk_X7_202 (F.1 25 rfl).2 (F.1 25 rfl).1 rfl rfl dX7_done_14 (Nat.le_of_ble_eq_true rfl) ⟨by decide, by decide⟩ ⟨by decide, by decide⟩ (fun r2 L M hp => ?_)
    obtain ⟨C, D, F, I, K1, hr⟩ := hp
    have K := K.step K1 (by decide)
    refine g_goto X dX7_done_17 (tgt := 22) (by decide) ?_
    exact g_iret X hrt dX7_done_22 (by decide) (by decide) ⟨C, D, F, I, K, trivial⟩
set_option maxHeartbeats 4000000 in
set_option maxRecDepth 100000 in
theorem s_X7_crowd (l : Launch) (G : va_G) {cy : Nat → ClassId} {L : List Nat} {M : Nat → va_E} {a : Nat → Nat} {act : Nat → Bool} {C0 : Nat → Nat → Int32} {D0 : Nat → Nat → Int64} {R : Nat → Nat → Option Nat} (F : WI L M a act (ent cy a C0 D0 R)) (I : Inv C0) (p0 : Int32)  : MI l G cy yX7_crowd cX7_crowd 2 (some .int) 3 0 0 [.ref (a 0), .int p0] L M (fun r L2 M2 => ∃ C2 D2, WI L2 M2 a act (ent cy a C2 D2 R) ∧ Inv C2 ∧ Kp [] C0 D0 C2 D2 ∧ True) := by
  refine MI.of (own := RX7) rfl (by decide) (Nat.le_of_ble_eq_true rfl) ?_
  intro p e s m below meth c A X hrt hnm
  obtain ⟨C, D, hC0, hD0, F, I, K⟩ : ∃ C D, C = C0 ∧ D = D0 ∧ WI L M a act (ent cy a C D R) ∧ Inv C ∧ Kp [] C0 D0 C D := ⟨C0, D0, rfl, rfl, F, I, Kp.rf⟩
  refine g_aload_n X dX7_crowd_0 rfl (j := 0) rfl ?_
  refine i_get X F 0 rfl rfl fk_X7_19 dX7_crowd_1 rfl ?_
  refine g_iload_n X dX7_crowd_4 rfl (j := 1) rfl ?_
  refine g_callVI X (s_X2_hasHour l G F I p0 ) lk_X7_134 (F.1 3 rfl).2 (F.1 3 rfl).1 rfl rfl dX7_crowd_5 (Nat.le_of_ble_eq_true rfl) ⟨by decide, by decide⟩ ⟨by decide, by decide⟩ (fun r1 L M hp => ?_)
  obtain ⟨C, D, F, I, K1, hr⟩ := hp
  have K := K.step K1 (by decide)
  rcases hr with rfl | ⟨rfl, n2, hn2a, hn2b, en2⟩
  · skip
    refine g_if_eq X dX7_crowd_8 (tgt := 22) (by decide) (fun _ => ?_) (fun q => absurd (by decide) q)
    refine g_bipush X dX7_crowd_22 (v := -2) (by decide) ?_
    exact g_iret X hrt dX7_crowd_24 (by decide) (by decide) ⟨C, D, F, I, K, trivial⟩
  · skip
    subst en2
    refine g_if_eq X dX7_crowd_8 (tgt := 22) (by decide) (fun q => absurd q (by decide)) (fun _ => ?_)
    refine g_aload_n X dX7_crowd_11 rfl (j := 0) rfl ?_
    refine i_get X F 0 rfl rfl fk_X7_41 dX7_crowd_12 rfl ?_
    refine g_iload_n X dX7_crowd_15 rfl (j := 1) rfl ?_
    refine g_callVI X (s_X4_mostAtOnePost_25 l G F I n2 (by omega) (by omega) ) lk_X7_206 (F.1 25 rfl).2 (F.1 25 rfl).1 rfl rfl dX7_crowd_16 (Nat.le_of_ble_eq_true rfl) ⟨by decide, by decide⟩ ⟨by decide, by decide⟩ (fun r3 L M hp => ?_)
    obtain ⟨C, D, F, I, K1, hr⟩ := hp
    have K := K.step K1 (by decide)
    refine g_goto X dX7_crowd_19 (tgt := 24) (by decide) ?_
    exact g_iret X hrt dX7_crowd_24 (by decide) (by decide) ⟨C, D, F, I, K, trivial⟩
set_option maxHeartbeats 4000000 in
set_option maxRecDepth 100000 in
theorem s_X7_armless (l : Launch) (G : va_G) {cy : Nat → ClassId} {L : List Nat} {M : Nat → va_E} {a : Nat → Nat} {act : Nat → Bool} {C0 : Nat → Nat → Int32} {D0 : Nat → Nat → Int64} {R : Nat → Nat → Option Nat} (F : WI L M a act (ent cy a C0 D0 R)) (I : Inv C0)   : MI l G cy yX7_armless cX7_armless 1 (some .int) 2 0 0 [.ref (a 0)] L M (fun r L2 M2 => ∃ C2 D2, WI L2 M2 a act (ent cy a C2 D2 R) ∧ Inv C2 ∧ Kp [] C0 D0 C2 D2 ∧ True) := by
  refine MI.of (own := RX7) rfl (by decide) (Nat.le_of_ble_eq_true rfl) ?_
  intro p e s m below meth c A X hrt hnm
  obtain ⟨C, D, hC0, hD0, F, I, K⟩ : ∃ C D, C = C0 ∧ D = D0 ∧ WI L M a act (ent cy a C D R) ∧ Inv C ∧ Kp [] C0 D0 C D := ⟨C0, D0, rfl, rfl, F, I, Kp.rf⟩
  refine g_aload_n X dX7_armless_0 rfl (j := 0) rfl ?_
  refine i_get X F 0 rfl rfl fk_X7_19 dX7_armless_1 rfl ?_
  refine g_callVI X (s_X2_isTold l G F I  ) lk_X7_198 (F.1 3 rfl).2 (F.1 3 rfl).1 rfl rfl dX7_armless_4 (Nat.le_of_ble_eq_true rfl) ⟨by decide, by decide⟩ ⟨by decide, by decide⟩ (fun r1 L M hp => ?_)
  obtain ⟨C, D, F, I, K1, hr⟩ := hp
  have K := K.step K1 (by decide)
  rcases hr with rfl | rfl
  · skip
    refine g_if_eq X dX7_armless_7 (tgt := 20) (by decide) (fun _ => ?_) (fun q => absurd (by decide) q)
    refine g_bipush X dX7_armless_20 (v := -2) (by decide) ?_
    exact g_iret X hrt dX7_armless_22 (by decide) (by decide) ⟨C, D, F, I, K, trivial⟩
  · skip
    refine g_if_eq X dX7_armless_7 (tgt := 20) (by decide) (fun q => absurd q (by decide)) (fun _ => ?_)
    refine g_aload_n X dX7_armless_10 rfl (j := 0) rfl ?_
    refine i_get X F 0 rfl rfl fk_X7_19 dX7_armless_11 rfl ?_
    refine g_callVI X (s_X2_postsWithoutRoads l G F I  ) lk_X7_209 (F.1 3 rfl).2 (F.1 3 rfl).1 rfl rfl dX7_armless_14 (Nat.le_of_ble_eq_true rfl) ⟨by decide, by decide⟩ ⟨by decide, by decide⟩ (fun r2 L M hp => ?_)
    obtain ⟨C, D, F, I, K1, hr⟩ := hp
    have K := K.step K1 (by decide)
    refine g_goto X dX7_armless_17 (tgt := 22) (by decide) ?_
    exact g_iret X hrt dX7_armless_22 (by decide) (by decide) ⟨C, D, F, I, K, trivial⟩
set_option maxHeartbeats 4000000 in
set_option maxRecDepth 100000 in
theorem s_X7_busy (l : Launch) (G : va_G) {cy : Nat → ClassId} {L : List Nat} {M : Nat → va_E} {a : Nat → Nat} {act : Nat → Bool} {C0 : Nat → Nat → Int32} {D0 : Nat → Nat → Int64} {R : Nat → Nat → Option Nat} (F : WI L M a act (ent cy a C0 D0 R)) (I : Inv C0)   : MI l G cy yX7_busy cX7_busy 5 (some .int) 3 0 0 [.ref (a 0)] L M (fun r L2 M2 => ∃ C2 D2, WI L2 M2 a act (ent cy a C2 D2 R) ∧ Inv C2 ∧ Kp [] C0 D0 C2 D2 ∧ True) := by
  refine MI.of (own := RX7) rfl (by decide) (Nat.le_of_ble_eq_true rfl) ?_
  intro p e s m below meth c A X hrt hnm
  obtain ⟨C, D, hC0, hD0, F, I, K⟩ : ∃ C D, C = C0 ∧ D = D0 ∧ WI L M a act (ent cy a C D R) ∧ Inv C ∧ Kp [] C0 D0 C D := ⟨C0, D0, rfl, rfl, F, I, Kp.rf⟩
  refine g_aload_n X dX7_busy_0 rfl (j := 0) rfl ?_
  refine i_get X F 0 rfl rfl fk_X7_19 dX7_busy_1 rfl ?_
  refine g_callVI X (s_X2_isTold l G F I  ) lk_X7_198 (F.1 3 rfl).2 (F.1 3 rfl).1 rfl rfl dX7_busy_4 (Nat.le_of_ble_eq_true rfl) ⟨by decide, by decide⟩ ⟨by decide, by decide⟩ (fun r1 L M hp => ?_)
  obtain ⟨C, D, F, I, K1, hr⟩ := hp
  have K := K.step K1 (by decide)
  rcases hr with rfl | rfl
  · skip
    refine g_if_ne X dX7_busy_7 (tgt := 13) (by decide) (fun q => absurd (by decide) q) (fun _ => ?_)
    refine g_bipush X dX7_busy_10 (v := -2) (by decide) ?_
    exact g_iret X hrt dX7_busy_12 (by decide) (by decide) ⟨C, D, F, I, K, trivial⟩
  · skip
    refine g_if_ne X dX7_busy_7 (tgt := 13) (by decide) (fun _ => ?_) (fun q => absurd q (by decide))
    refine g_iconst X dX7_busy_13 (v := -1) (by decide) ?_
    refine g_istore_n X dX7_busy_14 rfl (by decide) (lv2 := [(1, .int (-1)), (0, .ref (a 0))]) rfl ?_
    refine g_iconst X dX7_busy_15 (v := -1) (by decide) ?_
    refine g_istore_n X dX7_busy_16 rfl (by decide) (lv2 := [(2, .int (-1)), (1, .int (-1)), (0, .ref (a 0))]) rfl ?_
    refine g_iconst X dX7_busy_17 (v := 0) (by decide) ?_
    refine g_istore_n X dX7_busy_18 rfl (by decide) (lv2 := [(3, .int 0), (2, .int (-1)), (1, .int (-1)), (0, .ref (a 0))]) rfl ?_
    refine g_lv [0, 2, 1, 3] (lv2 := [(3, .int 0), (1, .int (-1)), (2, .int (-1)), (0, .ref (a 0))]) rfl ?_
    refine i_loop (mods := []) (fun x : Nat × Int32 × Int32 => 7 - x.1) (fun x => [(3, .int (nI (x.1))), (1, .int (x.2.1)), (2, .int (x.2.2)), (0, .ref (a 0))]) (fun x C => 0 ≤ x.1 ∧ x.1 ≤ 7) (fun x L M C D F I K hP ih19 => ?_) ((0, (-1), (-1)) : Nat × Int32 × Int32) F I K ⟨by show _ ≤ _; omega, by show _ ≤ _; omega⟩
    rcases x with ⟨i19_3, v19_1, v19_2⟩
    obtain ⟨hi19_3a, hi19_3b⟩ := hP
    refine g_lv [0, 1, 2, 3] (lv2 := [(3, .int (nI i19_3)), (1, .int v19_1), (2, .int v19_2), (0, .ref (a 0))]) rfl ?_
    refine g_iload_n X dX7_busy_19 rfl (j := 0) rfl ?_
    refine g_aload_n X dX7_busy_20 rfl (j := 3) rfl ?_
    refine i_get X F 0 rfl rfl fk_X7_19 dX7_busy_21 rfl ?_
    obtain ⟨n2, hn2, en2⟩ := rg_nat ((I 3 5).2.2.1 rfl) (by decide)
    refine i_get X F 3 rfl rfl fk_X7_219 dX7_busy_24 (v := .int (nI n2)) (congrArg (fun z => some (Value.int z)) en2) ?_
    refine g_icmp_ge X dX7_busy_27 (tgt := 57) (by decide) (fun q3 => ?_) (fun q3 => ?_)
    · skip
      have q3 : n2 ≤ i19_3 := (nI_leI (a := n2) (b := i19_3) (by omega) (by omega)).mp q3
      refine g_iload_n X dX7_busy_57 rfl (j := 1) rfl ?_
      exact g_iret X hrt dX7_busy_58 (by decide) (by decide) ⟨C, D, F, I, K, trivial⟩
    · skip
      have q3 : ¬ n2 ≤ i19_3 := fun z => q3 ((nI_leI (a := n2) (b := i19_3) (by omega) (by omega)).mpr z)
      refine g_aload_n X dX7_busy_30 rfl (j := 3) rfl ?_
      refine i_get X F 0 rfl rfl fk_X7_41 dX7_busy_31 rfl ?_
      refine g_iload_n X dX7_busy_34 rfl (j := 0) rfl ?_
      refine g_callVI X (s_X4_timesPostSent_25 l G F I i19_3 (by omega) (by omega) ) lk_X7_156 (F.1 25 rfl).2 (F.1 25 rfl).1 rfl rfl dX7_busy_35 (Nat.le_of_ble_eq_true rfl) ⟨by decide, by decide⟩ ⟨by decide, by decide⟩ (fun r4 L M hp => ?_)
      obtain ⟨C, D, F, I, K1, hr⟩ := hp
      have K := K.step K1 (by decide)
      refine g_istore X dX7_busy_38 (by decide) (lv2 := [(4, .int r4), (3, .int (nI i19_3)), (1, .int v19_1), (2, .int v19_2), (0, .ref (a 0))]) rfl ?_
      refine g_iload X dX7_busy_40 (j := 0) rfl ?_
      refine g_iload_n X dX7_busy_42 rfl (j := 3) rfl ?_
      refine g_icmp_le X dX7_busy_43 (tgt := 51) (by decide) (fun q5 => ?_) (fun q5 => ?_)
      · skip
        refine g_iinc X dX7_busy_51 (j := 1) rfl (v := nI (i19_3 + 1)) (nI_1 i19_3) (by decide) (lv2 := [(3, .int (nI (i19_3 + 1))), (4, .int r4), (1, .int v19_1), (2, .int v19_2), (0, .ref (a 0))]) rfl ?_
        refine g_goto X dX7_busy_54 (tgt := 19) (by decide) ?_
        refine g_lv [0, 2, 3, 4] (lv2 := [(3, .int (nI (i19_3 + 1))), (1, .int v19_1), (2, .int v19_2), (0, .ref (a 0))]) rfl ?_
        exact ih19 ((i19_3 + 1), v19_1, v19_2) L M C D F I K ⟨by omega, by omega⟩ (by show _ < _; omega)
      · skip
        refine g_iload X dX7_busy_46 (j := 0) rfl ?_
        refine g_istore_n X dX7_busy_48 rfl (by decide) (lv2 := [(2, .int r4), (4, .int r4), (3, .int (nI i19_3)), (1, .int v19_1), (0, .ref (a 0))]) rfl ?_
        refine g_iload_n X dX7_busy_49 rfl (j := 2) rfl ?_
        refine g_istore_n X dX7_busy_50 rfl (by decide) (lv2 := [(1, .int (nI i19_3)), (2, .int r4), (4, .int r4), (3, .int (nI i19_3)), (0, .ref (a 0))]) rfl ?_
        refine g_iinc X dX7_busy_51 (j := 3) rfl (v := nI (i19_3 + 1)) (nI_1 i19_3) (by decide) (lv2 := [(3, .int (nI (i19_3 + 1))), (1, .int (nI i19_3)), (2, .int r4), (4, .int r4), (0, .ref (a 0))]) rfl ?_
        refine g_goto X dX7_busy_54 (tgt := 19) (by decide) ?_
        refine g_lv [0, 1, 2, 4] (lv2 := [(3, .int (nI (i19_3 + 1))), (1, .int (nI i19_3)), (2, .int r4), (0, .ref (a 0))]) rfl ?_
        exact ih19 ((i19_3 + 1), nI i19_3, r4) L M C D F I K ⟨by omega, by omega⟩ (by show _ < _; omega)
set_option maxHeartbeats 4000000 in
set_option maxRecDepth 100000 in
theorem s_X7_idle (l : Launch) (G : va_G) {cy : Nat → ClassId} {L : List Nat} {M : Nat → va_E} {a : Nat → Nat} {act : Nat → Bool} {C0 : Nat → Nat → Int32} {D0 : Nat → Nat → Int64} {R : Nat → Nat → Option Nat} (F : WI L M a act (ent cy a C0 D0 R)) (I : Inv C0)   : MI l G cy yX7_idle cX7_idle 3 (some .int) 3 0 0 [.ref (a 0)] L M (fun r L2 M2 => ∃ C2 D2, WI L2 M2 a act (ent cy a C2 D2 R) ∧ Inv C2 ∧ Kp [] C0 D0 C2 D2 ∧ True) := by
  refine MI.of (own := RX7) rfl (by decide) (Nat.le_of_ble_eq_true rfl) ?_
  intro p e s m below meth c A X hrt hnm
  obtain ⟨C, D, hC0, hD0, F, I, K⟩ : ∃ C D, C = C0 ∧ D = D0 ∧ WI L M a act (ent cy a C D R) ∧ Inv C ∧ Kp [] C0 D0 C D := ⟨C0, D0, rfl, rfl, F, I, Kp.rf⟩
  refine g_aload_n X dX7_idle_0 rfl (j := 0) rfl ?_
  refine i_get X F 0 rfl rfl fk_X7_19 dX7_idle_1 rfl ?_
  refine g_callVI X (s_X2_isTold l G F I  ) lk_X7_198 (F.1 3 rfl).2 (F.1 3 rfl).1 rfl rfl dX7_idle_4 (Nat.le_of_ble_eq_true rfl) ⟨by decide, by decide⟩ ⟨by decide, by decide⟩ (fun r1 L M hp => ?_)
  obtain ⟨C, D, F, I, K1, hr⟩ := hp
  have K := K.step K1 (by decide)
  rcases hr with rfl | rfl
  · skip
    refine g_if_ne X dX7_idle_7 (tgt := 13) (by decide) (fun q => absurd (by decide) q) (fun _ => ?_)
    refine g_bipush X dX7_idle_10 (v := -2) (by decide) ?_
    exact g_iret X hrt dX7_idle_12 (by decide) (by decide) ⟨C, D, F, I, K, trivial⟩
  · skip
    refine g_if_ne X dX7_idle_7 (tgt := 13) (by decide) (fun _ => ?_) (fun q => absurd q (by decide))
    refine g_iconst X dX7_idle_13 (v := 0) (by decide) ?_
    refine g_istore_n X dX7_idle_14 rfl (by decide) (lv2 := [(1, .int 0), (0, .ref (a 0))]) rfl ?_
    refine g_iconst X dX7_idle_15 (v := 0) (by decide) ?_
    refine g_istore_n X dX7_idle_16 rfl (by decide) (lv2 := [(2, .int 0), (1, .int 0), (0, .ref (a 0))]) rfl ?_
    refine g_lv [0, 1, 2] (lv2 := [(2, .int 0), (1, .int 0), (0, .ref (a 0))]) rfl ?_
    refine i_loop (mods := []) (fun x : Nat × Int32 => 7 - x.1) (fun x => [(2, .int (nI (x.1))), (1, .int (x.2)), (0, .ref (a 0))]) (fun x C => 0 ≤ x.1 ∧ x.1 ≤ 7) (fun x L M C D F I K hP ih17 => ?_) ((0, 0) : Nat × Int32) F I K ⟨by show _ ≤ _; omega, by show _ ≤ _; omega⟩
    rcases x with ⟨i17_2, v17_1⟩
    obtain ⟨hi17_2a, hi17_2b⟩ := hP
    refine g_lv [0, 1, 2] (lv2 := [(2, .int (nI i17_2)), (1, .int v17_1), (0, .ref (a 0))]) rfl ?_
    refine g_iload_n X dX7_idle_17 rfl (j := 0) rfl ?_
    refine g_aload_n X dX7_idle_18 rfl (j := 2) rfl ?_
    refine i_get X F 0 rfl rfl fk_X7_19 dX7_idle_19 rfl ?_
    obtain ⟨n2, hn2, en2⟩ := rg_nat ((I 3 5).2.2.1 rfl) (by decide)
    refine i_get X F 3 rfl rfl fk_X7_219 dX7_idle_22 (v := .int (nI n2)) (congrArg (fun z => some (Value.int z)) en2) ?_
    refine g_icmp_ge X dX7_idle_25 (tgt := 51) (by decide) (fun q3 => ?_) (fun q3 => ?_)
    · skip
      have q3 : n2 ≤ i17_2 := (nI_leI (a := n2) (b := i17_2) (by omega) (by omega)).mp q3
      refine g_iload_n X dX7_idle_51 rfl (j := 1) rfl ?_
      exact g_iret X hrt dX7_idle_52 (by decide) (by decide) ⟨C, D, F, I, K, trivial⟩
    · skip
      have q3 : ¬ n2 ≤ i17_2 := fun z => q3 ((nI_leI (a := n2) (b := i17_2) (by omega) (by omega)).mpr z)
      refine g_aload_n X dX7_idle_28 rfl (j := 2) rfl ?_
      refine i_get X F 0 rfl rfl fk_X7_41 dX7_idle_29 rfl ?_
      refine g_iload_n X dX7_idle_32 rfl (j := 0) rfl ?_
      refine g_callVI X (s_X4_timesPostSent_25 l G F I i17_2 (by omega) (by omega) ) lk_X7_156 (F.1 25 rfl).2 (F.1 25 rfl).1 rfl rfl dX7_idle_33 (Nat.le_of_ble_eq_true rfl) ⟨by decide, by decide⟩ ⟨by decide, by decide⟩ (fun r4 L M hp => ?_)
      obtain ⟨C, D, F, I, K1, hr⟩ := hp
      have K := K.step K1 (by decide)
      refine g_if_ne X dX7_idle_36 (tgt := 45) (by decide) (fun q5 => ?_) (fun q5 => ?_)
      · skip
        refine g_iinc X dX7_idle_45 (j := 0) rfl (v := nI (i17_2 + 1)) (nI_1 i17_2) (by decide) (lv2 := [(2, .int (nI (i17_2 + 1))), (1, .int v17_1), (0, .ref (a 0))]) rfl ?_
        refine g_goto X dX7_idle_48 (tgt := 17) (by decide) ?_
        refine g_lv [0, 1, 2] (lv2 := [(2, .int (nI (i17_2 + 1))), (1, .int v17_1), (0, .ref (a 0))]) rfl ?_
        exact ih17 ((i17_2 + 1), v17_1) L M C D F I K ⟨by omega, by omega⟩ (by show _ < _; omega)
      · skip
        subst q5
        refine g_iload_n X dX7_idle_39 rfl (j := 1) rfl ?_
        refine g_iconst X dX7_idle_40 (v := 1) (by decide) ?_
        refine g_iload_n X dX7_idle_41 rfl (j := 0) rfl ?_
        refine g_ishl X dX7_idle_42 ?_
        refine Go.gen (fun o6 => ?_)
        refine g_ior X dX7_idle_43 ?_
        refine Go.gen (fun o7 => ?_)
        refine g_istore_n X dX7_idle_44 rfl (by decide) (lv2 := [(1, .int o7), (2, .int (nI i17_2)), (0, .ref (a 0))]) rfl ?_
        refine g_iinc X dX7_idle_45 (j := 1) rfl (v := nI (i17_2 + 1)) (nI_1 i17_2) (by decide) (lv2 := [(2, .int (nI (i17_2 + 1))), (1, .int o7), (0, .ref (a 0))]) rfl ?_
        refine g_goto X dX7_idle_48 (tgt := 17) (by decide) ?_
        refine g_lv [0, 1, 2] (lv2 := [(2, .int (nI (i17_2 + 1))), (1, .int o7), (0, .ref (a 0))]) rfl ?_
        exact ih17 ((i17_2 + 1), o7) L M C D F I K ⟨by omega, by omega⟩ (by show _ < _; omega)
set_option maxHeartbeats 4000000 in
set_option maxRecDepth 100000 in
theorem s_X7_reach (l : Launch) (G : va_G) {cy : Nat → ClassId} {L : List Nat} {M : Nat → va_E} {a : Nat → Nat} {act : Nat → Bool} {C0 : Nat → Nat → Int32} {D0 : Nat → Nat → Int64} {R : Nat → Nat → Option Nat} (F : WI L M a act (ent cy a C0 D0 R)) (I : Inv C0) (p0 : Int32)  : MI l G cy yX7_reach cX7_reach 2 (some .int) 3 0 0 [.ref (a 0), .int p0] L M (fun r L2 M2 => ∃ C2 D2, WI L2 M2 a act (ent cy a C2 D2 R) ∧ Inv C2 ∧ Kp [] C0 D0 C2 D2 ∧ True) := by
  refine MI.of (own := RX7) rfl (by decide) (Nat.le_of_ble_eq_true rfl) ?_
  intro p e s m below meth c A X hrt hnm
  obtain ⟨C, D, hC0, hD0, F, I, K⟩ : ∃ C D, C = C0 ∧ D = D0 ∧ WI L M a act (ent cy a C D R) ∧ Inv C ∧ Kp [] C0 D0 C D := ⟨C0, D0, rfl, rfl, F, I, Kp.rf⟩
  refine g_aload_n X dX7_reach_0 rfl (j := 0) rfl ?_
  refine i_get X F 0 rfl rfl fk_X7_19 dX7_reach_1 rfl ?_
  refine g_iload_n X dX7_reach_4 rfl (j := 1) rfl ?_
  refine g_callVI X (s_X2_hasPost l G F I p0 ) lk_X7_106 (F.1 3 rfl).2 (F.1 3 rfl).1 rfl rfl dX7_reach_5 (Nat.le_of_ble_eq_true rfl) ⟨by decide, by decide⟩ ⟨by decide, by decide⟩ (fun r1 L M hp => ?_)
  obtain ⟨C, D, F, I, K1, hr⟩ := hp
  have K := K.step K1 (by decide)
  rcases hr with rfl | ⟨rfl, n2, hn2a, hn2b, en2⟩
  · skip
    refine g_if_eq X dX7_reach_8 (tgt := 22) (by decide) (fun _ => ?_) (fun q => absurd (by decide) q)
    refine g_bipush X dX7_reach_22 (v := -2) (by decide) ?_
    exact g_iret X hrt dX7_reach_24 (by decide) (by decide) ⟨C, D, F, I, K, trivial⟩
  · skip
    subst en2
    refine g_if_eq X dX7_reach_8 (tgt := 22) (by decide) (fun q => absurd q (by decide)) (fun _ => ?_)
    refine g_aload_n X dX7_reach_11 rfl (j := 0) rfl ?_
    refine i_get X F 0 rfl rfl fk_X7_19 dX7_reach_12 rfl ?_
    refine g_iload_n X dX7_reach_15 rfl (j := 1) rfl ?_
    refine g_callVI X (s_X2_placesFrom l G F I n2 (by omega) (by omega) ) lk_X7_222 (F.1 3 rfl).2 (F.1 3 rfl).1 rfl rfl dX7_reach_16 (Nat.le_of_ble_eq_true rfl) ⟨by decide, by decide⟩ ⟨by decide, by decide⟩ (fun r3 L M hp => ?_)
    obtain ⟨C, D, F, I, K1, hr⟩ := hp
    have K := K.step K1 (by decide)
    refine g_goto X dX7_reach_19 (tgt := 24) (by decide) ?_
    exact g_iret X hrt dX7_reach_24 (by decide) (by decide) ⟨C, D, F, I, K, trivial⟩
set_option maxHeartbeats 4000000 in
set_option maxRecDepth 100000 in
theorem s_X7_far (l : Launch) (G : va_G) {cy : Nat → ClassId} {L : List Nat} {M : Nat → va_E} {a : Nat → Nat} {act : Nat → Bool} {C0 : Nat → Nat → Int32} {D0 : Nat → Nat → Int64} {R : Nat → Nat → Option Nat} (F : WI L M a act (ent cy a C0 D0 R)) (I : Inv C0) (p0 : Int32) (p1 : Int32)  : MI l G cy yX7_far cX7_far 3 (some .int) 3 0 0 [.ref (a 0), .int p0, .int p1] L M (fun r L2 M2 => ∃ C2 D2, WI L2 M2 a act (ent cy a C2 D2 R) ∧ Inv C2 ∧ Kp [] C0 D0 C2 D2 ∧ True) := by
  refine MI.of (own := RX7) rfl (by decide) (Nat.le_of_ble_eq_true rfl) ?_
  intro p e s m below meth c A X hrt hnm
  obtain ⟨C, D, hC0, hD0, F, I, K⟩ : ∃ C D, C = C0 ∧ D = D0 ∧ WI L M a act (ent cy a C D R) ∧ Inv C ∧ Kp [] C0 D0 C D := ⟨C0, D0, rfl, rfl, F, I, Kp.rf⟩
  refine g_aload_n X dX7_far_0 rfl (j := 0) rfl ?_
  refine i_get X F 0 rfl rfl fk_X7_19 dX7_far_1 rfl ?_
  refine g_iload_n X dX7_far_4 rfl (j := 1) rfl ?_
  refine g_callVI X (s_X2_hasPost l G F I p0 ) lk_X7_106 (F.1 3 rfl).2 (F.1 3 rfl).1 rfl rfl dX7_far_5 (Nat.le_of_ble_eq_true rfl) ⟨by decide, by decide⟩ ⟨by decide, by decide⟩ (fun r1 L M hp => ?_)
  obtain ⟨C, D, F, I, K1, hr⟩ := hp
  have K := K.step K1 (by decide)
  rcases hr with rfl | ⟨rfl, n2, hn2a, hn2b, en2⟩
  · skip
    refine g_if_eq X dX7_far_8 (tgt := 22) (by decide) (fun _ => ?_) (fun q => absurd (by decide) q)
    refine g_bipush X dX7_far_22 (v := -2) (by decide) ?_
    exact g_iret X hrt dX7_far_24 (by decide) (by decide) ⟨C, D, F, I, K, trivial⟩
  · skip
    subst en2
    refine g_if_eq X dX7_far_8 (tgt := 22) (by decide) (fun q => absurd q (by decide)) (fun _ => ?_)
    refine g_aload_n X dX7_far_11 rfl (j := 0) rfl ?_
    refine i_get X F 0 rfl rfl fk_X7_19 dX7_far_12 rfl ?_
    refine g_iload_n X dX7_far_15 rfl (j := 2) rfl ?_
    refine g_callVI X (s_X2_hasPlace l G F I p1 ) lk_X7_143 (F.1 3 rfl).2 (F.1 3 rfl).1 rfl rfl dX7_far_16 (Nat.le_of_ble_eq_true rfl) ⟨by decide, by decide⟩ ⟨by decide, by decide⟩ (fun r3 L M hp => ?_)
    obtain ⟨C, D, F, I, K1, hr⟩ := hp
    have K := K.step K1 (by decide)
    rcases hr with rfl | ⟨rfl, n4, hn4, en4⟩
    · skip
      refine g_if_ne X dX7_far_19 (tgt := 25) (by decide) (fun q => absurd (by decide) q) (fun _ => ?_)
      refine g_bipush X dX7_far_22 (v := -2) (by decide) ?_
      exact g_iret X hrt dX7_far_24 (by decide) (by decide) ⟨C, D, F, I, K, trivial⟩
    · skip
      subst en4
      refine g_if_ne X dX7_far_19 (tgt := 25) (by decide) (fun _ => ?_) (fun q => absurd q (by decide))
      refine g_aload_n X dX7_far_25 rfl (j := 0) rfl ?_
      refine i_get X F 0 rfl rfl fk_X7_19 dX7_far_26 rfl ?_
      refine g_iload_n X dX7_far_29 rfl (j := 1) rfl ?_
      refine g_iload_n X dX7_far_30 rfl (j := 2) rfl ?_
      refine g_callVI X (s_X2_distance l G F I n2 (by omega) (by omega) n4 (by omega) ) lk_X7_225 (F.1 3 rfl).2 (F.1 3 rfl).1 rfl rfl dX7_far_31 (Nat.le_of_ble_eq_true rfl) ⟨by decide, by decide⟩ ⟨by decide, by decide⟩ (fun r5 L M hp => ?_)
      obtain ⟨C, D, F, I, K1, hr⟩ := hp
      have K := K.step K1 (by decide)
      exact g_iret X hrt dX7_far_34 (by decide) (by decide) ⟨C, D, F, I, K, trivial⟩
set_option maxHeartbeats 4000000 in
set_option maxRecDepth 100000 in
theorem s_X7_fault (l : Launch) (G : va_G) {cy : Nat → ClassId} {L : List Nat} {M : Nat → va_E} {a : Nat → Nat} {act : Nat → Bool} {C0 : Nat → Nat → Int32} {D0 : Nat → Nat → Int64} {R : Nat → Nat → Option Nat} (F : WI L M a act (ent cy a C0 D0 R)) (I : Inv C0) (p0 : Int32)  : MI l G cy yX7_fault cX7_fault 2 (some .int) 0 0 0 [.ref (a 0), .int p0] L M (fun r L2 M2 => ∃ C2 D2, WI L2 M2 a act (ent cy a C2 D2 R) ∧ Inv C2 ∧ Kp [] C0 D0 C2 D2 ∧ True) := by
  refine MI.of (own := RX7) rfl (by decide) (Nat.le_of_ble_eq_true rfl) ?_
  intro p e s m below meth c A X hrt hnm
  obtain ⟨C, D, hC0, hD0, F, I, K⟩ : ∃ C D, C = C0 ∧ D = D0 ∧ WI L M a act (ent cy a C D R) ∧ Inv C ∧ Kp [] C0 D0 C D := ⟨C0, D0, rfl, rfl, F, I, Kp.rf⟩
  refine g_iload_n X dX7_fault_0 rfl (j := 1) rfl ?_
  refine g_if_ne X dX7_fault_1 (tgt := 12) (by decide) (fun q1 => ?_) (fun q1 => ?_)
  · skip
    refine g_iload_n X dX7_fault_12 rfl (j := 1) rfl ?_
    refine g_iconst X dX7_fault_13 (v := 1) (by decide) ?_
    refine g_icmp_ne X dX7_fault_14 (tgt := 27) (by decide) (fun q2 => ?_) (fun q2 => ?_)
    · skip
      refine g_iconst X dX7_fault_27 (v := -1) (by decide) ?_
      exact g_iret X hrt dX7_fault_28 (by decide) (by decide) ⟨C, D, F, I, K, trivial⟩
    · skip
      subst q2
      refine g_aload_n X dX7_fault_17 rfl (j := 0) rfl ?_
      refine i_get X F 0 rfl rfl fk_X7_12 dX7_fault_18 rfl ?_
      refine i_get X F 1 rfl rfl fk_X7_96 dX7_fault_21 rfl ?_
      refine Go.gen (fun o3 => ?_)
      refine g_goto X dX7_fault_24 (tgt := 28) (by decide) ?_
      exact g_iret X hrt dX7_fault_28 (by decide) (by decide) ⟨C, D, F, I, K, trivial⟩
  · skip
    subst q1
    refine g_aload_n X dX7_fault_4 rfl (j := 0) rfl ?_
    refine i_get X F 0 rfl rfl fk_X7_12 dX7_fault_5 rfl ?_
    refine i_get X F 1 rfl rfl fk_X7_84 dX7_fault_8 rfl ?_
    refine Go.gen (fun o4 => ?_)
    exact g_iret X hrt dX7_fault_11 (by decide) (by decide) ⟨C, D, F, I, K, trivial⟩
set_option maxHeartbeats 4000000 in
set_option maxRecDepth 100000 in
theorem s_X7_settings (l : Launch) (G : va_G) {cy : Nat → ClassId} {L : List Nat} {M : Nat → va_E} {a : Nat → Nat} {act : Nat → Bool} {C0 : Nat → Nat → Int32} {D0 : Nat → Nat → Int64} {R : Nat → Nat → Option Nat} (F : WI L M a act (ent cy a C0 D0 R)) (I : Inv C0)   : MI l G cy yX7_settings cX7_settings 1 (some .int) 2 0 0 [.ref (a 0)] L M (fun r L2 M2 => ∃ C2 D2, WI L2 M2 a act (ent cy a C2 D2 R) ∧ Inv C2 ∧ Kp [] C0 D0 C2 D2 ∧ True) := by
  refine MI.of (own := RX7) rfl (by decide) (Nat.le_of_ble_eq_true rfl) ?_
  intro p e s m below meth c A X hrt hnm
  obtain ⟨C, D, hC0, hD0, F, I, K⟩ : ∃ C D, C = C0 ∧ D = D0 ∧ WI L M a act (ent cy a C D R) ∧ Inv C ∧ Kp [] C0 D0 C D := ⟨C0, D0, rfl, rfl, F, I, Kp.rf⟩
  refine g_aload_n X dX7_settings_0 rfl (j := 0) rfl ?_
  refine i_get X F 0 rfl rfl fk_X7_19 dX7_settings_1 rfl ?_
  refine g_callVI X (s_X2_isTold l G F I  ) lk_X7_198 (F.1 3 rfl).2 (F.1 3 rfl).1 rfl rfl dX7_settings_4 (Nat.le_of_ble_eq_true rfl) ⟨by decide, by decide⟩ ⟨by decide, by decide⟩ (fun r1 L M hp => ?_)
  obtain ⟨C, D, F, I, K1, hr⟩ := hp
  have K := K.step K1 (by decide)
  rcases hr with rfl | rfl
  · skip
    refine g_if_eq X dX7_settings_7 (tgt := 20) (by decide) (fun _ => ?_) (fun q => absurd (by decide) q)
    refine g_bipush X dX7_settings_20 (v := -2) (by decide) ?_
    exact g_iret X hrt dX7_settings_22 (by decide) (by decide) ⟨C, D, F, I, K, trivial⟩
  · skip
    refine g_if_eq X dX7_settings_7 (tgt := 20) (by decide) (fun q => absurd q (by decide)) (fun _ => ?_)
    refine g_aload_n X dX7_settings_10 rfl (j := 0) rfl ?_
    refine i_get X F 0 rfl rfl fk_X7_19 dX7_settings_11 rfl ?_
    refine g_callVI X (s_X2_allSettings l G F I  ) lk_X7_231 (F.1 3 rfl).2 (F.1 3 rfl).1 rfl rfl dX7_settings_14 (Nat.le_of_ble_eq_true rfl) ⟨by decide, by decide⟩ ⟨by decide, by decide⟩ (fun r2 L M hp => ?_)
    obtain ⟨C, D, F, I, K1, hr⟩ := hp
    have K := K.step K1 (by decide)
    refine g_goto X dX7_settings_17 (tgt := 22) (by decide) ?_
    exact g_iret X hrt dX7_settings_22 (by decide) (by decide) ⟨C, D, F, I, K, trivial⟩
set_option maxHeartbeats 4000000 in
set_option maxRecDepth 100000 in
theorem s_X7_settingIn (l : Launch) (G : va_G) {cy : Nat → ClassId} {L : List Nat} {M : Nat → va_E} {a : Nat → Nat} {act : Nat → Bool} {C0 : Nat → Nat → Int32} {D0 : Nat → Nat → Int64} {R : Nat → Nat → Option Nat} (F : WI L M a act (ent cy a C0 D0 R)) (I : Inv C0) (p0 : Nat) (hp0a : 0 ≤ p0) (hp0b : p0 ≤ 16)  : MI l G cy yX7_settingIn cX7_settingIn 2 (some .int) 2 0 0 [.ref (a 0), .int (nI p0)] L M (fun r L2 M2 => ∃ C2 D2, WI L2 M2 a act (ent cy a C2 D2 R) ∧ Inv C2 ∧ Kp [] C0 D0 C2 D2 ∧ True) := by
  refine MI.of (own := RX7) rfl (by decide) (Nat.le_of_ble_eq_true rfl) ?_
  intro p e s m below meth c A X hrt hnm
  obtain ⟨C, D, hC0, hD0, F, I, K⟩ : ∃ C D, C = C0 ∧ D = D0 ∧ WI L M a act (ent cy a C D R) ∧ Inv C ∧ Kp [] C0 D0 C D := ⟨C0, D0, rfl, rfl, F, I, Kp.rf⟩
  refine g_aload_n X dX7_settingIn_0 rfl (j := 0) rfl ?_
  refine i_get X F 0 rfl rfl fk_X7_19 dX7_settingIn_1 rfl ?_
  refine g_aload_n X dX7_settingIn_4 rfl (j := 0) rfl ?_
  refine i_get X F 0 rfl rfl fk_X7_41 dX7_settingIn_5 rfl ?_
  refine i_get X F 25 rfl rfl fk_X7_249 dX7_settingIn_8 rfl ?_
  refine g_iload_n X dX7_settingIn_11 rfl (j := 1) rfl ?_
  refine g_bipush X dX7_settingIn_12 (v := 7) (by decide) ?_
  refine g_imul X dX7_settingIn_14 ?_
  refine Go.top (v := .int (nI (p0 * 7))) (congrArg Value.int (pk_mul p0 7)) ?_
  refine g_callVI X (s_X2_settingNumber_28 l G F I (p0 * 7) (by omega) (by omega) ) lk_X7_419 (F.1 3 rfl).2 (F.1 3 rfl).1 rfl rfl dX7_settingIn_15 (Nat.le_of_ble_eq_true rfl) ⟨by decide, by decide⟩ ⟨by decide, by decide⟩ (fun r1 L M hp => ?_)
  obtain ⟨C, D, F, I, K1, hr⟩ := hp
  have K := K.step K1 (by decide)
  exact g_iret X hrt dX7_settingIn_18 (by decide) (by decide) ⟨C, D, F, I, K, trivial⟩
set_option maxHeartbeats 4000000 in
set_option maxRecDepth 100000 in
theorem s_X7_setting (l : Launch) (G : va_G) {cy : Nat → ClassId} {L : List Nat} {M : Nat → va_E} {a : Nat → Nat} {act : Nat → Bool} {C0 : Nat → Nat → Int32} {D0 : Nat → Nat → Int64} {R : Nat → Nat → Option Nat} (F : WI L M a act (ent cy a C0 D0 R)) (I : Inv C0) (p0 : Int32)  : MI l G cy yX7_setting cX7_setting 2 (some .int) 3 0 0 [.ref (a 0), .int p0] L M (fun r L2 M2 => ∃ C2 D2, WI L2 M2 a act (ent cy a C2 D2 R) ∧ Inv C2 ∧ Kp [] C0 D0 C2 D2 ∧ True) := by
  refine MI.of (own := RX7) rfl (by decide) (Nat.le_of_ble_eq_true rfl) ?_
  intro p e s m below meth c A X hrt hnm
  obtain ⟨C, D, hC0, hD0, F, I, K⟩ : ∃ C D, C = C0 ∧ D = D0 ∧ WI L M a act (ent cy a C D R) ∧ Inv C ∧ Kp [] C0 D0 C D := ⟨C0, D0, rfl, rfl, F, I, Kp.rf⟩
  refine g_aload_n X dX7_setting_0 rfl (j := 0) rfl ?_
  refine i_get X F 0 rfl rfl fk_X7_19 dX7_setting_1 rfl ?_
  refine g_iload_n X dX7_setting_4 rfl (j := 1) rfl ?_
  refine g_callVI X (s_X2_hasHour l G F I p0 ) lk_X7_134 (F.1 3 rfl).2 (F.1 3 rfl).1 rfl rfl dX7_setting_5 (Nat.le_of_ble_eq_true rfl) ⟨by decide, by decide⟩ ⟨by decide, by decide⟩ (fun r1 L M hp => ?_)
  obtain ⟨C, D, F, I, K1, hr⟩ := hp
  have K := K.step K1 (by decide)
  rcases hr with rfl | ⟨rfl, n2, hn2a, hn2b, en2⟩
  · skip
    refine g_if_eq X dX7_setting_8 (tgt := 19) (by decide) (fun _ => ?_) (fun q => absurd (by decide) q)
    refine g_bipush X dX7_setting_19 (v := -2) (by decide) ?_
    exact g_iret X hrt dX7_setting_21 (by decide) (by decide) ⟨C, D, F, I, K, trivial⟩
  · skip
    subst en2
    refine g_if_eq X dX7_setting_8 (tgt := 19) (by decide) (fun q => absurd q (by decide)) (fun _ => ?_)
    refine g_aload_n X dX7_setting_11 rfl (j := 0) rfl ?_
    refine g_iload_n X dX7_setting_12 rfl (j := 1) rfl ?_
    refine g_callVI X (s_X7_settingIn l G F I n2 (by omega) (by omega) ) lk_X7_228 (F.1 0 rfl).2 (F.1 0 rfl).1 rfl rfl dX7_setting_13 (Nat.le_of_ble_eq_true rfl) ⟨by decide, by decide⟩ ⟨by decide, by decide⟩ (fun r3 L M hp => ?_)
    obtain ⟨C, D, F, I, K1, hr⟩ := hp
    have K := K.step K1 (by decide)
    refine g_goto X dX7_setting_16 (tgt := 21) (by decide) ?_
    exact g_iret X hrt dX7_setting_21 (by decide) (by decide) ⟨C, D, F, I, K, trivial⟩
set_option maxHeartbeats 4000000 in
set_option maxRecDepth 100000 in
theorem s_X7_same (l : Launch) (G : va_G) {cy : Nat → ClassId} {L : List Nat} {M : Nat → va_E} {a : Nat → Nat} {act : Nat → Bool} {C0 : Nat → Nat → Int32} {D0 : Nat → Nat → Int64} {R : Nat → Nat → Option Nat} (F : WI L M a act (ent cy a C0 D0 R)) (I : Inv C0)   : MI l G cy yX7_same cX7_same 3 (some .int) 3 0 0 [.ref (a 0)] L M (fun r L2 M2 => ∃ C2 D2, WI L2 M2 a act (ent cy a C2 D2 R) ∧ Inv C2 ∧ Kp [] C0 D0 C2 D2 ∧ True) := by
  refine MI.of (own := RX7) rfl (by decide) (Nat.le_of_ble_eq_true rfl) ?_
  intro p e s m below meth c A X hrt hnm
  obtain ⟨C, D, hC0, hD0, F, I, K⟩ : ∃ C D, C = C0 ∧ D = D0 ∧ WI L M a act (ent cy a C D R) ∧ Inv C ∧ Kp [] C0 D0 C D := ⟨C0, D0, rfl, rfl, F, I, Kp.rf⟩
  refine g_aload_n X dX7_same_0 rfl (j := 0) rfl ?_
  refine i_get X F 0 rfl rfl fk_X7_19 dX7_same_1 rfl ?_
  refine g_callVI X (s_X2_isTold l G F I  ) lk_X7_198 (F.1 3 rfl).2 (F.1 3 rfl).1 rfl rfl dX7_same_4 (Nat.le_of_ble_eq_true rfl) ⟨by decide, by decide⟩ ⟨by decide, by decide⟩ (fun r1 L M hp => ?_)
  obtain ⟨C, D, F, I, K1, hr⟩ := hp
  have K := K.step K1 (by decide)
  rcases hr with rfl | rfl
  · skip
    refine g_if_ne X dX7_same_7 (tgt := 13) (by decide) (fun q => absurd (by decide) q) (fun _ => ?_)
    refine g_bipush X dX7_same_10 (v := -2) (by decide) ?_
    exact g_iret X hrt dX7_same_12 (by decide) (by decide) ⟨C, D, F, I, K, trivial⟩
  · skip
    refine g_if_ne X dX7_same_7 (tgt := 13) (by decide) (fun _ => ?_) (fun q => absurd q (by decide))
    refine g_aload_n X dX7_same_13 rfl (j := 0) rfl ?_
    refine g_iconst X dX7_same_14 (v := 0) (by decide) ?_
    refine g_callVI X (s_X7_settingIn l G F I 0 (by omega) (by omega) ) lk_X7_228 (F.1 0 rfl).2 (F.1 0 rfl).1 rfl rfl dX7_same_15 (Nat.le_of_ble_eq_true rfl) ⟨by decide, by decide⟩ ⟨by decide, by decide⟩ (fun r2 L M hp => ?_)
    obtain ⟨C, D, F, I, K1, hr⟩ := hp
    have K := K.step K1 (by decide)
    refine g_istore_n X dX7_same_18 rfl (by decide) (lv2 := [(1, .int r2), (0, .ref (a 0))]) rfl ?_
    refine g_iconst X dX7_same_19 (v := 1) (by decide) ?_
    refine g_istore_n X dX7_same_20 rfl (by decide) (lv2 := [(2, .int 1), (1, .int r2), (0, .ref (a 0))]) rfl ?_
    refine g_lv [0, 1, 2] (lv2 := [(2, .int 1), (1, .int r2), (0, .ref (a 0))]) rfl ?_
    refine i_loop (mods := []) (fun x : Nat => 17 - x) (fun x => [(2, .int (nI (x))), (1, .int r2), (0, .ref (a 0))]) (fun x C => 1 ≤ x ∧ x ≤ 17) (fun x L M C D F I K hP ih21 => ?_) ((1) : Nat) F I K ⟨by show _ ≤ _; omega, by show _ ≤ _; omega⟩
    obtain ⟨i21_2, rfl⟩ : ∃ z, z = x := ⟨_, rfl⟩
    obtain ⟨hi21_2a, hi21_2b⟩ := hP
    refine g_lv [0, 1, 2] (lv2 := [(2, .int (nI i21_2)), (1, .int r2), (0, .ref (a 0))]) rfl ?_
    refine g_iload_n X dX7_same_21 rfl (j := 0) rfl ?_
    refine g_aload_n X dX7_same_22 rfl (j := 2) rfl ?_
    refine i_get X F 0 rfl rfl fk_X7_19 dX7_same_23 rfl ?_
    obtain ⟨n3, hn3, en3⟩ := rg_nat ((I 3 1).1 rfl) (by decide)
    refine i_get X F 3 rfl rfl fk_X7_168 dX7_same_26 (v := .int (nI n3)) (congrArg (fun z => some (Value.int z)) en3) ?_
    refine g_icmp_gt X dX7_same_29 (tgt := 49) (by decide) (fun q4 => ?_) (fun q4 => ?_)
    · skip
      have q4 : n3 < i21_2 := (nI_ltI (a := n3) (b := i21_2) (by omega) (by omega)).mp q4
      refine g_iconst X dX7_same_49 (v := -1) (by decide) ?_
      exact g_iret X hrt dX7_same_50 (by decide) (by decide) ⟨C, D, F, I, K, trivial⟩
    · skip
      have q4 : ¬ n3 < i21_2 := fun z => q4 ((nI_ltI (a := n3) (b := i21_2) (by omega) (by omega)).mpr z)
      refine g_aload_n X dX7_same_32 rfl (j := 2) rfl ?_
      refine g_iload_n X dX7_same_33 rfl (j := 0) rfl ?_
      refine g_callVI X (s_X7_settingIn l G F I i21_2 (by omega) (by omega) ) lk_X7_228 (F.1 0 rfl).2 (F.1 0 rfl).1 rfl rfl dX7_same_34 (Nat.le_of_ble_eq_true rfl) ⟨by decide, by decide⟩ ⟨by decide, by decide⟩ (fun r5 L M hp => ?_)
      obtain ⟨C, D, F, I, K1, hr⟩ := hp
      have K := K.step K1 (by decide)
      refine g_iload_n X dX7_same_37 rfl (j := 1) rfl ?_
      refine g_icmp_ne X dX7_same_38 (tgt := 43) (by decide) (fun q6 => ?_) (fun q6 => ?_)
      · skip
        refine g_iinc X dX7_same_43 (j := 0) rfl (v := nI (i21_2 + 1)) (nI_1 i21_2) (by decide) (lv2 := [(2, .int (nI (i21_2 + 1))), (1, .int r2), (0, .ref (a 0))]) rfl ?_
        refine g_goto X dX7_same_46 (tgt := 21) (by decide) ?_
        refine g_lv [0, 1, 2] (lv2 := [(2, .int (nI (i21_2 + 1))), (1, .int r2), (0, .ref (a 0))]) rfl ?_
        exact ih21 ((i21_2 + 1)) L M C D F I K ⟨by omega, by omega⟩ (by show _ < _; omega)
      · skip
        refine g_iload_n X dX7_same_41 rfl (j := 0) rfl ?_
        exact g_iret X hrt dX7_same_42 (by decide) (by decide) ⟨C, D, F, I, K, trivial⟩
set_option maxHeartbeats 4000000 in
set_option maxRecDepth 100000 in
theorem s_X7_tree (l : Launch) (G : va_G) {cy : Nat → ClassId} {L : List Nat} {M : Nat → va_E} {a : Nat → Nat} {act : Nat → Bool} {C0 : Nat → Nat → Int32} {D0 : Nat → Nat → Int64} {R : Nat → Nat → Option Nat} (F : WI L M a act (ent cy a C0 D0 R)) (I : Inv C0) (p0 : Int32)  : MI l G cy yX7_tree cX7_tree 2 (some .int) 3 0 0 [.ref (a 0), .int p0] L M (fun r L2 M2 => ∃ C2 D2, WI L2 M2 a act (ent cy a C2 D2 R) ∧ Inv C2 ∧ Kp [] C0 D0 C2 D2 ∧ True) := by
  refine MI.of (own := RX7) rfl (by decide) (Nat.le_of_ble_eq_true rfl) ?_
  intro p e s m below meth c A X hrt hnm
  obtain ⟨C, D, hC0, hD0, F, I, K⟩ : ∃ C D, C = C0 ∧ D = D0 ∧ WI L M a act (ent cy a C D R) ∧ Inv C ∧ Kp [] C0 D0 C D := ⟨C0, D0, rfl, rfl, F, I, Kp.rf⟩
  refine g_aload_n X dX7_tree_0 rfl (j := 0) rfl ?_
  refine i_get X F 0 rfl rfl fk_X7_19 dX7_tree_1 rfl ?_
  refine g_iload_n X dX7_tree_4 rfl (j := 1) rfl ?_
  refine g_callVI X (s_X2_hasHour l G F I p0 ) lk_X7_134 (F.1 3 rfl).2 (F.1 3 rfl).1 rfl rfl dX7_tree_5 (Nat.le_of_ble_eq_true rfl) ⟨by decide, by decide⟩ ⟨by decide, by decide⟩ (fun r1 L M hp => ?_)
  obtain ⟨C, D, F, I, K1, hr⟩ := hp
  have K := K.step K1 (by decide)
  rcases hr with rfl | ⟨rfl, n2, hn2a, hn2b, en2⟩
  · skip
    refine g_if_ne X dX7_tree_8 (tgt := 14) (by decide) (fun q => absurd (by decide) q) (fun _ => ?_)
    refine g_bipush X dX7_tree_11 (v := -2) (by decide) ?_
    exact g_iret X hrt dX7_tree_13 (by decide) (by decide) ⟨C, D, F, I, K, trivial⟩
  · skip
    subst en2
    refine g_if_ne X dX7_tree_8 (tgt := 14) (by decide) (fun _ => ?_) (fun q => absurd q (by decide))
    refine g_aload_n X dX7_tree_14 rfl (j := 0) rfl ?_
    refine i_get X F 0 rfl rfl fk_X7_19 dX7_tree_15 rfl ?_
    refine g_aload_n X dX7_tree_18 rfl (j := 0) rfl ?_
    refine i_get X F 0 rfl rfl fk_X7_41 dX7_tree_19 rfl ?_
    refine i_get X F 25 rfl rfl fk_X7_249 dX7_tree_22 rfl ?_
    refine g_iload_n X dX7_tree_25 rfl (j := 1) rfl ?_
    refine g_bipush X dX7_tree_26 (v := 7) (by decide) ?_
    refine g_imul X dX7_tree_28 ?_
    refine Go.top (v := .int (nI (n2 * 7))) (congrArg Value.int (pk_mul n2 7)) ?_
    refine g_callVI X (s_X2_isTree_28 l G F I (n2 * 7) (by omega) (by omega) ) lk_X7_252 (F.1 3 rfl).2 (F.1 3 rfl).1 rfl rfl dX7_tree_29 (Nat.le_of_ble_eq_true rfl) ⟨by decide, by decide⟩ ⟨by decide, by decide⟩ (fun r3 L M hp => ?_)
    obtain ⟨C, D, F, I, K1, hr⟩ := hp
    have K := K.step K1 (by decide)
    rcases hr with rfl | rfl
    · skip
      refine g_if_eq X dX7_tree_32 (tgt := 39) (by decide) (fun _ => ?_) (fun q => absurd (by decide) q)
      refine g_iconst X dX7_tree_39 (v := 0) (by decide) ?_
      exact g_iret X hrt dX7_tree_40 (by decide) (by decide) ⟨C, D, F, I, K, trivial⟩
    · skip
      refine g_if_eq X dX7_tree_32 (tgt := 39) (by decide) (fun q => absurd q (by decide)) (fun _ => ?_)
      refine g_iconst X dX7_tree_35 (v := 1) (by decide) ?_
      refine g_goto X dX7_tree_36 (tgt := 40) (by decide) ?_
      exact g_iret X hrt dX7_tree_40 (by decide) (by decide) ⟨C, D, F, I, K, trivial⟩
set_option maxHeartbeats 4000000 in
set_option maxRecDepth 100000 in
theorem s_X7_ring (l : Launch) (G : va_G) {cy : Nat → ClassId} {L : List Nat} {M : Nat → va_E} {a : Nat → Nat} {act : Nat → Bool} {C0 : Nat → Nat → Int32} {D0 : Nat → Nat → Int64} {R : Nat → Nat → Option Nat} (F : WI L M a act (ent cy a C0 D0 R)) (I : Inv C0) (p0 : Int32)  : MI l G cy yX7_ring cX7_ring 2 (some .int) 3 0 0 [.ref (a 0), .int p0] L M (fun r L2 M2 => ∃ C2 D2, WI L2 M2 a act (ent cy a C2 D2 R) ∧ Inv C2 ∧ Kp [] C0 D0 C2 D2 ∧ True) := by
  refine MI.of (own := RX7) rfl (by decide) (Nat.le_of_ble_eq_true rfl) ?_
  intro p e s m below meth c A X hrt hnm
  obtain ⟨C, D, hC0, hD0, F, I, K⟩ : ∃ C D, C = C0 ∧ D = D0 ∧ WI L M a act (ent cy a C D R) ∧ Inv C ∧ Kp [] C0 D0 C D := ⟨C0, D0, rfl, rfl, F, I, Kp.rf⟩
  refine g_aload_n X dX7_ring_0 rfl (j := 0) rfl ?_
  refine i_get X F 0 rfl rfl fk_X7_19 dX7_ring_1 rfl ?_
  refine g_iload_n X dX7_ring_4 rfl (j := 1) rfl ?_
  refine g_callVI X (s_X2_hasHour l G F I p0 ) lk_X7_134 (F.1 3 rfl).2 (F.1 3 rfl).1 rfl rfl dX7_ring_5 (Nat.le_of_ble_eq_true rfl) ⟨by decide, by decide⟩ ⟨by decide, by decide⟩ (fun r1 L M hp => ?_)
  obtain ⟨C, D, F, I, K1, hr⟩ := hp
  have K := K.step K1 (by decide)
  rcases hr with rfl | ⟨rfl, n2, hn2a, hn2b, en2⟩
  · skip
    refine g_if_eq X dX7_ring_8 (tgt := 32) (by decide) (fun _ => ?_) (fun q => absurd (by decide) q)
    refine g_bipush X dX7_ring_32 (v := -2) (by decide) ?_
    exact g_iret X hrt dX7_ring_34 (by decide) (by decide) ⟨C, D, F, I, K, trivial⟩
  · skip
    subst en2
    refine g_if_eq X dX7_ring_8 (tgt := 32) (by decide) (fun q => absurd q (by decide)) (fun _ => ?_)
    refine g_aload_n X dX7_ring_11 rfl (j := 0) rfl ?_
    refine i_get X F 0 rfl rfl fk_X7_19 dX7_ring_12 rfl ?_
    refine g_aload_n X dX7_ring_15 rfl (j := 0) rfl ?_
    refine i_get X F 0 rfl rfl fk_X7_41 dX7_ring_16 rfl ?_
    refine i_get X F 25 rfl rfl fk_X7_249 dX7_ring_19 rfl ?_
    refine g_iload_n X dX7_ring_22 rfl (j := 1) rfl ?_
    refine g_bipush X dX7_ring_23 (v := 7) (by decide) ?_
    refine g_imul X dX7_ring_25 ?_
    refine Go.top (v := .int (nI (n2 * 7))) (congrArg Value.int (pk_mul n2 7)) ?_
    refine g_callVI X (s_X2_postsOnRings_28 l G F I (n2 * 7) (by omega) (by omega) ) lk_X7_256 (F.1 3 rfl).2 (F.1 3 rfl).1 rfl rfl dX7_ring_26 (Nat.le_of_ble_eq_true rfl) ⟨by decide, by decide⟩ ⟨by decide, by decide⟩ (fun r3 L M hp => ?_)
    obtain ⟨C, D, F, I, K1, hr⟩ := hp
    have K := K.step K1 (by decide)
    refine g_goto X dX7_ring_29 (tgt := 34) (by decide) ?_
    exact g_iret X hrt dX7_ring_34 (by decide) (by decide) ⟨C, D, F, I, K, trivial⟩
set_option maxHeartbeats 4000000 in
set_option maxRecDepth 100000 in
theorem s_X7_alone (l : Launch) (G : va_G) {cy : Nat → ClassId} {L : List Nat} {M : Nat → va_E} {a : Nat → Nat} {act : Nat → Bool} {C0 : Nat → Nat → Int32} {D0 : Nat → Nat → Int64} {R : Nat → Nat → Option Nat} (F : WI L M a act (ent cy a C0 D0 R)) (I : Inv C0) (p0 : Int32)  : MI l G cy yX7_alone cX7_alone 2 (some .int) 2 0 0 [.ref (a 0), .int p0] L M (fun r L2 M2 => ∃ C2 D2, WI L2 M2 a act (ent cy a C2 D2 R) ∧ Inv C2 ∧ Kp [37, 38] C0 D0 C2 D2 ∧ True) := by
  refine MI.of (own := RX7) rfl (by decide) (Nat.le_of_ble_eq_true rfl) ?_
  intro p e s m below meth c A X hrt hnm
  obtain ⟨C, D, hC0, hD0, F, I, K⟩ : ∃ C D, C = C0 ∧ D = D0 ∧ WI L M a act (ent cy a C D R) ∧ Inv C ∧ Kp [37, 38] C0 D0 C D := ⟨C0, D0, rfl, rfl, F, I, Kp.rf⟩
  refine g_aload_n X dX7_alone_0 rfl (j := 0) rfl ?_
  refine i_get X F 0 rfl rfl fk_X7_19 dX7_alone_1 rfl ?_
  refine g_iload_n X dX7_alone_4 rfl (j := 1) rfl ?_
  refine g_callVI X (s_X2_hasPost l G F I p0 ) lk_X7_106 (F.1 3 rfl).2 (F.1 3 rfl).1 rfl rfl dX7_alone_5 (Nat.le_of_ble_eq_true rfl) ⟨by decide, by decide⟩ ⟨by decide, by decide⟩ (fun r1 L M hp => ?_)
  obtain ⟨C, D, F, I, K1, hr⟩ := hp
  have K := K.step K1 (by decide)
  rcases hr with rfl | ⟨rfl, n2, hn2a, hn2b, en2⟩
  · skip
    refine g_if_ne X dX7_alone_8 (tgt := 14) (by decide) (fun q => absurd (by decide) q) (fun _ => ?_)
    refine g_bipush X dX7_alone_11 (v := -2) (by decide) ?_
    exact g_iret X hrt dX7_alone_13 (by decide) (by decide) ⟨C, D, F, I, K, trivial⟩
  · skip
    subst en2
    refine g_if_ne X dX7_alone_8 (tgt := 14) (by decide) (fun _ => ?_) (fun q => absurd q (by decide))
    refine g_aload_n X dX7_alone_14 rfl (j := 0) rfl ?_
    refine i_get X F 0 rfl rfl fk_X7_51 dX7_alone_15 rfl ?_
    refine g_callVV X (s_X3_begin l G F I  ) lk_X7_234 (F.1 37 rfl).2 (F.1 37 rfl).1 rfl rfl dX7_alone_18 (Nat.le_of_ble_eq_true rfl) ⟨by decide, by decide⟩ ⟨by decide, by decide⟩ (fun L M hp => ?_)
    obtain ⟨C, D, F, I, K1, hr⟩ := hp
    have K := K.step K1 (by decide)
    refine g_aload_n X dX7_alone_21 rfl (j := 0) rfl ?_
    refine i_get X F 0 rfl rfl fk_X7_51 dX7_alone_22 rfl ?_
    refine g_iload_n X dX7_alone_25 rfl (j := 1) rfl ?_
    refine g_callVI X (s_X3_sendFrom l G F I n2 (by omega) (by omega) ) lk_X7_237 (F.1 37 rfl).2 (F.1 37 rfl).1 rfl rfl dX7_alone_26 (Nat.le_of_ble_eq_true rfl) ⟨by decide, by decide⟩ ⟨by decide, by decide⟩ (fun r3 L M hp => ?_)
    obtain ⟨C, D, F, I, K1, hr⟩ := hp
    have K := K.step K1 (by decide)
    exact g_iret X hrt dX7_alone_29 (by decide) (by decide) ⟨C, D, F, I, K, trivial⟩
set_option maxHeartbeats 4000000 in
set_option maxRecDepth 100000 in
theorem s_X7_steps (l : Launch) (G : va_G) {cy : Nat → ClassId} {L : List Nat} {M : Nat → va_E} {a : Nat → Nat} {act : Nat → Bool} {C0 : Nat → Nat → Int32} {D0 : Nat → Nat → Int64} {R : Nat → Nat → Option Nat} (F : WI L M a act (ent cy a C0 D0 R)) (I : Inv C0) (p0 : Int32)  : MI l G cy yX7_steps cX7_steps 2 (some .int) 2 0 0 [.ref (a 0), .int p0] L M (fun r L2 M2 => ∃ C2 D2, WI L2 M2 a act (ent cy a C2 D2 R) ∧ Inv C2 ∧ Kp [37, 38] C0 D0 C2 D2 ∧ True) := by
  refine MI.of (own := RX7) rfl (by decide) (Nat.le_of_ble_eq_true rfl) ?_
  intro p e s m below meth c A X hrt hnm
  obtain ⟨C, D, hC0, hD0, F, I, K⟩ : ∃ C D, C = C0 ∧ D = D0 ∧ WI L M a act (ent cy a C D R) ∧ Inv C ∧ Kp [37, 38] C0 D0 C D := ⟨C0, D0, rfl, rfl, F, I, Kp.rf⟩
  refine g_aload_n X dX7_steps_0 rfl (j := 0) rfl ?_
  refine i_get X F 0 rfl rfl fk_X7_19 dX7_steps_1 rfl ?_
  refine g_iload_n X dX7_steps_4 rfl (j := 1) rfl ?_
  refine g_callVI X (s_X2_hasPost l G F I p0 ) lk_X7_106 (F.1 3 rfl).2 (F.1 3 rfl).1 rfl rfl dX7_steps_5 (Nat.le_of_ble_eq_true rfl) ⟨by decide, by decide⟩ ⟨by decide, by decide⟩ (fun r1 L M hp => ?_)
  obtain ⟨C, D, F, I, K1, hr⟩ := hp
  have K := K.step K1 (by decide)
  rcases hr with rfl | ⟨rfl, n2, hn2a, hn2b, en2⟩
  · skip
    refine g_if_ne X dX7_steps_8 (tgt := 14) (by decide) (fun q => absurd (by decide) q) (fun _ => ?_)
    refine g_bipush X dX7_steps_11 (v := -2) (by decide) ?_
    exact g_iret X hrt dX7_steps_13 (by decide) (by decide) ⟨C, D, F, I, K, trivial⟩
  · skip
    subst en2
    refine g_if_ne X dX7_steps_8 (tgt := 14) (by decide) (fun _ => ?_) (fun q => absurd q (by decide))
    refine g_aload_n X dX7_steps_14 rfl (j := 0) rfl ?_
    refine i_get X F 0 rfl rfl fk_X7_51 dX7_steps_15 rfl ?_
    refine g_callVV X (s_X3_begin l G F I  ) lk_X7_234 (F.1 37 rfl).2 (F.1 37 rfl).1 rfl rfl dX7_steps_18 (Nat.le_of_ble_eq_true rfl) ⟨by decide, by decide⟩ ⟨by decide, by decide⟩ (fun L M hp => ?_)
    obtain ⟨C, D, F, I, K1, hr⟩ := hp
    have K := K.step K1 (by decide)
    refine g_aload_n X dX7_steps_21 rfl (j := 0) rfl ?_
    refine i_get X F 0 rfl rfl fk_X7_51 dX7_steps_22 rfl ?_
    refine g_iload_n X dX7_steps_25 rfl (j := 1) rfl ?_
    refine g_callVI X (s_X3_sendFrom l G F I n2 (by omega) (by omega) ) lk_X7_237 (F.1 37 rfl).2 (F.1 37 rfl).1 rfl rfl dX7_steps_26 (Nat.le_of_ble_eq_true rfl) ⟨by decide, by decide⟩ ⟨by decide, by decide⟩ (fun r3 L M hp => ?_)
    obtain ⟨C, D, F, I, K1, hr⟩ := hp
    have K := K.step K1 (by decide)
    refine g_iconst X dX7_steps_29 (v := -1) (by decide) ?_
    refine g_icmp_ne X dX7_steps_30 (tgt := 37) (by decide) (fun q4 => ?_) (fun q4 => ?_)
    · skip
      refine g_aload_n X dX7_steps_37 rfl (j := 0) rfl ?_
      refine i_get X F 0 rfl rfl fk_X7_51 dX7_steps_38 rfl ?_
      obtain ⟨n5, hn5, en5⟩ := rg_nat (I 37 2 rfl) (by decide)
      refine i_get X F 37 rfl rfl fk_X7_240 dX7_steps_41 (v := .int (nI n5)) (congrArg (fun z => some (Value.int z)) en5) ?_
      exact g_iret X hrt dX7_steps_44 (by decide) (by decide) ⟨C, D, F, I, K, trivial⟩
    · skip
      subst q4
      refine g_iconst X dX7_steps_33 (v := -1) (by decide) ?_
      refine g_goto X dX7_steps_34 (tgt := 44) (by decide) ?_
      exact g_iret X hrt dX7_steps_44 (by decide) (by decide) ⟨C, D, F, I, K, trivial⟩
set_option maxHeartbeats 4000000 in
set_option maxRecDepth 100000 in
theorem s_X7_behind (l : Launch) (G : va_G) {cy : Nat → ClassId} {L : List Nat} {M : Nat → va_E} {a : Nat → Nat} {act : Nat → Bool} {C0 : Nat → Nat → Int32} {D0 : Nat → Nat → Int64} {R : Nat → Nat → Option Nat} (F : WI L M a act (ent cy a C0 D0 R)) (I : Inv C0) (p0 : Int32)  : MI l G cy yX7_behind cX7_behind 2 (some .int) 3 0 0 [.ref (a 0), .int p0] L M (fun r L2 M2 => ∃ C2 D2, WI L2 M2 a act (ent cy a C2 D2 R) ∧ Inv C2 ∧ Kp [37, 38] C0 D0 C2 D2 ∧ True) := by
  refine MI.of (own := RX7) rfl (by decide) (Nat.le_of_ble_eq_true rfl) ?_
  intro p e s m below meth c A X hrt hnm
  obtain ⟨C, D, hC0, hD0, F, I, K⟩ : ∃ C D, C = C0 ∧ D = D0 ∧ WI L M a act (ent cy a C D R) ∧ Inv C ∧ Kp [37, 38] C0 D0 C D := ⟨C0, D0, rfl, rfl, F, I, Kp.rf⟩
  refine g_aload_n X dX7_behind_0 rfl (j := 0) rfl ?_
  refine i_get X F 0 rfl rfl fk_X7_19 dX7_behind_1 rfl ?_
  refine g_iload_n X dX7_behind_4 rfl (j := 1) rfl ?_
  refine g_callVI X (s_X2_hasPost l G F I p0 ) lk_X7_106 (F.1 3 rfl).2 (F.1 3 rfl).1 rfl rfl dX7_behind_5 (Nat.le_of_ble_eq_true rfl) ⟨by decide, by decide⟩ ⟨by decide, by decide⟩ (fun r1 L M hp => ?_)
  obtain ⟨C, D, F, I, K1, hr⟩ := hp
  have K := K.step K1 (by decide)
  rcases hr with rfl | ⟨rfl, n2, hn2a, hn2b, en2⟩
  · skip
    refine g_if_ne X dX7_behind_8 (tgt := 14) (by decide) (fun q => absurd (by decide) q) (fun _ => ?_)
    refine g_bipush X dX7_behind_11 (v := -2) (by decide) ?_
    exact g_iret X hrt dX7_behind_13 (by decide) (by decide) ⟨C, D, F, I, K, trivial⟩
  · skip
    subst en2
    refine g_if_ne X dX7_behind_8 (tgt := 14) (by decide) (fun _ => ?_) (fun q => absurd q (by decide))
    refine g_aload_n X dX7_behind_14 rfl (j := 0) rfl ?_
    refine i_get X F 0 rfl rfl fk_X7_51 dX7_behind_15 rfl ?_
    refine g_callVV X (s_X3_begin l G F I  ) lk_X7_234 (F.1 37 rfl).2 (F.1 37 rfl).1 rfl rfl dX7_behind_18 (Nat.le_of_ble_eq_true rfl) ⟨by decide, by decide⟩ ⟨by decide, by decide⟩ (fun L M hp => ?_)
    obtain ⟨C, D, F, I, K1, hr⟩ := hp
    have K := K.step K1 (by decide)
    refine g_aload_n X dX7_behind_21 rfl (j := 0) rfl ?_
    refine i_get X F 0 rfl rfl fk_X7_51 dX7_behind_22 rfl ?_
    refine g_iload_n X dX7_behind_25 rfl (j := 1) rfl ?_
    refine g_callVI X (s_X3_sendFrom l G F I n2 (by omega) (by omega) ) lk_X7_237 (F.1 37 rfl).2 (F.1 37 rfl).1 rfl rfl dX7_behind_26 (Nat.le_of_ble_eq_true rfl) ⟨by decide, by decide⟩ ⟨by decide, by decide⟩ (fun r3 L M hp => ?_)
    obtain ⟨C, D, F, I, K1, hr⟩ := hp
    have K := K.step K1 (by decide)
    refine g_iconst X dX7_behind_29 (v := -1) (by decide) ?_
    refine g_icmp_ne X dX7_behind_30 (tgt := 37) (by decide) (fun q4 => ?_) (fun q4 => ?_)
    · skip
      refine g_aload_n X dX7_behind_37 rfl (j := 0) rfl ?_
      refine i_get X F 0 rfl rfl fk_X7_51 dX7_behind_38 rfl ?_
      refine g_callVI X (s_X3_settingNow l G F I  ) lk_X7_243 (F.1 37 rfl).2 (F.1 37 rfl).1 rfl rfl dX7_behind_41 (Nat.le_of_ble_eq_true rfl) ⟨by decide, by decide⟩ ⟨by decide, by decide⟩ (fun r5 L M hp => ?_)
      obtain ⟨C, D, F, I, K1, hr⟩ := hp
      have K := K.step K1 (by decide)
      exact g_iret X hrt dX7_behind_44 (by decide) (by decide) ⟨C, D, F, I, K, trivial⟩
    · skip
      subst q4
      refine g_iconst X dX7_behind_33 (v := -1) (by decide) ?_
      refine g_goto X dX7_behind_34 (tgt := 44) (by decide) ?_
      exact g_iret X hrt dX7_behind_44 (by decide) (by decide) ⟨C, D, F, I, K, trivial⟩
