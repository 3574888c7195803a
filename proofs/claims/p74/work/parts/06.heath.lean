set_option maxHeartbeats 4000000 in
set_option maxRecDepth 100000 in
theorem s_X2_isTold (l : Launch) (G : va_G) {cy : Nat → ClassId} {L : List Nat} {M : Nat → va_E} {a : Nat → Nat} {act : Nat → Bool} {C : Nat → Nat → Int32} {D : Nat → Nat → Int64} {R : Nat → Nat → Option Nat} (F : WI L M a act (ent cy a C D R)) (I : Inv C)  : MI l G cy yX2_isTold cX2_isTold 1 (some .boolean) 0 0 0 [.ref (a 3)] L M (fun r L2 M2 => ∃ C2 D2, WI L2 M2 a act (ent cy a C2 D2 R) ∧ Inv C2 ∧ Kp [] C D C2 D2 ∧ (r = 0 ∨ r = 1)) := by
  refine MI.of (own := RX2) rfl (by decide) (Nat.le_of_ble_eq_true rfl) ?_
  intro p e s m below meth c A X hrt hnm
  have K : Kp [] C D C D := Kp.rf
  refine g_aload_n X dX2_isTold_0 rfl (j := 0) rfl ?_
  refine i_get X F 3 rfl rfl fk_X2_9 dX2_isTold_1 rfl ?_
  refine Go.gen (fun o1 => ?_)
  refine g_if_le X dX2_isTold_4 (tgt := 11) (by decide) (fun q2 => ?_) (fun q2 => ?_)
  · skip
    refine g_iconst X dX2_isTold_11 (v := 0) (by decide) ?_
    exact g_zret X hrt rfl dX2_isTold_12 (by decide) (by decide) ⟨C, D, F, I, K, Or.inl rfl⟩
  · skip
    refine g_iconst X dX2_isTold_7 (v := 1) (by decide) ?_
    refine g_goto X dX2_isTold_8 (tgt := 12) (by decide) ?_
    exact g_zret X hrt rfl dX2_isTold_12 (by decide) (by decide) ⟨C, D, F, I, K, Or.inr rfl⟩
set_option maxHeartbeats 4000000 in
set_option maxRecDepth 100000 in
theorem s_X2_hasInn (l : Launch) (G : va_G) {cy : Nat → ClassId} {L : List Nat} {M : Nat → va_E} {a : Nat → Nat} {act : Nat → Bool} {C : Nat → Nat → Int32} {D : Nat → Nat → Int64} {R : Nat → Nat → Option Nat} (F : WI L M a act (ent cy a C D R)) (I : Inv C) (p0 : Int32) : MI l G cy yX2_hasInn cX2_hasInn 2 (some .boolean) 0 0 0 [.ref (a 3), .int p0] L M (fun r L2 M2 => ∃ C2 D2, WI L2 M2 a act (ent cy a C2 D2 R) ∧ Inv C2 ∧ Kp [] C D C2 D2 ∧ (r = 0 ∨ (r = 1 ∧ ∃ n : Nat, 0 ≤ n ∧ n ≤ 3 ∧ p0 = nI n))) := by
  refine MI.of (own := RX2) rfl (by decide) (Nat.le_of_ble_eq_true rfl) ?_
  intro p e s m below meth c A X hrt hnm
  have K : Kp [] C D C D := Kp.rf
  refine g_iload_n X dX2_hasInn_0 rfl (j := 1) rfl ?_
  refine g_if_lt X dX2_hasInn_1 (tgt := 16) (by decide) (fun q1 => ?_) (fun q1 => ?_)
  · skip
    refine g_iconst X dX2_hasInn_16 (v := 0) (by decide) ?_
    exact g_zret X hrt rfl dX2_hasInn_17 (by decide) (by decide) ⟨C, D, F, I, K, Or.inl rfl⟩
  · skip
    obtain ⟨n2, hn2, rfl⟩ := nI_of (x := p0) q1
    refine g_iload_n X dX2_hasInn_4 rfl (j := 1) rfl ?_
    refine g_aload_n X dX2_hasInn_5 rfl (j := 0) rfl ?_
    obtain ⟨n3, hn3, en3⟩ := rg_nat ((I 3 4).2.1 rfl) (by decide)
    refine i_get X F 3 rfl rfl fk_X2_24 dX2_hasInn_6 (v := .int (nI n3)) (congrArg (fun z => some (Value.int z)) en3) ?_
    refine g_icmp_ge X dX2_hasInn_9 (tgt := 16) (by decide) (fun q4 => ?_) (fun q4 => ?_)
    · skip
      have q4 : n3 ≤ n2 := (nI_leI (a := n3) (b := n2) (by omega) (by omega)).mp q4
      refine g_iconst X dX2_hasInn_16 (v := 0) (by decide) ?_
      exact g_zret X hrt rfl dX2_hasInn_17 (by decide) (by decide) ⟨C, D, F, I, K, Or.inl rfl⟩
    · skip
      have q4 : ¬ n3 ≤ n2 := fun z => q4 ((nI_leI (a := n3) (b := n2) (by omega) (by omega)).mpr z)
      refine g_iconst X dX2_hasInn_12 (v := 1) (by decide) ?_
      refine g_goto X dX2_hasInn_13 (tgt := 17) (by decide) ?_
      exact g_zret X hrt rfl dX2_hasInn_17 (by decide) (by decide) ⟨C, D, F, I, K, Or.inr ⟨rfl, n2, by omega, by omega, rfl⟩⟩
set_option maxHeartbeats 4000000 in
set_option maxRecDepth 100000 in
theorem s_X2_hasPost (l : Launch) (G : va_G) {cy : Nat → ClassId} {L : List Nat} {M : Nat → va_E} {a : Nat → Nat} {act : Nat → Bool} {C : Nat → Nat → Int32} {D : Nat → Nat → Int64} {R : Nat → Nat → Option Nat} (F : WI L M a act (ent cy a C D R)) (I : Inv C) (p0 : Int32) : MI l G cy yX2_hasPost cX2_hasPost 2 (some .boolean) 0 0 0 [.ref (a 3), .int p0] L M (fun r L2 M2 => ∃ C2 D2, WI L2 M2 a act (ent cy a C2 D2 R) ∧ Inv C2 ∧ Kp [] C D C2 D2 ∧ (r = 0 ∨ (r = 1 ∧ ∃ n : Nat, 0 ≤ n ∧ n ≤ 6 ∧ p0 = nI n))) := by
  refine MI.of (own := RX2) rfl (by decide) (Nat.le_of_ble_eq_true rfl) ?_
  intro p e s m below meth c A X hrt hnm
  have K : Kp [] C D C D := Kp.rf
  refine g_iload_n X dX2_hasPost_0 rfl (j := 1) rfl ?_
  refine g_if_lt X dX2_hasPost_1 (tgt := 16) (by decide) (fun q1 => ?_) (fun q1 => ?_)
  · skip
    refine g_iconst X dX2_hasPost_16 (v := 0) (by decide) ?_
    exact g_zret X hrt rfl dX2_hasPost_17 (by decide) (by decide) ⟨C, D, F, I, K, Or.inl rfl⟩
  · skip
    obtain ⟨n2, hn2, rfl⟩ := nI_of (x := p0) q1
    refine g_iload_n X dX2_hasPost_4 rfl (j := 1) rfl ?_
    refine g_aload_n X dX2_hasPost_5 rfl (j := 0) rfl ?_
    obtain ⟨n3, hn3, en3⟩ := rg_nat ((I 3 5).2.2.1 rfl) (by decide)
    refine i_get X F 3 rfl rfl fk_X2_27 dX2_hasPost_6 (v := .int (nI n3)) (congrArg (fun z => some (Value.int z)) en3) ?_
    refine g_icmp_ge X dX2_hasPost_9 (tgt := 16) (by decide) (fun q4 => ?_) (fun q4 => ?_)
    · skip
      have q4 : n3 ≤ n2 := (nI_leI (a := n3) (b := n2) (by omega) (by omega)).mp q4
      refine g_iconst X dX2_hasPost_16 (v := 0) (by decide) ?_
      exact g_zret X hrt rfl dX2_hasPost_17 (by decide) (by decide) ⟨C, D, F, I, K, Or.inl rfl⟩
    · skip
      have q4 : ¬ n3 ≤ n2 := fun z => q4 ((nI_leI (a := n3) (b := n2) (by omega) (by omega)).mpr z)
      refine g_iconst X dX2_hasPost_12 (v := 1) (by decide) ?_
      refine g_goto X dX2_hasPost_13 (tgt := 17) (by decide) ?_
      exact g_zret X hrt rfl dX2_hasPost_17 (by decide) (by decide) ⟨C, D, F, I, K, Or.inr ⟨rfl, n2, by omega, by omega, rfl⟩⟩
set_option maxHeartbeats 4000000 in
set_option maxRecDepth 100000 in
theorem s_X2_hasWalker (l : Launch) (G : va_G) {cy : Nat → ClassId} {L : List Nat} {M : Nat → va_E} {a : Nat → Nat} {act : Nat → Bool} {C : Nat → Nat → Int32} {D : Nat → Nat → Int64} {R : Nat → Nat → Option Nat} (F : WI L M a act (ent cy a C D R)) (I : Inv C) (p0 : Int32) : MI l G cy yX2_hasWalker cX2_hasWalker 2 (some .boolean) 0 0 0 [.ref (a 3), .int p0] L M (fun r L2 M2 => ∃ C2 D2, WI L2 M2 a act (ent cy a C2 D2 R) ∧ Inv C2 ∧ Kp [] C D C2 D2 ∧ (r = 0 ∨ (r = 1 ∧ ∃ n : Nat, 0 ≤ n ∧ n ≤ 7 ∧ p0 = nI n))) := by
  refine MI.of (own := RX2) rfl (by decide) (Nat.le_of_ble_eq_true rfl) ?_
  intro p e s m below meth c A X hrt hnm
  have K : Kp [] C D C D := Kp.rf
  refine g_iload_n X dX2_hasWalker_0 rfl (j := 1) rfl ?_
  refine g_if_lt X dX2_hasWalker_1 (tgt := 16) (by decide) (fun q1 => ?_) (fun q1 => ?_)
  · skip
    refine g_iconst X dX2_hasWalker_16 (v := 0) (by decide) ?_
    exact g_zret X hrt rfl dX2_hasWalker_17 (by decide) (by decide) ⟨C, D, F, I, K, Or.inl rfl⟩
  · skip
    obtain ⟨n2, hn2, rfl⟩ := nI_of (x := p0) q1
    refine g_iload_n X dX2_hasWalker_4 rfl (j := 1) rfl ?_
    refine g_aload_n X dX2_hasWalker_5 rfl (j := 0) rfl ?_
    obtain ⟨n3, hn3, en3⟩ := rg_nat ((I 3 8).2.2.2 rfl) (by decide)
    refine i_get X F 3 rfl rfl fk_X2_36 dX2_hasWalker_6 (v := .int (nI n3)) (congrArg (fun z => some (Value.int z)) en3) ?_
    refine g_icmp_ge X dX2_hasWalker_9 (tgt := 16) (by decide) (fun q4 => ?_) (fun q4 => ?_)
    · skip
      have q4 : n3 ≤ n2 := (nI_leI (a := n3) (b := n2) (by omega) (by omega)).mp q4
      refine g_iconst X dX2_hasWalker_16 (v := 0) (by decide) ?_
      exact g_zret X hrt rfl dX2_hasWalker_17 (by decide) (by decide) ⟨C, D, F, I, K, Or.inl rfl⟩
    · skip
      have q4 : ¬ n3 ≤ n2 := fun z => q4 ((nI_leI (a := n3) (b := n2) (by omega) (by omega)).mpr z)
      refine g_iconst X dX2_hasWalker_12 (v := 1) (by decide) ?_
      refine g_goto X dX2_hasWalker_13 (tgt := 17) (by decide) ?_
      exact g_zret X hrt rfl dX2_hasWalker_17 (by decide) (by decide) ⟨C, D, F, I, K, Or.inr ⟨rfl, n2, by omega, by omega, rfl⟩⟩
set_option maxHeartbeats 4000000 in
set_option maxRecDepth 100000 in
theorem s_X2_hasHour (l : Launch) (G : va_G) {cy : Nat → ClassId} {L : List Nat} {M : Nat → va_E} {a : Nat → Nat} {act : Nat → Bool} {C : Nat → Nat → Int32} {D : Nat → Nat → Int64} {R : Nat → Nat → Option Nat} (F : WI L M a act (ent cy a C D R)) (I : Inv C) (p0 : Int32) : MI l G cy yX2_hasHour cX2_hasHour 2 (some .boolean) 1 0 0 [.ref (a 3), .int p0] L M (fun r L2 M2 => ∃ C2 D2, WI L2 M2 a act (ent cy a C2 D2 R) ∧ Inv C2 ∧ Kp [] C D C2 D2 ∧ (r = 0 ∨ (r = 1 ∧ ∃ n : Nat, 0 ≤ n ∧ n ≤ 16 ∧ p0 = nI n))) := by
  refine MI.of (own := RX2) rfl (by decide) (Nat.le_of_ble_eq_true rfl) ?_
  intro p e s m below meth c A X hrt hnm
  have K : Kp [] C D C D := Kp.rf
  refine g_aload_n X dX2_hasHour_0 rfl (j := 0) rfl ?_
  refine g_callVI X (s_X2_isTold l G F I ) lk_X2_91 (F.1 3 rfl).2 (F.1 3 rfl).1 rfl rfl dX2_hasHour_1 (Nat.le_of_ble_eq_true rfl) ⟨by decide, by decide⟩ ⟨by decide, by decide⟩ (fun r1 L M hp => ?_)
  obtain ⟨C, D, F, I, K1, hr⟩ := hp
  have K := K.step K1 (by decide)
  rcases hr with rfl | rfl
  · skip
    refine g_if_eq X dX2_hasHour_4 (tgt := 23) (by decide) (fun _ => ?_) (fun q => absurd (by decide) q)
    refine g_iconst X dX2_hasHour_23 (v := 0) (by decide) ?_
    exact g_zret X hrt rfl dX2_hasHour_24 (by decide) (by decide) ⟨C, D, F, I, K, Or.inl rfl⟩
  · skip
    refine g_if_eq X dX2_hasHour_4 (tgt := 23) (by decide) (fun q => absurd q (by decide)) (fun _ => ?_)
    refine g_iload_n X dX2_hasHour_7 rfl (j := 1) rfl ?_
    refine g_if_lt X dX2_hasHour_8 (tgt := 23) (by decide) (fun q2 => ?_) (fun q2 => ?_)
    · skip
      refine g_iconst X dX2_hasHour_23 (v := 0) (by decide) ?_
      exact g_zret X hrt rfl dX2_hasHour_24 (by decide) (by decide) ⟨C, D, F, I, K, Or.inl rfl⟩
    · skip
      obtain ⟨n3, hn3, rfl⟩ := nI_of (x := p0) q2
      refine g_iload_n X dX2_hasHour_11 rfl (j := 1) rfl ?_
      refine g_aload_n X dX2_hasHour_12 rfl (j := 0) rfl ?_
      obtain ⟨n4, hn4, en4⟩ := rg_nat ((I 3 1).1 rfl) (by decide)
      refine i_get X F 3 rfl rfl fk_X2_15 dX2_hasHour_13 (v := .int (nI n4)) (congrArg (fun z => some (Value.int z)) en4) ?_
      refine g_icmp_gt X dX2_hasHour_16 (tgt := 23) (by decide) (fun q5 => ?_) (fun q5 => ?_)
      · skip
        have q5 : n4 < n3 := (nI_ltI (a := n4) (b := n3) (by omega) (by omega)).mp q5
        refine g_iconst X dX2_hasHour_23 (v := 0) (by decide) ?_
        exact g_zret X hrt rfl dX2_hasHour_24 (by decide) (by decide) ⟨C, D, F, I, K, Or.inl rfl⟩
      · skip
        have q5 : ¬ n4 < n3 := fun z => q5 ((nI_ltI (a := n4) (b := n3) (by omega) (by omega)).mpr z)
        refine g_iconst X dX2_hasHour_19 (v := 1) (by decide) ?_
        refine g_goto X dX2_hasHour_20 (tgt := 24) (by decide) ?_
        exact g_zret X hrt rfl dX2_hasHour_24 (by decide) (by decide) ⟨C, D, F, I, K, Or.inr ⟨rfl, n3, by omega, by omega, rfl⟩⟩
set_option maxHeartbeats 4000000 in
set_option maxRecDepth 100000 in
theorem s_X2_hasHourAhead (l : Launch) (G : va_G) {cy : Nat → ClassId} {L : List Nat} {M : Nat → va_E} {a : Nat → Nat} {act : Nat → Bool} {C : Nat → Nat → Int32} {D : Nat → Nat → Int64} {R : Nat → Nat → Option Nat} (F : WI L M a act (ent cy a C D R)) (I : Inv C) (p0 : Int32) : MI l G cy yX2_hasHourAhead cX2_hasHourAhead 2 (some .boolean) 2 0 0 [.ref (a 3), .int p0] L M (fun r L2 M2 => ∃ C2 D2, WI L2 M2 a act (ent cy a C2 D2 R) ∧ Inv C2 ∧ Kp [] C D C2 D2 ∧ (r = 0 ∨ (r = 1 ∧ ∃ n : Nat, 0 ≤ n ∧ n ≤ 15 ∧ p0 = nI n))) := by
  refine MI.of (own := RX2) rfl (by decide) (Nat.le_of_ble_eq_true rfl) ?_
  intro p e s m below meth c A X hrt hnm
  have K : Kp [] C D C D := Kp.rf
  refine g_aload_n X dX2_hasHourAhead_0 rfl (j := 0) rfl ?_
  refine g_iload_n X dX2_hasHourAhead_1 rfl (j := 1) rfl ?_
  refine g_callVI X (s_X2_hasHour l G F I p0) lk_X2_95 (F.1 3 rfl).2 (F.1 3 rfl).1 rfl rfl dX2_hasHourAhead_2 (Nat.le_of_ble_eq_true rfl) ⟨by decide, by decide⟩ ⟨by decide, by decide⟩ (fun r1 L M hp => ?_)
  obtain ⟨C, D, F, I, K1, hr⟩ := hp
  have K := K.step K1 (by decide)
  rcases hr with rfl | ⟨rfl, n2, hn2a, hn2b, en2⟩
  · skip
    refine g_if_eq X dX2_hasHourAhead_5 (tgt := 20) (by decide) (fun _ => ?_) (fun q => absurd (by decide) q)
    refine g_iconst X dX2_hasHourAhead_20 (v := 0) (by decide) ?_
    exact g_zret X hrt rfl dX2_hasHourAhead_21 (by decide) (by decide) ⟨C, D, F, I, K, Or.inl rfl⟩
  · skip
    subst en2
    refine g_if_eq X dX2_hasHourAhead_5 (tgt := 20) (by decide) (fun q => absurd q (by decide)) (fun _ => ?_)
    refine g_iload_n X dX2_hasHourAhead_8 rfl (j := 1) rfl ?_
    refine g_aload_n X dX2_hasHourAhead_9 rfl (j := 0) rfl ?_
    obtain ⟨n3, hn3, en3⟩ := rg_nat ((I 3 1).1 rfl) (by decide)
    refine i_get X F 3 rfl rfl fk_X2_15 dX2_hasHourAhead_10 (v := .int (nI n3)) (congrArg (fun z => some (Value.int z)) en3) ?_
    refine g_icmp_ge X dX2_hasHourAhead_13 (tgt := 20) (by decide) (fun q4 => ?_) (fun q4 => ?_)
    · skip
      have q4 : n3 ≤ n2 := (nI_leI (a := n3) (b := n2) (by omega) (by omega)).mp q4
      refine g_iconst X dX2_hasHourAhead_20 (v := 0) (by decide) ?_
      exact g_zret X hrt rfl dX2_hasHourAhead_21 (by decide) (by decide) ⟨C, D, F, I, K, Or.inl rfl⟩
    · skip
      have q4 : ¬ n3 ≤ n2 := fun z => q4 ((nI_leI (a := n3) (b := n2) (by omega) (by omega)).mpr z)
      refine g_iconst X dX2_hasHourAhead_16 (v := 1) (by decide) ?_
      refine g_goto X dX2_hasHourAhead_17 (tgt := 21) (by decide) ?_
      exact g_zret X hrt rfl dX2_hasHourAhead_21 (by decide) (by decide) ⟨C, D, F, I, K, Or.inr ⟨rfl, n2, by omega, by omega, rfl⟩⟩
set_option maxHeartbeats 4000000 in
set_option maxRecDepth 100000 in
theorem s_X2_hasArm (l : Launch) (G : va_G) {cy : Nat → ClassId} {L : List Nat} {M : Nat → va_E} {a : Nat → Nat} {act : Nat → Bool} {C : Nat → Nat → Int32} {D : Nat → Nat → Int64} {R : Nat → Nat → Option Nat} (F : WI L M a act (ent cy a C D R)) (I : Inv C) (p0 : Nat) (hp0a : 0 ≤ p0) (hp0b : p0 ≤ 6) : MI l G cy yX2_hasArm cX2_hasArm 2 (some .boolean) 0 0 0 [.ref (a 3), .int (nI p0)] L M (fun r L2 M2 => ∃ C2 D2, WI L2 M2 a act (ent cy a C2 D2 R) ∧ Inv C2 ∧ Kp [] C D C2 D2 ∧ (r = 0 ∨ r = 1)) := by
  refine MI.of (own := RX2) rfl (by decide) (Nat.le_of_ble_eq_true rfl) ?_
  intro p e s m below meth c A X hrt hnm
  have K : Kp [] C D C D := Kp.rf
  refine g_aload_n X dX2_hasArm_0 rfl (j := 0) rfl ?_
  refine i_get X F 3 rfl rfl fk_X2_43 dX2_hasArm_1 rfl ?_
  refine g_iload_n X dX2_hasArm_4 rfl (j := 1) rfl ?_
  obtain ⟨n1, hn1, en1⟩ := rg_nat (I 5 p0) (by decide)
  refine i_iald X F 5 rfl rfl dX2_hasArm_5 (vp_in_nI (by omega) (by decide)) (v := nI n1) (by rw [nI_clamp (by omega)]; exact en1) ?_
  refine g_if_le X dX2_hasArm_6 (tgt := 13) (by decide) (fun q2 => ?_) (fun q2 => ?_)
  · skip
    have q2 : n1 ≤ 0 := (nI_leI (a := n1) (b := 0) (by omega) (by omega)).mp q2
    refine g_iconst X dX2_hasArm_13 (v := 0) (by decide) ?_
    exact g_zret X hrt rfl dX2_hasArm_14 (by decide) (by decide) ⟨C, D, F, I, K, Or.inl rfl⟩
  · skip
    have q2 : ¬ n1 ≤ 0 := fun z => q2 ((nI_leI (a := n1) (b := 0) (by omega) (by omega)).mpr z)
    refine g_iconst X dX2_hasArm_9 (v := 1) (by decide) ?_
    refine g_goto X dX2_hasArm_10 (tgt := 14) (by decide) ?_
    exact g_zret X hrt rfl dX2_hasArm_14 (by decide) (by decide) ⟨C, D, F, I, K, Or.inr rfl⟩
set_option maxHeartbeats 4000000 in
set_option maxRecDepth 100000 in
theorem s_X2_goal (l : Launch) (G : va_G) {cy : Nat → ClassId} {L : List Nat} {M : Nat → va_E} {a : Nat → Nat} {act : Nat → Bool} {C : Nat → Nat → Int32} {D : Nat → Nat → Int64} {R : Nat → Nat → Option Nat} (F : WI L M a act (ent cy a C D R)) (I : Inv C) (p0 : Nat) (hp0a : 0 ≤ p0) (hp0b : p0 ≤ 6) (p1 : Nat) (hp1a : 0 ≤ p1) (hp1b : p1 ≤ 3) : MI l G cy yX2_goal cX2_goal 3 (some .int) 0 0 0 [.ref (a 3), .int (nI p0), .int (nI p1)] L M (fun r L2 M2 => ∃ C2 D2, WI L2 M2 a act (ent cy a C2 D2 R) ∧ Inv C2 ∧ Kp [] C D C2 D2 ∧ ∃ n : Nat, (n < 7 ∨ (10 ≤ n ∧ n < 14)) ∧ r = nI n) := by
  refine MI.of (own := RX2) rfl (by decide) (Nat.le_of_ble_eq_true rfl) ?_
  intro p e s m below meth c A X hrt hnm
  have K : Kp [] C D C D := Kp.rf
  refine g_aload_n X dX2_goal_0 rfl (j := 0) rfl ?_
  refine i_get X F 3 rfl rfl fk_X2_46 dX2_goal_1 rfl ?_
  refine g_iload_n X dX2_goal_4 rfl (j := 1) rfl ?_
  refine g_iconst X dX2_goal_5 (v := 4) (by decide) ?_
  refine g_imul X dX2_goal_6 ?_
  refine Go.top (v := .int (nI (p0 * 4))) (congrArg Value.int (pk_mul p0 4)) ?_
  refine g_iload_n X dX2_goal_7 rfl (j := 2) rfl ?_
  refine g_iadd X dX2_goal_8 ?_
  refine Go.top (v := .int (nI ((p0 * 4) + p1))) (congrArg Value.int (nI_add (p0 * 4) p1)) ?_
  obtain ⟨n1, hn1, en1⟩ := gl_nat (I 6 ((p0 * 4) + p1))
  refine i_iald X F 6 rfl rfl dX2_goal_9 (vp_in_nI (by omega) (by decide)) (v := nI n1) (by rw [nI_clamp (by omega)]; exact en1) ?_
  exact g_iret X hrt dX2_goal_10 (by decide) (by decide) ⟨C, D, F, I, K, ⟨n1, by omega, rfl⟩⟩
set_option maxHeartbeats 4000000 in
set_option maxRecDepth 100000 in
theorem s_X2_nextRoad (l : Launch) (G : va_G) {cy : Nat → ClassId} {L : List Nat} {M : Nat → va_E} {a : Nat → Nat} {act : Nat → Bool} {C : Nat → Nat → Int32} {D : Nat → Nat → Int64} {R : Nat → Nat → Option Nat} (F : WI L M a act (ent cy a C D R)) (I : Inv C) (p0 : Nat) (hp0a : 0 ≤ p0) (hp0b : p0 ≤ 6) (p1 : Nat) (hp1a : 0 ≤ p1) (hp1b : p1 ≤ 3) : MI l G cy yX2_nextRoad cX2_nextRoad 3 (some .int) 0 0 0 [.ref (a 3), .int (nI p0), .int (nI p1)] L M (fun r L2 M2 => ∃ C2 D2, WI L2 M2 a act (ent cy a C2 D2 R) ∧ Inv C2 ∧ Kp [] C D C2 D2 ∧ ∃ n : Nat, 0 ≤ n ∧ n ≤ 3 ∧ r = nI n) := by
  refine MI.of (own := RX2) rfl (by decide) (Nat.le_of_ble_eq_true rfl) ?_
  intro p e s m below meth c A X hrt hnm
  have K : Kp [] C D C D := Kp.rf
  refine g_iload_n X dX2_nextRoad_0 rfl (j := 2) rfl ?_
  refine g_iconst X dX2_nextRoad_1 (v := 1) (by decide) ?_
  refine g_iadd X dX2_nextRoad_2 ?_
  refine Go.top (v := .int (nI (p1 + 1))) (congrArg Value.int (nI_add p1 1)) ?_
  refine g_aload_n X dX2_nextRoad_3 rfl (j := 0) rfl ?_
  refine i_get X F 3 rfl rfl fk_X2_43 dX2_nextRoad_4 rfl ?_
  refine g_iload_n X dX2_nextRoad_7 rfl (j := 1) rfl ?_
  obtain ⟨n1, hn1, en1⟩ := rg_nat (I 5 p0) (by decide)
  refine i_iald X F 5 rfl rfl dX2_nextRoad_8 (vp_in_nI (by omega) (by decide)) (v := nI n1) (by rw [nI_clamp (by omega)]; exact en1) ?_
  refine g_icmp_ge X dX2_nextRoad_9 (tgt := 18) (by decide) (fun q2 => ?_) (fun q2 => ?_)
  · skip
    have q2 : n1 ≤ (p1 + 1) := (nI_leI (a := n1) (b := (p1 + 1)) (by omega) (by omega)).mp q2
    refine g_iconst X dX2_nextRoad_18 (v := 0) (by decide) ?_
    exact g_iret X hrt dX2_nextRoad_19 (by decide) (by decide) ⟨C, D, F, I, K, ⟨0, by omega, by omega, rfl⟩⟩
  · skip
    have q2 : ¬ n1 ≤ (p1 + 1) := fun z => q2 ((nI_leI (a := n1) (b := (p1 + 1)) (by omega) (by omega)).mpr z)
    refine g_iload_n X dX2_nextRoad_12 rfl (j := 2) rfl ?_
    refine g_iconst X dX2_nextRoad_13 (v := 1) (by decide) ?_
    refine g_iadd X dX2_nextRoad_14 ?_
    refine Go.top (v := .int (nI (p1 + 1))) (congrArg Value.int (nI_add p1 1)) ?_
    refine g_goto X dX2_nextRoad_15 (tgt := 19) (by decide) ?_
    exact g_iret X hrt dX2_nextRoad_19 (by decide) (by decide) ⟨C, D, F, I, K, ⟨(p1 + 1), by omega, by omega, rfl⟩⟩
set_option maxHeartbeats 4000000 in
set_option maxRecDepth 100000 in
theorem s_X2_innsBeside (l : Launch) (G : va_G) {cy : Nat → ClassId} {L : List Nat} {M : Nat → va_E} {a : Nat → Nat} {act : Nat → Bool} {C : Nat → Nat → Int32} {D : Nat → Nat → Int64} {R : Nat → Nat → Option Nat} (F : WI L M a act (ent cy a C D R)) (I : Inv C) (p0 : Nat) (hp0a : 0 ≤ p0) (hp0b : p0 ≤ 6) : MI l G cy yX2_innsBeside cX2_innsBeside 4 (some .int) 1 0 0 [.ref (a 3), .int (nI p0)] L M (fun r L2 M2 => ∃ C2 D2, WI L2 M2 a act (ent cy a C2 D2 R) ∧ Inv C2 ∧ Kp [] C D C2 D2 ∧ True) := by
  refine MI.of (own := RX2) rfl (by decide) (Nat.le_of_ble_eq_true rfl) ?_
  intro p e s m below meth c A X hrt hnm
  have K : Kp [] C D C D := Kp.rf
  refine g_iconst X dX2_innsBeside_0 (v := 0) (by decide) ?_
  refine g_istore_n X dX2_innsBeside_1 rfl (by decide) (lv2 := [(2, .int 0), (0, .ref (a 3)), (1, .int (nI p0))]) rfl ?_
  refine g_iconst X dX2_innsBeside_2 (v := 0) (by decide) ?_
  refine g_istore_n X dX2_innsBeside_3 rfl (by decide) (lv2 := [(3, .int 0), (2, .int 0), (0, .ref (a 3)), (1, .int (nI p0))]) rfl ?_
  refine g_lv [0, 1, 2, 3] (lv2 := [(3, .int 0), (2, .int 0), (0, .ref (a 3)), (1, .int (nI p0))]) rfl ?_
  refine i_loop (mods := []) (fun x : Nat × Int32 => 4 - x.1) (fun x => [(3, .int (nI (x.1))), (2, .int (x.2)), (0, .ref (a 3)), (1, .int (nI p0))]) (fun x C => 0 ≤ x.1 ∧ x.1 ≤ 4) (fun x L M C D F I K hP ih4 => ?_) ((0, 0) : Nat × Int32) F I K ⟨by show _ ≤ _; omega, by show _ ≤ _; omega⟩
  obtain ⟨i4_3, v4_2⟩ := x
  obtain ⟨hp4_3a, hp4_3b⟩ := hP
  refine g_lv [0, 1, 2, 3] (lv2 := [(3, .int (nI i4_3)), (2, .int v4_2), (0, .ref (a 3)), (1, .int (nI p0))]) rfl ?_
  refine g_iload_n X dX2_innsBeside_4 rfl (j := 0) rfl ?_
  refine g_aload_n X dX2_innsBeside_5 rfl (j := 2) rfl ?_
  refine i_get X F 3 rfl rfl fk_X2_43 dX2_innsBeside_6 rfl ?_
  refine g_iload_n X dX2_innsBeside_9 rfl (j := 3) rfl ?_
  obtain ⟨n1, hn1, en1⟩ := rg_nat (I 5 p0) (by decide)
  refine i_iald X F 5 rfl rfl dX2_innsBeside_10 (vp_in_nI (by omega) (by decide)) (v := nI n1) (by rw [nI_clamp (by omega)]; exact en1) ?_
  refine g_icmp_ge X dX2_innsBeside_11 (tgt := 45) (by decide) (fun q2 => ?_) (fun q2 => ?_)
  · skip
    have q2 : n1 ≤ i4_3 := (nI_leI (a := n1) (b := i4_3) (by omega) (by omega)).mp q2
    refine g_iload_n X dX2_innsBeside_45 rfl (j := 1) rfl ?_
    exact g_iret X hrt dX2_innsBeside_46 (by decide) (by decide) ⟨C, D, F, I, K, trivial⟩
  · skip
    have q2 : ¬ n1 ≤ i4_3 := fun z => q2 ((nI_leI (a := n1) (b := i4_3) (by omega) (by omega)).mpr z)
    refine g_aload_n X dX2_innsBeside_14 rfl (j := 2) rfl ?_
    refine g_iload_n X dX2_innsBeside_15 rfl (j := 3) rfl ?_
    refine g_iload_n X dX2_innsBeside_16 rfl (j := 0) rfl ?_
    refine g_callVI X (s_X2_goal l G F I p0 (by omega) (by omega) i4_3 (by omega) (by omega)) lk_X2_98 (F.1 3 rfl).2 (F.1 3 rfl).1 rfl rfl dX2_innsBeside_17 (Nat.le_of_ble_eq_true rfl) ⟨by decide, by decide⟩ ⟨by decide, by decide⟩ (fun r3 L M hp => ?_)
    obtain ⟨C, D, F, I, K1, hr⟩ := hp
    have K := K.step K1 (by decide)
    obtain ⟨n4, hn4, rfl⟩ := hr
    refine g_bipush X dX2_innsBeside_20 (v := 10) (by decide) ?_
    refine g_icmp_lt X dX2_innsBeside_22 (tgt := 39) (by decide) (fun q5 => ?_) (fun q5 => ?_)
    · skip
      have q5 : n4 < 10 := (nI_ltI (a := n4) (b := 10) (by omega) (by omega)).mp q5
      refine g_iinc X dX2_innsBeside_39 (j := 0) rfl (v := nI (i4_3 + 1)) (nI_1 i4_3) (by decide) (lv2 := [(3, .int (nI (i4_3 + 1))), (2, .int v4_2), (0, .ref (a 3)), (1, .int (nI p0))]) rfl ?_
      refine g_goto X dX2_innsBeside_42 (tgt := 4) (by decide) ?_
      refine g_lv [0, 1, 2, 3] (lv2 := [(3, .int (nI (i4_3 + 1))), (2, .int v4_2), (0, .ref (a 3)), (1, .int (nI p0))]) rfl ?_
      exact ih4 ((i4_3 + 1), v4_2) L M C D F I K ⟨by show _ ≤ _; omega, by show _ ≤ _; omega⟩ (by show _ < _; omega)
    · skip
      have q5 : ¬ n4 < 10 := fun z => q5 ((nI_ltI (a := n4) (b := 10) (by omega) (by omega)).mpr z)
      refine g_iload_n X dX2_innsBeside_25 rfl (j := 1) rfl ?_
      refine g_iconst X dX2_innsBeside_26 (v := 1) (by decide) ?_
      refine g_aload_n X dX2_innsBeside_27 rfl (j := 2) rfl ?_
      refine g_iload_n X dX2_innsBeside_28 rfl (j := 3) rfl ?_
      refine g_iload_n X dX2_innsBeside_29 rfl (j := 0) rfl ?_
      refine g_callVI X (s_X2_goal l G F I p0 (by omega) (by omega) i4_3 (by omega) (by omega)) lk_X2_98 (F.1 3 rfl).2 (F.1 3 rfl).1 rfl rfl dX2_innsBeside_30 (Nat.le_of_ble_eq_true rfl) ⟨by decide, by decide⟩ ⟨by decide, by decide⟩ (fun r6 L M hp => ?_)
      obtain ⟨C, D, F, I, K1, hr⟩ := hp
      have K := K.step K1 (by decide)
      obtain ⟨n7, hn7, rfl⟩ := hr
      refine g_bipush X dX2_innsBeside_33 (v := 10) (by decide) ?_
      refine g_isub X dX2_innsBeside_35 ?_
      refine Go.gen (fun o8 => ?_)
      refine g_ishl X dX2_innsBeside_36 ?_
      refine Go.gen (fun o9 => ?_)
      refine g_ior X dX2_innsBeside_37 ?_
      refine Go.gen (fun o10 => ?_)
      refine g_istore_n X dX2_innsBeside_38 rfl (by decide) (lv2 := [(2, .int o10), (3, .int (nI i4_3)), (0, .ref (a 3)), (1, .int (nI p0))]) rfl ?_
      refine g_iinc X dX2_innsBeside_39 (j := 1) rfl (v := nI (i4_3 + 1)) (nI_1 i4_3) (by decide) (lv2 := [(3, .int (nI (i4_3 + 1))), (2, .int o10), (0, .ref (a 3)), (1, .int (nI p0))]) rfl ?_
      refine g_goto X dX2_innsBeside_42 (tgt := 4) (by decide) ?_
      refine g_lv [0, 1, 2, 3] (lv2 := [(3, .int (nI (i4_3 + 1))), (2, .int o10), (0, .ref (a 3)), (1, .int (nI p0))]) rfl ?_
      exact ih4 ((i4_3 + 1), o10) L M C D F I K ⟨by show _ ≤ _; omega, by show _ ≤ _; omega⟩ (by show _ < _; omega)
set_option maxHeartbeats 4000000 in
set_option maxRecDepth 100000 in
theorem s_X2_postsWithoutRoads (l : Launch) (G : va_G) {cy : Nat → ClassId} {L : List Nat} {M : Nat → va_E} {a : Nat → Nat} {act : Nat → Bool} {C : Nat → Nat → Int32} {D : Nat → Nat → Int64} {R : Nat → Nat → Option Nat} (F : WI L M a act (ent cy a C D R)) (I : Inv C)  : MI l G cy yX2_postsWithoutRoads cX2_postsWithoutRoads 3 (some .int) 1 0 0 [.ref (a 3)] L M (fun r L2 M2 => ∃ C2 D2, WI L2 M2 a act (ent cy a C2 D2 R) ∧ Inv C2 ∧ Kp [] C D C2 D2 ∧ True) := by
  refine MI.of (own := RX2) rfl (by decide) (Nat.le_of_ble_eq_true rfl) ?_
  intro p e s m below meth c A X hrt hnm
  have K : Kp [] C D C D := Kp.rf
  refine g_iconst X dX2_postsWithoutRoads_0 (v := 0) (by decide) ?_
  refine g_istore_n X dX2_postsWithoutRoads_1 rfl (by decide) (lv2 := [(1, .int 0), (0, .ref (a 3))]) rfl ?_
  refine g_iconst X dX2_postsWithoutRoads_2 (v := 0) (by decide) ?_
  refine g_istore_n X dX2_postsWithoutRoads_3 rfl (by decide) (lv2 := [(2, .int 0), (1, .int 0), (0, .ref (a 3))]) rfl ?_
  refine g_lv [0, 1, 2] (lv2 := [(2, .int 0), (1, .int 0), (0, .ref (a 3))]) rfl ?_
  refine i_loop (mods := []) (fun x : Nat × Int32 => 7 - x.1) (fun x => [(2, .int (nI (x.1))), (1, .int (x.2)), (0, .ref (a 3))]) (fun x C => 0 ≤ x.1 ∧ x.1 ≤ 7) (fun x L M C D F I K hP ih4 => ?_) ((0, 0) : Nat × Int32) F I K ⟨by show _ ≤ _; omega, by show _ ≤ _; omega⟩
  obtain ⟨i4_2, v4_1⟩ := x
  obtain ⟨hp4_2a, hp4_2b⟩ := hP
  refine g_lv [0, 1, 2] (lv2 := [(2, .int (nI i4_2)), (1, .int v4_1), (0, .ref (a 3))]) rfl ?_
  refine g_iload_n X dX2_postsWithoutRoads_4 rfl (j := 0) rfl ?_
  refine g_aload_n X dX2_postsWithoutRoads_5 rfl (j := 2) rfl ?_
  obtain ⟨n1, hn1, en1⟩ := rg_nat ((I 3 5).2.2.1 rfl) (by decide)
  refine i_get X F 3 rfl rfl fk_X2_27 dX2_postsWithoutRoads_6 (v := .int (nI n1)) (congrArg (fun z => some (Value.int z)) en1) ?_
  refine g_icmp_ge X dX2_postsWithoutRoads_9 (tgt := 32) (by decide) (fun q2 => ?_) (fun q2 => ?_)
  · skip
    have q2 : n1 ≤ i4_2 := (nI_leI (a := n1) (b := i4_2) (by omega) (by omega)).mp q2
    refine g_iload_n X dX2_postsWithoutRoads_32 rfl (j := 1) rfl ?_
    exact g_iret X hrt dX2_postsWithoutRoads_33 (by decide) (by decide) ⟨C, D, F, I, K, trivial⟩
  · skip
    have q2 : ¬ n1 ≤ i4_2 := fun z => q2 ((nI_leI (a := n1) (b := i4_2) (by omega) (by omega)).mpr z)
    refine g_aload_n X dX2_postsWithoutRoads_12 rfl (j := 2) rfl ?_
    refine g_iload_n X dX2_postsWithoutRoads_13 rfl (j := 0) rfl ?_
    refine g_callVI X (s_X2_hasArm l G F I i4_2 (by omega) (by omega)) lk_X2_102 (F.1 3 rfl).2 (F.1 3 rfl).1 rfl rfl dX2_postsWithoutRoads_14 (Nat.le_of_ble_eq_true rfl) ⟨by decide, by decide⟩ ⟨by decide, by decide⟩ (fun r3 L M hp => ?_)
    obtain ⟨C, D, F, I, K1, hr⟩ := hp
    have K := K.step K1 (by decide)
    rcases hr with rfl | rfl
    · skip
      refine g_if_ne X dX2_postsWithoutRoads_17 (tgt := 26) (by decide) (fun q => absurd (by decide) q) (fun _ => ?_)
      refine g_iload_n X dX2_postsWithoutRoads_20 rfl (j := 1) rfl ?_
      refine g_iconst X dX2_postsWithoutRoads_21 (v := 1) (by decide) ?_
      refine g_iload_n X dX2_postsWithoutRoads_22 rfl (j := 0) rfl ?_
      refine g_ishl X dX2_postsWithoutRoads_23 ?_
      refine Go.gen (fun o4 => ?_)
      refine g_ior X dX2_postsWithoutRoads_24 ?_
      refine Go.gen (fun o5 => ?_)
      refine g_istore_n X dX2_postsWithoutRoads_25 rfl (by decide) (lv2 := [(1, .int o5), (2, .int (nI i4_2)), (0, .ref (a 3))]) rfl ?_
      refine g_iinc X dX2_postsWithoutRoads_26 (j := 1) rfl (v := nI (i4_2 + 1)) (nI_1 i4_2) (by decide) (lv2 := [(2, .int (nI (i4_2 + 1))), (1, .int o5), (0, .ref (a 3))]) rfl ?_
      refine g_goto X dX2_postsWithoutRoads_29 (tgt := 4) (by decide) ?_
      refine g_lv [0, 1, 2] (lv2 := [(2, .int (nI (i4_2 + 1))), (1, .int o5), (0, .ref (a 3))]) rfl ?_
      exact ih4 ((i4_2 + 1), o5) L M C D F I K ⟨by show _ ≤ _; omega, by show _ ≤ _; omega⟩ (by show _ < _; omega)
    · skip
      refine g_if_ne X dX2_postsWithoutRoads_17 (tgt := 26) (by decide) (fun _ => ?_) (fun q => absurd q (by decide))
      refine g_iinc X dX2_postsWithoutRoads_26 (j := 0) rfl (v := nI (i4_2 + 1)) (nI_1 i4_2) (by decide) (lv2 := [(2, .int (nI (i4_2 + 1))), (1, .int v4_1), (0, .ref (a 3))]) rfl ?_
      refine g_goto X dX2_postsWithoutRoads_29 (tgt := 4) (by decide) ?_
      refine g_lv [0, 1, 2] (lv2 := [(2, .int (nI (i4_2 + 1))), (1, .int v4_1), (0, .ref (a 3))]) rfl ?_
      exact ih4 ((i4_2 + 1), v4_1) L M C D F I K ⟨by show _ ≤ _; omega, by show _ ≤ _; omega⟩ (by show _ < _; omega)
