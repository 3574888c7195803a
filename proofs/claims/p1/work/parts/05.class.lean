abbrev flC (cy : Nat → ClassId) (a : Nat → Nat) : List (Nat × va_E) := [(a 0, .inr (7, [.ref (a 1), .ref (a 3), .ref (a 13), .ref (a 23), .ref (a 24), .ref (a 25), .ref (a 31), .ref (a 37), .ref (a 39), .ref (a 41), .int 0, .ref (a 42)])), (a 1, .inr (6, [.ref (a 2), .int 0, .int 0, .int (-1), .int 0, .int 0, .int 0, .int 0])), (a 2, .inl (cy 0, 800, .inl (fun _ => 0))), (a 3, .inr (2, [.int 0, .int 0, .int 0, .int 0, .int 0, .int 0, .int 0, .int 0, .int 0, .ref (a 4), .ref (a 5), .ref (a 6), .ref (a 7), .ref (a 8), .ref (a 9), .ref (a 10)])), (a 4, .inl (cy 1, 4, .inl (fun _ => 0))), (a 5, .inl (cy 1, 7, .inl (fun _ => 0))), (a 6, .inl (cy 1, 28, .inl (fun _ => 0))), (a 7, .inl (cy 1, 7, .inl (fun _ => 0))), (a 8, .inl (cy 1, 8, .inl (fun _ => 0))), (a 9, .inl (cy 1, 8, .inl (fun _ => 0))), (a 10, .inr (0, [.int 0, .ref (a 11), .ref (a 12)])), (a 11, .inl (cy 1, 30, .inl (fun _ => 0))), (a 12, .inl (cy 1, 240, .inl (fun _ => 0))), (a 13, .inr (2, [.int 0, .int 0, .int 0, .int 0, .int 0, .int 0, .int 0, .int 0, .int 0, .ref (a 14), .ref (a 15), .ref (a 16), .ref (a 17), .ref (a 18), .ref (a 19), .ref (a 20)])), (a 14, .inl (cy 1, 4, .inl (fun _ => 0))), (a 15, .inl (cy 1, 7, .inl (fun _ => 0))), (a 16, .inl (cy 1, 28, .inl (fun _ => 0))), (a 17, .inl (cy 1, 7, .inl (fun _ => 0))), (a 18, .inl (cy 1, 8, .inl (fun _ => 0))), (a 19, .inl (cy 1, 8, .inl (fun _ => 0))), (a 20, .inr (0, [.int 0, .ref (a 21), .ref (a 22)])), (a 21, .inl (cy 1, 30, .inl (fun _ => 0))), (a 22, .inl (cy 1, 240, .inl (fun _ => 0))), (a 23, .inl (cy 4, 3, .inr (.inr (.inr (.inr (fun _ => none)))))), (a 24, .inl (cy 5, 4, .inr (.inr (.inr (.inr (fun _ => none)))))), (a 25, .inr (4, [.ref (a 3), .int 0, .int 127, .int 0, .ref (a 26), .ref (a 27), .ref (a 28), .ref (a 29), .ref (a 30)])), (a 26, .inl (cy 1, 8, .inl (fun _ => 0))), (a 27, .inl (cy 1, 136, .inl (fun _ => 0))), (a 28, .inl (cy 1, 119, .inl (fun _ => 0))), (a 29, .inl (cy 1, 136, .inl (fun _ => 0))), (a 30, .inl (cy 1, 4, .inl (fun _ => 0))), (a 31, .inr (4, [.ref (a 3), .int 0, .int 127, .int 0, .ref (a 32), .ref (a 33), .ref (a 34), .ref (a 35), .ref (a 36)])), (a 32, .inl (cy 1, 8, .inl (fun _ => 0))), (a 33, .inl (cy 1, 136, .inl (fun _ => 0))), (a 34, .inl (cy 1, 119, .inl (fun _ => 0))), (a 35, .inl (cy 1, 136, .inl (fun _ => 0))), (a 36, .inl (cy 1, 4, .inl (fun _ => 0))), (a 37, .inr (3, [.ref (a 3), .ref (a 38), .int 0])), (a 38, .inl (cy 1, 7, .inl (fun _ => 0))), (a 39, .inr (1, [.ref (a 3), .int (-1), .ref (a 40), .long 1])), (a 40, .inl (cy 2, 8, .inr (.inl (fun _ => 0)))), (a 41, .inl (cy 1, 128, .inl (fun _ => 0))), (a 42, .inl (cy 1, 544, .inl (fun _ => 0)))]
set_option maxHeartbeats 4000000 in
set_option maxRecDepth 100000 in
theorem c_X2_hasInn (l : Launch) (G : va_G) {cy : Nat → ClassId} {L : List Nat} {M : Nat → va_E} {a : Nat → Nat} {fr : List (Nat × va_E)}  (F : FW L M (flC cy a ++ fr)) (p0 : Int32) : MI l G cy yX2_hasInn cX2_hasInn 2 (some .boolean) 0 0 0 [.ref (a 3), .int p0] L M (fun r L2 M2 => r = (0) ∧ FW L2 M2 (flC cy a ++ fr)) := by
  refine MI.of (own := RX2) rfl (by decide) (Nat.le_of_ble_eq_true rfl) ?_
  intro p e s m below meth c A C hrt hnm
  refine g_iload_n C dX2_hasInn_0 rfl (j := 1) rfl ?_
  refine g_if_lt C dX2_hasInn_1 (tgt := 16) (by decide) (fun q1 => ?_) (fun q1 => ?_)
  · skip
    refine g_iconst C dX2_hasInn_16 (v := 0) (by decide) ?_
    exact g_zret C hrt rfl dX2_hasInn_17 (by decide) (by decide) ⟨by decide, F⟩
  · skip
    refine g_iload_n C dX2_hasInn_4 rfl (j := 1) rfl ?_
    refine g_aload_n C dX2_hasInn_5 rfl (j := 0) rfl ?_
    refine h_get C F 3 rfl fk_X2_24 dX2_hasInn_6 rfl ?_
    refine g_icmp_ge C dX2_hasInn_9 (tgt := 16) (by decide) (fun q2 => ?_) (fun q2 => ?_)
    · skip
      refine g_iconst C dX2_hasInn_16 (v := 0) (by decide) ?_
      exact g_zret C hrt rfl dX2_hasInn_17 (by decide) (by decide) ⟨by decide, F⟩
    · skip
      exact False.elim (by have a1 : ¬ p0.toInt < (0 : Int32).toInt := fun z => q1 (Int32.lt_iff_toInt_lt.mpr z); have a2 : ¬ (0 : Int32).toInt ≤ p0.toInt := fun z => q2 (Int32.le_iff_toInt_le.mpr z); have k2 : (0 : Int32).toInt = 0 := (by decide); omega)
set_option maxHeartbeats 4000000 in
set_option maxRecDepth 100000 in
theorem c_X2_hasPost (l : Launch) (G : va_G) {cy : Nat → ClassId} {L : List Nat} {M : Nat → va_E} {a : Nat → Nat} {fr : List (Nat × va_E)}  (F : FW L M (flC cy a ++ fr)) (p0 : Int32) : MI l G cy yX2_hasPost cX2_hasPost 2 (some .boolean) 0 0 0 [.ref (a 3), .int p0] L M (fun r L2 M2 => r = (0) ∧ FW L2 M2 (flC cy a ++ fr)) := by
  refine MI.of (own := RX2) rfl (by decide) (Nat.le_of_ble_eq_true rfl) ?_
  intro p e s m below meth c A C hrt hnm
  refine g_iload_n C dX2_hasPost_0 rfl (j := 1) rfl ?_
  refine g_if_lt C dX2_hasPost_1 (tgt := 16) (by decide) (fun q1 => ?_) (fun q1 => ?_)
  · skip
    refine g_iconst C dX2_hasPost_16 (v := 0) (by decide) ?_
    exact g_zret C hrt rfl dX2_hasPost_17 (by decide) (by decide) ⟨by decide, F⟩
  · skip
    refine g_iload_n C dX2_hasPost_4 rfl (j := 1) rfl ?_
    refine g_aload_n C dX2_hasPost_5 rfl (j := 0) rfl ?_
    refine h_get C F 3 rfl fk_X2_27 dX2_hasPost_6 rfl ?_
    refine g_icmp_ge C dX2_hasPost_9 (tgt := 16) (by decide) (fun q2 => ?_) (fun q2 => ?_)
    · skip
      refine g_iconst C dX2_hasPost_16 (v := 0) (by decide) ?_
      exact g_zret C hrt rfl dX2_hasPost_17 (by decide) (by decide) ⟨by decide, F⟩
    · skip
      exact False.elim (by have a1 : ¬ p0.toInt < (0 : Int32).toInt := fun z => q1 (Int32.lt_iff_toInt_lt.mpr z); have a2 : ¬ (0 : Int32).toInt ≤ p0.toInt := fun z => q2 (Int32.le_iff_toInt_le.mpr z); have k2 : (0 : Int32).toInt = 0 := (by decide); omega)
set_option maxHeartbeats 4000000 in
set_option maxRecDepth 100000 in
theorem c_X2_hasWalker (l : Launch) (G : va_G) {cy : Nat → ClassId} {L : List Nat} {M : Nat → va_E} {a : Nat → Nat} {fr : List (Nat × va_E)}  (F : FW L M (flC cy a ++ fr)) (p0 : Int32) : MI l G cy yX2_hasWalker cX2_hasWalker 2 (some .boolean) 0 0 0 [.ref (a 3), .int p0] L M (fun r L2 M2 => r = (0) ∧ FW L2 M2 (flC cy a ++ fr)) := by
  refine MI.of (own := RX2) rfl (by decide) (Nat.le_of_ble_eq_true rfl) ?_
  intro p e s m below meth c A C hrt hnm
  refine g_iload_n C dX2_hasWalker_0 rfl (j := 1) rfl ?_
  refine g_if_lt C dX2_hasWalker_1 (tgt := 16) (by decide) (fun q1 => ?_) (fun q1 => ?_)
  · skip
    refine g_iconst C dX2_hasWalker_16 (v := 0) (by decide) ?_
    exact g_zret C hrt rfl dX2_hasWalker_17 (by decide) (by decide) ⟨by decide, F⟩
  · skip
    refine g_iload_n C dX2_hasWalker_4 rfl (j := 1) rfl ?_
    refine g_aload_n C dX2_hasWalker_5 rfl (j := 0) rfl ?_
    refine h_get C F 3 rfl fk_X2_36 dX2_hasWalker_6 rfl ?_
    refine g_icmp_ge C dX2_hasWalker_9 (tgt := 16) (by decide) (fun q2 => ?_) (fun q2 => ?_)
    · skip
      refine g_iconst C dX2_hasWalker_16 (v := 0) (by decide) ?_
      exact g_zret C hrt rfl dX2_hasWalker_17 (by decide) (by decide) ⟨by decide, F⟩
    · skip
      exact False.elim (by have a1 : ¬ p0.toInt < (0 : Int32).toInt := fun z => q1 (Int32.lt_iff_toInt_lt.mpr z); have a2 : ¬ (0 : Int32).toInt ≤ p0.toInt := fun z => q2 (Int32.le_iff_toInt_le.mpr z); have k2 : (0 : Int32).toInt = 0 := (by decide); omega)
set_option maxHeartbeats 4000000 in
set_option maxRecDepth 100000 in
theorem c_X2_hasPlace (l : Launch) (G : va_G) {cy : Nat → ClassId} {L : List Nat} {M : Nat → va_E} {a : Nat → Nat} {fr : List (Nat × va_E)}  (F : FW L M (flC cy a ++ fr)) (p0 : Int32) : MI l G cy yX2_hasPlace cX2_hasPlace 2 (some .boolean) 1 0 0 [.ref (a 3), .int p0] L M (fun r L2 M2 => r = (0) ∧ FW L2 M2 (flC cy a ++ fr)) := by
  refine MI.of (own := RX2) rfl (by decide) (Nat.le_of_ble_eq_true rfl) ?_
  intro p e s m below meth c A C hrt hnm
  refine g_iload_n C dX2_hasPlace_0 rfl (j := 1) rfl ?_
  refine g_bipush C dX2_hasPlace_1 (v := 10) (by decide) ?_
  refine g_icmp_ge C dX2_hasPlace_3 (tgt := 14) (by decide) (fun q1 => ?_) (fun q1 => ?_)
  · skip
    refine g_aload_n C dX2_hasPlace_14 rfl (j := 0) rfl ?_
    refine g_iload_n C dX2_hasPlace_15 rfl (j := 1) rfl ?_
    refine g_bipush C dX2_hasPlace_16 (v := 10) (by decide) ?_
    refine g_isub C dX2_hasPlace_18 ?_
    refine g_callVI C (c_X2_hasInn l G F (p0 - 10)) lk_X2_88 (F.mem 3 rfl) (F.at 3 rfl) rfl rfl dX2_hasPlace_19 (Nat.le_of_ble_eq_true rfl) ⟨by decide, by decide⟩ ⟨by decide, by decide⟩ (fun r2 L M hp => ?_)
    obtain ⟨r2_, F⟩ := hp
    subst r2_
    exact g_zret C hrt rfl dX2_hasPlace_22 (by decide) (by decide) ⟨by decide, F⟩
  · skip
    refine g_aload_n C dX2_hasPlace_6 rfl (j := 0) rfl ?_
    refine g_iload_n C dX2_hasPlace_7 rfl (j := 1) rfl ?_
    refine g_callVI C (c_X2_hasPost l G F p0) lk_X2_84 (F.mem 3 rfl) (F.at 3 rfl) rfl rfl dX2_hasPlace_8 (Nat.le_of_ble_eq_true rfl) ⟨by decide, by decide⟩ ⟨by decide, by decide⟩ (fun r3 L M hp => ?_)
    obtain ⟨r3_, F⟩ := hp
    subst r3_
    refine g_goto C dX2_hasPlace_11 (tgt := 22) (by decide) ?_
    exact g_zret C hrt rfl dX2_hasPlace_22 (by decide) (by decide) ⟨by decide, F⟩
set_option maxHeartbeats 4000000 in
set_option maxRecDepth 100000 in
theorem c_X2_isTold (l : Launch) (G : va_G) {cy : Nat → ClassId} {L : List Nat} {M : Nat → va_E} {a : Nat → Nat} {fr : List (Nat × va_E)}  (F : FW L M (flC cy a ++ fr))  : MI l G cy yX2_isTold cX2_isTold 1 (some .boolean) 0 0 0 [.ref (a 3)] L M (fun r L2 M2 => r = (0) ∧ FW L2 M2 (flC cy a ++ fr)) := by
  refine MI.of (own := RX2) rfl (by decide) (Nat.le_of_ble_eq_true rfl) ?_
  intro p e s m below meth c A C hrt hnm
  refine g_aload_n C dX2_isTold_0 rfl (j := 0) rfl ?_
  refine h_get C F 3 rfl fk_X2_9 dX2_isTold_1 rfl ?_
  refine g_if_le C dX2_isTold_4 (tgt := 11) (by decide) (fun _ => ?_) (fun q => absurd (by decide) q)
  refine g_iconst C dX2_isTold_11 (v := 0) (by decide) ?_
  exact g_zret C hrt rfl dX2_isTold_12 (by decide) (by decide) ⟨by decide, F⟩
set_option maxHeartbeats 4000000 in
set_option maxRecDepth 100000 in
theorem c_X2_hasHour (l : Launch) (G : va_G) {cy : Nat → ClassId} {L : List Nat} {M : Nat → va_E} {a : Nat → Nat} {fr : List (Nat × va_E)}  (F : FW L M (flC cy a ++ fr)) (p0 : Int32) : MI l G cy yX2_hasHour cX2_hasHour 2 (some .boolean) 1 0 0 [.ref (a 3), .int p0] L M (fun r L2 M2 => r = (0) ∧ FW L2 M2 (flC cy a ++ fr)) := by
  refine MI.of (own := RX2) rfl (by decide) (Nat.le_of_ble_eq_true rfl) ?_
  intro p e s m below meth c A C hrt hnm
  refine g_aload_n C dX2_hasHour_0 rfl (j := 0) rfl ?_
  refine g_callVI C (c_X2_isTold l G F ) lk_X2_91 (F.mem 3 rfl) (F.at 3 rfl) rfl rfl dX2_hasHour_1 (Nat.le_of_ble_eq_true rfl) ⟨by decide, by decide⟩ ⟨by decide, by decide⟩ (fun r1 L M hp => ?_)
  obtain ⟨r1_, F⟩ := hp
  subst r1_
  refine g_if_eq C dX2_hasHour_4 (tgt := 23) (by decide) (fun _ => ?_) (fun q => absurd (by decide) q)
  refine g_iconst C dX2_hasHour_23 (v := 0) (by decide) ?_
  exact g_zret C hrt rfl dX2_hasHour_24 (by decide) (by decide) ⟨by decide, F⟩
set_option maxHeartbeats 4000000 in
set_option maxRecDepth 100000 in
theorem c_X2_hasHourAhead (l : Launch) (G : va_G) {cy : Nat → ClassId} {L : List Nat} {M : Nat → va_E} {a : Nat → Nat} {fr : List (Nat × va_E)}  (F : FW L M (flC cy a ++ fr)) (p0 : Int32) : MI l G cy yX2_hasHourAhead cX2_hasHourAhead 2 (some .boolean) 2 0 0 [.ref (a 3), .int p0] L M (fun r L2 M2 => r = (0) ∧ FW L2 M2 (flC cy a ++ fr)) := by
  refine MI.of (own := RX2) rfl (by decide) (Nat.le_of_ble_eq_true rfl) ?_
  intro p e s m below meth c A C hrt hnm
  refine g_aload_n C dX2_hasHourAhead_0 rfl (j := 0) rfl ?_
  refine g_iload_n C dX2_hasHourAhead_1 rfl (j := 1) rfl ?_
  refine g_callVI C (c_X2_hasHour l G F p0) lk_X2_95 (F.mem 3 rfl) (F.at 3 rfl) rfl rfl dX2_hasHourAhead_2 (Nat.le_of_ble_eq_true rfl) ⟨by decide, by decide⟩ ⟨by decide, by decide⟩ (fun r1 L M hp => ?_)
  obtain ⟨r1_, F⟩ := hp
  subst r1_
  refine g_if_eq C dX2_hasHourAhead_5 (tgt := 20) (by decide) (fun _ => ?_) (fun q => absurd (by decide) q)
  refine g_iconst C dX2_hasHourAhead_20 (v := 0) (by decide) ?_
  exact g_zret C hrt rfl dX2_hasHourAhead_21 (by decide) (by decide) ⟨by decide, F⟩
set_option maxHeartbeats 4000000 in
set_option maxRecDepth 100000 in
theorem c_X7_isEither (l : Launch) (G : va_G) {cy : Nat → ClassId} {L : List Nat} {M : Nat → va_E} {fl : List (Nat × va_E)}  (F : FW L M (fl)) (p0 : Int32) : MI l G cy yX7_isEither cX7_isEither 1 (some .boolean) 0 0 0 [.int p0] L M (fun r L2 M2 => True ∧ FW L2 M2 fl) := by
  refine MI.of (own := RX7) rfl (by decide) (Nat.le_of_ble_eq_true rfl) ?_
  intro p e s m below meth c A C hrt hnm
  refine g_iload_n C dX7_isEither_0 rfl (j := 0) rfl ?_
  refine g_if_eq C dX7_isEither_1 (tgt := 9) (by decide) (fun q1 => ?_) (fun q1 => ?_)
  · skip
    refine g_iconst C dX7_isEither_9 (v := 1) (by decide) ?_
    refine g_goto C dX7_isEither_10 (tgt := 14) (by decide) ?_
    exact g_zret C hrt rfl dX7_isEither_14 (by decide) (by decide) ⟨trivial, F⟩
  · skip
    refine g_iload_n C dX7_isEither_4 rfl (j := 0) rfl ?_
    refine g_iconst C dX7_isEither_5 (v := 1) (by decide) ?_
    refine g_icmp_ne C dX7_isEither_6 (tgt := 13) (by decide) (fun q2 => ?_) (fun q2 => ?_)
    · skip
      refine g_iconst C dX7_isEither_13 (v := 0) (by decide) ?_
      exact g_zret C hrt rfl dX7_isEither_14 (by decide) (by decide) ⟨trivial, F⟩
    · skip
      refine g_iconst C dX7_isEither_9 (v := 1) (by decide) ?_
      refine g_goto C dX7_isEither_10 (tgt := 14) (by decide) ?_
      exact g_zret C hrt rfl dX7_isEither_14 (by decide) (by decide) ⟨trivial, F⟩
set_option maxHeartbeats 4000000 in
set_option maxRecDepth 100000 in
theorem c_X7_isFewInARow (l : Launch) (G : va_G) {cy : Nat → ClassId} {L : List Nat} {M : Nat → va_E} {fl : List (Nat × va_E)}  (F : FW L M (fl)) (p0 : Int32) : MI l G cy yX7_isFewInARow cX7_isFewInARow 1 (some .boolean) 0 0 0 [.int p0] L M (fun r L2 M2 => True ∧ FW L2 M2 fl) := by
  refine MI.of (own := RX7) rfl (by decide) (Nat.le_of_ble_eq_true rfl) ?_
  intro p e s m below meth c A C hrt hnm
  refine g_iload_n C dX7_isFewInARow_0 rfl (j := 0) rfl ?_
  refine g_iconst C dX7_isFewInARow_1 (v := 1) (by decide) ?_
  refine g_icmp_lt C dX7_isFewInARow_2 (tgt := 15) (by decide) (fun q1 => ?_) (fun q1 => ?_)
  · skip
    refine g_iconst C dX7_isFewInARow_15 (v := 0) (by decide) ?_
    exact g_zret C hrt rfl dX7_isFewInARow_16 (by decide) (by decide) ⟨trivial, F⟩
  · skip
    refine g_iload_n C dX7_isFewInARow_5 rfl (j := 0) rfl ?_
    refine g_bipush C dX7_isFewInARow_6 (v := 20) (by decide) ?_
    refine g_icmp_gt C dX7_isFewInARow_8 (tgt := 15) (by decide) (fun q2 => ?_) (fun q2 => ?_)
    · skip
      refine g_iconst C dX7_isFewInARow_15 (v := 0) (by decide) ?_
      exact g_zret C hrt rfl dX7_isFewInARow_16 (by decide) (by decide) ⟨trivial, F⟩
    · skip
      refine g_iconst C dX7_isFewInARow_11 (v := 1) (by decide) ?_
      refine g_goto C dX7_isFewInARow_12 (tgt := 16) (by decide) ?_
      exact g_zret C hrt rfl dX7_isFewInARow_16 (by decide) (by decide) ⟨trivial, F⟩
set_option maxHeartbeats 4000000 in
set_option maxRecDepth 100000 in
theorem c_X7_isSeed (l : Launch) (G : va_G) {cy : Nat → ClassId} {L : List Nat} {M : Nat → va_E} {fl : List (Nat × va_E)}  (F : FW L M (fl)) (p0 : Int32) : MI l G cy yX7_isSeed cX7_isSeed 1 (some .boolean) 0 0 0 [.int p0] L M (fun r L2 M2 => True ∧ FW L2 M2 fl) := by
  refine MI.of (own := RX7) rfl (by decide) (Nat.le_of_ble_eq_true rfl) ?_
  intro p e s m below meth c A C hrt hnm
  refine g_iload_n C dX7_isSeed_0 rfl (j := 0) rfl ?_
  refine g_if_lt C dX7_isSeed_1 (tgt := 15) (by decide) (fun q1 => ?_) (fun q1 => ?_)
  · skip
    refine g_iconst C dX7_isSeed_15 (v := 0) (by decide) ?_
    exact g_zret C hrt rfl dX7_isSeed_16 (by decide) (by decide) ⟨trivial, F⟩
  · skip
    refine g_iload_n C dX7_isSeed_4 rfl (j := 0) rfl ?_
    refine g_ldcw C (v := 2000000000) wd21 dX7_isSeed_5 ?_
    refine g_icmp_gt C dX7_isSeed_8 (tgt := 15) (by decide) (fun q2 => ?_) (fun q2 => ?_)
    · skip
      refine g_iconst C dX7_isSeed_15 (v := 0) (by decide) ?_
      exact g_zret C hrt rfl dX7_isSeed_16 (by decide) (by decide) ⟨trivial, F⟩
    · skip
      refine g_iconst C dX7_isSeed_11 (v := 1) (by decide) ?_
      refine g_goto C dX7_isSeed_12 (tgt := 16) (by decide) ?_
      exact g_zret C hrt rfl dX7_isSeed_16 (by decide) (by decide) ⟨trivial, F⟩
set_option maxHeartbeats 4000000 in
set_option maxRecDepth 100000 in
theorem c_X7_isSlot (l : Launch) (G : va_G) {cy : Nat → ClassId} {L : List Nat} {M : Nat → va_E} {fl : List (Nat × va_E)}  (F : FW L M (fl)) (p0 : Int32) : MI l G cy yX7_isSlot cX7_isSlot 1 (some .boolean) 0 0 0 [.int p0] L M (fun r L2 M2 => ((r = 1 ∧ ¬ p0 < 0 ∧ ¬ 4 ≤ p0) ∨ (r = 0 ∧ (p0 < 0 ∨ 4 ≤ p0))) ∧ FW L2 M2 fl) := by
  refine MI.of (own := RX7) rfl (by decide) (Nat.le_of_ble_eq_true rfl) ?_
  intro p e s m below meth c A C hrt hnm
  refine g_iload_n C dX7_isSlot_0 rfl (j := 0) rfl ?_
  refine g_if_lt C dX7_isSlot_1 (tgt := 13) (by decide) (fun q1 => ?_) (fun q1 => ?_)
  · skip
    refine g_iconst C dX7_isSlot_13 (v := 0) (by decide) ?_
    exact g_zret C hrt rfl dX7_isSlot_14 (by decide) (by decide) ⟨Or.inr ⟨rfl, Or.inl q1⟩, F⟩
  · skip
    refine g_iload_n C dX7_isSlot_4 rfl (j := 0) rfl ?_
    refine g_iconst C dX7_isSlot_5 (v := 4) (by decide) ?_
    refine g_icmp_ge C dX7_isSlot_6 (tgt := 13) (by decide) (fun q2 => ?_) (fun q2 => ?_)
    · skip
      refine g_iconst C dX7_isSlot_13 (v := 0) (by decide) ?_
      exact g_zret C hrt rfl dX7_isSlot_14 (by decide) (by decide) ⟨Or.inr ⟨rfl, Or.inr q2⟩, F⟩
    · skip
      refine g_iconst C dX7_isSlot_9 (v := 1) (by decide) ?_
      refine g_goto C dX7_isSlot_10 (tgt := 14) (by decide) ?_
      exact g_zret C hrt rfl dX7_isSlot_14 (by decide) (by decide) ⟨Or.inl ⟨rfl, q1, q2⟩, F⟩
set_option maxHeartbeats 4000000 in
set_option maxRecDepth 100000 in
theorem c_X7_isFogHour (l : Launch) (G : va_G) {cy : Nat → ClassId} {L : List Nat} {M : Nat → va_E} {a : Nat → Nat} {fr : List (Nat × va_E)}  (F : FW L M (flC cy a ++ fr)) (p0 : Int32) : MI l G cy yX7_isFogHour cX7_isFogHour 2 (some .boolean) 3 0 0 [.ref (a 0), .int p0] L M (fun r L2 M2 => r = (0) ∧ FW L2 M2 (flC cy a ++ fr)) := by
  refine MI.of (own := RX7) rfl (by decide) (Nat.le_of_ble_eq_true rfl) ?_
  intro p e s m below meth c A C hrt hnm
  refine g_aload_n C dX7_isFogHour_0 rfl (j := 0) rfl ?_
  refine h_get C F 0 rfl fk_X7_19 dX7_isFogHour_1 rfl ?_
  refine g_iload_n C dX7_isFogHour_4 rfl (j := 1) rfl ?_
  refine g_callVI C (c_X2_hasHourAhead l G F p0) lk_X7_149 (F.mem 3 rfl) (F.at 3 rfl) rfl rfl dX7_isFogHour_5 (Nat.le_of_ble_eq_true rfl) ⟨by decide, by decide⟩ ⟨by decide, by decide⟩ (fun r1 L M hp => ?_)
  obtain ⟨r1_, F⟩ := hp
  subst r1_
  refine g_if_eq C dX7_isFogHour_8 (tgt := 21) (by decide) (fun _ => ?_) (fun q => absurd (by decide) q)
  refine g_iconst C dX7_isFogHour_21 (v := 0) (by decide) ?_
  exact g_zret C hrt rfl dX7_isFogHour_22 (by decide) (by decide) ⟨by decide, F⟩
set_option maxHeartbeats 4000000 in
set_option maxRecDepth 100000 in
theorem c_X7_areTwo (l : Launch) (G : va_G) {cy : Nat → ClassId} {L : List Nat} {M : Nat → va_E} {a : Nat → Nat} {fr : List (Nat × va_E)}  (F : FW L M (flC cy a ++ fr)) (p0 : Int32) (p1 : Int32) : MI l G cy yX7_areTwo cX7_areTwo 3 (some .boolean) 1 0 0 [.ref (a 0), .int p0, .int p1] L M (fun r L2 M2 => r = (0) ∧ FW L2 M2 (flC cy a ++ fr)) := by
  refine MI.of (own := RX7) rfl (by decide) (Nat.le_of_ble_eq_true rfl) ?_
  intro p e s m below meth c A C hrt hnm
  refine g_aload_n C dX7_areTwo_0 rfl (j := 0) rfl ?_
  refine h_get C F 0 rfl fk_X7_19 dX7_areTwo_1 rfl ?_
  refine g_iload_n C dX7_areTwo_4 rfl (j := 1) rfl ?_
  refine g_callVI C (c_X2_hasWalker l G F p0) lk_X7_122 (F.mem 3 rfl) (F.at 3 rfl) rfl rfl dX7_areTwo_5 (Nat.le_of_ble_eq_true rfl) ⟨by decide, by decide⟩ ⟨by decide, by decide⟩ (fun r1 L M hp => ?_)
  obtain ⟨r1_, F⟩ := hp
  subst r1_
  refine g_if_eq C dX7_areTwo_8 (tgt := 31) (by decide) (fun _ => ?_) (fun q => absurd (by decide) q)
  refine g_iconst C dX7_areTwo_31 (v := 0) (by decide) ?_
  exact g_zret C hrt rfl dX7_areTwo_32 (by decide) (by decide) ⟨by decide, F⟩
set_option maxHeartbeats 4000000 in
set_option maxRecDepth 100000 in
theorem c_X7_refusalOfSeen (l : Launch) (G : va_G) {cy : Nat → ClassId} {L : List Nat} {M : Nat → va_E} {a : Nat → Nat} {fr : List (Nat × va_E)}  (F : FW L M (flC cy a ++ fr)) (p0 : Int32) : MI l G cy yX7_refusalOfSeen cX7_refusalOfSeen 3 (some .int) 1 0 0 [.ref (a 0), .int p0, .int 0] L M (fun r L2 M2 => r = (-2) ∧ FW L2 M2 (flC cy a ++ fr)) := by
  refine MI.of (own := RX7) rfl (by decide) (Nat.le_of_ble_eq_true rfl) ?_
  intro p e s m below meth c A C hrt hnm
  refine g_iload_n C dX7_refusalOfSeen_0 rfl (j := 1) rfl ?_
  refine g_callSI C (c_X7_isSlot l G F p0) lk_X7_389 rfl rfl dX7_refusalOfSeen_1 (Nat.le_of_ble_eq_true rfl) ⟨by decide, by decide⟩ ⟨by decide, by decide⟩ (fun r1 L M hp => ?_)
  obtain ⟨r1_, F⟩ := hp
  refine g_if_eq C dX7_refusalOfSeen_4 (tgt := 11) (by decide) (fun q2 => ?_) (fun q2 => ?_)
  · skip
    refine g_bipush C dX7_refusalOfSeen_11 (v := -2) (by decide) ?_
    exact g_iret C hrt dX7_refusalOfSeen_13 (by decide) (by decide) ⟨by decide, F⟩
  · skip
    refine g_iload_n C dX7_refusalOfSeen_7 rfl (j := 2) rfl ?_
    refine g_if_ne C dX7_refusalOfSeen_8 (tgt := 14) (by decide) (fun q => absurd (by decide) q) (fun _ => ?_)
    refine g_bipush C dX7_refusalOfSeen_11 (v := -2) (by decide) ?_
    exact g_iret C hrt dX7_refusalOfSeen_13 (by decide) (by decide) ⟨by decide, F⟩
set_option maxHeartbeats 4000000 in
set_option maxRecDepth 100000 in
theorem c_X7_room (l : Launch) (G : va_G) {cy : Nat → ClassId} {L : List Nat} {M : Nat → va_E} {a : Nat → Nat} {fr : List (Nat × va_E)}  (F : FW L M (flC cy a ++ fr)) (p0 : Int32) : MI l G cy yX7_room cX7_room 2 (some .int) 1 0 0 [.ref (a 0), .int p0] L M (fun r L2 M2 => r = (-2) ∧ FW L2 M2 (flC cy a ++ fr)) := by
  refine MI.of (own := RX7) rfl (by decide) (Nat.le_of_ble_eq_true rfl) ?_
  intro p e s m below meth c A C hrt hnm
  refine g_aload_n C dX7_room_0 rfl (j := 0) rfl ?_
  refine h_get C F 0 rfl fk_X7_19 dX7_room_1 rfl ?_
  refine g_iload_n C dX7_room_4 rfl (j := 1) rfl ?_
  refine g_callVI C (c_X2_hasInn l G F p0) lk_X7_99 (F.mem 3 rfl) (F.at 3 rfl) rfl rfl dX7_room_5 (Nat.le_of_ble_eq_true rfl) ⟨by decide, by decide⟩ ⟨by decide, by decide⟩ (fun r1 L M hp => ?_)
  obtain ⟨r1_, F⟩ := hp
  subst r1_
  refine g_if_eq C dX7_room_8 (tgt := 23) (by decide) (fun _ => ?_) (fun q => absurd (by decide) q)
  refine g_bipush C dX7_room_23 (v := -2) (by decide) ?_
  exact g_iret C hrt dX7_room_25 (by decide) (by decide) ⟨by decide, F⟩
set_option maxHeartbeats 4000000 in
set_option maxRecDepth 100000 in
theorem c_X7_roads (l : Launch) (G : va_G) {cy : Nat → ClassId} {L : List Nat} {M : Nat → va_E} {a : Nat → Nat} {fr : List (Nat × va_E)}  (F : FW L M (flC cy a ++ fr)) (p0 : Int32) : MI l G cy yX7_roads cX7_roads 2 (some .int) 1 0 0 [.ref (a 0), .int p0] L M (fun r L2 M2 => r = (-2) ∧ FW L2 M2 (flC cy a ++ fr)) := by
  refine MI.of (own := RX7) rfl (by decide) (Nat.le_of_ble_eq_true rfl) ?_
  intro p e s m below meth c A C hrt hnm
  refine g_aload_n C dX7_roads_0 rfl (j := 0) rfl ?_
  refine h_get C F 0 rfl fk_X7_19 dX7_roads_1 rfl ?_
  refine g_iload_n C dX7_roads_4 rfl (j := 1) rfl ?_
  refine g_callVI C (c_X2_hasPost l G F p0) lk_X7_106 (F.mem 3 rfl) (F.at 3 rfl) rfl rfl dX7_roads_5 (Nat.le_of_ble_eq_true rfl) ⟨by decide, by decide⟩ ⟨by decide, by decide⟩ (fun r1 L M hp => ?_)
  obtain ⟨r1_, F⟩ := hp
  subst r1_
  refine g_if_eq C dX7_roads_8 (tgt := 23) (by decide) (fun _ => ?_) (fun q => absurd (by decide) q)
  refine g_bipush C dX7_roads_23 (v := -2) (by decide) ?_
  exact g_iret C hrt dX7_roads_25 (by decide) (by decide) ⟨by decide, F⟩
set_option maxHeartbeats 4000000 in
set_option maxRecDepth 100000 in
theorem c_X7_goes (l : Launch) (G : va_G) {cy : Nat → ClassId} {L : List Nat} {M : Nat → va_E} {a : Nat → Nat} {fr : List (Nat × va_E)}  (F : FW L M (flC cy a ++ fr)) (p0 : Int32) (p1 : Int32) : MI l G cy yX7_goes cX7_goes 3 (some .int) 1 0 0 [.ref (a 0), .int p0, .int p1] L M (fun r L2 M2 => r = (-2) ∧ FW L2 M2 (flC cy a ++ fr)) := by
  refine MI.of (own := RX7) rfl (by decide) (Nat.le_of_ble_eq_true rfl) ?_
  intro p e s m below meth c A C hrt hnm
  refine g_aload_n C dX7_goes_0 rfl (j := 0) rfl ?_
  refine h_get C F 0 rfl fk_X7_19 dX7_goes_1 rfl ?_
  refine g_iload_n C dX7_goes_4 rfl (j := 1) rfl ?_
  refine g_callVI C (c_X2_hasPost l G F p0) lk_X7_106 (F.mem 3 rfl) (F.at 3 rfl) rfl rfl dX7_goes_5 (Nat.le_of_ble_eq_true rfl) ⟨by decide, by decide⟩ ⟨by decide, by decide⟩ (fun r1 L M hp => ?_)
  obtain ⟨r1_, F⟩ := hp
  subst r1_
  refine g_if_eq C dX7_goes_8 (tgt := 15) (by decide) (fun _ => ?_) (fun q => absurd (by decide) q)
  refine g_bipush C dX7_goes_15 (v := -2) (by decide) ?_
  exact g_iret C hrt dX7_goes_17 (by decide) (by decide) ⟨by decide, F⟩
set_option maxHeartbeats 4000000 in
set_option maxRecDepth 100000 in
theorem c_X7_told (l : Launch) (G : va_G) {cy : Nat → ClassId} {L : List Nat} {M : Nat → va_E} {a : Nat → Nat} {fr : List (Nat × va_E)}  (F : FW L M (flC cy a ++ fr)) (p0 : Int32) : MI l G cy yX7_told cX7_told 2 (some .int) 1 0 0 [.ref (a 0), .int p0] L M (fun r L2 M2 => r = (-2) ∧ FW L2 M2 (flC cy a ++ fr)) := by
  refine MI.of (own := RX7) rfl (by decide) (Nat.le_of_ble_eq_true rfl) ?_
  intro p e s m below meth c A C hrt hnm
  refine g_aload_n C dX7_told_0 rfl (j := 0) rfl ?_
  refine h_get C F 0 rfl fk_X7_19 dX7_told_1 rfl ?_
  refine g_iload_n C dX7_told_4 rfl (j := 1) rfl ?_
  refine g_callVI C (c_X2_hasPost l G F p0) lk_X7_106 (F.mem 3 rfl) (F.at 3 rfl) rfl rfl dX7_told_5 (Nat.le_of_ble_eq_true rfl) ⟨by decide, by decide⟩ ⟨by decide, by decide⟩ (fun r1 L M hp => ?_)
  obtain ⟨r1_, F⟩ := hp
  subst r1_
  refine g_if_ne C dX7_told_8 (tgt := 14) (by decide) (fun q => absurd (by decide) q) (fun _ => ?_)
  refine g_bipush C dX7_told_11 (v := -2) (by decide) ?_
  exact g_iret C hrt dX7_told_13 (by decide) (by decide) ⟨by decide, F⟩
set_option maxHeartbeats 4000000 in
set_option maxRecDepth 100000 in
theorem c_X7_walker (l : Launch) (G : va_G) {cy : Nat → ClassId} {L : List Nat} {M : Nat → va_E} {a : Nat → Nat} {fr : List (Nat × va_E)}  (F : FW L M (flC cy a ++ fr)) (p0 : Int32) (p1 : Int32) : MI l G cy yX7_walker cX7_walker 3 (some .int) 1 0 0 [.ref (a 0), .int p0, .int p1] L M (fun r L2 M2 => r = (-2) ∧ FW L2 M2 (flC cy a ++ fr)) := by
  refine MI.of (own := RX7) rfl (by decide) (Nat.le_of_ble_eq_true rfl) ?_
  intro p e s m below meth c A C hrt hnm
  refine g_aload_n C dX7_walker_0 rfl (j := 0) rfl ?_
  refine h_get C F 0 rfl fk_X7_19 dX7_walker_1 rfl ?_
  refine g_iload_n C dX7_walker_4 rfl (j := 1) rfl ?_
  refine g_callVI C (c_X2_hasWalker l G F p0) lk_X7_122 (F.mem 3 rfl) (F.at 3 rfl) rfl rfl dX7_walker_5 (Nat.le_of_ble_eq_true rfl) ⟨by decide, by decide⟩ ⟨by decide, by decide⟩ (fun r1 L M hp => ?_)
  obtain ⟨r1_, F⟩ := hp
  subst r1_
  refine g_if_eq C dX7_walker_8 (tgt := 18) (by decide) (fun _ => ?_) (fun q => absurd (by decide) q)
  refine g_bipush C dX7_walker_18 (v := -2) (by decide) ?_
  exact g_iret C hrt dX7_walker_20 (by decide) (by decide) ⟨by decide, F⟩
set_option maxHeartbeats 4000000 in
set_option maxRecDepth 100000 in
theorem c_X7_at (l : Launch) (G : va_G) {cy : Nat → ClassId} {L : List Nat} {M : Nat → va_E} {a : Nat → Nat} {fr : List (Nat × va_E)}  (F : FW L M (flC cy a ++ fr)) (p0 : Int32) (p1 : Int32) : MI l G cy yX7_at cX7_at 3 (some .int) 1 0 0 [.ref (a 0), .int p0, .int p1] L M (fun r L2 M2 => r = (-2) ∧ FW L2 M2 (flC cy a ++ fr)) := by
  refine MI.of (own := RX7) rfl (by decide) (Nat.le_of_ble_eq_true rfl) ?_
  intro p e s m below meth c A C hrt hnm
  refine g_aload_n C dX7_at_0 rfl (j := 0) rfl ?_
  refine h_get C F 0 rfl fk_X7_19 dX7_at_1 rfl ?_
  refine g_iload_n C dX7_at_4 rfl (j := 1) rfl ?_
  refine g_callVI C (c_X2_hasWalker l G F p0) lk_X7_122 (F.mem 3 rfl) (F.at 3 rfl) rfl rfl dX7_at_5 (Nat.le_of_ble_eq_true rfl) ⟨by decide, by decide⟩ ⟨by decide, by decide⟩ (fun r1 L M hp => ?_)
  obtain ⟨r1_, F⟩ := hp
  subst r1_
  refine g_if_eq C dX7_at_8 (tgt := 22) (by decide) (fun _ => ?_) (fun q => absurd (by decide) q)
  refine g_bipush C dX7_at_22 (v := -2) (by decide) ?_
  exact g_iret C hrt dX7_at_24 (by decide) (by decide) ⟨by decide, F⟩
set_option maxHeartbeats 4000000 in
set_option maxRecDepth 100000 in
theorem c_X7_arm (l : Launch) (G : va_G) {cy : Nat → ClassId} {L : List Nat} {M : Nat → va_E} {a : Nat → Nat} {fr : List (Nat × va_E)}  (F : FW L M (flC cy a ++ fr)) (p0 : Int32) (p1 : Int32) : MI l G cy yX7_arm cX7_arm 3 (some .int) 1 0 0 [.ref (a 0), .int p0, .int p1] L M (fun r L2 M2 => r = (-2) ∧ FW L2 M2 (flC cy a ++ fr)) := by
  refine MI.of (own := RX7) rfl (by decide) (Nat.le_of_ble_eq_true rfl) ?_
  intro p e s m below meth c A C hrt hnm
  refine g_aload_n C dX7_arm_0 rfl (j := 0) rfl ?_
  refine h_get C F 0 rfl fk_X7_19 dX7_arm_1 rfl ?_
  refine g_iload_n C dX7_arm_4 rfl (j := 1) rfl ?_
  refine g_callVI C (c_X2_hasPost l G F p0) lk_X7_106 (F.mem 3 rfl) (F.at 3 rfl) rfl rfl dX7_arm_5 (Nat.le_of_ble_eq_true rfl) ⟨by decide, by decide⟩ ⟨by decide, by decide⟩ (fun r1 L M hp => ?_)
  obtain ⟨r1_, F⟩ := hp
  subst r1_
  refine g_if_eq C dX7_arm_8 (tgt := 22) (by decide) (fun _ => ?_) (fun q => absurd (by decide) q)
  refine g_bipush C dX7_arm_22 (v := -2) (by decide) ?_
  exact g_iret C hrt dX7_arm_24 (by decide) (by decide) ⟨by decide, F⟩
set_option maxHeartbeats 4000000 in
set_option maxRecDepth 100000 in
theorem c_X7_here (l : Launch) (G : va_G) {cy : Nat → ClassId} {L : List Nat} {M : Nat → va_E} {a : Nat → Nat} {fr : List (Nat × va_E)}  (F : FW L M (flC cy a ++ fr)) (p0 : Int32) (p1 : Int32) : MI l G cy yX7_here cX7_here 3 (some .int) 2 0 0 [.ref (a 0), .int p0, .int p1] L M (fun r L2 M2 => r = (-2) ∧ FW L2 M2 (flC cy a ++ fr)) := by
  refine MI.of (own := RX7) rfl (by decide) (Nat.le_of_ble_eq_true rfl) ?_
  intro p e s m below meth c A C hrt hnm
  refine g_aload_n C dX7_here_0 rfl (j := 0) rfl ?_
  refine h_get C F 0 rfl fk_X7_19 dX7_here_1 rfl ?_
  refine g_iload_n C dX7_here_4 rfl (j := 1) rfl ?_
  refine g_callVI C (c_X2_hasPlace l G F p0) lk_X7_143 (F.mem 3 rfl) (F.at 3 rfl) rfl rfl dX7_here_5 (Nat.le_of_ble_eq_true rfl) ⟨by decide, by decide⟩ ⟨by decide, by decide⟩ (fun r1 L M hp => ?_)
  obtain ⟨r1_, F⟩ := hp
  subst r1_
  refine g_if_eq C dX7_here_8 (tgt := 22) (by decide) (fun _ => ?_) (fun q => absurd (by decide) q)
  refine g_bipush C dX7_here_22 (v := -2) (by decide) ?_
  exact g_iret C hrt dX7_here_24 (by decide) (by decide) ⟨by decide, F⟩
set_option maxHeartbeats 4000000 in
set_option maxRecDepth 100000 in
theorem c_X7_sent (l : Launch) (G : va_G) {cy : Nat → ClassId} {L : List Nat} {M : Nat → va_E} {a : Nat → Nat} {fr : List (Nat × va_E)}  (F : FW L M (flC cy a ++ fr)) (p0 : Int32) : MI l G cy yX7_sent cX7_sent 2 (some .int) 3 0 0 [.ref (a 0), .int p0] L M (fun r L2 M2 => r = (-2) ∧ FW L2 M2 (flC cy a ++ fr)) := by
  refine MI.of (own := RX7) rfl (by decide) (Nat.le_of_ble_eq_true rfl) ?_
  intro p e s m below meth c A C hrt hnm
  refine g_aload_n C dX7_sent_0 rfl (j := 0) rfl ?_
  refine h_get C F 0 rfl fk_X7_19 dX7_sent_1 rfl ?_
  refine g_iload_n C dX7_sent_4 rfl (j := 1) rfl ?_
  refine g_callVI C (c_X2_hasHourAhead l G F p0) lk_X7_149 (F.mem 3 rfl) (F.at 3 rfl) rfl rfl dX7_sent_5 (Nat.le_of_ble_eq_true rfl) ⟨by decide, by decide⟩ ⟨by decide, by decide⟩ (fun r1 L M hp => ?_)
  obtain ⟨r1_, F⟩ := hp
  subst r1_
  refine g_if_eq C dX7_sent_8 (tgt := 22) (by decide) (fun _ => ?_) (fun q => absurd (by decide) q)
  refine g_bipush C dX7_sent_22 (v := -2) (by decide) ?_
  exact g_iret C hrt dX7_sent_24 (by decide) (by decide) ⟨by decide, F⟩
set_option maxHeartbeats 4000000 in
set_option maxRecDepth 100000 in
theorem c_X7_sends (l : Launch) (G : va_G) {cy : Nat → ClassId} {L : List Nat} {M : Nat → va_E} {a : Nat → Nat} {fr : List (Nat × va_E)}  (F : FW L M (flC cy a ++ fr)) (p0 : Int32) : MI l G cy yX7_sends cX7_sends 2 (some .int) 1 0 0 [.ref (a 0), .int p0] L M (fun r L2 M2 => r = (-2) ∧ FW L2 M2 (flC cy a ++ fr)) := by
  refine MI.of (own := RX7) rfl (by decide) (Nat.le_of_ble_eq_true rfl) ?_
  intro p e s m below meth c A C hrt hnm
  refine g_aload_n C dX7_sends_0 rfl (j := 0) rfl ?_
  refine h_get C F 0 rfl fk_X7_19 dX7_sends_1 rfl ?_
  refine g_iload_n C dX7_sends_4 rfl (j := 1) rfl ?_
  refine g_callVI C (c_X2_hasPost l G F p0) lk_X7_106 (F.mem 3 rfl) (F.at 3 rfl) rfl rfl dX7_sends_5 (Nat.le_of_ble_eq_true rfl) ⟨by decide, by decide⟩ ⟨by decide, by decide⟩ (fun r1 L M hp => ?_)
  obtain ⟨r1_, F⟩ := hp
  subst r1_
  refine g_if_eq C dX7_sends_8 (tgt := 22) (by decide) (fun _ => ?_) (fun q => absurd (by decide) q)
  refine g_bipush C dX7_sends_22 (v := -2) (by decide) ?_
  exact g_iret C hrt dX7_sends_24 (by decide) (by decide) ⟨by decide, F⟩
set_option maxHeartbeats 4000000 in
set_option maxRecDepth 100000 in
theorem c_X7_used (l : Launch) (G : va_G) {cy : Nat → ClassId} {L : List Nat} {M : Nat → va_E} {a : Nat → Nat} {fr : List (Nat × va_E)}  (F : FW L M (flC cy a ++ fr)) (p0 : Int32) (p1 : Int32) : MI l G cy yX7_used cX7_used 3 (some .int) 1 0 0 [.ref (a 0), .int p0, .int p1] L M (fun r L2 M2 => r = (-2) ∧ FW L2 M2 (flC cy a ++ fr)) := by
  refine MI.of (own := RX7) rfl (by decide) (Nat.le_of_ble_eq_true rfl) ?_
  intro p e s m below meth c A C hrt hnm
  refine g_aload_n C dX7_used_0 rfl (j := 0) rfl ?_
  refine h_get C F 0 rfl fk_X7_19 dX7_used_1 rfl ?_
  refine g_iload_n C dX7_used_4 rfl (j := 1) rfl ?_
  refine g_callVI C (c_X2_hasPost l G F p0) lk_X7_106 (F.mem 3 rfl) (F.at 3 rfl) rfl rfl dX7_used_5 (Nat.le_of_ble_eq_true rfl) ⟨by decide, by decide⟩ ⟨by decide, by decide⟩ (fun r1 L M hp => ?_)
  obtain ⟨r1_, F⟩ := hp
  subst r1_
  refine g_if_eq C dX7_used_8 (tgt := 15) (by decide) (fun _ => ?_) (fun q => absurd (by decide) q)
  refine g_bipush C dX7_used_15 (v := -2) (by decide) ?_
  exact g_iret C hrt dX7_used_17 (by decide) (by decide) ⟨by decide, F⟩
set_option maxHeartbeats 4000000 in
set_option maxRecDepth 100000 in
theorem c_X7_walks (l : Launch) (G : va_G) {cy : Nat → ClassId} {L : List Nat} {M : Nat → va_E} {a : Nat → Nat} {fr : List (Nat × va_E)}  (F : FW L M (flC cy a ++ fr)) (p0 : Int32) : MI l G cy yX7_walks cX7_walks 2 (some .int) 1 0 0 [.ref (a 0), .int p0] L M (fun r L2 M2 => r = (-2) ∧ FW L2 M2 (flC cy a ++ fr)) := by
  refine MI.of (own := RX7) rfl (by decide) (Nat.le_of_ble_eq_true rfl) ?_
  intro p e s m below meth c A C hrt hnm
  refine g_aload_n C dX7_walks_0 rfl (j := 0) rfl ?_
  refine h_get C F 0 rfl fk_X7_19 dX7_walks_1 rfl ?_
  refine g_iload_n C dX7_walks_4 rfl (j := 1) rfl ?_
  refine g_callVI C (c_X2_hasWalker l G F p0) lk_X7_122 (F.mem 3 rfl) (F.at 3 rfl) rfl rfl dX7_walks_5 (Nat.le_of_ble_eq_true rfl) ⟨by decide, by decide⟩ ⟨by decide, by decide⟩ (fun r1 L M hp => ?_)
  obtain ⟨r1_, F⟩ := hp
  subst r1_
  refine g_if_eq C dX7_walks_8 (tgt := 22) (by decide) (fun _ => ?_) (fun q => absurd (by decide) q)
  refine g_bipush C dX7_walks_22 (v := -2) (by decide) ?_
  exact g_iret C hrt dX7_walks_24 (by decide) (by decide) ⟨by decide, F⟩
set_option maxHeartbeats 4000000 in
set_option maxRecDepth 100000 in
theorem c_X7_home (l : Launch) (G : va_G) {cy : Nat → ClassId} {L : List Nat} {M : Nat → va_E} {a : Nat → Nat} {fr : List (Nat × va_E)}  (F : FW L M (flC cy a ++ fr)) (p0 : Int32) : MI l G cy yX7_home cX7_home 2 (some .int) 1 0 0 [.ref (a 0), .int p0] L M (fun r L2 M2 => r = (-2) ∧ FW L2 M2 (flC cy a ++ fr)) := by
  refine MI.of (own := RX7) rfl (by decide) (Nat.le_of_ble_eq_true rfl) ?_
  intro p e s m below meth c A C hrt hnm
  refine g_aload_n C dX7_home_0 rfl (j := 0) rfl ?_
  refine h_get C F 0 rfl fk_X7_19 dX7_home_1 rfl ?_
  refine g_iload_n C dX7_home_4 rfl (j := 1) rfl ?_
  refine g_callVI C (c_X2_hasWalker l G F p0) lk_X7_122 (F.mem 3 rfl) (F.at 3 rfl) rfl rfl dX7_home_5 (Nat.le_of_ble_eq_true rfl) ⟨by decide, by decide⟩ ⟨by decide, by decide⟩ (fun r1 L M hp => ?_)
  obtain ⟨r1_, F⟩ := hp
  subst r1_
  refine g_if_eq C dX7_home_8 (tgt := 22) (by decide) (fun _ => ?_) (fun q => absurd (by decide) q)
  refine g_bipush C dX7_home_22 (v := -2) (by decide) ?_
  exact g_iret C hrt dX7_home_24 (by decide) (by decide) ⟨by decide, F⟩
set_option maxHeartbeats 4000000 in
set_option maxRecDepth 100000 in
theorem c_X7_inn (l : Launch) (G : va_G) {cy : Nat → ClassId} {L : List Nat} {M : Nat → va_E} {a : Nat → Nat} {fr : List (Nat × va_E)}  (F : FW L M (flC cy a ++ fr)) (p0 : Int32) : MI l G cy yX7_inn cX7_inn 3 (some .int) 1 0 0 [.ref (a 0), .int p0] L M (fun r L2 M2 => r = (-2) ∧ FW L2 M2 (flC cy a ++ fr)) := by
  refine MI.of (own := RX7) rfl (by decide) (Nat.le_of_ble_eq_true rfl) ?_
  intro p e s m below meth c A C hrt hnm
  refine g_aload_n C dX7_inn_0 rfl (j := 0) rfl ?_
  refine h_get C F 0 rfl fk_X7_19 dX7_inn_1 rfl ?_
  refine g_iload_n C dX7_inn_4 rfl (j := 1) rfl ?_
  refine g_callVI C (c_X2_hasWalker l G F p0) lk_X7_122 (F.mem 3 rfl) (F.at 3 rfl) rfl rfl dX7_inn_5 (Nat.le_of_ble_eq_true rfl) ⟨by decide, by decide⟩ ⟨by decide, by decide⟩ (fun r1 L M hp => ?_)
  obtain ⟨r1_, F⟩ := hp
  subst r1_
  refine g_if_ne C dX7_inn_8 (tgt := 14) (by decide) (fun q => absurd (by decide) q) (fun _ => ?_)
  refine g_bipush C dX7_inn_11 (v := -2) (by decide) ?_
  exact g_iret C hrt dX7_inn_13 (by decide) (by decide) ⟨by decide, F⟩
set_option maxHeartbeats 4000000 in
set_option maxRecDepth 100000 in
theorem c_X7_trail (l : Launch) (G : va_G) {cy : Nat → ClassId} {L : List Nat} {M : Nat → va_E} {a : Nat → Nat} {fr : List (Nat × va_E)}  (F : FW L M (flC cy a ++ fr)) (p0 : Int32) : MI l G cy yX7_trail cX7_trail 2 (some .int) 1 0 0 [.ref (a 0), .int p0] L M (fun r L2 M2 => r = (-2) ∧ FW L2 M2 (flC cy a ++ fr)) := by
  refine MI.of (own := RX7) rfl (by decide) (Nat.le_of_ble_eq_true rfl) ?_
  intro p e s m below meth c A C hrt hnm
  refine g_aload_n C dX7_trail_0 rfl (j := 0) rfl ?_
  refine h_get C F 0 rfl fk_X7_19 dX7_trail_1 rfl ?_
  refine g_iload_n C dX7_trail_4 rfl (j := 1) rfl ?_
  refine g_callVI C (c_X2_hasWalker l G F p0) lk_X7_122 (F.mem 3 rfl) (F.at 3 rfl) rfl rfl dX7_trail_5 (Nat.le_of_ble_eq_true rfl) ⟨by decide, by decide⟩ ⟨by decide, by decide⟩ (fun r1 L M hp => ?_)
  obtain ⟨r1_, F⟩ := hp
  subst r1_
  refine g_if_eq C dX7_trail_8 (tgt := 22) (by decide) (fun _ => ?_) (fun q => absurd (by decide) q)
  refine g_bipush C dX7_trail_22 (v := -2) (by decide) ?_
  exact g_iret C hrt dX7_trail_24 (by decide) (by decide) ⟨by decide, F⟩
set_option maxHeartbeats 4000000 in
set_option maxRecDepth 100000 in
theorem c_X7_again (l : Launch) (G : va_G) {cy : Nat → ClassId} {L : List Nat} {M : Nat → va_E} {a : Nat → Nat} {fr : List (Nat × va_E)}  (F : FW L M (flC cy a ++ fr)) (p0 : Int32) : MI l G cy yX7_again cX7_again 2 (some .int) 1 0 0 [.ref (a 0), .int p0] L M (fun r L2 M2 => r = (-2) ∧ FW L2 M2 (flC cy a ++ fr)) := by
  refine MI.of (own := RX7) rfl (by decide) (Nat.le_of_ble_eq_true rfl) ?_
  intro p e s m below meth c A C hrt hnm
  refine g_aload_n C dX7_again_0 rfl (j := 0) rfl ?_
  refine h_get C F 0 rfl fk_X7_19 dX7_again_1 rfl ?_
  refine g_iload_n C dX7_again_4 rfl (j := 1) rfl ?_
  refine g_callVI C (c_X2_hasWalker l G F p0) lk_X7_122 (F.mem 3 rfl) (F.at 3 rfl) rfl rfl dX7_again_5 (Nat.le_of_ble_eq_true rfl) ⟨by decide, by decide⟩ ⟨by decide, by decide⟩ (fun r1 L M hp => ?_)
  obtain ⟨r1_, F⟩ := hp
  subst r1_
  refine g_if_eq C dX7_again_8 (tgt := 22) (by decide) (fun _ => ?_) (fun q => absurd (by decide) q)
  refine g_bipush C dX7_again_22 (v := -2) (by decide) ?_
  exact g_iret C hrt dX7_again_24 (by decide) (by decide) ⟨by decide, F⟩
set_option maxHeartbeats 4000000 in
set_option maxRecDepth 100000 in
theorem c_X7_lingers (l : Launch) (G : va_G) {cy : Nat → ClassId} {L : List Nat} {M : Nat → va_E} {a : Nat → Nat} {fr : List (Nat × va_E)}  (F : FW L M (flC cy a ++ fr)) (p0 : Int32) : MI l G cy yX7_lingers cX7_lingers 2 (some .int) 1 0 0 [.ref (a 0), .int p0] L M (fun r L2 M2 => r = (-2) ∧ FW L2 M2 (flC cy a ++ fr)) := by
  refine MI.of (own := RX7) rfl (by decide) (Nat.le_of_ble_eq_true rfl) ?_
  intro p e s m below meth c A C hrt hnm
  refine g_aload_n C dX7_lingers_0 rfl (j := 0) rfl ?_
  refine h_get C F 0 rfl fk_X7_19 dX7_lingers_1 rfl ?_
  refine g_iload_n C dX7_lingers_4 rfl (j := 1) rfl ?_
  refine g_callVI C (c_X2_hasWalker l G F p0) lk_X7_122 (F.mem 3 rfl) (F.at 3 rfl) rfl rfl dX7_lingers_5 (Nat.le_of_ble_eq_true rfl) ⟨by decide, by decide⟩ ⟨by decide, by decide⟩ (fun r1 L M hp => ?_)
  obtain ⟨r1_, F⟩ := hp
  subst r1_
  refine g_if_eq C dX7_lingers_8 (tgt := 22) (by decide) (fun _ => ?_) (fun q => absurd (by decide) q)
  refine g_bipush C dX7_lingers_22 (v := -2) (by decide) ?_
  exact g_iret C hrt dX7_lingers_24 (by decide) (by decide) ⟨by decide, F⟩
set_option maxHeartbeats 4000000 in
set_option maxRecDepth 100000 in
theorem c_X7_doors (l : Launch) (G : va_G) {cy : Nat → ClassId} {L : List Nat} {M : Nat → va_E} {a : Nat → Nat} {fr : List (Nat × va_E)}  (F : FW L M (flC cy a ++ fr)) (p0 : Int32) : MI l G cy yX7_doors cX7_doors 2 (some .int) 1 0 0 [.ref (a 0), .int p0] L M (fun r L2 M2 => r = (-2) ∧ FW L2 M2 (flC cy a ++ fr)) := by
  refine MI.of (own := RX7) rfl (by decide) (Nat.le_of_ble_eq_true rfl) ?_
  intro p e s m below meth c A C hrt hnm
  refine g_aload_n C dX7_doors_0 rfl (j := 0) rfl ?_
  refine h_get C F 0 rfl fk_X7_19 dX7_doors_1 rfl ?_
  refine g_iload_n C dX7_doors_4 rfl (j := 1) rfl ?_
  refine g_callVI C (c_X2_hasPost l G F p0) lk_X7_106 (F.mem 3 rfl) (F.at 3 rfl) rfl rfl dX7_doors_5 (Nat.le_of_ble_eq_true rfl) ⟨by decide, by decide⟩ ⟨by decide, by decide⟩ (fun r1 L M hp => ?_)
  obtain ⟨r1_, F⟩ := hp
  subst r1_
  refine g_if_eq C dX7_doors_8 (tgt := 22) (by decide) (fun _ => ?_) (fun q => absurd (by decide) q)
  refine g_bipush C dX7_doors_22 (v := -2) (by decide) ?_
  exact g_iret C hrt dX7_doors_24 (by decide) (by decide) ⟨by decide, F⟩
set_option maxHeartbeats 4000000 in
set_option maxRecDepth 100000 in
theorem c_X7_guests (l : Launch) (G : va_G) {cy : Nat → ClassId} {L : List Nat} {M : Nat → va_E} {a : Nat → Nat} {fr : List (Nat × va_E)}  (F : FW L M (flC cy a ++ fr)) (p0 : Int32) (p1 : Int32) : MI l G cy yX7_guests cX7_guests 3 (some .int) 1 0 0 [.ref (a 0), .int p0, .int p1] L M (fun r L2 M2 => r = (-2) ∧ FW L2 M2 (flC cy a ++ fr)) := by
  refine MI.of (own := RX7) rfl (by decide) (Nat.le_of_ble_eq_true rfl) ?_
  intro p e s m below meth c A C hrt hnm
  refine g_aload_n C dX7_guests_0 rfl (j := 0) rfl ?_
  refine h_get C F 0 rfl fk_X7_19 dX7_guests_1 rfl ?_
  refine g_iload_n C dX7_guests_4 rfl (j := 1) rfl ?_
  refine g_callVI C (c_X2_hasInn l G F p0) lk_X7_99 (F.mem 3 rfl) (F.at 3 rfl) rfl rfl dX7_guests_5 (Nat.le_of_ble_eq_true rfl) ⟨by decide, by decide⟩ ⟨by decide, by decide⟩ (fun r1 L M hp => ?_)
  obtain ⟨r1_, F⟩ := hp
  subst r1_
  refine g_if_eq C dX7_guests_8 (tgt := 22) (by decide) (fun _ => ?_) (fun q => absurd (by decide) q)
  refine g_bipush C dX7_guests_22 (v := -2) (by decide) ?_
  exact g_iret C hrt dX7_guests_24 (by decide) (by decide) ⟨by decide, F⟩
set_option maxHeartbeats 4000000 in
set_option maxRecDepth 100000 in
theorem c_X7_full (l : Launch) (G : va_G) {cy : Nat → ClassId} {L : List Nat} {M : Nat → va_E} {a : Nat → Nat} {fr : List (Nat × va_E)}  (F : FW L M (flC cy a ++ fr)) (p0 : Int32) : MI l G cy yX7_full cX7_full 2 (some .int) 1 0 0 [.ref (a 0), .int p0] L M (fun r L2 M2 => r = (-2) ∧ FW L2 M2 (flC cy a ++ fr)) := by
  refine MI.of (own := RX7) rfl (by decide) (Nat.le_of_ble_eq_true rfl) ?_
  intro p e s m below meth c A C hrt hnm
  refine g_aload_n C dX7_full_0 rfl (j := 0) rfl ?_
  refine h_get C F 0 rfl fk_X7_19 dX7_full_1 rfl ?_
  refine g_iload_n C dX7_full_4 rfl (j := 1) rfl ?_
  refine g_callVI C (c_X2_hasInn l G F p0) lk_X7_99 (F.mem 3 rfl) (F.at 3 rfl) rfl rfl dX7_full_5 (Nat.le_of_ble_eq_true rfl) ⟨by decide, by decide⟩ ⟨by decide, by decide⟩ (fun r1 L M hp => ?_)
  obtain ⟨r1_, F⟩ := hp
  subst r1_
  refine g_if_eq C dX7_full_8 (tgt := 22) (by decide) (fun _ => ?_) (fun q => absurd (by decide) q)
  refine g_bipush C dX7_full_22 (v := -2) (by decide) ?_
  exact g_iret C hrt dX7_full_24 (by decide) (by decide) ⟨by decide, F⟩
set_option maxHeartbeats 4000000 in
set_option maxRecDepth 100000 in
theorem c_X7_refuses (l : Launch) (G : va_G) {cy : Nat → ClassId} {L : List Nat} {M : Nat → va_E} {a : Nat → Nat} {fr : List (Nat × va_E)}  (F : FW L M (flC cy a ++ fr)) (p0 : Int32) : MI l G cy yX7_refuses cX7_refuses 2 (some .int) 1 0 0 [.ref (a 0), .int p0] L M (fun r L2 M2 => r = (-2) ∧ FW L2 M2 (flC cy a ++ fr)) := by
  refine MI.of (own := RX7) rfl (by decide) (Nat.le_of_ble_eq_true rfl) ?_
  intro p e s m below meth c A C hrt hnm
  refine g_aload_n C dX7_refuses_0 rfl (j := 0) rfl ?_
  refine h_get C F 0 rfl fk_X7_19 dX7_refuses_1 rfl ?_
  refine g_iload_n C dX7_refuses_4 rfl (j := 1) rfl ?_
  refine g_callVI C (c_X2_hasInn l G F p0) lk_X7_99 (F.mem 3 rfl) (F.at 3 rfl) rfl rfl dX7_refuses_5 (Nat.le_of_ble_eq_true rfl) ⟨by decide, by decide⟩ ⟨by decide, by decide⟩ (fun r1 L M hp => ?_)
  obtain ⟨r1_, F⟩ := hp
  subst r1_
  refine g_if_eq C dX7_refuses_8 (tgt := 22) (by decide) (fun _ => ?_) (fun q => absurd (by decide) q)
  refine g_bipush C dX7_refuses_22 (v := -2) (by decide) ?_
  exact g_iret C hrt dX7_refuses_24 (by decide) (by decide) ⟨by decide, F⟩
set_option maxHeartbeats 4000000 in
set_option maxRecDepth 100000 in
theorem c_X7_inside (l : Launch) (G : va_G) {cy : Nat → ClassId} {L : List Nat} {M : Nat → va_E} {a : Nat → Nat} {fr : List (Nat × va_E)}  (F : FW L M (flC cy a ++ fr)) (p0 : Int32) : MI l G cy yX7_inside cX7_inside 2 (some .int) 2 0 0 [.ref (a 0), .int p0] L M (fun r L2 M2 => r = (-2) ∧ FW L2 M2 (flC cy a ++ fr)) := by
  refine MI.of (own := RX7) rfl (by decide) (Nat.le_of_ble_eq_true rfl) ?_
  intro p e s m below meth c A C hrt hnm
  refine g_aload_n C dX7_inside_0 rfl (j := 0) rfl ?_
  refine h_get C F 0 rfl fk_X7_19 dX7_inside_1 rfl ?_
  refine g_iload_n C dX7_inside_4 rfl (j := 1) rfl ?_
  refine g_callVI C (c_X2_hasHour l G F p0) lk_X7_134 (F.mem 3 rfl) (F.at 3 rfl) rfl rfl dX7_inside_5 (Nat.le_of_ble_eq_true rfl) ⟨by decide, by decide⟩ ⟨by decide, by decide⟩ (fun r1 L M hp => ?_)
  obtain ⟨r1_, F⟩ := hp
  subst r1_
  refine g_if_eq C dX7_inside_8 (tgt := 22) (by decide) (fun _ => ?_) (fun q => absurd (by decide) q)
  refine g_bipush C dX7_inside_22 (v := -2) (by decide) ?_
  exact g_iret C hrt dX7_inside_24 (by decide) (by decide) ⟨by decide, F⟩
set_option maxHeartbeats 4000000 in
set_option maxRecDepth 100000 in
theorem c_X7_outside (l : Launch) (G : va_G) {cy : Nat → ClassId} {L : List Nat} {M : Nat → va_E} {a : Nat → Nat} {fr : List (Nat × va_E)}  (F : FW L M (flC cy a ++ fr)) (p0 : Int32) : MI l G cy yX7_outside cX7_outside 2 (some .int) 2 0 0 [.ref (a 0), .int p0] L M (fun r L2 M2 => r = (-2) ∧ FW L2 M2 (flC cy a ++ fr)) := by
  refine MI.of (own := RX7) rfl (by decide) (Nat.le_of_ble_eq_true rfl) ?_
  intro p e s m below meth c A C hrt hnm
  refine g_aload_n C dX7_outside_0 rfl (j := 0) rfl ?_
  refine h_get C F 0 rfl fk_X7_19 dX7_outside_1 rfl ?_
  refine g_iload_n C dX7_outside_4 rfl (j := 1) rfl ?_
  refine g_callVI C (c_X2_hasHour l G F p0) lk_X7_134 (F.mem 3 rfl) (F.at 3 rfl) rfl rfl dX7_outside_5 (Nat.le_of_ble_eq_true rfl) ⟨by decide, by decide⟩ ⟨by decide, by decide⟩ (fun r1 L M hp => ?_)
  obtain ⟨r1_, F⟩ := hp
  subst r1_
  refine g_if_eq C dX7_outside_8 (tgt := 22) (by decide) (fun _ => ?_) (fun q => absurd (by decide) q)
  refine g_bipush C dX7_outside_22 (v := -2) (by decide) ?_
  exact g_iret C hrt dX7_outside_24 (by decide) (by decide) ⟨by decide, F⟩
set_option maxHeartbeats 4000000 in
set_option maxRecDepth 100000 in
theorem c_X7_done (l : Launch) (G : va_G) {cy : Nat → ClassId} {L : List Nat} {M : Nat → va_E} {a : Nat → Nat} {fr : List (Nat × va_E)}  (F : FW L M (flC cy a ++ fr))  : MI l G cy yX7_done cX7_done 1 (some .int) 1 0 0 [.ref (a 0)] L M (fun r L2 M2 => r = (-2) ∧ FW L2 M2 (flC cy a ++ fr)) := by
  refine MI.of (own := RX7) rfl (by decide) (Nat.le_of_ble_eq_true rfl) ?_
  intro p e s m below meth c A C hrt hnm
  refine g_aload_n C dX7_done_0 rfl (j := 0) rfl ?_
  refine h_get C F 0 rfl fk_X7_19 dX7_done_1 rfl ?_
  refine g_callVI C (c_X2_isTold l G F ) lk_X7_198 (F.mem 3 rfl) (F.at 3 rfl) rfl rfl dX7_done_4 (Nat.le_of_ble_eq_true rfl) ⟨by decide, by decide⟩ ⟨by decide, by decide⟩ (fun r1 L M hp => ?_)
  obtain ⟨r1_, F⟩ := hp
  subst r1_
  refine g_if_eq C dX7_done_7 (tgt := 20) (by decide) (fun _ => ?_) (fun q => absurd (by decide) q)
  refine g_bipush C dX7_done_20 (v := -2) (by decide) ?_
  exact g_iret C hrt dX7_done_22 (by decide) (by decide) ⟨by decide, F⟩
set_option maxHeartbeats 4000000 in
set_option maxRecDepth 100000 in
theorem c_X7_crowd (l : Launch) (G : va_G) {cy : Nat → ClassId} {L : List Nat} {M : Nat → va_E} {a : Nat → Nat} {fr : List (Nat × va_E)}  (F : FW L M (flC cy a ++ fr)) (p0 : Int32) : MI l G cy yX7_crowd cX7_crowd 2 (some .int) 2 0 0 [.ref (a 0), .int p0] L M (fun r L2 M2 => r = (-2) ∧ FW L2 M2 (flC cy a ++ fr)) := by
  refine MI.of (own := RX7) rfl (by decide) (Nat.le_of_ble_eq_true rfl) ?_
  intro p e s m below meth c A C hrt hnm
  refine g_aload_n C dX7_crowd_0 rfl (j := 0) rfl ?_
  refine h_get C F 0 rfl fk_X7_19 dX7_crowd_1 rfl ?_
  refine g_iload_n C dX7_crowd_4 rfl (j := 1) rfl ?_
  refine g_callVI C (c_X2_hasHour l G F p0) lk_X7_134 (F.mem 3 rfl) (F.at 3 rfl) rfl rfl dX7_crowd_5 (Nat.le_of_ble_eq_true rfl) ⟨by decide, by decide⟩ ⟨by decide, by decide⟩ (fun r1 L M hp => ?_)
  obtain ⟨r1_, F⟩ := hp
  subst r1_
  refine g_if_eq C dX7_crowd_8 (tgt := 22) (by decide) (fun _ => ?_) (fun q => absurd (by decide) q)
  refine g_bipush C dX7_crowd_22 (v := -2) (by decide) ?_
  exact g_iret C hrt dX7_crowd_24 (by decide) (by decide) ⟨by decide, F⟩
set_option maxHeartbeats 4000000 in
set_option maxRecDepth 100000 in
theorem c_X7_armless (l : Launch) (G : va_G) {cy : Nat → ClassId} {L : List Nat} {M : Nat → va_E} {a : Nat → Nat} {fr : List (Nat × va_E)}  (F : FW L M (flC cy a ++ fr))  : MI l G cy yX7_armless cX7_armless 1 (some .int) 1 0 0 [.ref (a 0)] L M (fun r L2 M2 => r = (-2) ∧ FW L2 M2 (flC cy a ++ fr)) := by
  refine MI.of (own := RX7) rfl (by decide) (Nat.le_of_ble_eq_true rfl) ?_
  intro p e s m below meth c A C hrt hnm
  refine g_aload_n C dX7_armless_0 rfl (j := 0) rfl ?_
  refine h_get C F 0 rfl fk_X7_19 dX7_armless_1 rfl ?_
  refine g_callVI C (c_X2_isTold l G F ) lk_X7_198 (F.mem 3 rfl) (F.at 3 rfl) rfl rfl dX7_armless_4 (Nat.le_of_ble_eq_true rfl) ⟨by decide, by decide⟩ ⟨by decide, by decide⟩ (fun r1 L M hp => ?_)
  obtain ⟨r1_, F⟩ := hp
  subst r1_
  refine g_if_eq C dX7_armless_7 (tgt := 20) (by decide) (fun _ => ?_) (fun q => absurd (by decide) q)
  refine g_bipush C dX7_armless_20 (v := -2) (by decide) ?_
  exact g_iret C hrt dX7_armless_22 (by decide) (by decide) ⟨by decide, F⟩
set_option maxHeartbeats 4000000 in
set_option maxRecDepth 100000 in
theorem c_X7_meet (l : Launch) (G : va_G) {cy : Nat → ClassId} {L : List Nat} {M : Nat → va_E} {a : Nat → Nat} {fr : List (Nat × va_E)}  (F : FW L M (flC cy a ++ fr)) (p0 : Int32) (p1 : Int32) : MI l G cy yX7_meet cX7_meet 3 (some .int) 2 0 0 [.ref (a 0), .int p0, .int p1] L M (fun r L2 M2 => r = (-2) ∧ FW L2 M2 (flC cy a ++ fr)) := by
  refine MI.of (own := RX7) rfl (by decide) (Nat.le_of_ble_eq_true rfl) ?_
  intro p e s m below meth c A C hrt hnm
  refine g_aload_n C dX7_meet_0 rfl (j := 0) rfl ?_
  refine g_iload_n C dX7_meet_1 rfl (j := 1) rfl ?_
  refine g_iload_n C dX7_meet_2 rfl (j := 2) rfl ?_
  refine g_callVI C (c_X7_areTwo l G F p0 p1) lk_X7_212 (F.mem 0 rfl) (F.at 0 rfl) rfl rfl dX7_meet_3 (Nat.le_of_ble_eq_true rfl) ⟨by decide, by decide⟩ ⟨by decide, by decide⟩ (fun r1 L M hp => ?_)
  obtain ⟨r1_, F⟩ := hp
  subst r1_
  refine g_if_eq C dX7_meet_6 (tgt := 21) (by decide) (fun _ => ?_) (fun q => absurd (by decide) q)
  refine g_bipush C dX7_meet_21 (v := -2) (by decide) ?_
  exact g_iret C hrt dX7_meet_23 (by decide) (by decide) ⟨by decide, F⟩
set_option maxHeartbeats 4000000 in
set_option maxRecDepth 100000 in
theorem c_X7_busy (l : Launch) (G : va_G) {cy : Nat → ClassId} {L : List Nat} {M : Nat → va_E} {a : Nat → Nat} {fr : List (Nat × va_E)}  (F : FW L M (flC cy a ++ fr))  : MI l G cy yX7_busy cX7_busy 5 (some .int) 1 0 0 [.ref (a 0)] L M (fun r L2 M2 => r = (-2) ∧ FW L2 M2 (flC cy a ++ fr)) := by
  refine MI.of (own := RX7) rfl (by decide) (Nat.le_of_ble_eq_true rfl) ?_
  intro p e s m below meth c A C hrt hnm
  refine g_aload_n C dX7_busy_0 rfl (j := 0) rfl ?_
  refine h_get C F 0 rfl fk_X7_19 dX7_busy_1 rfl ?_
  refine g_callVI C (c_X2_isTold l G F ) lk_X7_198 (F.mem 3 rfl) (F.at 3 rfl) rfl rfl dX7_busy_4 (Nat.le_of_ble_eq_true rfl) ⟨by decide, by decide⟩ ⟨by decide, by decide⟩ (fun r1 L M hp => ?_)
  obtain ⟨r1_, F⟩ := hp
  subst r1_
  refine g_if_ne C dX7_busy_7 (tgt := 13) (by decide) (fun q => absurd (by decide) q) (fun _ => ?_)
  refine g_bipush C dX7_busy_10 (v := -2) (by decide) ?_
  exact g_iret C hrt dX7_busy_12 (by decide) (by decide) ⟨by decide, F⟩
set_option maxHeartbeats 4000000 in
set_option maxRecDepth 100000 in
theorem c_X7_idle (l : Launch) (G : va_G) {cy : Nat → ClassId} {L : List Nat} {M : Nat → va_E} {a : Nat → Nat} {fr : List (Nat × va_E)}  (F : FW L M (flC cy a ++ fr))  : MI l G cy yX7_idle cX7_idle 3 (some .int) 1 0 0 [.ref (a 0)] L M (fun r L2 M2 => r = (-2) ∧ FW L2 M2 (flC cy a ++ fr)) := by
  refine MI.of (own := RX7) rfl (by decide) (Nat.le_of_ble_eq_true rfl) ?_
  intro p e s m below meth c A C hrt hnm
  refine g_aload_n C dX7_idle_0 rfl (j := 0) rfl ?_
  refine h_get C F 0 rfl fk_X7_19 dX7_idle_1 rfl ?_
  refine g_callVI C (c_X2_isTold l G F ) lk_X7_198 (F.mem 3 rfl) (F.at 3 rfl) rfl rfl dX7_idle_4 (Nat.le_of_ble_eq_true rfl) ⟨by decide, by decide⟩ ⟨by decide, by decide⟩ (fun r1 L M hp => ?_)
  obtain ⟨r1_, F⟩ := hp
  subst r1_
  refine g_if_ne C dX7_idle_7 (tgt := 13) (by decide) (fun q => absurd (by decide) q) (fun _ => ?_)
  refine g_bipush C dX7_idle_10 (v := -2) (by decide) ?_
  exact g_iret C hrt dX7_idle_12 (by decide) (by decide) ⟨by decide, F⟩
set_option maxHeartbeats 4000000 in
set_option maxRecDepth 100000 in
theorem c_X7_reach (l : Launch) (G : va_G) {cy : Nat → ClassId} {L : List Nat} {M : Nat → va_E} {a : Nat → Nat} {fr : List (Nat × va_E)}  (F : FW L M (flC cy a ++ fr)) (p0 : Int32) : MI l G cy yX7_reach cX7_reach 2 (some .int) 1 0 0 [.ref (a 0), .int p0] L M (fun r L2 M2 => r = (-2) ∧ FW L2 M2 (flC cy a ++ fr)) := by
  refine MI.of (own := RX7) rfl (by decide) (Nat.le_of_ble_eq_true rfl) ?_
  intro p e s m below meth c A C hrt hnm
  refine g_aload_n C dX7_reach_0 rfl (j := 0) rfl ?_
  refine h_get C F 0 rfl fk_X7_19 dX7_reach_1 rfl ?_
  refine g_iload_n C dX7_reach_4 rfl (j := 1) rfl ?_
  refine g_callVI C (c_X2_hasPost l G F p0) lk_X7_106 (F.mem 3 rfl) (F.at 3 rfl) rfl rfl dX7_reach_5 (Nat.le_of_ble_eq_true rfl) ⟨by decide, by decide⟩ ⟨by decide, by decide⟩ (fun r1 L M hp => ?_)
  obtain ⟨r1_, F⟩ := hp
  subst r1_
  refine g_if_eq C dX7_reach_8 (tgt := 22) (by decide) (fun _ => ?_) (fun q => absurd (by decide) q)
  refine g_bipush C dX7_reach_22 (v := -2) (by decide) ?_
  exact g_iret C hrt dX7_reach_24 (by decide) (by decide) ⟨by decide, F⟩
set_option maxHeartbeats 4000000 in
set_option maxRecDepth 100000 in
theorem c_X7_far (l : Launch) (G : va_G) {cy : Nat → ClassId} {L : List Nat} {M : Nat → va_E} {a : Nat → Nat} {fr : List (Nat × va_E)}  (F : FW L M (flC cy a ++ fr)) (p0 : Int32) (p1 : Int32) : MI l G cy yX7_far cX7_far 3 (some .int) 1 0 0 [.ref (a 0), .int p0, .int p1] L M (fun r L2 M2 => r = (-2) ∧ FW L2 M2 (flC cy a ++ fr)) := by
  refine MI.of (own := RX7) rfl (by decide) (Nat.le_of_ble_eq_true rfl) ?_
  intro p e s m below meth c A C hrt hnm
  refine g_aload_n C dX7_far_0 rfl (j := 0) rfl ?_
  refine h_get C F 0 rfl fk_X7_19 dX7_far_1 rfl ?_
  refine g_iload_n C dX7_far_4 rfl (j := 1) rfl ?_
  refine g_callVI C (c_X2_hasPost l G F p0) lk_X7_106 (F.mem 3 rfl) (F.at 3 rfl) rfl rfl dX7_far_5 (Nat.le_of_ble_eq_true rfl) ⟨by decide, by decide⟩ ⟨by decide, by decide⟩ (fun r1 L M hp => ?_)
  obtain ⟨r1_, F⟩ := hp
  subst r1_
  refine g_if_eq C dX7_far_8 (tgt := 22) (by decide) (fun _ => ?_) (fun q => absurd (by decide) q)
  refine g_bipush C dX7_far_22 (v := -2) (by decide) ?_
  exact g_iret C hrt dX7_far_24 (by decide) (by decide) ⟨by decide, F⟩
set_option maxHeartbeats 4000000 in
set_option maxRecDepth 100000 in
theorem c_X7_setting (l : Launch) (G : va_G) {cy : Nat → ClassId} {L : List Nat} {M : Nat → va_E} {a : Nat → Nat} {fr : List (Nat × va_E)}  (F : FW L M (flC cy a ++ fr)) (p0 : Int32) : MI l G cy yX7_setting cX7_setting 2 (some .int) 2 0 0 [.ref (a 0), .int p0] L M (fun r L2 M2 => r = (-2) ∧ FW L2 M2 (flC cy a ++ fr)) := by
  refine MI.of (own := RX7) rfl (by decide) (Nat.le_of_ble_eq_true rfl) ?_
  intro p e s m below meth c A C hrt hnm
  refine g_aload_n C dX7_setting_0 rfl (j := 0) rfl ?_
  refine h_get C F 0 rfl fk_X7_19 dX7_setting_1 rfl ?_
  refine g_iload_n C dX7_setting_4 rfl (j := 1) rfl ?_
  refine g_callVI C (c_X2_hasHour l G F p0) lk_X7_134 (F.mem 3 rfl) (F.at 3 rfl) rfl rfl dX7_setting_5 (Nat.le_of_ble_eq_true rfl) ⟨by decide, by decide⟩ ⟨by decide, by decide⟩ (fun r1 L M hp => ?_)
  obtain ⟨r1_, F⟩ := hp
  subst r1_
  refine g_if_eq C dX7_setting_8 (tgt := 19) (by decide) (fun _ => ?_) (fun q => absurd (by decide) q)
  refine g_bipush C dX7_setting_19 (v := -2) (by decide) ?_
  exact g_iret C hrt dX7_setting_21 (by decide) (by decide) ⟨by decide, F⟩
set_option maxHeartbeats 4000000 in
set_option maxRecDepth 100000 in
theorem c_X7_settings (l : Launch) (G : va_G) {cy : Nat → ClassId} {L : List Nat} {M : Nat → va_E} {a : Nat → Nat} {fr : List (Nat × va_E)}  (F : FW L M (flC cy a ++ fr))  : MI l G cy yX7_settings cX7_settings 1 (some .int) 1 0 0 [.ref (a 0)] L M (fun r L2 M2 => r = (-2) ∧ FW L2 M2 (flC cy a ++ fr)) := by
  refine MI.of (own := RX7) rfl (by decide) (Nat.le_of_ble_eq_true rfl) ?_
  intro p e s m below meth c A C hrt hnm
  refine g_aload_n C dX7_settings_0 rfl (j := 0) rfl ?_
  refine h_get C F 0 rfl fk_X7_19 dX7_settings_1 rfl ?_
  refine g_callVI C (c_X2_isTold l G F ) lk_X7_198 (F.mem 3 rfl) (F.at 3 rfl) rfl rfl dX7_settings_4 (Nat.le_of_ble_eq_true rfl) ⟨by decide, by decide⟩ ⟨by decide, by decide⟩ (fun r1 L M hp => ?_)
  obtain ⟨r1_, F⟩ := hp
  subst r1_
  refine g_if_eq C dX7_settings_7 (tgt := 20) (by decide) (fun _ => ?_) (fun q => absurd (by decide) q)
  refine g_bipush C dX7_settings_20 (v := -2) (by decide) ?_
  exact g_iret C hrt dX7_settings_22 (by decide) (by decide) ⟨by decide, F⟩
set_option maxHeartbeats 4000000 in
set_option maxRecDepth 100000 in
theorem c_X7_same (l : Launch) (G : va_G) {cy : Nat → ClassId} {L : List Nat} {M : Nat → va_E} {a : Nat → Nat} {fr : List (Nat × va_E)}  (F : FW L M (flC cy a ++ fr))  : MI l G cy yX7_same cX7_same 3 (some .int) 1 0 0 [.ref (a 0)] L M (fun r L2 M2 => r = (-2) ∧ FW L2 M2 (flC cy a ++ fr)) := by
  refine MI.of (own := RX7) rfl (by decide) (Nat.le_of_ble_eq_true rfl) ?_
  intro p e s m below meth c A C hrt hnm
  refine g_aload_n C dX7_same_0 rfl (j := 0) rfl ?_
  refine h_get C F 0 rfl fk_X7_19 dX7_same_1 rfl ?_
  refine g_callVI C (c_X2_isTold l G F ) lk_X7_198 (F.mem 3 rfl) (F.at 3 rfl) rfl rfl dX7_same_4 (Nat.le_of_ble_eq_true rfl) ⟨by decide, by decide⟩ ⟨by decide, by decide⟩ (fun r1 L M hp => ?_)
  obtain ⟨r1_, F⟩ := hp
  subst r1_
  refine g_if_ne C dX7_same_7 (tgt := 13) (by decide) (fun q => absurd (by decide) q) (fun _ => ?_)
  refine g_bipush C dX7_same_10 (v := -2) (by decide) ?_
  exact g_iret C hrt dX7_same_12 (by decide) (by decide) ⟨by decide, F⟩
set_option maxHeartbeats 4000000 in
set_option maxRecDepth 100000 in
theorem c_X7_alone (l : Launch) (G : va_G) {cy : Nat → ClassId} {L : List Nat} {M : Nat → va_E} {a : Nat → Nat} {fr : List (Nat × va_E)}  (F : FW L M (flC cy a ++ fr)) (p0 : Int32) : MI l G cy yX7_alone cX7_alone 2 (some .int) 1 0 0 [.ref (a 0), .int p0] L M (fun r L2 M2 => r = (-2) ∧ FW L2 M2 (flC cy a ++ fr)) := by
  refine MI.of (own := RX7) rfl (by decide) (Nat.le_of_ble_eq_true rfl) ?_
  intro p e s m below meth c A C hrt hnm
  refine g_aload_n C dX7_alone_0 rfl (j := 0) rfl ?_
  refine h_get C F 0 rfl fk_X7_19 dX7_alone_1 rfl ?_
  refine g_iload_n C dX7_alone_4 rfl (j := 1) rfl ?_
  refine g_callVI C (c_X2_hasPost l G F p0) lk_X7_106 (F.mem 3 rfl) (F.at 3 rfl) rfl rfl dX7_alone_5 (Nat.le_of_ble_eq_true rfl) ⟨by decide, by decide⟩ ⟨by decide, by decide⟩ (fun r1 L M hp => ?_)
  obtain ⟨r1_, F⟩ := hp
  subst r1_
  refine g_if_ne C dX7_alone_8 (tgt := 14) (by decide) (fun q => absurd (by decide) q) (fun _ => ?_)
  refine g_bipush C dX7_alone_11 (v := -2) (by decide) ?_
  exact g_iret C hrt dX7_alone_13 (by decide) (by decide) ⟨by decide, F⟩
set_option maxHeartbeats 4000000 in
set_option maxRecDepth 100000 in
theorem c_X7_steps (l : Launch) (G : va_G) {cy : Nat → ClassId} {L : List Nat} {M : Nat → va_E} {a : Nat → Nat} {fr : List (Nat × va_E)}  (F : FW L M (flC cy a ++ fr)) (p0 : Int32) : MI l G cy yX7_steps cX7_steps 2 (some .int) 1 0 0 [.ref (a 0), .int p0] L M (fun r L2 M2 => r = (-2) ∧ FW L2 M2 (flC cy a ++ fr)) := by
  refine MI.of (own := RX7) rfl (by decide) (Nat.le_of_ble_eq_true rfl) ?_
  intro p e s m below meth c A C hrt hnm
  refine g_aload_n C dX7_steps_0 rfl (j := 0) rfl ?_
  refine h_get C F 0 rfl fk_X7_19 dX7_steps_1 rfl ?_
  refine g_iload_n C dX7_steps_4 rfl (j := 1) rfl ?_
  refine g_callVI C (c_X2_hasPost l G F p0) lk_X7_106 (F.mem 3 rfl) (F.at 3 rfl) rfl rfl dX7_steps_5 (Nat.le_of_ble_eq_true rfl) ⟨by decide, by decide⟩ ⟨by decide, by decide⟩ (fun r1 L M hp => ?_)
  obtain ⟨r1_, F⟩ := hp
  subst r1_
  refine g_if_ne C dX7_steps_8 (tgt := 14) (by decide) (fun q => absurd (by decide) q) (fun _ => ?_)
  refine g_bipush C dX7_steps_11 (v := -2) (by decide) ?_
  exact g_iret C hrt dX7_steps_13 (by decide) (by decide) ⟨by decide, F⟩
set_option maxHeartbeats 4000000 in
set_option maxRecDepth 100000 in
theorem c_X7_behind (l : Launch) (G : va_G) {cy : Nat → ClassId} {L : List Nat} {M : Nat → va_E} {a : Nat → Nat} {fr : List (Nat × va_E)}  (F : FW L M (flC cy a ++ fr)) (p0 : Int32) : MI l G cy yX7_behind cX7_behind 2 (some .int) 1 0 0 [.ref (a 0), .int p0] L M (fun r L2 M2 => r = (-2) ∧ FW L2 M2 (flC cy a ++ fr)) := by
  refine MI.of (own := RX7) rfl (by decide) (Nat.le_of_ble_eq_true rfl) ?_
  intro p e s m below meth c A C hrt hnm
  refine g_aload_n C dX7_behind_0 rfl (j := 0) rfl ?_
  refine h_get C F 0 rfl fk_X7_19 dX7_behind_1 rfl ?_
  refine g_iload_n C dX7_behind_4 rfl (j := 1) rfl ?_
  refine g_callVI C (c_X2_hasPost l G F p0) lk_X7_106 (F.mem 3 rfl) (F.at 3 rfl) rfl rfl dX7_behind_5 (Nat.le_of_ble_eq_true rfl) ⟨by decide, by decide⟩ ⟨by decide, by decide⟩ (fun r1 L M hp => ?_)
  obtain ⟨r1_, F⟩ := hp
  subst r1_
  refine g_if_ne C dX7_behind_8 (tgt := 14) (by decide) (fun q => absurd (by decide) q) (fun _ => ?_)
  refine g_bipush C dX7_behind_11 (v := -2) (by decide) ?_
  exact g_iret C hrt dX7_behind_13 (by decide) (by decide) ⟨by decide, F⟩
set_option maxHeartbeats 4000000 in
set_option maxRecDepth 100000 in
theorem c_X7_nth (l : Launch) (G : va_G) {cy : Nat → ClassId} {L : List Nat} {M : Nat → va_E} {a : Nat → Nat} {fr : List (Nat × va_E)}  (F : FW L M (flC cy a ++ fr)) (p0 : Int32) (p1 : Int32) : MI l G cy yX7_nth cX7_nth 5 (some .int) 1 0 0 [.ref (a 0), .int p0, .int p1] L M (fun r L2 M2 => r = (-2) ∧ FW L2 M2 (flC cy a ++ fr)) := by
  refine MI.of (own := RX7) rfl (by decide) (Nat.le_of_ble_eq_true rfl) ?_
  intro p e s m below meth c A C hrt hnm
  refine g_aload_n C dX7_nth_0 rfl (j := 0) rfl ?_
  refine h_get C F 0 rfl fk_X7_19 dX7_nth_1 rfl ?_
  refine g_iload_n C dX7_nth_4 rfl (j := 1) rfl ?_
  refine g_callVI C (c_X2_hasPost l G F p0) lk_X7_106 (F.mem 3 rfl) (F.at 3 rfl) rfl rfl dX7_nth_5 (Nat.le_of_ble_eq_true rfl) ⟨by decide, by decide⟩ ⟨by decide, by decide⟩ (fun r1 L M hp => ?_)
  obtain ⟨r1_, F⟩ := hp
  subst r1_
  refine g_if_eq C dX7_nth_8 (tgt := 18) (by decide) (fun _ => ?_) (fun q => absurd (by decide) q)
  refine g_bipush C dX7_nth_18 (v := -2) (by decide) ?_
  exact g_iret C hrt dX7_nth_20 (by decide) (by decide) ⟨by decide, F⟩
set_option maxHeartbeats 4000000 in
set_option maxRecDepth 100000 in
theorem c_X7_round (l : Launch) (G : va_G) {cy : Nat → ClassId} {L : List Nat} {M : Nat → va_E} {a : Nat → Nat} {fr : List (Nat × va_E)}  (F : FW L M (flC cy a ++ fr)) (p0 : Int32) : MI l G cy yX7_round cX7_round 4 (some .int) 1 0 0 [.ref (a 0), .int p0] L M (fun r L2 M2 => r = (-2) ∧ FW L2 M2 (flC cy a ++ fr)) := by
  refine MI.of (own := RX7) rfl (by decide) (Nat.le_of_ble_eq_true rfl) ?_
  intro p e s m below meth c A C hrt hnm
  refine g_aload_n C dX7_round_0 rfl (j := 0) rfl ?_
  refine h_get C F 0 rfl fk_X7_19 dX7_round_1 rfl ?_
  refine g_iload_n C dX7_round_4 rfl (j := 1) rfl ?_
  refine g_callVI C (c_X2_hasPost l G F p0) lk_X7_106 (F.mem 3 rfl) (F.at 3 rfl) rfl rfl dX7_round_5 (Nat.le_of_ble_eq_true rfl) ⟨by decide, by decide⟩ ⟨by decide, by decide⟩ (fun r1 L M hp => ?_)
  obtain ⟨r1_, F⟩ := hp
  subst r1_
  refine g_if_ne C dX7_round_8 (tgt := 14) (by decide) (fun q => absurd (by decide) q) (fun _ => ?_)
  refine g_bipush C dX7_round_11 (v := -2) (by decide) ?_
  exact g_iret C hrt dX7_round_13 (by decide) (by decide) ⟨by decide, F⟩
set_option maxHeartbeats 4000000 in
set_option maxRecDepth 100000 in
theorem c_X7_houses (l : Launch) (G : va_G) {cy : Nat → ClassId} {L : List Nat} {M : Nat → va_E} {a : Nat → Nat} {fr : List (Nat × va_E)}  (F : FW L M (flC cy a ++ fr)) (p0 : Int32) (p1 : Int32) (p2 : Int32) : MI l G cy yX7_houses cX7_houses 7 (some .int) 1 0 0 [.ref (a 0), .int p0, .int p1, .int p2] L M (fun r L2 M2 => r = (-2) ∧ FW L2 M2 (flC cy a ++ fr)) := by
  refine MI.of (own := RX7) rfl (by decide) (Nat.le_of_ble_eq_true rfl) ?_
  intro p e s m below meth c A C hrt hnm
  refine g_aload_n C dX7_houses_0 rfl (j := 0) rfl ?_
  refine h_get C F 0 rfl fk_X7_19 dX7_houses_1 rfl ?_
  refine g_iload_n C dX7_houses_4 rfl (j := 1) rfl ?_
  refine g_callVI C (c_X2_hasPost l G F p0) lk_X7_106 (F.mem 3 rfl) (F.at 3 rfl) rfl rfl dX7_houses_5 (Nat.le_of_ble_eq_true rfl) ⟨by decide, by decide⟩ ⟨by decide, by decide⟩ (fun r1 L M hp => ?_)
  obtain ⟨r1_, F⟩ := hp
  subst r1_
  refine g_if_eq C dX7_houses_8 (tgt := 29) (by decide) (fun _ => ?_) (fun q => absurd (by decide) q)
  refine g_bipush C dX7_houses_29 (v := -2) (by decide) ?_
  exact g_iret C hrt dX7_houses_31 (by decide) (by decide) ⟨by decide, F⟩
set_option maxHeartbeats 4000000 in
set_option maxRecDepth 100000 in
theorem c_X7_tree (l : Launch) (G : va_G) {cy : Nat → ClassId} {L : List Nat} {M : Nat → va_E} {a : Nat → Nat} {fr : List (Nat × va_E)}  (F : FW L M (flC cy a ++ fr)) (p0 : Int32) : MI l G cy yX7_tree cX7_tree 2 (some .int) 2 0 0 [.ref (a 0), .int p0] L M (fun r L2 M2 => r = (-2) ∧ FW L2 M2 (flC cy a ++ fr)) := by
  refine MI.of (own := RX7) rfl (by decide) (Nat.le_of_ble_eq_true rfl) ?_
  intro p e s m below meth c A C hrt hnm
  refine g_aload_n C dX7_tree_0 rfl (j := 0) rfl ?_
  refine h_get C F 0 rfl fk_X7_19 dX7_tree_1 rfl ?_
  refine g_iload_n C dX7_tree_4 rfl (j := 1) rfl ?_
  refine g_callVI C (c_X2_hasHour l G F p0) lk_X7_134 (F.mem 3 rfl) (F.at 3 rfl) rfl rfl dX7_tree_5 (Nat.le_of_ble_eq_true rfl) ⟨by decide, by decide⟩ ⟨by decide, by decide⟩ (fun r1 L M hp => ?_)
  obtain ⟨r1_, F⟩ := hp
  subst r1_
  refine g_if_ne C dX7_tree_8 (tgt := 14) (by decide) (fun q => absurd (by decide) q) (fun _ => ?_)
  refine g_bipush C dX7_tree_11 (v := -2) (by decide) ?_
  exact g_iret C hrt dX7_tree_13 (by decide) (by decide) ⟨by decide, F⟩
set_option maxHeartbeats 4000000 in
set_option maxRecDepth 100000 in
theorem c_X7_ring (l : Launch) (G : va_G) {cy : Nat → ClassId} {L : List Nat} {M : Nat → va_E} {a : Nat → Nat} {fr : List (Nat × va_E)}  (F : FW L M (flC cy a ++ fr)) (p0 : Int32) : MI l G cy yX7_ring cX7_ring 2 (some .int) 2 0 0 [.ref (a 0), .int p0] L M (fun r L2 M2 => r = (-2) ∧ FW L2 M2 (flC cy a ++ fr)) := by
  refine MI.of (own := RX7) rfl (by decide) (Nat.le_of_ble_eq_true rfl) ?_
  intro p e s m below meth c A C hrt hnm
  refine g_aload_n C dX7_ring_0 rfl (j := 0) rfl ?_
  refine h_get C F 0 rfl fk_X7_19 dX7_ring_1 rfl ?_
  refine g_iload_n C dX7_ring_4 rfl (j := 1) rfl ?_
  refine g_callVI C (c_X2_hasHour l G F p0) lk_X7_134 (F.mem 3 rfl) (F.at 3 rfl) rfl rfl dX7_ring_5 (Nat.le_of_ble_eq_true rfl) ⟨by decide, by decide⟩ ⟨by decide, by decide⟩ (fun r1 L M hp => ?_)
  obtain ⟨r1_, F⟩ := hp
  subst r1_
  refine g_if_eq C dX7_ring_8 (tgt := 32) (by decide) (fun _ => ?_) (fun q => absurd (by decide) q)
  refine g_bipush C dX7_ring_32 (v := -2) (by decide) ?_
  exact g_iret C hrt dX7_ring_34 (by decide) (by decide) ⟨by decide, F⟩
set_option maxHeartbeats 4000000 in
set_option maxRecDepth 100000 in
theorem c_X7_trees (l : Launch) (G : va_G) {cy : Nat → ClassId} {L : List Nat} {M : Nat → va_E} {a : Nat → Nat} {fr : List (Nat × va_E)}  (F : FW L M (flC cy a ++ fr))  : MI l G cy yX7_trees cX7_trees 4 (some .int) 1 0 0 [.ref (a 0)] L M (fun r L2 M2 => r = (-2) ∧ FW L2 M2 (flC cy a ++ fr)) := by
  refine MI.of (own := RX7) rfl (by decide) (Nat.le_of_ble_eq_true rfl) ?_
  intro p e s m below meth c A C hrt hnm
  refine g_aload_n C dX7_trees_0 rfl (j := 0) rfl ?_
  refine h_get C F 0 rfl fk_X7_19 dX7_trees_1 rfl ?_
  refine g_callVI C (c_X2_isTold l G F ) lk_X7_198 (F.mem 3 rfl) (F.at 3 rfl) rfl rfl dX7_trees_4 (Nat.le_of_ble_eq_true rfl) ⟨by decide, by decide⟩ ⟨by decide, by decide⟩ (fun r1 L M hp => ?_)
  obtain ⟨r1_, F⟩ := hp
  subst r1_
  refine g_if_ne C dX7_trees_7 (tgt := 13) (by decide) (fun q => absurd (by decide) q) (fun _ => ?_)
  refine g_bipush C dX7_trees_10 (v := -2) (by decide) ?_
  exact g_iret C hrt dX7_trees_12 (by decide) (by decide) ⟨by decide, F⟩
set_option maxHeartbeats 4000000 in
set_option maxRecDepth 100000 in
theorem c_X7_point (l : Launch) (G : va_G) {cy : Nat → ClassId} {L : List Nat} {M : Nat → va_E} {a : Nat → Nat} {fr : List (Nat × va_E)}  (F : FW L M (flC cy a ++ fr)) (p0 : Int32) (p1 : Int32) : MI l G cy yX7_point cX7_point 8 (some .int) 1 0 0 [.ref (a 0), .int p0, .int p1] L M (fun r L2 M2 => r = (-2) ∧ FW L2 M2 (flC cy a ++ fr)) := by
  refine MI.of (own := RX7) rfl (by decide) (Nat.le_of_ble_eq_true rfl) ?_
  intro p e s m below meth c A C hrt hnm
  refine g_aload_n C dX7_point_0 rfl (j := 0) rfl ?_
  refine h_get C F 0 rfl fk_X7_19 dX7_point_1 rfl ?_
  refine g_iload_n C dX7_point_4 rfl (j := 1) rfl ?_
  refine g_callVI C (c_X2_hasWalker l G F p0) lk_X7_122 (F.mem 3 rfl) (F.at 3 rfl) rfl rfl dX7_point_5 (Nat.le_of_ble_eq_true rfl) ⟨by decide, by decide⟩ ⟨by decide, by decide⟩ (fun r1 L M hp => ?_)
  obtain ⟨r1_, F⟩ := hp
  subst r1_
  refine g_if_eq C dX7_point_8 (tgt := 22) (by decide) (fun _ => ?_) (fun q => absurd (by decide) q)
  refine g_bipush C dX7_point_22 (v := -2) (by decide) ?_
  exact g_iret C hrt dX7_point_24 (by decide) (by decide) ⟨by decide, F⟩
set_option maxHeartbeats 4000000 in
set_option maxRecDepth 100000 in
theorem c_X7_best (l : Launch) (G : va_G) {cy : Nat → ClassId} {L : List Nat} {M : Nat → va_E} {a : Nat → Nat} {fr : List (Nat × va_E)}  (F : FW L M (flC cy a ++ fr))  : MI l G cy yX7_best cX7_best 6 (some .int) 1 0 0 [.ref (a 0)] L M (fun r L2 M2 => r = (-2) ∧ FW L2 M2 (flC cy a ++ fr)) := by
  refine MI.of (own := RX7) rfl (by decide) (Nat.le_of_ble_eq_true rfl) ?_
  intro p e s m below meth c A C hrt hnm
  refine g_aload_n C dX7_best_0 rfl (j := 0) rfl ?_
  refine h_get C F 0 rfl fk_X7_19 dX7_best_1 rfl ?_
  refine g_callVI C (c_X2_isTold l G F ) lk_X7_198 (F.mem 3 rfl) (F.at 3 rfl) rfl rfl dX7_best_4 (Nat.le_of_ble_eq_true rfl) ⟨by decide, by decide⟩ ⟨by decide, by decide⟩ (fun r1 L M hp => ?_)
  obtain ⟨r1_, F⟩ := hp
  subst r1_
  refine g_if_ne C dX7_best_7 (tgt := 13) (by decide) (fun q => absurd (by decide) q) (fun _ => ?_)
  refine g_bipush C dX7_best_10 (v := -2) (by decide) ?_
  exact g_iret C hrt dX7_best_12 (by decide) (by decide) ⟨by decide, F⟩
set_option maxHeartbeats 4000000 in
set_option maxRecDepth 100000 in
theorem c_X7_crowds (l : Launch) (G : va_G) {cy : Nat → ClassId} {L : List Nat} {M : Nat → va_E} {a : Nat → Nat} {fr : List (Nat × va_E)}  (F : FW L M (flC cy a ++ fr))  : MI l G cy yX7_crowds cX7_crowds 7 (some .int) 1 0 0 [.ref (a 0)] L M (fun r L2 M2 => r = (-2) ∧ FW L2 M2 (flC cy a ++ fr)) := by
  refine MI.of (own := RX7) rfl (by decide) (Nat.le_of_ble_eq_true rfl) ?_
  intro p e s m below meth c A C hrt hnm
  refine g_aload_n C dX7_crowds_0 rfl (j := 0) rfl ?_
  refine h_get C F 0 rfl fk_X7_19 dX7_crowds_1 rfl ?_
  refine g_callVI C (c_X2_isTold l G F ) lk_X7_198 (F.mem 3 rfl) (F.at 3 rfl) rfl rfl dX7_crowds_4 (Nat.le_of_ble_eq_true rfl) ⟨by decide, by decide⟩ ⟨by decide, by decide⟩ (fun r1 L M hp => ?_)
  obtain ⟨r1_, F⟩ := hp
  subst r1_
  refine g_if_ne C dX7_crowds_7 (tgt := 13) (by decide) (fun q => absurd (by decide) q) (fun _ => ?_)
  refine g_bipush C dX7_crowds_10 (v := -2) (by decide) ?_
  exact g_iret C hrt dX7_crowds_12 (by decide) (by decide) ⟨by decide, F⟩
set_option maxHeartbeats 4000000 in
set_option maxRecDepth 100000 in
theorem c_X7_may (l : Launch) (G : va_G) {cy : Nat → ClassId} {L : List Nat} {M : Nat → va_E} {a : Nat → Nat} {fr : List (Nat × va_E)}  (F : FW L M (flC cy a ++ fr)) (p0 : Int32) (p1 : Int32) : MI l G cy yX7_may cX7_may 4 (some .int) 2 0 0 [.ref (a 0), .int p0, .int p1] L M (fun r L2 M2 => r = (-2) ∧ FW L2 M2 (flC cy a ++ fr)) := by
  refine MI.of (own := RX7) rfl (by decide) (Nat.le_of_ble_eq_true rfl) ?_
  intro p e s m below meth c A C hrt hnm
  refine g_aload_n C dX7_may_0 rfl (j := 0) rfl ?_
  refine g_iload_n C dX7_may_1 rfl (j := 1) rfl ?_
  refine g_aload_n C dX7_may_2 rfl (j := 0) rfl ?_
  refine h_get C F 0 rfl fk_X7_19 dX7_may_3 rfl ?_
  refine g_iload_n C dX7_may_6 rfl (j := 2) rfl ?_
  refine g_callVI C (c_X2_hasPost l G F p1) lk_X7_106 (F.mem 3 rfl) (F.at 3 rfl) rfl rfl dX7_may_7 (Nat.le_of_ble_eq_true rfl) ⟨by decide, by decide⟩ ⟨by decide, by decide⟩ (fun r1 L M hp => ?_)
  obtain ⟨r1_, F⟩ := hp
  subst r1_
  refine g_callVI C (c_X7_refusalOfSeen l G F p0) lk_X7_288 (F.mem 0 rfl) (F.at 0 rfl) rfl rfl dX7_may_10 (Nat.le_of_ble_eq_true rfl) ⟨by decide, by decide⟩ ⟨by decide, by decide⟩ (fun r2 L M hp => ?_)
  obtain ⟨r2_, F⟩ := hp
  subst r2_
  refine g_istore_n C dX7_may_13 rfl (by decide) (lv2 := [(3, .int (-2)), (0, .ref (a 0)), (1, .int p0), (2, .int p1)]) rfl ?_
  refine g_iload_n C dX7_may_14 rfl (j := 0) rfl ?_
  refine g_if_eq C dX7_may_15 (tgt := 22) (by decide) (fun q => absurd q (by decide)) (fun _ => ?_)
  refine g_iload_n C dX7_may_18 rfl (j := 0) rfl ?_
  refine g_goto C dX7_may_19 (tgt := 33) (by decide) ?_
  exact g_iret C hrt dX7_may_33 (by decide) (by decide) ⟨by decide, F⟩
set_option maxHeartbeats 4000000 in
set_option maxRecDepth 100000 in
theorem c_X7_ask (l : Launch) (G : va_G) {cy : Nat → ClassId} {L : List Nat} {M : Nat → va_E} {a : Nat → Nat} {fr : List (Nat × va_E)}  (F : FW L M (flC cy a ++ fr)) (p0 : Int32) (p1 : Int32) : MI l G cy yX7_ask cX7_ask 4 (some .int) 2 0 0 [.ref (a 0), .int p0, .int p1] L M (fun r L2 M2 => r = (-2) ∧ FW L2 M2 (flC cy a ++ fr)) := by
  refine MI.of (own := RX7) rfl (by decide) (Nat.le_of_ble_eq_true rfl) ?_
  intro p e s m below meth c A C hrt hnm
  refine g_aload_n C dX7_ask_0 rfl (j := 0) rfl ?_
  refine g_iload_n C dX7_ask_1 rfl (j := 1) rfl ?_
  refine g_aload_n C dX7_ask_2 rfl (j := 0) rfl ?_
  refine h_get C F 0 rfl fk_X7_19 dX7_ask_3 rfl ?_
  refine g_iload_n C dX7_ask_6 rfl (j := 2) rfl ?_
  refine g_callVI C (c_X2_hasPost l G F p1) lk_X7_106 (F.mem 3 rfl) (F.at 3 rfl) rfl rfl dX7_ask_7 (Nat.le_of_ble_eq_true rfl) ⟨by decide, by decide⟩ ⟨by decide, by decide⟩ (fun r1 L M hp => ?_)
  obtain ⟨r1_, F⟩ := hp
  subst r1_
  refine g_callVI C (c_X7_refusalOfSeen l G F p0) lk_X7_288 (F.mem 0 rfl) (F.at 0 rfl) rfl rfl dX7_ask_10 (Nat.le_of_ble_eq_true rfl) ⟨by decide, by decide⟩ ⟨by decide, by decide⟩ (fun r2 L M hp => ?_)
  obtain ⟨r2_, F⟩ := hp
  subst r2_
  refine g_istore_n C dX7_ask_13 rfl (by decide) (lv2 := [(3, .int (-2)), (0, .ref (a 0)), (1, .int p0), (2, .int p1)]) rfl ?_
  refine g_iload_n C dX7_ask_14 rfl (j := 0) rfl ?_
  refine g_if_eq C dX7_ask_15 (tgt := 20) (by decide) (fun q => absurd q (by decide)) (fun _ => ?_)
  refine g_iload_n C dX7_ask_18 rfl (j := 0) rfl ?_
  exact g_iret C hrt dX7_ask_19 (by decide) (by decide) ⟨by decide, F⟩
set_option maxHeartbeats 4000000 in
set_option maxRecDepth 100000 in
theorem c_X7_leaves (l : Launch) (G : va_G) {cy : Nat → ClassId} {L : List Nat} {M : Nat → va_E} {a : Nat → Nat} {fr : List (Nat × va_E)}  (F : FW L M (flC cy a ++ fr)) (p0 : Int32) (p1 : Int32) : MI l G cy yX7_leaves cX7_leaves 6 (some .int) 2 0 0 [.ref (a 0), .int p0, .int p1] L M (fun r L2 M2 => r = (-2) ∧ FW L2 M2 (flC cy a ++ fr)) := by
  refine MI.of (own := RX7) rfl (by decide) (Nat.le_of_ble_eq_true rfl) ?_
  intro p e s m below meth c A C hrt hnm
  refine g_aload_n C dX7_leaves_0 rfl (j := 0) rfl ?_
  refine g_iload_n C dX7_leaves_1 rfl (j := 1) rfl ?_
  refine g_aload_n C dX7_leaves_2 rfl (j := 0) rfl ?_
  refine h_get C F 0 rfl fk_X7_19 dX7_leaves_3 rfl ?_
  refine g_iload_n C dX7_leaves_6 rfl (j := 2) rfl ?_
  refine g_callVI C (c_X2_hasPost l G F p1) lk_X7_106 (F.mem 3 rfl) (F.at 3 rfl) rfl rfl dX7_leaves_7 (Nat.le_of_ble_eq_true rfl) ⟨by decide, by decide⟩ ⟨by decide, by decide⟩ (fun r1 L M hp => ?_)
  obtain ⟨r1_, F⟩ := hp
  subst r1_
  refine g_callVI C (c_X7_refusalOfSeen l G F p0) lk_X7_288 (F.mem 0 rfl) (F.at 0 rfl) rfl rfl dX7_leaves_10 (Nat.le_of_ble_eq_true rfl) ⟨by decide, by decide⟩ ⟨by decide, by decide⟩ (fun r2 L M hp => ?_)
  obtain ⟨r2_, F⟩ := hp
  subst r2_
  refine g_istore_n C dX7_leaves_13 rfl (by decide) (lv2 := [(3, .int (-2)), (0, .ref (a 0)), (1, .int p0), (2, .int p1)]) rfl ?_
  refine g_iload_n C dX7_leaves_14 rfl (j := 0) rfl ?_
  refine g_if_eq C dX7_leaves_15 (tgt := 20) (by decide) (fun q => absurd q (by decide)) (fun _ => ?_)
  refine g_iload_n C dX7_leaves_18 rfl (j := 0) rfl ?_
  exact g_iret C hrt dX7_leaves_19 (by decide) (by decide) ⟨by decide, F⟩
set_option maxHeartbeats 4000000 in
set_option maxRecDepth 100000 in
theorem c_X7_laws (l : Launch) (G : va_G) {cy : Nat → ClassId} {L : List Nat} {M : Nat → va_E} {a : Nat → Nat} {fr : List (Nat × va_E)}  (F : FW L M (flC cy a ++ fr)) (p0 : Int32) : MI l G cy yX7_laws cX7_laws 5 (some .int) 2 0 0 [.ref (a 0), .int p0] L M (fun r L2 M2 => r = (-2) ∧ FW L2 M2 (flC cy a ++ fr)) := by
  refine MI.of (own := RX7) rfl (by decide) (Nat.le_of_ble_eq_true rfl) ?_
  intro p e s m below meth c A C hrt hnm
  refine g_aload_n C dX7_laws_0 rfl (j := 0) rfl ?_
  refine g_iload_n C dX7_laws_1 rfl (j := 1) rfl ?_
  refine g_aload_n C dX7_laws_2 rfl (j := 0) rfl ?_
  refine h_get C F 0 rfl fk_X7_19 dX7_laws_3 rfl ?_
  refine g_callVI C (c_X2_isTold l G F ) lk_X7_198 (F.mem 3 rfl) (F.at 3 rfl) rfl rfl dX7_laws_6 (Nat.le_of_ble_eq_true rfl) ⟨by decide, by decide⟩ ⟨by decide, by decide⟩ (fun r1 L M hp => ?_)
  obtain ⟨r1_, F⟩ := hp
  subst r1_
  refine g_callVI C (c_X7_refusalOfSeen l G F p0) lk_X7_288 (F.mem 0 rfl) (F.at 0 rfl) rfl rfl dX7_laws_9 (Nat.le_of_ble_eq_true rfl) ⟨by decide, by decide⟩ ⟨by decide, by decide⟩ (fun r2 L M hp => ?_)
  obtain ⟨r2_, F⟩ := hp
  subst r2_
  refine g_istore_n C dX7_laws_12 rfl (by decide) (lv2 := [(2, .int (-2)), (0, .ref (a 0)), (1, .int p0)]) rfl ?_
  refine g_iload_n C dX7_laws_13 rfl (j := 0) rfl ?_
  refine g_if_eq C dX7_laws_14 (tgt := 19) (by decide) (fun q => absurd q (by decide)) (fun _ => ?_)
  refine g_iload_n C dX7_laws_17 rfl (j := 0) rfl ?_
  exact g_iret C hrt dX7_laws_18 (by decide) (by decide) ⟨by decide, F⟩
set_option maxHeartbeats 4000000 in
set_option maxRecDepth 100000 in
theorem c_X7_by (l : Launch) (G : va_G) {cy : Nat → ClassId} {L : List Nat} {M : Nat → va_E} {a : Nat → Nat} {fr : List (Nat × va_E)}  (F : FW L M (flC cy a ++ fr)) (p0 : Int32) : MI l G cy yX7_by cX7_by 2 (some .int) 1 0 0 [.ref (a 0), .int p0] L M (fun r L2 M2 => r = (-2) ∧ FW L2 M2 (flC cy a ++ fr)) := by
  refine MI.of (own := RX7) rfl (by decide) (Nat.le_of_ble_eq_true rfl) ?_
  intro p e s m below meth c A C hrt hnm
  refine g_aload_n C dX7_by_0 rfl (j := 0) rfl ?_
  refine h_get C F 0 rfl fk_X7_19 dX7_by_1 rfl ?_
  refine g_callVI C (c_X2_isTold l G F ) lk_X7_198 (F.mem 3 rfl) (F.at 3 rfl) rfl rfl dX7_by_4 (Nat.le_of_ble_eq_true rfl) ⟨by decide, by decide⟩ ⟨by decide, by decide⟩ (fun r1 L M hp => ?_)
  obtain ⟨r1_, F⟩ := hp
  subst r1_
  refine g_if_eq C dX7_by_7 (tgt := 19) (by decide) (fun _ => ?_) (fun q => absurd (by decide) q)
  refine g_bipush C dX7_by_19 (v := -2) (by decide) ?_
  exact g_iret C hrt dX7_by_21 (by decide) (by decide) ⟨by decide, F⟩
set_option maxHeartbeats 4000000 in
set_option maxRecDepth 100000 in
theorem c_X7_law (l : Launch) (G : va_G) {cy : Nat → ClassId} {L : List Nat} {M : Nat → va_E} {a : Nat → Nat} {fr : List (Nat × va_E)}  (F : FW L M (flC cy a ++ fr))  : MI l G cy yX7_law cX7_law 5 (some .int) 1 0 0 [.ref (a 0)] L M (fun r L2 M2 => r = (-2) ∧ FW L2 M2 (flC cy a ++ fr)) := by
  refine MI.of (own := RX7) rfl (by decide) (Nat.le_of_ble_eq_true rfl) ?_
  intro p e s m below meth c A C hrt hnm
  refine g_aload_n C dX7_law_0 rfl (j := 0) rfl ?_
  refine h_get C F 0 rfl fk_X7_19 dX7_law_1 rfl ?_
  refine g_callVI C (c_X2_isTold l G F ) lk_X7_198 (F.mem 3 rfl) (F.at 3 rfl) rfl rfl dX7_law_4 (Nat.le_of_ble_eq_true rfl) ⟨by decide, by decide⟩ ⟨by decide, by decide⟩ (fun r1 L M hp => ?_)
  obtain ⟨r1_, F⟩ := hp
  subst r1_
  refine g_if_ne C dX7_law_7 (tgt := 13) (by decide) (fun q => absurd (by decide) q) (fun _ => ?_)
  refine g_bipush C dX7_law_10 (v := -2) (by decide) ?_
  exact g_iret C hrt dX7_law_12 (by decide) (by decide) ⟨by decide, F⟩
set_option maxHeartbeats 4000000 in
set_option maxRecDepth 100000 in
theorem c_X7_worth (l : Launch) (G : va_G) {cy : Nat → ClassId} {L : List Nat} {M : Nat → va_E} {a : Nat → Nat} {fr : List (Nat × va_E)}  (F : FW L M (flC cy a ++ fr)) (p0 : Int32) : MI l G cy yX7_worth cX7_worth 2 (some .int) 1 0 0 [.ref (a 0), .int p0] L M (fun r L2 M2 => r = (-2) ∧ FW L2 M2 (flC cy a ++ fr)) := by
  refine MI.of (own := RX7) rfl (by decide) (Nat.le_of_ble_eq_true rfl) ?_
  intro p e s m below meth c A C hrt hnm
  refine g_aload_n C dX7_worth_0 rfl (j := 0) rfl ?_
  refine h_get C F 0 rfl fk_X7_19 dX7_worth_1 rfl ?_
  refine g_callVI C (c_X2_isTold l G F ) lk_X7_198 (F.mem 3 rfl) (F.at 3 rfl) rfl rfl dX7_worth_4 (Nat.le_of_ble_eq_true rfl) ⟨by decide, by decide⟩ ⟨by decide, by decide⟩ (fun r1 L M hp => ?_)
  obtain ⟨r1_, F⟩ := hp
  subst r1_
  refine g_if_eq C dX7_worth_7 (tgt := 27) (by decide) (fun _ => ?_) (fun q => absurd (by decide) q)
  refine g_bipush C dX7_worth_27 (v := -2) (by decide) ?_
  exact g_iret C hrt dX7_worth_29 (by decide) (by decide) ⟨by decide, F⟩
set_option maxHeartbeats 4000000 in
set_option maxRecDepth 100000 in
theorem c_X7_share (l : Launch) (G : va_G) {cy : Nat → ClassId} {L : List Nat} {M : Nat → va_E} {a : Nat → Nat} {fr : List (Nat × va_E)}  (F : FW L M (flC cy a ++ fr)) (p0 : Int32) (p1 : Int32) : MI l G cy yX7_share cX7_share 7 (some .int) 1 0 0 [.ref (a 0), .int p0, .int p1] L M (fun r L2 M2 => r = (-1000) ∧ FW L2 M2 (flC cy a ++ fr)) := by
  refine MI.of (own := RX7) rfl (by decide) (Nat.le_of_ble_eq_true rfl) ?_
  intro p e s m below meth c A C hrt hnm
  refine g_aload_n C dX7_share_0 rfl (j := 0) rfl ?_
  refine h_get C F 0 rfl fk_X7_19 dX7_share_1 rfl ?_
  refine g_iload_n C dX7_share_4 rfl (j := 1) rfl ?_
  refine g_callVI C (c_X2_hasPost l G F p0) lk_X7_106 (F.mem 3 rfl) (F.at 3 rfl) rfl rfl dX7_share_5 (Nat.le_of_ble_eq_true rfl) ⟨by decide, by decide⟩ ⟨by decide, by decide⟩ (fun r1 L M hp => ?_)
  obtain ⟨r1_, F⟩ := hp
  subst r1_
  refine g_if_eq C dX7_share_8 (tgt := 18) (by decide) (fun _ => ?_) (fun q => absurd (by decide) q)
  refine g_sipush C dX7_share_18 (v := -1000) (by decide) ?_
  exact g_iret C hrt dX7_share_21 (by decide) (by decide) ⟨by decide, F⟩
set_option maxHeartbeats 4000000 in
set_option maxRecDepth 100000 in
theorem c_X7_rests (l : Launch) (G : va_G) {cy : Nat → ClassId} {L : List Nat} {M : Nat → va_E} {a : Nat → Nat} {fr : List (Nat × va_E)}  (F : FW L M (flC cy a ++ fr)) (p0 : Int32) (p1 : Int32) : MI l G cy yX7_rests cX7_rests 9 (some .int) 2 0 0 [.ref (a 0), .int p0, .int p1] L M (fun r L2 M2 => r = (-2) ∧ FW L2 M2 (flC cy a ++ fr)) := by
  refine MI.of (own := RX7) rfl (by decide) (Nat.le_of_ble_eq_true rfl) ?_
  intro p e s m below meth c A C hrt hnm
  refine g_aload_n C dX7_rests_0 rfl (j := 0) rfl ?_
  refine g_iload_n C dX7_rests_1 rfl (j := 1) rfl ?_
  refine g_iload_n C dX7_rests_2 rfl (j := 2) rfl ?_
  refine g_callVI C (c_X7_areTwo l G F p0 p1) lk_X7_212 (F.mem 0 rfl) (F.at 0 rfl) rfl rfl dX7_rests_3 (Nat.le_of_ble_eq_true rfl) ⟨by decide, by decide⟩ ⟨by decide, by decide⟩ (fun r1 L M hp => ?_)
  obtain ⟨r1_, F⟩ := hp
  subst r1_
  refine g_if_ne C dX7_rests_6 (tgt := 12) (by decide) (fun q => absurd (by decide) q) (fun _ => ?_)
  refine g_bipush C dX7_rests_9 (v := -2) (by decide) ?_
  exact g_iret C hrt dX7_rests_11 (by decide) (by decide) ⟨by decide, F⟩
set_option maxHeartbeats 4000000 in
set_option maxRecDepth 100000 in
theorem c_X7_gets (l : Launch) (G : va_G) {cy : Nat → ClassId} {L : List Nat} {M : Nat → va_E} {a : Nat → Nat} {fr : List (Nat × va_E)}  (F : FW L M (flC cy a ++ fr)) (p0 : Int32) (p1 : Int32) (p2 : Int32) (p3 : Int32) : MI l G cy yX7_gets cX7_gets 5 (some .int) 2 0 0 [.ref (a 0), .int p0, .int p1, .int p2, .int p3] L M (fun r L2 M2 => r = (-1000) ∧ FW L2 M2 (flC cy a ++ fr)) := by
  refine MI.of (own := RX7) rfl (by decide) (Nat.le_of_ble_eq_true rfl) ?_
  intro p e s m below meth c A C hrt hnm
  refine g_aload_n C dX7_gets_0 rfl (j := 0) rfl ?_
  refine g_iload_n C dX7_gets_1 rfl (j := 1) rfl ?_
  refine g_iload_n C dX7_gets_2 rfl (j := 2) rfl ?_
  refine g_callVI C (c_X7_areTwo l G F p0 p1) lk_X7_212 (F.mem 0 rfl) (F.at 0 rfl) rfl rfl dX7_gets_3 (Nat.le_of_ble_eq_true rfl) ⟨by decide, by decide⟩ ⟨by decide, by decide⟩ (fun r1 L M hp => ?_)
  obtain ⟨r1_, F⟩ := hp
  subst r1_
  refine g_if_eq C dX7_gets_6 (tgt := 24) (by decide) (fun _ => ?_) (fun q => absurd (by decide) q)
  refine g_sipush C dX7_gets_24 (v := -1000) (by decide) ?_
  exact g_iret C hrt dX7_gets_27 (by decide) (by decide) ⟨by decide, F⟩
set_option maxHeartbeats 4000000 in
set_option maxRecDepth 100000 in
theorem c_X7_chance (l : Launch) (G : va_G) {cy : Nat → ClassId} {L : List Nat} {M : Nat → va_E} {a : Nat → Nat} {fr : List (Nat × va_E)}  (F : FW L M (flC cy a ++ fr)) (p0 : Int32) (p1 : Int32) (p2 : Int32) : MJ l G cy yX7_chance cX7_chance 4 (some .long) 1 0 0 [.ref (a 0), .int p0, .int p1, .int p2] L M (fun r L2 M2 => r = (-2) ∧ FW L2 M2 (flC cy a ++ fr)) := by
  refine MJ.of (own := RX7) rfl (by decide) (Nat.le_of_ble_eq_true rfl) ?_
  intro p e s m below meth c A C hrt hnm
  refine g_aload_n C dX7_chance_0 rfl (j := 0) rfl ?_
  refine h_get C F 0 rfl fk_X7_19 dX7_chance_1 rfl ?_
  refine g_iload_n C dX7_chance_4 rfl (j := 1) rfl ?_
  refine g_callVI C (c_X2_hasWalker l G F p0) lk_X7_122 (F.mem 3 rfl) (F.at 3 rfl) rfl rfl dX7_chance_5 (Nat.le_of_ble_eq_true rfl) ⟨by decide, by decide⟩ ⟨by decide, by decide⟩ (fun r1 L M hp => ?_)
  obtain ⟨r1_, F⟩ := hp
  subst r1_
  refine g_if_eq C dX7_chance_8 (tgt := 26) (by decide) (fun _ => ?_) (fun q => absurd (by decide) q)
  refine g_ldc2 C (v := -2) wd51 dX7_chance_26 ?_
  exact g_lret C hrt dX7_chance_29 (by decide) (by decide) ⟨by decide, F⟩
set_option maxHeartbeats 4000000 in
set_option maxRecDepth 100000 in
theorem c_X7_mean (l : Launch) (G : va_G) {cy : Nat → ClassId} {L : List Nat} {M : Nat → va_E} {a : Nat → Nat} {fr : List (Nat × va_E)}  (F : FW L M (flC cy a ++ fr)) (p0 : Int32) (p1 : Int32) : MJ l G cy yX7_mean cX7_mean 6 (some .long) 4 0 0 [.ref (a 0), .int p0, .int p1] L M (fun r L2 M2 => r = (-2) ∧ FW L2 M2 (flC cy a ++ fr)) := by
  refine MJ.of (own := RX7) rfl (by decide) (Nat.le_of_ble_eq_true rfl) ?_
  intro p e s m below meth c A C hrt hnm
  refine g_aload_n C dX7_mean_0 rfl (j := 0) rfl ?_
  refine g_iload_n C dX7_mean_1 rfl (j := 1) rfl ?_
  refine g_callVI C (c_X7_isFogHour l G F p0) lk_X7_327 (F.mem 0 rfl) (F.at 0 rfl) rfl rfl dX7_mean_2 (Nat.le_of_ble_eq_true rfl) ⟨by decide, by decide⟩ ⟨by decide, by decide⟩ (fun r1 L M hp => ?_)
  obtain ⟨r1_, F⟩ := hp
  subst r1_
  refine g_if_eq C dX7_mean_5 (tgt := 15) (by decide) (fun _ => ?_) (fun q => absurd (by decide) q)
  refine g_ldc2 C (v := -2) wd51 dX7_mean_15 ?_
  exact g_lret C hrt dX7_mean_18 (by decide) (by decide) ⟨by decide, F⟩
set_option maxHeartbeats 4000000 in
set_option maxRecDepth 100000 in
theorem c_X7_twists (l : Launch) (G : va_G) {cy : Nat → ClassId} {L : List Nat} {M : Nat → va_E} {a : Nat → Nat} {fr : List (Nat × va_E)}  (F : FW L M (flC cy a ++ fr)) (p0 : Int32) (p1 : Int32) : MI l G cy yX7_twists cX7_twists 3 (some .int) 1 0 0 [.ref (a 0), .int p0, .int p1] L M (fun r L2 M2 => r = (-2) ∧ FW L2 M2 (flC cy a ++ fr)) := by
  refine MI.of (own := RX7) rfl (by decide) (Nat.le_of_ble_eq_true rfl) ?_
  intro p e s m below meth c A C hrt hnm
  refine g_aload_n C dX7_twists_0 rfl (j := 0) rfl ?_
  refine h_get C F 0 rfl fk_X7_19 dX7_twists_1 rfl ?_
  refine g_iload_n C dX7_twists_4 rfl (j := 1) rfl ?_
  refine g_callVI C (c_X2_hasPost l G F p0) lk_X7_106 (F.mem 3 rfl) (F.at 3 rfl) rfl rfl dX7_twists_5 (Nat.le_of_ble_eq_true rfl) ⟨by decide, by decide⟩ ⟨by decide, by decide⟩ (fun r1 L M hp => ?_)
  obtain ⟨r1_, F⟩ := hp
  subst r1_
  refine g_if_eq C dX7_twists_8 (tgt := 22) (by decide) (fun _ => ?_) (fun q => absurd (by decide) q)
  refine g_bipush C dX7_twists_22 (v := -2) (by decide) ?_
  exact g_iret C hrt dX7_twists_24 (by decide) (by decide) ⟨by decide, F⟩
set_option maxHeartbeats 4000000 in
set_option maxRecDepth 100000 in
theorem c_X7_holds (l : Launch) (G : va_G) {cy : Nat → ClassId} {L : List Nat} {M : Nat → va_E} {a : Nat → Nat} {fr : List (Nat × va_E)}  (F : FW L M (flC cy a ++ fr)) (p0 : Int32) (p1 : Int32) : MI l G cy yX7_holds cX7_holds 3 (some .int) 1 0 0 [.ref (a 0), .int p0, .int p1] L M (fun r L2 M2 => r = (-2) ∧ FW L2 M2 (flC cy a ++ fr)) := by
  refine MI.of (own := RX7) rfl (by decide) (Nat.le_of_ble_eq_true rfl) ?_
  intro p e s m below meth c A C hrt hnm
  refine g_aload_n C dX7_holds_0 rfl (j := 0) rfl ?_
  refine h_get C F 0 rfl fk_X7_19 dX7_holds_1 rfl ?_
  refine g_iload_n C dX7_holds_4 rfl (j := 1) rfl ?_
  refine g_callVI C (c_X2_hasWalker l G F p0) lk_X7_122 (F.mem 3 rfl) (F.at 3 rfl) rfl rfl dX7_holds_5 (Nat.le_of_ble_eq_true rfl) ⟨by decide, by decide⟩ ⟨by decide, by decide⟩ (fun r1 L M hp => ?_)
  obtain ⟨r1_, F⟩ := hp
  subst r1_
  refine g_if_eq C dX7_holds_8 (tgt := 22) (by decide) (fun _ => ?_) (fun q => absurd (by decide) q)
  refine g_bipush C dX7_holds_22 (v := -2) (by decide) ?_
  exact g_iret C hrt dX7_holds_24 (by decide) (by decide) ⟨by decide, F⟩
set_option maxHeartbeats 4000000 in
set_option maxRecDepth 100000 in
theorem c_X7_undo (l : Launch) (G : va_G) {cy : Nat → ClassId} {L : List Nat} {M : Nat → va_E} {a : Nat → Nat} {fr : List (Nat × va_E)}  (F : FW L M (flC cy a ++ fr))  : MI l G cy yX7_undo cX7_undo 1 (some .int) 1 0 0 [.ref (a 0)] L M (fun r L2 M2 => r = (-2) ∧ FW L2 M2 (flC cy a ++ fr)) := by
  refine MI.of (own := RX7) rfl (by decide) (Nat.le_of_ble_eq_true rfl) ?_
  intro p e s m below meth c A C hrt hnm
  refine g_aload_n C dX7_undo_0 rfl (j := 0) rfl ?_
  refine h_get C F 0 rfl fk_X7_19 dX7_undo_1 rfl ?_
  refine g_callVI C (c_X2_isTold l G F ) lk_X7_198 (F.mem 3 rfl) (F.at 3 rfl) rfl rfl dX7_undo_4 (Nat.le_of_ble_eq_true rfl) ⟨by decide, by decide⟩ ⟨by decide, by decide⟩ (fun r1 L M hp => ?_)
  obtain ⟨r1_, F⟩ := hp
  subst r1_
  refine g_if_ne C dX7_undo_7 (tgt := 13) (by decide) (fun q => absurd (by decide) q) (fun _ => ?_)
  refine g_bipush C dX7_undo_10 (v := -2) (by decide) ?_
  exact g_iret C hrt dX7_undo_12 (by decide) (by decide) ⟨by decide, F⟩
set_option maxHeartbeats 4000000 in
set_option maxRecDepth 100000 in
theorem c_X7_anew (l : Launch) (G : va_G) {cy : Nat → ClassId} {L : List Nat} {M : Nat → va_E} {a : Nat → Nat} {fr : List (Nat × va_E)}  (F : FW L M (flC cy a ++ fr))  : MI l G cy yX7_anew cX7_anew 2 (some .int) 1 0 0 [.ref (a 0)] L M (fun r L2 M2 => r = (-2) ∧ FW L2 M2 (flC cy a ++ fr)) := by
  refine MI.of (own := RX7) rfl (by decide) (Nat.le_of_ble_eq_true rfl) ?_
  intro p e s m below meth c A C hrt hnm
  refine g_aload_n C dX7_anew_0 rfl (j := 0) rfl ?_
  refine h_get C F 0 rfl fk_X7_19 dX7_anew_1 rfl ?_
  refine g_callVI C (c_X2_isTold l G F ) lk_X7_198 (F.mem 3 rfl) (F.at 3 rfl) rfl rfl dX7_anew_4 (Nat.le_of_ble_eq_true rfl) ⟨by decide, by decide⟩ ⟨by decide, by decide⟩ (fun r1 L M hp => ?_)
  obtain ⟨r1_, F⟩ := hp
  subst r1_
  refine g_if_ne C dX7_anew_7 (tgt := 13) (by decide) (fun q => absurd (by decide) q) (fun _ => ?_)
  refine g_bipush C dX7_anew_10 (v := -2) (by decide) ?_
  exact g_iret C hrt dX7_anew_12 (by decide) (by decide) ⟨by decide, F⟩
set_option maxHeartbeats 4000000 in
set_option maxRecDepth 100000 in
theorem c_X7_drawn (l : Launch) (G : va_G) {cy : Nat → ClassId} {L : List Nat} {M : Nat → va_E} {a : Nat → Nat} {fr : List (Nat × va_E)}  (F : FW L M (flC cy a ++ fr)) (p0 : Int32) (p1 : Int32) : MI l G cy yX7_drawn cX7_drawn 4 (some .int) 1 0 0 [.ref (a 0), .int p0, .int p1] L M (fun r L2 M2 => r = (-2) ∧ FW L2 M2 (flC cy a ++ fr)) := by
  refine MI.of (own := RX7) rfl (by decide) (Nat.le_of_ble_eq_true rfl) ?_
  intro p e s m below meth c A C hrt hnm
  refine g_aload_n C dX7_drawn_0 rfl (j := 0) rfl ?_
  refine h_get C F 0 rfl fk_X7_19 dX7_drawn_1 rfl ?_
  refine g_callVI C (c_X2_isTold l G F ) lk_X7_198 (F.mem 3 rfl) (F.at 3 rfl) rfl rfl dX7_drawn_4 (Nat.le_of_ble_eq_true rfl) ⟨by decide, by decide⟩ ⟨by decide, by decide⟩ (fun r1 L M hp => ?_)
  obtain ⟨r1_, F⟩ := hp
  subst r1_
  refine g_if_eq C dX7_drawn_7 (tgt := 24) (by decide) (fun _ => ?_) (fun q => absurd (by decide) q)
  refine g_bipush C dX7_drawn_24 (v := -2) (by decide) ?_
  exact g_iret C hrt dX7_drawn_26 (by decide) (by decide) ⟨by decide, F⟩
set_option maxHeartbeats 4000000 in
set_option maxRecDepth 100000 in
theorem c_X7_luck (l : Launch) (G : va_G) {cy : Nat → ClassId} {L : List Nat} {M : Nat → va_E} {a : Nat → Nat} {fr : List (Nat × va_E)}  (F : FW L M (flC cy a ++ fr)) (p0 : Int32) (p1 : Int32) (p2 : Int32) : MI l G cy yX7_luck cX7_luck 6 (some .int) 1 0 0 [.ref (a 0), .int p0, .int p1, .int p2] L M (fun r L2 M2 => r = (-2) ∧ FW L2 M2 (flC cy a ++ fr)) := by
  refine MI.of (own := RX7) rfl (by decide) (Nat.le_of_ble_eq_true rfl) ?_
  intro p e s m below meth c A C hrt hnm
  refine g_iload_n C dX7_luck_0 rfl (j := 1) rfl ?_
  refine g_callSI C (c_X7_isSeed l G F p0) lk_X7_361 rfl rfl dX7_luck_1 (Nat.le_of_ble_eq_true rfl) ⟨by decide, by decide⟩ ⟨by decide, by decide⟩ (fun r1 L M hp => ?_)
  obtain ⟨-, F⟩ := hp
  refine g_if_eq C dX7_luck_4 (tgt := 25) (by decide) (fun q2 => ?_) (fun q2 => ?_)
  · skip
    refine g_bipush C dX7_luck_25 (v := -2) (by decide) ?_
    exact g_iret C hrt dX7_luck_27 (by decide) (by decide) ⟨by decide, F⟩
  · skip
    refine g_iload_n C dX7_luck_7 rfl (j := 2) rfl ?_
    refine g_callSI C (c_X7_isFewInARow l G F p1) lk_X7_246 rfl rfl dX7_luck_8 (Nat.le_of_ble_eq_true rfl) ⟨by decide, by decide⟩ ⟨by decide, by decide⟩ (fun r3 L M hp => ?_)
    obtain ⟨-, F⟩ := hp
    refine g_if_eq C dX7_luck_11 (tgt := 25) (by decide) (fun q4 => ?_) (fun q4 => ?_)
    · skip
      refine g_bipush C dX7_luck_25 (v := -2) (by decide) ?_
      exact g_iret C hrt dX7_luck_27 (by decide) (by decide) ⟨by decide, F⟩
    · skip
      refine g_aload_n C dX7_luck_14 rfl (j := 0) rfl ?_
      refine h_get C F 0 rfl fk_X7_19 dX7_luck_15 rfl ?_
      refine g_iload_n C dX7_luck_18 rfl (j := 3) rfl ?_
      refine g_callVI C (c_X2_hasWalker l G F p2) lk_X7_122 (F.mem 3 rfl) (F.at 3 rfl) rfl rfl dX7_luck_19 (Nat.le_of_ble_eq_true rfl) ⟨by decide, by decide⟩ ⟨by decide, by decide⟩ (fun r5 L M hp => ?_)
      obtain ⟨r5_, F⟩ := hp
      subst r5_
      refine g_if_ne C dX7_luck_22 (tgt := 28) (by decide) (fun q => absurd (by decide) q) (fun _ => ?_)
      refine g_bipush C dX7_luck_25 (v := -2) (by decide) ?_
      exact g_iret C hrt dX7_luck_27 (by decide) (by decide) ⟨by decide, F⟩
set_option maxHeartbeats 4000000 in
set_option maxRecDepth 100000 in
theorem c_X7_rate (l : Launch) (G : va_G) {cy : Nat → ClassId} {L : List Nat} {M : Nat → va_E} {a : Nat → Nat} {fr : List (Nat × va_E)}  (F : FW L M (flC cy a ++ fr)) (p0 : Int32) (p1 : Int32) : MI l G cy yX7_rate cX7_rate 4 (some .int) 1 0 0 [.ref (a 0), .int p0, .int p1] L M (fun r L2 M2 => r = (-2) ∧ FW L2 M2 (flC cy a ++ fr)) := by
  refine MI.of (own := RX7) rfl (by decide) (Nat.le_of_ble_eq_true rfl) ?_
  intro p e s m below meth c A C hrt hnm
  refine g_aload_n C dX7_rate_0 rfl (j := 0) rfl ?_
  refine h_get C F 0 rfl fk_X7_19 dX7_rate_1 rfl ?_
  refine g_iload_n C dX7_rate_4 rfl (j := 1) rfl ?_
  refine g_callVI C (c_X2_hasInn l G F p0) lk_X7_99 (F.mem 3 rfl) (F.at 3 rfl) rfl rfl dX7_rate_5 (Nat.le_of_ble_eq_true rfl) ⟨by decide, by decide⟩ ⟨by decide, by decide⟩ (fun r1 L M hp => ?_)
  obtain ⟨r1_, F⟩ := hp
  subst r1_
  refine g_if_eq C dX7_rate_8 (tgt := 21) (by decide) (fun _ => ?_) (fun q => absurd (by decide) q)
  refine g_bipush C dX7_rate_21 (v := -2) (by decide) ?_
  exact g_iret C hrt dX7_rate_23 (by decide) (by decide) ⟨by decide, F⟩
