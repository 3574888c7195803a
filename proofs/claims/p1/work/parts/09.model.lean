set_option maxHeartbeats 4000000 in
set_option maxRecDepth 100000 in
theorem c_X8_in (l : Launch) (G : va_G) {cy : Nat → ClassId} {L : List Nat} {M : Nat → va_E} {fl : List (Nat × va_E)}  (F : FW L M (fl)) (p0 : Int64) (p1 : Int64) (p2 : Int64) : MI l G cy yX8_in cX8_in 6 (some .boolean) 0 0 0 [.long p0, .long p1, .long p2] L M (fun r L2 M2 => ((r = 1 ∧ p1 ≤ p0 ∧ p0 ≤ p2) ∨ (r = 0 ∧ ¬ (p1 ≤ p0 ∧ p0 ≤ p2))) ∧ FW L2 M2 fl) := by
  refine MI.of (own := RX8) rfl (by decide) (Nat.le_of_ble_eq_true rfl) ?_
  intro p e s m below meth c A C hrt hnm
  refine g_lload_n C dX8_in_0 rfl (j := 0) rfl ?_
  refine g_lload_n C dX8_in_1 rfl (j := 1) rfl ?_
  refine g_lcmp C dX8_in_2 ?_
  refine g_if_lt C dX8_in_3 (tgt := 17) (by decide) (fun q1 => ?_) (fun q1 => ?_)
  · skip
    refine g_iconst C dX8_in_17 (v := 0) (by decide) ?_
    exact g_zret C hrt rfl dX8_in_18 (by decide) (by decide) ⟨Or.inr ⟨rfl, fun z => absurd ((lg_cmp_ge _ _).mpr z.1) (Int32.not_le.mpr q1)⟩, F⟩
  · skip
    refine g_lload_n C dX8_in_6 rfl (j := 0) rfl ?_
    refine g_lload C dX8_in_7 (j := 2) rfl ?_
    refine g_lcmp C dX8_in_9 ?_
    refine g_if_gt C dX8_in_10 (tgt := 17) (by decide) (fun q2 => ?_) (fun q2 => ?_)
    · skip
      refine g_iconst C dX8_in_17 (v := 0) (by decide) ?_
      exact g_zret C hrt rfl dX8_in_18 (by decide) (by decide) ⟨Or.inr ⟨rfl, fun z => absurd ((lg_cmp_le _ _).mpr z.2) (Int32.not_le.mpr q2)⟩, F⟩
    · skip
      refine g_iconst C dX8_in_13 (v := 1) (by decide) ?_
      refine g_goto C dX8_in_14 (tgt := 18) (by decide) ?_
      exact g_zret C hrt rfl dX8_in_18 (by decide) (by decide) ⟨Or.inl ⟨rfl, (lg_cmp_ge _ _).mp (Int32.not_lt.mp q1), (lg_cmp_le _ _).mp (Int32.not_lt.mp q2)⟩, F⟩
set_option maxHeartbeats 4000000 in
set_option maxRecDepth 100000 in
theorem c_X8_isSlot (l : Launch) (G : va_G) {cy : Nat → ClassId} {L : List Nat} {M : Nat → va_E} {fl : List (Nat × va_E)}  (F : FW L M (fl)) (p0 : Int32) : MI l G cy yX8_isSlot cX8_isSlot 1 (some .boolean) 1 0 0 [.int p0] L M (fun r L2 M2 => ((r = 1 ∧ (0 : Int64) ≤ p0.toInt64 ∧ p0.toInt64 ≤ 3) ∨ (r = 0 ∧ ¬ ((0 : Int64) ≤ p0.toInt64 ∧ p0.toInt64 ≤ 3))) ∧ FW L2 M2 fl) := by
  refine MI.of (own := RX8) rfl (by decide) (Nat.le_of_ble_eq_true rfl) ?_
  intro p e s m below meth c A C hrt hnm
  refine g_iload_n C dX8_isSlot_0 rfl (j := 0) rfl ?_
  refine g_i2l C dX8_isSlot_1 (v := p0.toInt64) rfl ?_
  refine g_lconst C dX8_isSlot_2 (v := 0) (by decide) ?_
  refine g_ldc2 C (v := 3) wd235 dX8_isSlot_3 ?_
  refine g_callSI C (c_X8_in l G F (p0.toInt64) (0) (3)) lk_X8_94 rfl rfl dX8_isSlot_6 (Nat.le_of_ble_eq_true rfl) ⟨by decide, by decide⟩ ⟨by decide, by decide⟩ (fun r1 L M hp => ?_)
  obtain ⟨r1_, F⟩ := hp
  rcases r1_ with ⟨rfl, r1a⟩ | ⟨rfl, r1a⟩
  · skip
    exact g_zret C hrt rfl dX8_isSlot_9 (by decide) (by decide) ⟨Or.inl ⟨rfl, r1a⟩, F⟩
  · skip
    exact g_zret C hrt rfl dX8_isSlot_9 (by decide) (by decide) ⟨Or.inr ⟨rfl, r1a⟩, F⟩
set_option maxHeartbeats 4000000 in
set_option maxRecDepth 100000 in
theorem c_X8_isSeed (l : Launch) (G : va_G) {cy : Nat → ClassId} {L : List Nat} {M : Nat → va_E} {fl : List (Nat × va_E)}  (F : FW L M (fl)) (p0 : Int32) : MI l G cy yX8_isSeed cX8_isSeed 1 (some .boolean) 1 0 0 [.int p0] L M (fun r L2 M2 => True ∧ FW L2 M2 fl) := by
  refine MI.of (own := RX8) rfl (by decide) (Nat.le_of_ble_eq_true rfl) ?_
  intro p e s m below meth c A C hrt hnm
  refine g_iload_n C dX8_isSeed_0 rfl (j := 0) rfl ?_
  refine g_i2l C dX8_isSeed_1 (v := p0.toInt64) rfl ?_
  refine g_lconst C dX8_isSeed_2 (v := 0) (by decide) ?_
  refine g_ldc2 C (v := 2000000000) wd240 dX8_isSeed_3 ?_
  refine g_callSI C (c_X8_in l G F (p0.toInt64) (0) (2000000000)) lk_X8_94 rfl rfl dX8_isSeed_6 (Nat.le_of_ble_eq_true rfl) ⟨by decide, by decide⟩ ⟨by decide, by decide⟩ (fun r1 L M hp => ?_)
  obtain ⟨r1_, F⟩ := hp
  rcases r1_ with ⟨rfl, r1a⟩ | ⟨rfl, r1a⟩
  · skip
    exact g_zret C hrt rfl dX8_isSeed_9 (by decide) (by decide) ⟨trivial, F⟩
  · skip
    exact g_zret C hrt rfl dX8_isSeed_9 (by decide) (by decide) ⟨trivial, F⟩
set_option maxHeartbeats 4000000 in
set_option maxRecDepth 100000 in
theorem c_X8_isInn_s34 (l : Launch) (G : va_G) {cy : Nat → ClassId} {L : List Nat} {M : Nat → va_E} {b : Nat → Nat} {pn : Nat → Int32} {ts : Int32}  (F : FW L M (flM cy b ts pn)) (p0 : Int64) : MI l G cy yX8_isInn cX8_isInn 3 (some .boolean) 1 0 0 [.ref (b 0), .long p0] L M (fun r L2 M2 => r = (0) ∧ FW L2 M2 (flM cy b ts pn)) := by
  refine MI.of (own := RX8) rfl (by decide) (Nat.le_of_ble_eq_true rfl) ?_
  intro p e s m below meth c A C hrt hnm
  refine g_lload_n C dX8_isInn_0 rfl (j := 1) rfl ?_
  refine g_lconst C dX8_isInn_1 (v := 0) (by decide) ?_
  refine g_aload_n C dX8_isInn_2 rfl (j := 0) rfl ?_
  refine h_get C F 0 rfl fk_X8_9 dX8_isInn_3 rfl ?_
  refine g_iconst C dX8_isInn_6 (v := 3) (by decide) ?_
  refine h_iald C F 1 rfl dX8_isInn_7 (vp_in_iff.mpr (by decide)) (v := 0) rfl ?_
  refine g_iconst C dX8_isInn_8 (v := 1) (by decide) ?_
  refine g_isub C dX8_isInn_9 ?_
  refine Go.top (v := .int (-1)) (by decide) ?_
  refine g_i2l C dX8_isInn_10 (v := -1) (by decide) ?_
  refine g_callSI C (c_X8_in l G F p0 (0) (-1)) lk_X8_94 rfl rfl dX8_isInn_11 (Nat.le_of_ble_eq_true rfl) ⟨by decide, by decide⟩ ⟨by decide, by decide⟩ (fun r1 L M hp => ?_)
  obtain ⟨r1_, F⟩ := hp
  obtain rfl : r1 = 0 := in_none r1_
  exact g_zret C hrt rfl dX8_isInn_14 (by decide) (by decide) ⟨by decide, F⟩
set_option maxHeartbeats 4000000 in
set_option maxRecDepth 100000 in
theorem c_X8_room (l : Launch) (G : va_G) {cy : Nat → ClassId} {L : List Nat} {M : Nat → va_E} {b : Nat → Nat} {ts : Int32} {pn : Nat → Int32}  (F : FW L M (flM cy b ts pn)) (p0 : Int32) : MI l G cy yX8_room cX8_room 2 (some .int) 2 0 0 [.ref (b 0), .int p0] L M (fun r L2 M2 => r = (-2)) := by
  refine MI.of (own := RX8) rfl (by decide) (Nat.le_of_ble_eq_true rfl) ?_
  intro p e s m below meth c A C hrt hnm
  refine g_aload_n C dX8_room_0 rfl (j := 0) rfl ?_
  refine g_iload_n C dX8_room_1 rfl (j := 1) rfl ?_
  refine g_i2l C dX8_room_2 (v := p0.toInt64) rfl ?_
  refine g_callVI C (c_X8_isInn_s34 l G F (p0.toInt64)) lk_X8_118 (F.mem 0 rfl) (F.at 0 rfl) rfl rfl dX8_room_3 (Nat.le_of_ble_eq_true rfl) ⟨by decide, by decide⟩ ⟨by decide, by decide⟩ (fun r1 L M hp => ?_)
  obtain ⟨r1_, F⟩ := hp
  subst r1_
  refine g_if_eq C dX8_room_6 (tgt := 21) (by decide) (fun _ => ?_) (fun q => absurd (by decide) q)
  refine g_bipush C dX8_room_21 (v := -2) (by decide) ?_
  exact g_iret C hrt dX8_room_23 (by decide) (by decide) (by decide)
set_option maxHeartbeats 4000000 in
set_option maxRecDepth 100000 in
theorem c_X8_posts_s35 (l : Launch) (G : va_G) {cy : Nat → ClassId} {L : List Nat} {M : Nat → va_E} {b : Nat → Nat} {pn : Nat → Int32} {ts : Int32}  (F : FW L M (flM cy b ts pn))  : MI l G cy yX8_posts cX8_posts 1 (some .int) 0 0 0 [.ref (b 0)] L M (fun r L2 M2 => r = (0) ∧ FW L2 M2 (flM cy b ts pn)) := by
  refine MI.of (own := RX8) rfl (by decide) (Nat.le_of_ble_eq_true rfl) ?_
  intro p e s m below meth c A C hrt hnm
  refine g_aload_n C dX8_posts_0 rfl (j := 0) rfl ?_
  refine h_get C F 0 rfl fk_X8_9 dX8_posts_1 rfl ?_
  refine g_iconst C dX8_posts_4 (v := 4) (by decide) ?_
  refine h_iald C F 1 rfl dX8_posts_5 (vp_in_iff.mpr (by decide)) (v := 0) rfl ?_
  exact g_iret C hrt dX8_posts_6 (by decide) (by decide) ⟨by decide, F⟩
set_option maxHeartbeats 4000000 in
set_option maxRecDepth 100000 in
theorem c_X8_isPost_s36 (l : Launch) (G : va_G) {cy : Nat → ClassId} {L : List Nat} {M : Nat → va_E} {b : Nat → Nat} {pn : Nat → Int32} {ts : Int32}  (F : FW L M (flM cy b ts pn)) (p0 : Int64) : MI l G cy yX8_isPost cX8_isPost 3 (some .boolean) 1 0 0 [.ref (b 0), .long p0] L M (fun r L2 M2 => r = (0) ∧ FW L2 M2 (flM cy b ts pn)) := by
  refine MI.of (own := RX8) rfl (by decide) (Nat.le_of_ble_eq_true rfl) ?_
  intro p e s m below meth c A C hrt hnm
  refine g_lload_n C dX8_isPost_0 rfl (j := 1) rfl ?_
  refine g_lconst C dX8_isPost_1 (v := 0) (by decide) ?_
  refine g_aload_n C dX8_isPost_2 rfl (j := 0) rfl ?_
  refine g_callVI C (c_X8_posts_s35 l G F ) lk_X8_98 (F.mem 0 rfl) (F.at 0 rfl) rfl rfl dX8_isPost_3 (Nat.le_of_ble_eq_true rfl) ⟨by decide, by decide⟩ ⟨by decide, by decide⟩ (fun r1 L M hp => ?_)
  obtain ⟨r1_, F⟩ := hp
  subst r1_
  refine g_iconst C dX8_isPost_6 (v := 1) (by decide) ?_
  refine g_isub C dX8_isPost_7 ?_
  refine Go.top (v := .int (-1)) (by decide) ?_
  refine g_i2l C dX8_isPost_8 (v := -1) (by decide) ?_
  refine g_callSI C (c_X8_in l G F p0 (0) (-1)) lk_X8_94 rfl rfl dX8_isPost_9 (Nat.le_of_ble_eq_true rfl) ⟨by decide, by decide⟩ ⟨by decide, by decide⟩ (fun r2 L M hp => ?_)
  obtain ⟨r2_, F⟩ := hp
  obtain rfl : r2 = 0 := in_none r2_
  exact g_zret C hrt rfl dX8_isPost_12 (by decide) (by decide) ⟨by decide, F⟩
set_option maxHeartbeats 4000000 in
set_option maxRecDepth 100000 in
theorem c_X8_roads (l : Launch) (G : va_G) {cy : Nat → ClassId} {L : List Nat} {M : Nat → va_E} {b : Nat → Nat} {ts : Int32} {pn : Nat → Int32}  (F : FW L M (flM cy b ts pn)) (p0 : Int32) : MI l G cy yX8_roads cX8_roads 2 (some .int) 2 0 0 [.ref (b 0), .int p0] L M (fun r L2 M2 => r = (-2)) := by
  refine MI.of (own := RX8) rfl (by decide) (Nat.le_of_ble_eq_true rfl) ?_
  intro p e s m below meth c A C hrt hnm
  refine g_aload_n C dX8_roads_0 rfl (j := 0) rfl ?_
  refine g_iload_n C dX8_roads_1 rfl (j := 1) rfl ?_
  refine g_i2l C dX8_roads_2 (v := p0.toInt64) rfl ?_
  refine g_callVI C (c_X8_isPost_s36 l G F (p0.toInt64)) lk_X8_112 (F.mem 0 rfl) (F.at 0 rfl) rfl rfl dX8_roads_3 (Nat.le_of_ble_eq_true rfl) ⟨by decide, by decide⟩ ⟨by decide, by decide⟩ (fun r1 L M hp => ?_)
  obtain ⟨r1_, F⟩ := hp
  subst r1_
  refine g_if_eq C dX8_roads_6 (tgt := 17) (by decide) (fun _ => ?_) (fun q => absurd (by decide) q)
  refine g_bipush C dX8_roads_17 (v := -2) (by decide) ?_
  exact g_iret C hrt dX8_roads_19 (by decide) (by decide) (by decide)
set_option maxHeartbeats 4000000 in
set_option maxRecDepth 100000 in
theorem c_X8_goes (l : Launch) (G : va_G) {cy : Nat → ClassId} {L : List Nat} {M : Nat → va_E} {b : Nat → Nat} {ts : Int32} {pn : Nat → Int32}  (F : FW L M (flM cy b ts pn)) (p0 : Int32) (p1 : Int32) : MI l G cy yX8_goes cX8_goes 3 (some .int) 2 0 0 [.ref (b 0), .int p0, .int p1] L M (fun r L2 M2 => r = (-2)) := by
  refine MI.of (own := RX8) rfl (by decide) (Nat.le_of_ble_eq_true rfl) ?_
  intro p e s m below meth c A C hrt hnm
  refine g_aload_n C dX8_goes_0 rfl (j := 0) rfl ?_
  refine g_iload_n C dX8_goes_1 rfl (j := 1) rfl ?_
  refine g_i2l C dX8_goes_2 (v := p0.toInt64) rfl ?_
  refine g_callVI C (c_X8_isPost_s36 l G F (p0.toInt64)) lk_X8_112 (F.mem 0 rfl) (F.at 0 rfl) rfl rfl dX8_goes_3 (Nat.le_of_ble_eq_true rfl) ⟨by decide, by decide⟩ ⟨by decide, by decide⟩ (fun r1 L M hp => ?_)
  obtain ⟨r1_, F⟩ := hp
  subst r1_
  refine g_if_eq C dX8_goes_6 (tgt := 13) (by decide) (fun _ => ?_) (fun q => absurd (by decide) q)
  refine g_bipush C dX8_goes_13 (v := -2) (by decide) ?_
  exact g_iret C hrt dX8_goes_15 (by decide) (by decide) (by decide)
set_option maxHeartbeats 4000000 in
set_option maxRecDepth 100000 in
theorem c_X8_told (l : Launch) (G : va_G) {cy : Nat → ClassId} {L : List Nat} {M : Nat → va_E} {b : Nat → Nat} {ts : Int32} {pn : Nat → Int32}  (F : FW L M (flM cy b ts pn)) (p0 : Int32) : MI l G cy yX8_told cX8_told 2 (some .int) 2 0 0 [.ref (b 0), .int p0] L M (fun r L2 M2 => r = (-2)) := by
  refine MI.of (own := RX8) rfl (by decide) (Nat.le_of_ble_eq_true rfl) ?_
  intro p e s m below meth c A C hrt hnm
  refine g_aload_n C dX8_told_0 rfl (j := 0) rfl ?_
  refine g_iload_n C dX8_told_1 rfl (j := 1) rfl ?_
  refine g_i2l C dX8_told_2 (v := p0.toInt64) rfl ?_
  refine g_callVI C (c_X8_isPost_s36 l G F (p0.toInt64)) lk_X8_112 (F.mem 0 rfl) (F.at 0 rfl) rfl rfl dX8_told_3 (Nat.le_of_ble_eq_true rfl) ⟨by decide, by decide⟩ ⟨by decide, by decide⟩ (fun r1 L M hp => ?_)
  obtain ⟨r1_, F⟩ := hp
  subst r1_
  refine g_if_ne C dX8_told_6 (tgt := 14) (by decide) (fun q => absurd (by decide) q) (fun _ => ?_)
  refine g_bipush C dX8_told_9 (v := -2) (by decide) ?_
  refine g_goto C dX8_told_11 (tgt := 31) (by decide) ?_
  exact g_iret C hrt dX8_told_31 (by decide) (by decide) (by decide)
set_option maxHeartbeats 4000000 in
set_option maxRecDepth 100000 in
theorem c_X8_walkers_s37 (l : Launch) (G : va_G) {cy : Nat → ClassId} {L : List Nat} {M : Nat → va_E} {b : Nat → Nat} {pn : Nat → Int32} {ts : Int32}  (F : FW L M (flM cy b ts pn))  : MI l G cy yX8_walkers cX8_walkers 1 (some .int) 0 0 0 [.ref (b 0)] L M (fun r L2 M2 => r = (0) ∧ FW L2 M2 (flM cy b ts pn)) := by
  refine MI.of (own := RX8) rfl (by decide) (Nat.le_of_ble_eq_true rfl) ?_
  intro p e s m below meth c A C hrt hnm
  refine g_aload_n C dX8_walkers_0 rfl (j := 0) rfl ?_
  refine h_get C F 0 rfl fk_X8_9 dX8_walkers_1 rfl ?_
  refine g_bipush C dX8_walkers_4 (v := 7) (by decide) ?_
  refine h_iald C F 1 rfl dX8_walkers_6 (vp_in_iff.mpr (by decide)) (v := 0) rfl ?_
  exact g_iret C hrt dX8_walkers_7 (by decide) (by decide) ⟨by decide, F⟩
set_option maxHeartbeats 4000000 in
set_option maxRecDepth 100000 in
theorem c_X8_isWalker_s38 (l : Launch) (G : va_G) {cy : Nat → ClassId} {L : List Nat} {M : Nat → va_E} {b : Nat → Nat} {pn : Nat → Int32} {ts : Int32}  (F : FW L M (flM cy b ts pn)) (p0 : Int64) : MI l G cy yX8_isWalker cX8_isWalker 3 (some .boolean) 1 0 0 [.ref (b 0), .long p0] L M (fun r L2 M2 => r = (0) ∧ FW L2 M2 (flM cy b ts pn)) := by
  refine MI.of (own := RX8) rfl (by decide) (Nat.le_of_ble_eq_true rfl) ?_
  intro p e s m below meth c A C hrt hnm
  refine g_lload_n C dX8_isWalker_0 rfl (j := 1) rfl ?_
  refine g_lconst C dX8_isWalker_1 (v := 0) (by decide) ?_
  refine g_aload_n C dX8_isWalker_2 rfl (j := 0) rfl ?_
  refine g_callVI C (c_X8_walkers_s37 l G F ) lk_X8_109 (F.mem 0 rfl) (F.at 0 rfl) rfl rfl dX8_isWalker_3 (Nat.le_of_ble_eq_true rfl) ⟨by decide, by decide⟩ ⟨by decide, by decide⟩ (fun r1 L M hp => ?_)
  obtain ⟨r1_, F⟩ := hp
  subst r1_
  refine g_iconst C dX8_isWalker_6 (v := 1) (by decide) ?_
  refine g_isub C dX8_isWalker_7 ?_
  refine Go.top (v := .int (-1)) (by decide) ?_
  refine g_i2l C dX8_isWalker_8 (v := -1) (by decide) ?_
  refine g_callSI C (c_X8_in l G F p0 (0) (-1)) lk_X8_94 rfl rfl dX8_isWalker_9 (Nat.le_of_ble_eq_true rfl) ⟨by decide, by decide⟩ ⟨by decide, by decide⟩ (fun r2 L M hp => ?_)
  obtain ⟨r2_, F⟩ := hp
  obtain rfl : r2 = 0 := in_none r2_
  exact g_zret C hrt rfl dX8_isWalker_12 (by decide) (by decide) ⟨by decide, F⟩
set_option maxHeartbeats 4000000 in
set_option maxRecDepth 100000 in
theorem c_X8_walker (l : Launch) (G : va_G) {cy : Nat → ClassId} {L : List Nat} {M : Nat → va_E} {b : Nat → Nat} {ts : Int32} {pn : Nat → Int32}  (F : FW L M (flM cy b ts pn)) (p0 : Int32) (p1 : Int32) : MI l G cy yX8_walker cX8_walker 3 (some .int) 2 0 0 [.ref (b 0), .int p0, .int p1] L M (fun r L2 M2 => r = (-2)) := by
  refine MI.of (own := RX8) rfl (by decide) (Nat.le_of_ble_eq_true rfl) ?_
  intro p e s m below meth c A C hrt hnm
  refine g_aload_n C dX8_walker_0 rfl (j := 0) rfl ?_
  refine g_iload_n C dX8_walker_1 rfl (j := 1) rfl ?_
  refine g_i2l C dX8_walker_2 (v := p0.toInt64) rfl ?_
  refine g_callVI C (c_X8_isWalker_s38 l G F (p0.toInt64)) lk_X8_254 (F.mem 0 rfl) (F.at 0 rfl) rfl rfl dX8_walker_3 (Nat.le_of_ble_eq_true rfl) ⟨by decide, by decide⟩ ⟨by decide, by decide⟩ (fun r1 L M hp => ?_)
  obtain ⟨r1_, F⟩ := hp
  subst r1_
  refine g_if_eq C dX8_walker_6 (tgt := 35) (by decide) (fun _ => ?_) (fun q => absurd (by decide) q)
  refine g_bipush C dX8_walker_35 (v := -2) (by decide) ?_
  exact g_iret C hrt dX8_walker_37 (by decide) (by decide) (by decide)
set_option maxHeartbeats 4000000 in
set_option maxRecDepth 100000 in
theorem c_X8_doors (l : Launch) (G : va_G) {cy : Nat → ClassId} {L : List Nat} {M : Nat → va_E} {b : Nat → Nat} {ts : Int32} {pn : Nat → Int32}  (F : FW L M (flM cy b ts pn)) (p0 : Int32) : MI l G cy yX8_doors cX8_doors 4 (some .int) 2 0 0 [.ref (b 0), .int p0] L M (fun r L2 M2 => r = (-2)) := by
  refine MI.of (own := RX8) rfl (by decide) (Nat.le_of_ble_eq_true rfl) ?_
  intro p e s m below meth c A C hrt hnm
  refine g_aload_n C dX8_doors_0 rfl (j := 0) rfl ?_
  refine g_iload_n C dX8_doors_1 rfl (j := 1) rfl ?_
  refine g_i2l C dX8_doors_2 (v := p0.toInt64) rfl ?_
  refine g_callVI C (c_X8_isPost_s36 l G F (p0.toInt64)) lk_X8_112 (F.mem 0 rfl) (F.at 0 rfl) rfl rfl dX8_doors_3 (Nat.le_of_ble_eq_true rfl) ⟨by decide, by decide⟩ ⟨by decide, by decide⟩ (fun r1 L M hp => ?_)
  obtain ⟨r1_, F⟩ := hp
  subst r1_
  refine g_if_ne C dX8_doors_6 (tgt := 12) (by decide) (fun q => absurd (by decide) q) (fun _ => ?_)
  refine g_bipush C dX8_doors_9 (v := -2) (by decide) ?_
  exact g_iret C hrt dX8_doors_11 (by decide) (by decide) (by decide)
set_option maxHeartbeats 4000000 in
set_option maxRecDepth 100000 in
theorem c_X8_isHeath_s39 (l : Launch) (G : va_G) {cy : Nat → ClassId} {L : List Nat} {M : Nat → va_E} {b : Nat → Nat} {pn : Nat → Int32} {ts : Int32}  (F : FW L M (flM cy b ts pn))  : MI l G cy yX8_isHeath cX8_isHeath 1 (some .boolean) 0 0 0 [.ref (b 0)] L M (fun r L2 M2 => r = (0) ∧ FW L2 M2 (flM cy b ts pn)) := by
  refine MI.of (own := RX8) rfl (by decide) (Nat.le_of_ble_eq_true rfl) ?_
  intro p e s m below meth c A C hrt hnm
  refine g_aload_n C dX8_isHeath_0 rfl (j := 0) rfl ?_
  refine h_get C F 0 rfl fk_X8_9 dX8_isHeath_1 rfl ?_
  refine g_bipush C dX8_isHeath_4 (v := 9) (by decide) ?_
  refine h_iald C F 1 rfl dX8_isHeath_6 (vp_in_iff.mpr (by decide)) (v := 0) rfl ?_
  refine g_if_le C dX8_isHeath_7 (tgt := 14) (by decide) (fun _ => ?_) (fun q => absurd (by decide) q)
  refine g_iconst C dX8_isHeath_14 (v := 0) (by decide) ?_
  exact g_zret C hrt rfl dX8_isHeath_15 (by decide) (by decide) ⟨by decide, F⟩
set_option maxHeartbeats 4000000 in
set_option maxRecDepth 100000 in
theorem c_X8_armless (l : Launch) (G : va_G) {cy : Nat → ClassId} {L : List Nat} {M : Nat → va_E} {b : Nat → Nat} {ts : Int32} {pn : Nat → Int32}  (F : FW L M (flM cy b ts pn))  : MI l G cy yX8_armless cX8_armless 3 (some .int) 1 0 0 [.ref (b 0)] L M (fun r L2 M2 => r = (-2)) := by
  refine MI.of (own := RX8) rfl (by decide) (Nat.le_of_ble_eq_true rfl) ?_
  intro p e s m below meth c A C hrt hnm
  refine g_aload_n C dX8_armless_0 rfl (j := 0) rfl ?_
  refine g_callVI C (c_X8_isHeath_s39 l G F ) lk_X8_102 (F.mem 0 rfl) (F.at 0 rfl) rfl rfl dX8_armless_1 (Nat.le_of_ble_eq_true rfl) ⟨by decide, by decide⟩ ⟨by decide, by decide⟩ (fun r1 L M hp => ?_)
  obtain ⟨r1_, F⟩ := hp
  subst r1_
  refine g_if_ne C dX8_armless_4 (tgt := 10) (by decide) (fun q => absurd (by decide) q) (fun _ => ?_)
  refine g_bipush C dX8_armless_7 (v := -2) (by decide) ?_
  exact g_iret C hrt dX8_armless_9 (by decide) (by decide) (by decide)
set_option maxHeartbeats 4000000 in
set_option maxRecDepth 100000 in
theorem c_X8_armOf_s40 (l : Launch) (G : va_G) {cy : Nat → ClassId} {L : List Nat} {M : Nat → va_E} {b : Nat → Nat} {pn : Nat → Int32} {ts : Int32}  (F : FW L M (flM cy b ts pn))  : MI l G cy yX8_armOf cX8_armOf 2 (some .int) 0 0 0 [.ref (b 0), .int 0] L M (fun r L2 M2 => r = (0) ∧ FW L2 M2 (flM cy b ts pn)) := by
  refine MI.of (own := RX8) rfl (by decide) (Nat.le_of_ble_eq_true rfl) ?_
  intro p e s m below meth c A C hrt hnm
  refine g_aload_n C dX8_armOf_0 rfl (j := 0) rfl ?_
  refine h_get C F 0 rfl fk_X8_9 dX8_armOf_1 rfl ?_
  refine g_bipush C dX8_armOf_4 (v := 14) (by decide) ?_
  refine g_bipush C dX8_armOf_6 (v := 6) (by decide) ?_
  refine g_iload_n C dX8_armOf_8 rfl (j := 1) rfl ?_
  refine g_imul C dX8_armOf_9 ?_
  refine Go.top (v := .int 0) (by decide) ?_
  refine g_iadd C dX8_armOf_10 ?_
  refine Go.top (v := .int 14) (by decide) ?_
  refine g_iconst C dX8_armOf_11 (v := 1) (by decide) ?_
  refine g_iadd C dX8_armOf_12 ?_
  refine Go.top (v := .int 15) (by decide) ?_
  refine g_iconst C dX8_armOf_13 (v := 4) (by decide) ?_
  refine g_iadd C dX8_armOf_14 ?_
  refine Go.top (v := .int 19) (by decide) ?_
  refine h_iald C F 1 rfl dX8_armOf_15 (vp_in_iff.mpr (by decide)) (v := 0) rfl ?_
  exact g_iret C hrt dX8_armOf_16 (by decide) (by decide) ⟨by decide, F⟩
set_option maxHeartbeats 4000000 in
set_option maxRecDepth 100000 in
theorem c_X8_armOf_s41 (l : Launch) (G : va_G) {cy : Nat → ClassId} {L : List Nat} {M : Nat → va_E} {b : Nat → Nat} {pn : Nat → Int32} {ts : Int32}  (F : FW L M (flM cy b ts pn))  : MI l G cy yX8_armOf cX8_armOf 2 (some .int) 0 0 0 [.ref (b 0), .int 1] L M (fun r L2 M2 => r = (0) ∧ FW L2 M2 (flM cy b ts pn)) := by
  refine MI.of (own := RX8) rfl (by decide) (Nat.le_of_ble_eq_true rfl) ?_
  intro p e s m below meth c A C hrt hnm
  refine g_aload_n C dX8_armOf_0 rfl (j := 0) rfl ?_
  refine h_get C F 0 rfl fk_X8_9 dX8_armOf_1 rfl ?_
  refine g_bipush C dX8_armOf_4 (v := 14) (by decide) ?_
  refine g_bipush C dX8_armOf_6 (v := 6) (by decide) ?_
  refine g_iload_n C dX8_armOf_8 rfl (j := 1) rfl ?_
  refine g_imul C dX8_armOf_9 ?_
  refine Go.top (v := .int 6) (by decide) ?_
  refine g_iadd C dX8_armOf_10 ?_
  refine Go.top (v := .int 20) (by decide) ?_
  refine g_iconst C dX8_armOf_11 (v := 1) (by decide) ?_
  refine g_iadd C dX8_armOf_12 ?_
  refine Go.top (v := .int 21) (by decide) ?_
  refine g_iconst C dX8_armOf_13 (v := 4) (by decide) ?_
  refine g_iadd C dX8_armOf_14 ?_
  refine Go.top (v := .int 25) (by decide) ?_
  refine h_iald C F 1 rfl dX8_armOf_15 (vp_in_iff.mpr (by decide)) (v := 0) rfl ?_
  exact g_iret C hrt dX8_armOf_16 (by decide) (by decide) ⟨by decide, F⟩
set_option maxHeartbeats 4000000 in
set_option maxRecDepth 100000 in
theorem c_X8_armOf_s42 (l : Launch) (G : va_G) {cy : Nat → ClassId} {L : List Nat} {M : Nat → va_E} {b : Nat → Nat} {pn : Nat → Int32} {ts : Int32}  (F : FW L M (flM cy b ts pn))  : MI l G cy yX8_armOf cX8_armOf 2 (some .int) 0 0 0 [.ref (b 0), .int 2] L M (fun r L2 M2 => r = (0) ∧ FW L2 M2 (flM cy b ts pn)) := by
  refine MI.of (own := RX8) rfl (by decide) (Nat.le_of_ble_eq_true rfl) ?_
  intro p e s m below meth c A C hrt hnm
  refine g_aload_n C dX8_armOf_0 rfl (j := 0) rfl ?_
  refine h_get C F 0 rfl fk_X8_9 dX8_armOf_1 rfl ?_
  refine g_bipush C dX8_armOf_4 (v := 14) (by decide) ?_
  refine g_bipush C dX8_armOf_6 (v := 6) (by decide) ?_
  refine g_iload_n C dX8_armOf_8 rfl (j := 1) rfl ?_
  refine g_imul C dX8_armOf_9 ?_
  refine Go.top (v := .int 12) (by decide) ?_
  refine g_iadd C dX8_armOf_10 ?_
  refine Go.top (v := .int 26) (by decide) ?_
  refine g_iconst C dX8_armOf_11 (v := 1) (by decide) ?_
  refine g_iadd C dX8_armOf_12 ?_
  refine Go.top (v := .int 27) (by decide) ?_
  refine g_iconst C dX8_armOf_13 (v := 4) (by decide) ?_
  refine g_iadd C dX8_armOf_14 ?_
  refine Go.top (v := .int 31) (by decide) ?_
  refine h_iald C F 1 rfl dX8_armOf_15 (vp_in_iff.mpr (by decide)) (v := 0) rfl ?_
  exact g_iret C hrt dX8_armOf_16 (by decide) (by decide) ⟨by decide, F⟩
set_option maxHeartbeats 4000000 in
set_option maxRecDepth 100000 in
theorem c_X8_armOf_s43 (l : Launch) (G : va_G) {cy : Nat → ClassId} {L : List Nat} {M : Nat → va_E} {b : Nat → Nat} {pn : Nat → Int32} {ts : Int32}  (F : FW L M (flM cy b ts pn))  : MI l G cy yX8_armOf cX8_armOf 2 (some .int) 0 0 0 [.ref (b 0), .int 3] L M (fun r L2 M2 => r = (0) ∧ FW L2 M2 (flM cy b ts pn)) := by
  refine MI.of (own := RX8) rfl (by decide) (Nat.le_of_ble_eq_true rfl) ?_
  intro p e s m below meth c A C hrt hnm
  refine g_aload_n C dX8_armOf_0 rfl (j := 0) rfl ?_
  refine h_get C F 0 rfl fk_X8_9 dX8_armOf_1 rfl ?_
  refine g_bipush C dX8_armOf_4 (v := 14) (by decide) ?_
  refine g_bipush C dX8_armOf_6 (v := 6) (by decide) ?_
  refine g_iload_n C dX8_armOf_8 rfl (j := 1) rfl ?_
  refine g_imul C dX8_armOf_9 ?_
  refine Go.top (v := .int 18) (by decide) ?_
  refine g_iadd C dX8_armOf_10 ?_
  refine Go.top (v := .int 32) (by decide) ?_
  refine g_iconst C dX8_armOf_11 (v := 1) (by decide) ?_
  refine g_iadd C dX8_armOf_12 ?_
  refine Go.top (v := .int 33) (by decide) ?_
  refine g_iconst C dX8_armOf_13 (v := 4) (by decide) ?_
  refine g_iadd C dX8_armOf_14 ?_
  refine Go.top (v := .int 37) (by decide) ?_
  refine h_iald C F 1 rfl dX8_armOf_15 (vp_in_iff.mpr (by decide)) (v := 0) rfl ?_
  exact g_iret C hrt dX8_armOf_16 (by decide) (by decide) ⟨by decide, F⟩
set_option maxHeartbeats 4000000 in
set_option maxRecDepth 100000 in
theorem c_X8_armOf_s44 (l : Launch) (G : va_G) {cy : Nat → ClassId} {L : List Nat} {M : Nat → va_E} {b : Nat → Nat} {pn : Nat → Int32} {ts : Int32}  (F : FW L M (flM cy b ts pn))  : MI l G cy yX8_armOf cX8_armOf 2 (some .int) 0 0 0 [.ref (b 0), .int 4] L M (fun r L2 M2 => r = (0) ∧ FW L2 M2 (flM cy b ts pn)) := by
  refine MI.of (own := RX8) rfl (by decide) (Nat.le_of_ble_eq_true rfl) ?_
  intro p e s m below meth c A C hrt hnm
  refine g_aload_n C dX8_armOf_0 rfl (j := 0) rfl ?_
  refine h_get C F 0 rfl fk_X8_9 dX8_armOf_1 rfl ?_
  refine g_bipush C dX8_armOf_4 (v := 14) (by decide) ?_
  refine g_bipush C dX8_armOf_6 (v := 6) (by decide) ?_
  refine g_iload_n C dX8_armOf_8 rfl (j := 1) rfl ?_
  refine g_imul C dX8_armOf_9 ?_
  refine Go.top (v := .int 24) (by decide) ?_
  refine g_iadd C dX8_armOf_10 ?_
  refine Go.top (v := .int 38) (by decide) ?_
  refine g_iconst C dX8_armOf_11 (v := 1) (by decide) ?_
  refine g_iadd C dX8_armOf_12 ?_
  refine Go.top (v := .int 39) (by decide) ?_
  refine g_iconst C dX8_armOf_13 (v := 4) (by decide) ?_
  refine g_iadd C dX8_armOf_14 ?_
  refine Go.top (v := .int 43) (by decide) ?_
  refine h_iald C F 1 rfl dX8_armOf_15 (vp_in_iff.mpr (by decide)) (v := 0) rfl ?_
  exact g_iret C hrt dX8_armOf_16 (by decide) (by decide) ⟨by decide, F⟩
set_option maxHeartbeats 4000000 in
set_option maxRecDepth 100000 in
theorem c_X8_armOf_s45 (l : Launch) (G : va_G) {cy : Nat → ClassId} {L : List Nat} {M : Nat → va_E} {b : Nat → Nat} {pn : Nat → Int32} {ts : Int32}  (F : FW L M (flM cy b ts pn))  : MI l G cy yX8_armOf cX8_armOf 2 (some .int) 0 0 0 [.ref (b 0), .int 5] L M (fun r L2 M2 => r = (0) ∧ FW L2 M2 (flM cy b ts pn)) := by
  refine MI.of (own := RX8) rfl (by decide) (Nat.le_of_ble_eq_true rfl) ?_
  intro p e s m below meth c A C hrt hnm
  refine g_aload_n C dX8_armOf_0 rfl (j := 0) rfl ?_
  refine h_get C F 0 rfl fk_X8_9 dX8_armOf_1 rfl ?_
  refine g_bipush C dX8_armOf_4 (v := 14) (by decide) ?_
  refine g_bipush C dX8_armOf_6 (v := 6) (by decide) ?_
  refine g_iload_n C dX8_armOf_8 rfl (j := 1) rfl ?_
  refine g_imul C dX8_armOf_9 ?_
  refine Go.top (v := .int 30) (by decide) ?_
  refine g_iadd C dX8_armOf_10 ?_
  refine Go.top (v := .int 44) (by decide) ?_
  refine g_iconst C dX8_armOf_11 (v := 1) (by decide) ?_
  refine g_iadd C dX8_armOf_12 ?_
  refine Go.top (v := .int 45) (by decide) ?_
  refine g_iconst C dX8_armOf_13 (v := 4) (by decide) ?_
  refine g_iadd C dX8_armOf_14 ?_
  refine Go.top (v := .int 49) (by decide) ?_
  refine h_iald C F 1 rfl dX8_armOf_15 (vp_in_iff.mpr (by decide)) (v := 0) rfl ?_
  exact g_iret C hrt dX8_armOf_16 (by decide) (by decide) ⟨by decide, F⟩
set_option maxHeartbeats 4000000 in
set_option maxRecDepth 100000 in
theorem c_X8_armOf_s46 (l : Launch) (G : va_G) {cy : Nat → ClassId} {L : List Nat} {M : Nat → va_E} {b : Nat → Nat} {pn : Nat → Int32} {ts : Int32}  (F : FW L M (flM cy b ts pn))  : MI l G cy yX8_armOf cX8_armOf 2 (some .int) 0 0 0 [.ref (b 0), .int 6] L M (fun r L2 M2 => r = (0) ∧ FW L2 M2 (flM cy b ts pn)) := by
  refine MI.of (own := RX8) rfl (by decide) (Nat.le_of_ble_eq_true rfl) ?_
  intro p e s m below meth c A C hrt hnm
  refine g_aload_n C dX8_armOf_0 rfl (j := 0) rfl ?_
  refine h_get C F 0 rfl fk_X8_9 dX8_armOf_1 rfl ?_
  refine g_bipush C dX8_armOf_4 (v := 14) (by decide) ?_
  refine g_bipush C dX8_armOf_6 (v := 6) (by decide) ?_
  refine g_iload_n C dX8_armOf_8 rfl (j := 1) rfl ?_
  refine g_imul C dX8_armOf_9 ?_
  refine Go.top (v := .int 36) (by decide) ?_
  refine g_iadd C dX8_armOf_10 ?_
  refine Go.top (v := .int 50) (by decide) ?_
  refine g_iconst C dX8_armOf_11 (v := 1) (by decide) ?_
  refine g_iadd C dX8_armOf_12 ?_
  refine Go.top (v := .int 51) (by decide) ?_
  refine g_iconst C dX8_armOf_13 (v := 4) (by decide) ?_
  refine g_iadd C dX8_armOf_14 ?_
  refine Go.top (v := .int 55) (by decide) ?_
  refine h_iald C F 1 rfl dX8_armOf_15 (vp_in_iff.mpr (by decide)) (v := 0) rfl ?_
  exact g_iret C hrt dX8_armOf_16 (by decide) (by decide) ⟨by decide, F⟩
set_option maxHeartbeats 4000000 in
set_option maxRecDepth 100000 in
theorem c_X8_asItIs_s47 (l : Launch) (G : va_G) {cy : Nat → ClassId} {L : List Nat} {M : Nat → va_E} {b : Nat → Nat} {pn : Nat → Int32} {ts : Int32}  (F : FW L M (flM cy b ts pn))  : MV l G cy yX8_asItIs cX8_asItIs 2 none 1 0 0 [.ref (b 0)] L M (fun L2 M2 => FW L2 M2 (flM cy b 127 pn)) := by
  refine MV.of (own := RX8) rfl (by decide) (Nat.le_of_ble_eq_true rfl) ?_
  intro p e s m below meth c A C hrt hnm
  refine g_aload_n C dX8_asItIs_0 rfl (j := 0) rfl ?_
  refine g_aload_n C dX8_asItIs_1 rfl (j := 0) rfl ?_
  refine h_get C F 0 rfl fk_X8_9 dX8_asItIs_2 rfl ?_
  refine g_iconst C dX8_asItIs_5 (v := 1) (by decide) ?_
  refine h_iald C F 1 rfl dX8_asItIs_6 (vp_in_iff.mpr (by decide)) (v := 0) rfl ?_
  refine h_put C F 0 rfl fk_X8_257 dX8_asItIs_7 rfl rfl (Nat.le_of_ble_eq_true rfl) (fl2 := flM cy b ts pn) rfl (fun M F => ?_)
  refine g_aload_n C dX8_asItIs_10 rfl (j := 0) rfl ?_
  refine g_iconst C dX8_asItIs_11 (v := 0) (by decide) ?_
  refine h_put C F 0 rfl fk_X8_260 dX8_asItIs_12 rfl rfl (Nat.le_of_ble_eq_true rfl) (fl2 := flM cy b ts pn) rfl (fun M F => ?_)
  refine g_aload_n C dX8_asItIs_15 rfl (j := 0) rfl ?_
  refine g_bipush C dX8_asItIs_16 (v := 127) (by decide) ?_
  refine h_put C F 0 rfl fk_X8_263 dX8_asItIs_18 rfl rfl (Nat.le_of_ble_eq_true rfl) (fl2 := flM cy b 127 pn) rfl (fun M F => ?_)
  refine g_iconst C dX8_asItIs_21 (v := 0) (by decide) ?_
  refine g_istore_n C dX8_asItIs_22 rfl (by decide) (lv2 := [(1, .int 0), (0, .ref (b 0))]) rfl ?_
  refine g_iload_n C dX8_asItIs_23 rfl (j := 0) rfl ?_
  refine g_bipush C dX8_asItIs_24 (v := 7) (by decide) ?_
  refine g_icmp_ge C dX8_asItIs_26 (tgt := 46) (by decide) (fun q => absurd q (by decide)) (fun _ => ?_)
  refine g_aload_n C dX8_asItIs_29 rfl (j := 1) rfl ?_
  refine h_get C F 0 rfl fk_X8_34 dX8_asItIs_30 rfl ?_
  refine g_iload_n C dX8_asItIs_33 rfl (j := 0) rfl ?_
  refine g_aload_n C dX8_asItIs_34 rfl (j := 1) rfl ?_
  refine g_iload_n C dX8_asItIs_35 rfl (j := 0) rfl ?_
  refine g_callVI C (c_X8_armOf_s40 l G F ) lk_X8_251 (F.mem 0 rfl) (F.at 0 rfl) rfl rfl dX8_asItIs_36 (Nat.le_of_ble_eq_true rfl) ⟨by decide, by decide⟩ ⟨by decide, by decide⟩ (fun r1 L M hp => ?_)
  obtain ⟨r1_, F⟩ := hp
  subst r1_
  refine h_iast C F 7 rfl dX8_asItIs_39 (vp_in_iff.mpr (by decide)) (g := (fun _ => 0)) (upd0 _) (fl2 := flM cy b 127 pn) rfl (fun M F => ?_)
  refine g_iinc C dX8_asItIs_40 (j := 0) rfl (v := 1) (by decide) (by decide) (lv2 := [(1, .int 1), (0, .ref (b 0))]) rfl ?_
  refine g_goto C dX8_asItIs_43 (tgt := 23) (by decide) ?_
  refine g_iload_n C dX8_asItIs_23 rfl (j := 0) rfl ?_
  refine g_bipush C dX8_asItIs_24 (v := 7) (by decide) ?_
  refine g_icmp_ge C dX8_asItIs_26 (tgt := 46) (by decide) (fun q => absurd q (by decide)) (fun _ => ?_)
  refine g_aload_n C dX8_asItIs_29 rfl (j := 1) rfl ?_
  refine h_get C F 0 rfl fk_X8_34 dX8_asItIs_30 rfl ?_
  refine g_iload_n C dX8_asItIs_33 rfl (j := 0) rfl ?_
  refine g_aload_n C dX8_asItIs_34 rfl (j := 1) rfl ?_
  refine g_iload_n C dX8_asItIs_35 rfl (j := 0) rfl ?_
  refine g_callVI C (c_X8_armOf_s41 l G F ) lk_X8_251 (F.mem 0 rfl) (F.at 0 rfl) rfl rfl dX8_asItIs_36 (Nat.le_of_ble_eq_true rfl) ⟨by decide, by decide⟩ ⟨by decide, by decide⟩ (fun r2 L M hp => ?_)
  obtain ⟨r2_, F⟩ := hp
  subst r2_
  refine h_iast C F 7 rfl dX8_asItIs_39 (vp_in_iff.mpr (by decide)) (g := (fun _ => 0)) (upd0 _) (fl2 := flM cy b 127 pn) rfl (fun M F => ?_)
  refine g_iinc C dX8_asItIs_40 (j := 0) rfl (v := 2) (by decide) (by decide) (lv2 := [(1, .int 2), (0, .ref (b 0))]) rfl ?_
  refine g_goto C dX8_asItIs_43 (tgt := 23) (by decide) ?_
  refine g_iload_n C dX8_asItIs_23 rfl (j := 0) rfl ?_
  refine g_bipush C dX8_asItIs_24 (v := 7) (by decide) ?_
  refine g_icmp_ge C dX8_asItIs_26 (tgt := 46) (by decide) (fun q => absurd q (by decide)) (fun _ => ?_)
  refine g_aload_n C dX8_asItIs_29 rfl (j := 1) rfl ?_
  refine h_get C F 0 rfl fk_X8_34 dX8_asItIs_30 rfl ?_
  refine g_iload_n C dX8_asItIs_33 rfl (j := 0) rfl ?_
  refine g_aload_n C dX8_asItIs_34 rfl (j := 1) rfl ?_
  refine g_iload_n C dX8_asItIs_35 rfl (j := 0) rfl ?_
  refine g_callVI C (c_X8_armOf_s42 l G F ) lk_X8_251 (F.mem 0 rfl) (F.at 0 rfl) rfl rfl dX8_asItIs_36 (Nat.le_of_ble_eq_true rfl) ⟨by decide, by decide⟩ ⟨by decide, by decide⟩ (fun r3 L M hp => ?_)
  obtain ⟨r3_, F⟩ := hp
  subst r3_
  refine h_iast C F 7 rfl dX8_asItIs_39 (vp_in_iff.mpr (by decide)) (g := (fun _ => 0)) (upd0 _) (fl2 := flM cy b 127 pn) rfl (fun M F => ?_)
  refine g_iinc C dX8_asItIs_40 (j := 0) rfl (v := 3) (by decide) (by decide) (lv2 := [(1, .int 3), (0, .ref (b 0))]) rfl ?_
  refine g_goto C dX8_asItIs_43 (tgt := 23) (by decide) ?_
  refine g_iload_n C dX8_asItIs_23 rfl (j := 0) rfl ?_
  refine g_bipush C dX8_asItIs_24 (v := 7) (by decide) ?_
  refine g_icmp_ge C dX8_asItIs_26 (tgt := 46) (by decide) (fun q => absurd q (by decide)) (fun _ => ?_)
  refine g_aload_n C dX8_asItIs_29 rfl (j := 1) rfl ?_
  refine h_get C F 0 rfl fk_X8_34 dX8_asItIs_30 rfl ?_
  refine g_iload_n C dX8_asItIs_33 rfl (j := 0) rfl ?_
  refine g_aload_n C dX8_asItIs_34 rfl (j := 1) rfl ?_
  refine g_iload_n C dX8_asItIs_35 rfl (j := 0) rfl ?_
  refine g_callVI C (c_X8_armOf_s43 l G F ) lk_X8_251 (F.mem 0 rfl) (F.at 0 rfl) rfl rfl dX8_asItIs_36 (Nat.le_of_ble_eq_true rfl) ⟨by decide, by decide⟩ ⟨by decide, by decide⟩ (fun r4 L M hp => ?_)
  obtain ⟨r4_, F⟩ := hp
  subst r4_
  refine h_iast C F 7 rfl dX8_asItIs_39 (vp_in_iff.mpr (by decide)) (g := (fun _ => 0)) (upd0 _) (fl2 := flM cy b 127 pn) rfl (fun M F => ?_)
  refine g_iinc C dX8_asItIs_40 (j := 0) rfl (v := 4) (by decide) (by decide) (lv2 := [(1, .int 4), (0, .ref (b 0))]) rfl ?_
  refine g_goto C dX8_asItIs_43 (tgt := 23) (by decide) ?_
  refine g_iload_n C dX8_asItIs_23 rfl (j := 0) rfl ?_
  refine g_bipush C dX8_asItIs_24 (v := 7) (by decide) ?_
  refine g_icmp_ge C dX8_asItIs_26 (tgt := 46) (by decide) (fun q => absurd q (by decide)) (fun _ => ?_)
  refine g_aload_n C dX8_asItIs_29 rfl (j := 1) rfl ?_
  refine h_get C F 0 rfl fk_X8_34 dX8_asItIs_30 rfl ?_
  refine g_iload_n C dX8_asItIs_33 rfl (j := 0) rfl ?_
  refine g_aload_n C dX8_asItIs_34 rfl (j := 1) rfl ?_
  refine g_iload_n C dX8_asItIs_35 rfl (j := 0) rfl ?_
  refine g_callVI C (c_X8_armOf_s44 l G F ) lk_X8_251 (F.mem 0 rfl) (F.at 0 rfl) rfl rfl dX8_asItIs_36 (Nat.le_of_ble_eq_true rfl) ⟨by decide, by decide⟩ ⟨by decide, by decide⟩ (fun r5 L M hp => ?_)
  obtain ⟨r5_, F⟩ := hp
  subst r5_
  refine h_iast C F 7 rfl dX8_asItIs_39 (vp_in_iff.mpr (by decide)) (g := (fun _ => 0)) (upd0 _) (fl2 := flM cy b 127 pn) rfl (fun M F => ?_)
  refine g_iinc C dX8_asItIs_40 (j := 0) rfl (v := 5) (by decide) (by decide) (lv2 := [(1, .int 5), (0, .ref (b 0))]) rfl ?_
  refine g_goto C dX8_asItIs_43 (tgt := 23) (by decide) ?_
  refine g_iload_n C dX8_asItIs_23 rfl (j := 0) rfl ?_
  refine g_bipush C dX8_asItIs_24 (v := 7) (by decide) ?_
  refine g_icmp_ge C dX8_asItIs_26 (tgt := 46) (by decide) (fun q => absurd q (by decide)) (fun _ => ?_)
  refine g_aload_n C dX8_asItIs_29 rfl (j := 1) rfl ?_
  refine h_get C F 0 rfl fk_X8_34 dX8_asItIs_30 rfl ?_
  refine g_iload_n C dX8_asItIs_33 rfl (j := 0) rfl ?_
  refine g_aload_n C dX8_asItIs_34 rfl (j := 1) rfl ?_
  refine g_iload_n C dX8_asItIs_35 rfl (j := 0) rfl ?_
  refine g_callVI C (c_X8_armOf_s45 l G F ) lk_X8_251 (F.mem 0 rfl) (F.at 0 rfl) rfl rfl dX8_asItIs_36 (Nat.le_of_ble_eq_true rfl) ⟨by decide, by decide⟩ ⟨by decide, by decide⟩ (fun r6 L M hp => ?_)
  obtain ⟨r6_, F⟩ := hp
  subst r6_
  refine h_iast C F 7 rfl dX8_asItIs_39 (vp_in_iff.mpr (by decide)) (g := (fun _ => 0)) (upd0 _) (fl2 := flM cy b 127 pn) rfl (fun M F => ?_)
  refine g_iinc C dX8_asItIs_40 (j := 0) rfl (v := 6) (by decide) (by decide) (lv2 := [(1, .int 6), (0, .ref (b 0))]) rfl ?_
  refine g_goto C dX8_asItIs_43 (tgt := 23) (by decide) ?_
  refine g_iload_n C dX8_asItIs_23 rfl (j := 0) rfl ?_
  refine g_bipush C dX8_asItIs_24 (v := 7) (by decide) ?_
  refine g_icmp_ge C dX8_asItIs_26 (tgt := 46) (by decide) (fun q => absurd q (by decide)) (fun _ => ?_)
  refine g_aload_n C dX8_asItIs_29 rfl (j := 1) rfl ?_
  refine h_get C F 0 rfl fk_X8_34 dX8_asItIs_30 rfl ?_
  refine g_iload_n C dX8_asItIs_33 rfl (j := 0) rfl ?_
  refine g_aload_n C dX8_asItIs_34 rfl (j := 1) rfl ?_
  refine g_iload_n C dX8_asItIs_35 rfl (j := 0) rfl ?_
  refine g_callVI C (c_X8_armOf_s46 l G F ) lk_X8_251 (F.mem 0 rfl) (F.at 0 rfl) rfl rfl dX8_asItIs_36 (Nat.le_of_ble_eq_true rfl) ⟨by decide, by decide⟩ ⟨by decide, by decide⟩ (fun r7 L M hp => ?_)
  obtain ⟨r7_, F⟩ := hp
  subst r7_
  refine h_iast C F 7 rfl dX8_asItIs_39 (vp_in_iff.mpr (by decide)) (g := (fun _ => 0)) (upd0 _) (fl2 := flM cy b 127 pn) rfl (fun M F => ?_)
  refine g_iinc C dX8_asItIs_40 (j := 0) rfl (v := 7) (by decide) (by decide) (lv2 := [(1, .int 7), (0, .ref (b 0))]) rfl ?_
  refine g_goto C dX8_asItIs_43 (tgt := 23) (by decide) ?_
  refine g_iload_n C dX8_asItIs_23 rfl (j := 0) rfl ?_
  refine g_bipush C dX8_asItIs_24 (v := 7) (by decide) ?_
  refine g_icmp_ge C dX8_asItIs_26 (tgt := 46) (by decide) (fun _ => ?_) (fun q => absurd (by decide) q)
  refine g_iconst C dX8_asItIs_46 (v := 0) (by decide) ?_
  refine g_istore_n C dX8_asItIs_47 rfl (by decide) (lv2 := [(1, .int 0), (0, .ref (b 0))]) rfl ?_
  refine g_iload_n C dX8_asItIs_48 rfl (j := 0) rfl ?_
  refine g_bipush C dX8_asItIs_49 (v := 8) (by decide) ?_
  refine g_icmp_ge C dX8_asItIs_51 (tgt := 79) (by decide) (fun q => absurd q (by decide)) (fun _ => ?_)
  refine g_aload_n C dX8_asItIs_54 rfl (j := 1) rfl ?_
  refine h_get C F 0 rfl fk_X8_37 dX8_asItIs_55 rfl ?_
  refine g_iload_n C dX8_asItIs_58 rfl (j := 0) rfl ?_
  refine g_aload_n C dX8_asItIs_59 rfl (j := 1) rfl ?_
  refine h_get C F 0 rfl fk_X8_9 dX8_asItIs_60 rfl ?_
  refine g_bipush C dX8_asItIs_63 (v := 56) (by decide) ?_
  refine g_iconst C dX8_asItIs_65 (v := 2) (by decide) ?_
  refine g_iload_n C dX8_asItIs_66 rfl (j := 0) rfl ?_
  refine g_imul C dX8_asItIs_67 ?_
  refine Go.top (v := .int 0) (by decide) ?_
  refine g_iadd C dX8_asItIs_68 ?_
  refine Go.top (v := .int 56) (by decide) ?_
  refine g_iconst C dX8_asItIs_69 (v := 1) (by decide) ?_
  refine g_iadd C dX8_asItIs_70 ?_
  refine Go.top (v := .int 57) (by decide) ?_
  refine h_iald C F 1 rfl dX8_asItIs_71 (vp_in_iff.mpr (by decide)) (v := 0) rfl ?_
  refine h_iast C F 8 rfl dX8_asItIs_72 (vp_in_iff.mpr (by decide)) (g := (fun _ => 0)) (upd0 _) (fl2 := flM cy b 127 pn) rfl (fun M F => ?_)
  refine g_iinc C dX8_asItIs_73 (j := 0) rfl (v := 1) (by decide) (by decide) (lv2 := [(1, .int 1), (0, .ref (b 0))]) rfl ?_
  refine g_goto C dX8_asItIs_76 (tgt := 48) (by decide) ?_
  refine g_iload_n C dX8_asItIs_48 rfl (j := 0) rfl ?_
  refine g_bipush C dX8_asItIs_49 (v := 8) (by decide) ?_
  refine g_icmp_ge C dX8_asItIs_51 (tgt := 79) (by decide) (fun q => absurd q (by decide)) (fun _ => ?_)
  refine g_aload_n C dX8_asItIs_54 rfl (j := 1) rfl ?_
  refine h_get C F 0 rfl fk_X8_37 dX8_asItIs_55 rfl ?_
  refine g_iload_n C dX8_asItIs_58 rfl (j := 0) rfl ?_
  refine g_aload_n C dX8_asItIs_59 rfl (j := 1) rfl ?_
  refine h_get C F 0 rfl fk_X8_9 dX8_asItIs_60 rfl ?_
  refine g_bipush C dX8_asItIs_63 (v := 56) (by decide) ?_
  refine g_iconst C dX8_asItIs_65 (v := 2) (by decide) ?_
  refine g_iload_n C dX8_asItIs_66 rfl (j := 0) rfl ?_
  refine g_imul C dX8_asItIs_67 ?_
  refine Go.top (v := .int 2) (by decide) ?_
  refine g_iadd C dX8_asItIs_68 ?_
  refine Go.top (v := .int 58) (by decide) ?_
  refine g_iconst C dX8_asItIs_69 (v := 1) (by decide) ?_
  refine g_iadd C dX8_asItIs_70 ?_
  refine Go.top (v := .int 59) (by decide) ?_
  refine h_iald C F 1 rfl dX8_asItIs_71 (vp_in_iff.mpr (by decide)) (v := 0) rfl ?_
  refine h_iast C F 8 rfl dX8_asItIs_72 (vp_in_iff.mpr (by decide)) (g := (fun _ => 0)) (upd0 _) (fl2 := flM cy b 127 pn) rfl (fun M F => ?_)
  refine g_iinc C dX8_asItIs_73 (j := 0) rfl (v := 2) (by decide) (by decide) (lv2 := [(1, .int 2), (0, .ref (b 0))]) rfl ?_
  refine g_goto C dX8_asItIs_76 (tgt := 48) (by decide) ?_
  refine g_iload_n C dX8_asItIs_48 rfl (j := 0) rfl ?_
  refine g_bipush C dX8_asItIs_49 (v := 8) (by decide) ?_
  refine g_icmp_ge C dX8_asItIs_51 (tgt := 79) (by decide) (fun q => absurd q (by decide)) (fun _ => ?_)
  refine g_aload_n C dX8_asItIs_54 rfl (j := 1) rfl ?_
  refine h_get C F 0 rfl fk_X8_37 dX8_asItIs_55 rfl ?_
  refine g_iload_n C dX8_asItIs_58 rfl (j := 0) rfl ?_
  refine g_aload_n C dX8_asItIs_59 rfl (j := 1) rfl ?_
  refine h_get C F 0 rfl fk_X8_9 dX8_asItIs_60 rfl ?_
  refine g_bipush C dX8_asItIs_63 (v := 56) (by decide) ?_
  refine g_iconst C dX8_asItIs_65 (v := 2) (by decide) ?_
  refine g_iload_n C dX8_asItIs_66 rfl (j := 0) rfl ?_
  refine g_imul C dX8_asItIs_67 ?_
  refine Go.top (v := .int 4) (by decide) ?_
  refine g_iadd C dX8_asItIs_68 ?_
  refine Go.top (v := .int 60) (by decide) ?_
  refine g_iconst C dX8_asItIs_69 (v := 1) (by decide) ?_
  refine g_iadd C dX8_asItIs_70 ?_
  refine Go.top (v := .int 61) (by decide) ?_
  refine h_iald C F 1 rfl dX8_asItIs_71 (vp_in_iff.mpr (by decide)) (v := 0) rfl ?_
  refine h_iast C F 8 rfl dX8_asItIs_72 (vp_in_iff.mpr (by decide)) (g := (fun _ => 0)) (upd0 _) (fl2 := flM cy b 127 pn) rfl (fun M F => ?_)
  refine g_iinc C dX8_asItIs_73 (j := 0) rfl (v := 3) (by decide) (by decide) (lv2 := [(1, .int 3), (0, .ref (b 0))]) rfl ?_
  refine g_goto C dX8_asItIs_76 (tgt := 48) (by decide) ?_
  refine g_iload_n C dX8_asItIs_48 rfl (j := 0) rfl ?_
  refine g_bipush C dX8_asItIs_49 (v := 8) (by decide) ?_
  refine g_icmp_ge C dX8_asItIs_51 (tgt := 79) (by decide) (fun q => absurd q (by decide)) (fun _ => ?_)
  refine g_aload_n C dX8_asItIs_54 rfl (j := 1) rfl ?_
  refine h_get C F 0 rfl fk_X8_37 dX8_asItIs_55 rfl ?_
  refine g_iload_n C dX8_asItIs_58 rfl (j := 0) rfl ?_
  refine g_aload_n C dX8_asItIs_59 rfl (j := 1) rfl ?_
  refine h_get C F 0 rfl fk_X8_9 dX8_asItIs_60 rfl ?_
  refine g_bipush C dX8_asItIs_63 (v := 56) (by decide) ?_
  refine g_iconst C dX8_asItIs_65 (v := 2) (by decide) ?_
  refine g_iload_n C dX8_asItIs_66 rfl (j := 0) rfl ?_
  refine g_imul C dX8_asItIs_67 ?_
  refine Go.top (v := .int 6) (by decide) ?_
  refine g_iadd C dX8_asItIs_68 ?_
  refine Go.top (v := .int 62) (by decide) ?_
  refine g_iconst C dX8_asItIs_69 (v := 1) (by decide) ?_
  refine g_iadd C dX8_asItIs_70 ?_
  refine Go.top (v := .int 63) (by decide) ?_
  refine h_iald C F 1 rfl dX8_asItIs_71 (vp_in_iff.mpr (by decide)) (v := 0) rfl ?_
  refine h_iast C F 8 rfl dX8_asItIs_72 (vp_in_iff.mpr (by decide)) (g := (fun _ => 0)) (upd0 _) (fl2 := flM cy b 127 pn) rfl (fun M F => ?_)
  refine g_iinc C dX8_asItIs_73 (j := 0) rfl (v := 4) (by decide) (by decide) (lv2 := [(1, .int 4), (0, .ref (b 0))]) rfl ?_
  refine g_goto C dX8_asItIs_76 (tgt := 48) (by decide) ?_
  refine g_iload_n C dX8_asItIs_48 rfl (j := 0) rfl ?_
  refine g_bipush C dX8_asItIs_49 (v := 8) (by decide) ?_
  refine g_icmp_ge C dX8_asItIs_51 (tgt := 79) (by decide) (fun q => absurd q (by decide)) (fun _ => ?_)
  refine g_aload_n C dX8_asItIs_54 rfl (j := 1) rfl ?_
  refine h_get C F 0 rfl fk_X8_37 dX8_asItIs_55 rfl ?_
  refine g_iload_n C dX8_asItIs_58 rfl (j := 0) rfl ?_
  refine g_aload_n C dX8_asItIs_59 rfl (j := 1) rfl ?_
  refine h_get C F 0 rfl fk_X8_9 dX8_asItIs_60 rfl ?_
  refine g_bipush C dX8_asItIs_63 (v := 56) (by decide) ?_
  refine g_iconst C dX8_asItIs_65 (v := 2) (by decide) ?_
  refine g_iload_n C dX8_asItIs_66 rfl (j := 0) rfl ?_
  refine g_imul C dX8_asItIs_67 ?_
  refine Go.top (v := .int 8) (by decide) ?_
  refine g_iadd C dX8_asItIs_68 ?_
  refine Go.top (v := .int 64) (by decide) ?_
  refine g_iconst C dX8_asItIs_69 (v := 1) (by decide) ?_
  refine g_iadd C dX8_asItIs_70 ?_
  refine Go.top (v := .int 65) (by decide) ?_
  refine h_iald C F 1 rfl dX8_asItIs_71 (vp_in_iff.mpr (by decide)) (v := 0) rfl ?_
  refine h_iast C F 8 rfl dX8_asItIs_72 (vp_in_iff.mpr (by decide)) (g := (fun _ => 0)) (upd0 _) (fl2 := flM cy b 127 pn) rfl (fun M F => ?_)
  refine g_iinc C dX8_asItIs_73 (j := 0) rfl (v := 5) (by decide) (by decide) (lv2 := [(1, .int 5), (0, .ref (b 0))]) rfl ?_
  refine g_goto C dX8_asItIs_76 (tgt := 48) (by decide) ?_
  refine g_iload_n C dX8_asItIs_48 rfl (j := 0) rfl ?_
  refine g_bipush C dX8_asItIs_49 (v := 8) (by decide) ?_
  refine g_icmp_ge C dX8_asItIs_51 (tgt := 79) (by decide) (fun q => absurd q (by decide)) (fun _ => ?_)
  refine g_aload_n C dX8_asItIs_54 rfl (j := 1) rfl ?_
  refine h_get C F 0 rfl fk_X8_37 dX8_asItIs_55 rfl ?_
  refine g_iload_n C dX8_asItIs_58 rfl (j := 0) rfl ?_
  refine g_aload_n C dX8_asItIs_59 rfl (j := 1) rfl ?_
  refine h_get C F 0 rfl fk_X8_9 dX8_asItIs_60 rfl ?_
  refine g_bipush C dX8_asItIs_63 (v := 56) (by decide) ?_
  refine g_iconst C dX8_asItIs_65 (v := 2) (by decide) ?_
  refine g_iload_n C dX8_asItIs_66 rfl (j := 0) rfl ?_
  refine g_imul C dX8_asItIs_67 ?_
  refine Go.top (v := .int 10) (by decide) ?_
  refine g_iadd C dX8_asItIs_68 ?_
  refine Go.top (v := .int 66) (by decide) ?_
  refine g_iconst C dX8_asItIs_69 (v := 1) (by decide) ?_
  refine g_iadd C dX8_asItIs_70 ?_
  refine Go.top (v := .int 67) (by decide) ?_
  refine h_iald C F 1 rfl dX8_asItIs_71 (vp_in_iff.mpr (by decide)) (v := 0) rfl ?_
  refine h_iast C F 8 rfl dX8_asItIs_72 (vp_in_iff.mpr (by decide)) (g := (fun _ => 0)) (upd0 _) (fl2 := flM cy b 127 pn) rfl (fun M F => ?_)
  refine g_iinc C dX8_asItIs_73 (j := 0) rfl (v := 6) (by decide) (by decide) (lv2 := [(1, .int 6), (0, .ref (b 0))]) rfl ?_
  refine g_goto C dX8_asItIs_76 (tgt := 48) (by decide) ?_
  refine g_iload_n C dX8_asItIs_48 rfl (j := 0) rfl ?_
  refine g_bipush C dX8_asItIs_49 (v := 8) (by decide) ?_
  refine g_icmp_ge C dX8_asItIs_51 (tgt := 79) (by decide) (fun q => absurd q (by decide)) (fun _ => ?_)
  refine g_aload_n C dX8_asItIs_54 rfl (j := 1) rfl ?_
  refine h_get C F 0 rfl fk_X8_37 dX8_asItIs_55 rfl ?_
  refine g_iload_n C dX8_asItIs_58 rfl (j := 0) rfl ?_
  refine g_aload_n C dX8_asItIs_59 rfl (j := 1) rfl ?_
  refine h_get C F 0 rfl fk_X8_9 dX8_asItIs_60 rfl ?_
  refine g_bipush C dX8_asItIs_63 (v := 56) (by decide) ?_
  refine g_iconst C dX8_asItIs_65 (v := 2) (by decide) ?_
  refine g_iload_n C dX8_asItIs_66 rfl (j := 0) rfl ?_
  refine g_imul C dX8_asItIs_67 ?_
  refine Go.top (v := .int 12) (by decide) ?_
  refine g_iadd C dX8_asItIs_68 ?_
  refine Go.top (v := .int 68) (by decide) ?_
  refine g_iconst C dX8_asItIs_69 (v := 1) (by decide) ?_
  refine g_iadd C dX8_asItIs_70 ?_
  refine Go.top (v := .int 69) (by decide) ?_
  refine h_iald C F 1 rfl dX8_asItIs_71 (vp_in_iff.mpr (by decide)) (v := 0) rfl ?_
  refine h_iast C F 8 rfl dX8_asItIs_72 (vp_in_iff.mpr (by decide)) (g := (fun _ => 0)) (upd0 _) (fl2 := flM cy b 127 pn) rfl (fun M F => ?_)
  refine g_iinc C dX8_asItIs_73 (j := 0) rfl (v := 7) (by decide) (by decide) (lv2 := [(1, .int 7), (0, .ref (b 0))]) rfl ?_
  refine g_goto C dX8_asItIs_76 (tgt := 48) (by decide) ?_
  refine g_iload_n C dX8_asItIs_48 rfl (j := 0) rfl ?_
  refine g_bipush C dX8_asItIs_49 (v := 8) (by decide) ?_
  refine g_icmp_ge C dX8_asItIs_51 (tgt := 79) (by decide) (fun q => absurd q (by decide)) (fun _ => ?_)
  refine g_aload_n C dX8_asItIs_54 rfl (j := 1) rfl ?_
  refine h_get C F 0 rfl fk_X8_37 dX8_asItIs_55 rfl ?_
  refine g_iload_n C dX8_asItIs_58 rfl (j := 0) rfl ?_
  refine g_aload_n C dX8_asItIs_59 rfl (j := 1) rfl ?_
  refine h_get C F 0 rfl fk_X8_9 dX8_asItIs_60 rfl ?_
  refine g_bipush C dX8_asItIs_63 (v := 56) (by decide) ?_
  refine g_iconst C dX8_asItIs_65 (v := 2) (by decide) ?_
  refine g_iload_n C dX8_asItIs_66 rfl (j := 0) rfl ?_
  refine g_imul C dX8_asItIs_67 ?_
  refine Go.top (v := .int 14) (by decide) ?_
  refine g_iadd C dX8_asItIs_68 ?_
  refine Go.top (v := .int 70) (by decide) ?_
  refine g_iconst C dX8_asItIs_69 (v := 1) (by decide) ?_
  refine g_iadd C dX8_asItIs_70 ?_
  refine Go.top (v := .int 71) (by decide) ?_
  refine h_iald C F 1 rfl dX8_asItIs_71 (vp_in_iff.mpr (by decide)) (v := 0) rfl ?_
  refine h_iast C F 8 rfl dX8_asItIs_72 (vp_in_iff.mpr (by decide)) (g := (fun _ => 0)) (upd0 _) (fl2 := flM cy b 127 pn) rfl (fun M F => ?_)
  refine g_iinc C dX8_asItIs_73 (j := 0) rfl (v := 8) (by decide) (by decide) (lv2 := [(1, .int 8), (0, .ref (b 0))]) rfl ?_
  refine g_goto C dX8_asItIs_76 (tgt := 48) (by decide) ?_
  refine g_iload_n C dX8_asItIs_48 rfl (j := 0) rfl ?_
  refine g_bipush C dX8_asItIs_49 (v := 8) (by decide) ?_
  refine g_icmp_ge C dX8_asItIs_51 (tgt := 79) (by decide) (fun _ => ?_) (fun q => absurd (by decide) q)
  exact g_vret C hrt dX8_asItIs_79 (by decide) (by decide) F
set_option maxHeartbeats 4000000 in
set_option maxRecDepth 100000 in
theorem c_X8_hours_s48 (l : Launch) (G : va_G) {cy : Nat → ClassId} {L : List Nat} {M : Nat → va_E} {b : Nat → Nat} {pn : Nat → Int32} {ts : Int32}  (F : FW L M (flM cy b ts pn))  : MI l G cy yX8_hours cX8_hours 1 (some .int) 0 0 0 [.ref (b 0)] L M (fun r L2 M2 => r = (0) ∧ FW L2 M2 (flM cy b ts pn)) := by
  refine MI.of (own := RX8) rfl (by decide) (Nat.le_of_ble_eq_true rfl) ?_
  intro p e s m below meth c A C hrt hnm
  refine g_aload_n C dX8_hours_0 rfl (j := 0) rfl ?_
  refine h_get C F 0 rfl fk_X8_9 dX8_hours_1 rfl ?_
  refine g_iconst C dX8_hours_4 (v := 0) (by decide) ?_
  refine h_iald C F 1 rfl dX8_hours_5 (vp_in_iff.mpr (by decide)) (v := 0) rfl ?_
  exact g_iret C hrt dX8_hours_6 (by decide) (by decide) ⟨by decide, F⟩
set_option maxHeartbeats 4000000 in
set_option maxRecDepth 100000 in
theorem c_X8_goAll_s49 (l : Launch) (G : va_G) {cy : Nat → ClassId} {L : List Nat} {M : Nat → va_E} {b : Nat → Nat} {pn : Nat → Int32} {ts : Int32}  (F : FW L M (flM cy b ts pn))  : MV l G cy yX8_goAll cX8_goAll 3 none 1 0 0 [.ref (b 0)] L M (fun L2 M2 => ∃ (g133 : Nat → Int32), FW L2 M2 (flM cy b ts g133)) := by
  refine MV.of (own := RX8) rfl (by decide) (Nat.le_of_ble_eq_true rfl) ?_
  intro p e s m below meth c A C hrt hnm
  refine g_iconst C dX8_goAll_0 (v := 0) (by decide) ?_
  refine g_istore_n C dX8_goAll_1 rfl (by decide) (lv2 := [(1, .int 0), (0, .ref (b 0))]) rfl ?_
  refine g_iload_n C dX8_goAll_2 rfl (j := 0) rfl ?_
  refine g_bipush C dX8_goAll_3 (v := 7) (by decide) ?_
  refine g_icmp_ge C dX8_goAll_5 (tgt := 26) (by decide) (fun q => absurd q (by decide)) (fun _ => ?_)
  refine g_aload_n C dX8_goAll_8 rfl (j := 1) rfl ?_
  refine h_get C F 0 rfl fk_X8_40 dX8_goAll_9 rfl ?_
  refine g_iload_n C dX8_goAll_12 rfl (j := 0) rfl ?_
  refine g_aload_n C dX8_goAll_13 rfl (j := 1) rfl ?_
  refine h_get C F 0 rfl fk_X8_34 dX8_goAll_14 rfl ?_
  refine g_iload_n C dX8_goAll_17 rfl (j := 0) rfl ?_
  refine h_iald C F 7 rfl dX8_goAll_18 (vp_in_iff.mpr (by decide)) (v := 0) rfl ?_
  refine h_iast C F 9 rfl dX8_goAll_19 (vp_in_iff.mpr (by decide)) (g := (fun _ => 0)) (upd0 _) (fl2 := flM cy b ts pn) rfl (fun M F => ?_)
  refine g_iinc C dX8_goAll_20 (j := 0) rfl (v := 1) (by decide) (by decide) (lv2 := [(1, .int 1), (0, .ref (b 0))]) rfl ?_
  refine g_goto C dX8_goAll_23 (tgt := 2) (by decide) ?_
  refine g_iload_n C dX8_goAll_2 rfl (j := 0) rfl ?_
  refine g_bipush C dX8_goAll_3 (v := 7) (by decide) ?_
  refine g_icmp_ge C dX8_goAll_5 (tgt := 26) (by decide) (fun q => absurd q (by decide)) (fun _ => ?_)
  refine g_aload_n C dX8_goAll_8 rfl (j := 1) rfl ?_
  refine h_get C F 0 rfl fk_X8_40 dX8_goAll_9 rfl ?_
  refine g_iload_n C dX8_goAll_12 rfl (j := 0) rfl ?_
  refine g_aload_n C dX8_goAll_13 rfl (j := 1) rfl ?_
  refine h_get C F 0 rfl fk_X8_34 dX8_goAll_14 rfl ?_
  refine g_iload_n C dX8_goAll_17 rfl (j := 0) rfl ?_
  refine h_iald C F 7 rfl dX8_goAll_18 (vp_in_iff.mpr (by decide)) (v := 0) rfl ?_
  refine h_iast C F 9 rfl dX8_goAll_19 (vp_in_iff.mpr (by decide)) (g := (fun _ => 0)) (upd0 _) (fl2 := flM cy b ts pn) rfl (fun M F => ?_)
  refine g_iinc C dX8_goAll_20 (j := 0) rfl (v := 2) (by decide) (by decide) (lv2 := [(1, .int 2), (0, .ref (b 0))]) rfl ?_
  refine g_goto C dX8_goAll_23 (tgt := 2) (by decide) ?_
  refine g_iload_n C dX8_goAll_2 rfl (j := 0) rfl ?_
  refine g_bipush C dX8_goAll_3 (v := 7) (by decide) ?_
  refine g_icmp_ge C dX8_goAll_5 (tgt := 26) (by decide) (fun q => absurd q (by decide)) (fun _ => ?_)
  refine g_aload_n C dX8_goAll_8 rfl (j := 1) rfl ?_
  refine h_get C F 0 rfl fk_X8_40 dX8_goAll_9 rfl ?_
  refine g_iload_n C dX8_goAll_12 rfl (j := 0) rfl ?_
  refine g_aload_n C dX8_goAll_13 rfl (j := 1) rfl ?_
  refine h_get C F 0 rfl fk_X8_34 dX8_goAll_14 rfl ?_
  refine g_iload_n C dX8_goAll_17 rfl (j := 0) rfl ?_
  refine h_iald C F 7 rfl dX8_goAll_18 (vp_in_iff.mpr (by decide)) (v := 0) rfl ?_
  refine h_iast C F 9 rfl dX8_goAll_19 (vp_in_iff.mpr (by decide)) (g := (fun _ => 0)) (upd0 _) (fl2 := flM cy b ts pn) rfl (fun M F => ?_)
  refine g_iinc C dX8_goAll_20 (j := 0) rfl (v := 3) (by decide) (by decide) (lv2 := [(1, .int 3), (0, .ref (b 0))]) rfl ?_
  refine g_goto C dX8_goAll_23 (tgt := 2) (by decide) ?_
  refine g_iload_n C dX8_goAll_2 rfl (j := 0) rfl ?_
  refine g_bipush C dX8_goAll_3 (v := 7) (by decide) ?_
  refine g_icmp_ge C dX8_goAll_5 (tgt := 26) (by decide) (fun q => absurd q (by decide)) (fun _ => ?_)
  refine g_aload_n C dX8_goAll_8 rfl (j := 1) rfl ?_
  refine h_get C F 0 rfl fk_X8_40 dX8_goAll_9 rfl ?_
  refine g_iload_n C dX8_goAll_12 rfl (j := 0) rfl ?_
  refine g_aload_n C dX8_goAll_13 rfl (j := 1) rfl ?_
  refine h_get C F 0 rfl fk_X8_34 dX8_goAll_14 rfl ?_
  refine g_iload_n C dX8_goAll_17 rfl (j := 0) rfl ?_
  refine h_iald C F 7 rfl dX8_goAll_18 (vp_in_iff.mpr (by decide)) (v := 0) rfl ?_
  refine h_iast C F 9 rfl dX8_goAll_19 (vp_in_iff.mpr (by decide)) (g := (fun _ => 0)) (upd0 _) (fl2 := flM cy b ts pn) rfl (fun M F => ?_)
  refine g_iinc C dX8_goAll_20 (j := 0) rfl (v := 4) (by decide) (by decide) (lv2 := [(1, .int 4), (0, .ref (b 0))]) rfl ?_
  refine g_goto C dX8_goAll_23 (tgt := 2) (by decide) ?_
  refine g_iload_n C dX8_goAll_2 rfl (j := 0) rfl ?_
  refine g_bipush C dX8_goAll_3 (v := 7) (by decide) ?_
  refine g_icmp_ge C dX8_goAll_5 (tgt := 26) (by decide) (fun q => absurd q (by decide)) (fun _ => ?_)
  refine g_aload_n C dX8_goAll_8 rfl (j := 1) rfl ?_
  refine h_get C F 0 rfl fk_X8_40 dX8_goAll_9 rfl ?_
  refine g_iload_n C dX8_goAll_12 rfl (j := 0) rfl ?_
  refine g_aload_n C dX8_goAll_13 rfl (j := 1) rfl ?_
  refine h_get C F 0 rfl fk_X8_34 dX8_goAll_14 rfl ?_
  refine g_iload_n C dX8_goAll_17 rfl (j := 0) rfl ?_
  refine h_iald C F 7 rfl dX8_goAll_18 (vp_in_iff.mpr (by decide)) (v := 0) rfl ?_
  refine h_iast C F 9 rfl dX8_goAll_19 (vp_in_iff.mpr (by decide)) (g := (fun _ => 0)) (upd0 _) (fl2 := flM cy b ts pn) rfl (fun M F => ?_)
  refine g_iinc C dX8_goAll_20 (j := 0) rfl (v := 5) (by decide) (by decide) (lv2 := [(1, .int 5), (0, .ref (b 0))]) rfl ?_
  refine g_goto C dX8_goAll_23 (tgt := 2) (by decide) ?_
  refine g_iload_n C dX8_goAll_2 rfl (j := 0) rfl ?_
  refine g_bipush C dX8_goAll_3 (v := 7) (by decide) ?_
  refine g_icmp_ge C dX8_goAll_5 (tgt := 26) (by decide) (fun q => absurd q (by decide)) (fun _ => ?_)
  refine g_aload_n C dX8_goAll_8 rfl (j := 1) rfl ?_
  refine h_get C F 0 rfl fk_X8_40 dX8_goAll_9 rfl ?_
  refine g_iload_n C dX8_goAll_12 rfl (j := 0) rfl ?_
  refine g_aload_n C dX8_goAll_13 rfl (j := 1) rfl ?_
  refine h_get C F 0 rfl fk_X8_34 dX8_goAll_14 rfl ?_
  refine g_iload_n C dX8_goAll_17 rfl (j := 0) rfl ?_
  refine h_iald C F 7 rfl dX8_goAll_18 (vp_in_iff.mpr (by decide)) (v := 0) rfl ?_
  refine h_iast C F 9 rfl dX8_goAll_19 (vp_in_iff.mpr (by decide)) (g := (fun _ => 0)) (upd0 _) (fl2 := flM cy b ts pn) rfl (fun M F => ?_)
  refine g_iinc C dX8_goAll_20 (j := 0) rfl (v := 6) (by decide) (by decide) (lv2 := [(1, .int 6), (0, .ref (b 0))]) rfl ?_
  refine g_goto C dX8_goAll_23 (tgt := 2) (by decide) ?_
  refine g_iload_n C dX8_goAll_2 rfl (j := 0) rfl ?_
  refine g_bipush C dX8_goAll_3 (v := 7) (by decide) ?_
  refine g_icmp_ge C dX8_goAll_5 (tgt := 26) (by decide) (fun q => absurd q (by decide)) (fun _ => ?_)
  refine g_aload_n C dX8_goAll_8 rfl (j := 1) rfl ?_
  refine h_get C F 0 rfl fk_X8_40 dX8_goAll_9 rfl ?_
  refine g_iload_n C dX8_goAll_12 rfl (j := 0) rfl ?_
  refine g_aload_n C dX8_goAll_13 rfl (j := 1) rfl ?_
  refine h_get C F 0 rfl fk_X8_34 dX8_goAll_14 rfl ?_
  refine g_iload_n C dX8_goAll_17 rfl (j := 0) rfl ?_
  refine h_iald C F 7 rfl dX8_goAll_18 (vp_in_iff.mpr (by decide)) (v := 0) rfl ?_
  refine h_iast C F 9 rfl dX8_goAll_19 (vp_in_iff.mpr (by decide)) (g := (fun _ => 0)) (upd0 _) (fl2 := flM cy b ts pn) rfl (fun M F => ?_)
  refine g_iinc C dX8_goAll_20 (j := 0) rfl (v := 7) (by decide) (by decide) (lv2 := [(1, .int 7), (0, .ref (b 0))]) rfl ?_
  refine g_goto C dX8_goAll_23 (tgt := 2) (by decide) ?_
  refine g_iload_n C dX8_goAll_2 rfl (j := 0) rfl ?_
  refine g_bipush C dX8_goAll_3 (v := 7) (by decide) ?_
  refine g_icmp_ge C dX8_goAll_5 (tgt := 26) (by decide) (fun _ => ?_) (fun q => absurd (by decide) q)
  refine g_iconst C dX8_goAll_26 (v := 0) (by decide) ?_
  refine g_istore_n C dX8_goAll_27 rfl (by decide) (lv2 := [(1, .int 0), (0, .ref (b 0))]) rfl ?_
  refine g_iload_n C dX8_goAll_28 rfl (j := 0) rfl ?_
  refine g_bipush C dX8_goAll_29 (v := 28) (by decide) ?_
  refine g_icmp_ge C dX8_goAll_31 (tgt := 47) (by decide) (fun q => absurd q (by decide)) (fun _ => ?_)
  refine g_aload_n C dX8_goAll_34 rfl (j := 1) rfl ?_
  refine h_get C F 0 rfl fk_X8_55 dX8_goAll_35 rfl ?_
  refine g_iload_n C dX8_goAll_38 rfl (j := 0) rfl ?_
  refine g_iconst C dX8_goAll_39 (v := 0) (by decide) ?_
  refine h_iast C F 14 rfl dX8_goAll_40 (vp_in_iff.mpr (by decide)) (g := (fun _ => 0)) (upd0 _) (fl2 := flM cy b ts pn) rfl (fun M F => ?_)
  refine g_iinc C dX8_goAll_41 (j := 0) rfl (v := 1) (by decide) (by decide) (lv2 := [(1, .int 1), (0, .ref (b 0))]) rfl ?_
  refine g_goto C dX8_goAll_44 (tgt := 28) (by decide) ?_
  refine g_iload_n C dX8_goAll_28 rfl (j := 0) rfl ?_
  refine g_bipush C dX8_goAll_29 (v := 28) (by decide) ?_
  refine g_icmp_ge C dX8_goAll_31 (tgt := 47) (by decide) (fun q => absurd q (by decide)) (fun _ => ?_)
  refine g_aload_n C dX8_goAll_34 rfl (j := 1) rfl ?_
  refine h_get C F 0 rfl fk_X8_55 dX8_goAll_35 rfl ?_
  refine g_iload_n C dX8_goAll_38 rfl (j := 0) rfl ?_
  refine g_iconst C dX8_goAll_39 (v := 0) (by decide) ?_
  refine h_iast C F 14 rfl dX8_goAll_40 (vp_in_iff.mpr (by decide)) (g := (fun _ => 0)) (upd0 _) (fl2 := flM cy b ts pn) rfl (fun M F => ?_)
  refine g_iinc C dX8_goAll_41 (j := 0) rfl (v := 2) (by decide) (by decide) (lv2 := [(1, .int 2), (0, .ref (b 0))]) rfl ?_
  refine g_goto C dX8_goAll_44 (tgt := 28) (by decide) ?_
  refine g_iload_n C dX8_goAll_28 rfl (j := 0) rfl ?_
  refine g_bipush C dX8_goAll_29 (v := 28) (by decide) ?_
  refine g_icmp_ge C dX8_goAll_31 (tgt := 47) (by decide) (fun q => absurd q (by decide)) (fun _ => ?_)
  refine g_aload_n C dX8_goAll_34 rfl (j := 1) rfl ?_
  refine h_get C F 0 rfl fk_X8_55 dX8_goAll_35 rfl ?_
  refine g_iload_n C dX8_goAll_38 rfl (j := 0) rfl ?_
  refine g_iconst C dX8_goAll_39 (v := 0) (by decide) ?_
  refine h_iast C F 14 rfl dX8_goAll_40 (vp_in_iff.mpr (by decide)) (g := (fun _ => 0)) (upd0 _) (fl2 := flM cy b ts pn) rfl (fun M F => ?_)
  refine g_iinc C dX8_goAll_41 (j := 0) rfl (v := 3) (by decide) (by decide) (lv2 := [(1, .int 3), (0, .ref (b 0))]) rfl ?_
  refine g_goto C dX8_goAll_44 (tgt := 28) (by decide) ?_
  refine g_iload_n C dX8_goAll_28 rfl (j := 0) rfl ?_
  refine g_bipush C dX8_goAll_29 (v := 28) (by decide) ?_
  refine g_icmp_ge C dX8_goAll_31 (tgt := 47) (by decide) (fun q => absurd q (by decide)) (fun _ => ?_)
  refine g_aload_n C dX8_goAll_34 rfl (j := 1) rfl ?_
  refine h_get C F 0 rfl fk_X8_55 dX8_goAll_35 rfl ?_
  refine g_iload_n C dX8_goAll_38 rfl (j := 0) rfl ?_
  refine g_iconst C dX8_goAll_39 (v := 0) (by decide) ?_
  refine h_iast C F 14 rfl dX8_goAll_40 (vp_in_iff.mpr (by decide)) (g := (fun _ => 0)) (upd0 _) (fl2 := flM cy b ts pn) rfl (fun M F => ?_)
  refine g_iinc C dX8_goAll_41 (j := 0) rfl (v := 4) (by decide) (by decide) (lv2 := [(1, .int 4), (0, .ref (b 0))]) rfl ?_
  refine g_goto C dX8_goAll_44 (tgt := 28) (by decide) ?_
  refine g_iload_n C dX8_goAll_28 rfl (j := 0) rfl ?_
  refine g_bipush C dX8_goAll_29 (v := 28) (by decide) ?_
  refine g_icmp_ge C dX8_goAll_31 (tgt := 47) (by decide) (fun q => absurd q (by decide)) (fun _ => ?_)
  refine g_aload_n C dX8_goAll_34 rfl (j := 1) rfl ?_
  refine h_get C F 0 rfl fk_X8_55 dX8_goAll_35 rfl ?_
  refine g_iload_n C dX8_goAll_38 rfl (j := 0) rfl ?_
  refine g_iconst C dX8_goAll_39 (v := 0) (by decide) ?_
  refine h_iast C F 14 rfl dX8_goAll_40 (vp_in_iff.mpr (by decide)) (g := (fun _ => 0)) (upd0 _) (fl2 := flM cy b ts pn) rfl (fun M F => ?_)
  refine g_iinc C dX8_goAll_41 (j := 0) rfl (v := 5) (by decide) (by decide) (lv2 := [(1, .int 5), (0, .ref (b 0))]) rfl ?_
  refine g_goto C dX8_goAll_44 (tgt := 28) (by decide) ?_
  refine g_iload_n C dX8_goAll_28 rfl (j := 0) rfl ?_
  refine g_bipush C dX8_goAll_29 (v := 28) (by decide) ?_
  refine g_icmp_ge C dX8_goAll_31 (tgt := 47) (by decide) (fun q => absurd q (by decide)) (fun _ => ?_)
  refine g_aload_n C dX8_goAll_34 rfl (j := 1) rfl ?_
  refine h_get C F 0 rfl fk_X8_55 dX8_goAll_35 rfl ?_
  refine g_iload_n C dX8_goAll_38 rfl (j := 0) rfl ?_
  refine g_iconst C dX8_goAll_39 (v := 0) (by decide) ?_
  refine h_iast C F 14 rfl dX8_goAll_40 (vp_in_iff.mpr (by decide)) (g := (fun _ => 0)) (upd0 _) (fl2 := flM cy b ts pn) rfl (fun M F => ?_)
  refine g_iinc C dX8_goAll_41 (j := 0) rfl (v := 6) (by decide) (by decide) (lv2 := [(1, .int 6), (0, .ref (b 0))]) rfl ?_
  refine g_goto C dX8_goAll_44 (tgt := 28) (by decide) ?_
  refine g_iload_n C dX8_goAll_28 rfl (j := 0) rfl ?_
  refine g_bipush C dX8_goAll_29 (v := 28) (by decide) ?_
  refine g_icmp_ge C dX8_goAll_31 (tgt := 47) (by decide) (fun q => absurd q (by decide)) (fun _ => ?_)
  refine g_aload_n C dX8_goAll_34 rfl (j := 1) rfl ?_
  refine h_get C F 0 rfl fk_X8_55 dX8_goAll_35 rfl ?_
  refine g_iload_n C dX8_goAll_38 rfl (j := 0) rfl ?_
  refine g_iconst C dX8_goAll_39 (v := 0) (by decide) ?_
  refine h_iast C F 14 rfl dX8_goAll_40 (vp_in_iff.mpr (by decide)) (g := (fun _ => 0)) (upd0 _) (fl2 := flM cy b ts pn) rfl (fun M F => ?_)
  refine g_iinc C dX8_goAll_41 (j := 0) rfl (v := 7) (by decide) (by decide) (lv2 := [(1, .int 7), (0, .ref (b 0))]) rfl ?_
  refine g_goto C dX8_goAll_44 (tgt := 28) (by decide) ?_
  refine g_iload_n C dX8_goAll_28 rfl (j := 0) rfl ?_
  refine g_bipush C dX8_goAll_29 (v := 28) (by decide) ?_
  refine g_icmp_ge C dX8_goAll_31 (tgt := 47) (by decide) (fun q => absurd q (by decide)) (fun _ => ?_)
  refine g_aload_n C dX8_goAll_34 rfl (j := 1) rfl ?_
  refine h_get C F 0 rfl fk_X8_55 dX8_goAll_35 rfl ?_
  refine g_iload_n C dX8_goAll_38 rfl (j := 0) rfl ?_
  refine g_iconst C dX8_goAll_39 (v := 0) (by decide) ?_
  refine h_iast C F 14 rfl dX8_goAll_40 (vp_in_iff.mpr (by decide)) (g := (fun _ => 0)) (upd0 _) (fl2 := flM cy b ts pn) rfl (fun M F => ?_)
  refine g_iinc C dX8_goAll_41 (j := 0) rfl (v := 8) (by decide) (by decide) (lv2 := [(1, .int 8), (0, .ref (b 0))]) rfl ?_
  refine g_goto C dX8_goAll_44 (tgt := 28) (by decide) ?_
  refine g_iload_n C dX8_goAll_28 rfl (j := 0) rfl ?_
  refine g_bipush C dX8_goAll_29 (v := 28) (by decide) ?_
  refine g_icmp_ge C dX8_goAll_31 (tgt := 47) (by decide) (fun q => absurd q (by decide)) (fun _ => ?_)
  refine g_aload_n C dX8_goAll_34 rfl (j := 1) rfl ?_
  refine h_get C F 0 rfl fk_X8_55 dX8_goAll_35 rfl ?_
  refine g_iload_n C dX8_goAll_38 rfl (j := 0) rfl ?_
  refine g_iconst C dX8_goAll_39 (v := 0) (by decide) ?_
  refine h_iast C F 14 rfl dX8_goAll_40 (vp_in_iff.mpr (by decide)) (g := (fun _ => 0)) (upd0 _) (fl2 := flM cy b ts pn) rfl (fun M F => ?_)
  refine g_iinc C dX8_goAll_41 (j := 0) rfl (v := 9) (by decide) (by decide) (lv2 := [(1, .int 9), (0, .ref (b 0))]) rfl ?_
  refine g_goto C dX8_goAll_44 (tgt := 28) (by decide) ?_
  refine g_iload_n C dX8_goAll_28 rfl (j := 0) rfl ?_
  refine g_bipush C dX8_goAll_29 (v := 28) (by decide) ?_
  refine g_icmp_ge C dX8_goAll_31 (tgt := 47) (by decide) (fun q => absurd q (by decide)) (fun _ => ?_)
  refine g_aload_n C dX8_goAll_34 rfl (j := 1) rfl ?_
  refine h_get C F 0 rfl fk_X8_55 dX8_goAll_35 rfl ?_
  refine g_iload_n C dX8_goAll_38 rfl (j := 0) rfl ?_
  refine g_iconst C dX8_goAll_39 (v := 0) (by decide) ?_
  refine h_iast C F 14 rfl dX8_goAll_40 (vp_in_iff.mpr (by decide)) (g := (fun _ => 0)) (upd0 _) (fl2 := flM cy b ts pn) rfl (fun M F => ?_)
  refine g_iinc C dX8_goAll_41 (j := 0) rfl (v := 10) (by decide) (by decide) (lv2 := [(1, .int 10), (0, .ref (b 0))]) rfl ?_
  refine g_goto C dX8_goAll_44 (tgt := 28) (by decide) ?_
  refine g_iload_n C dX8_goAll_28 rfl (j := 0) rfl ?_
  refine g_bipush C dX8_goAll_29 (v := 28) (by decide) ?_
  refine g_icmp_ge C dX8_goAll_31 (tgt := 47) (by decide) (fun q => absurd q (by decide)) (fun _ => ?_)
  refine g_aload_n C dX8_goAll_34 rfl (j := 1) rfl ?_
  refine h_get C F 0 rfl fk_X8_55 dX8_goAll_35 rfl ?_
  refine g_iload_n C dX8_goAll_38 rfl (j := 0) rfl ?_
  refine g_iconst C dX8_goAll_39 (v := 0) (by decide) ?_
  refine h_iast C F 14 rfl dX8_goAll_40 (vp_in_iff.mpr (by decide)) (g := (fun _ => 0)) (upd0 _) (fl2 := flM cy b ts pn) rfl (fun M F => ?_)
  refine g_iinc C dX8_goAll_41 (j := 0) rfl (v := 11) (by decide) (by decide) (lv2 := [(1, .int 11), (0, .ref (b 0))]) rfl ?_
  refine g_goto C dX8_goAll_44 (tgt := 28) (by decide) ?_
  refine g_iload_n C dX8_goAll_28 rfl (j := 0) rfl ?_
  refine g_bipush C dX8_goAll_29 (v := 28) (by decide) ?_
  refine g_icmp_ge C dX8_goAll_31 (tgt := 47) (by decide) (fun q => absurd q (by decide)) (fun _ => ?_)
  refine g_aload_n C dX8_goAll_34 rfl (j := 1) rfl ?_
  refine h_get C F 0 rfl fk_X8_55 dX8_goAll_35 rfl ?_
  refine g_iload_n C dX8_goAll_38 rfl (j := 0) rfl ?_
  refine g_iconst C dX8_goAll_39 (v := 0) (by decide) ?_
  refine h_iast C F 14 rfl dX8_goAll_40 (vp_in_iff.mpr (by decide)) (g := (fun _ => 0)) (upd0 _) (fl2 := flM cy b ts pn) rfl (fun M F => ?_)
  refine g_iinc C dX8_goAll_41 (j := 0) rfl (v := 12) (by decide) (by decide) (lv2 := [(1, .int 12), (0, .ref (b 0))]) rfl ?_
  refine g_goto C dX8_goAll_44 (tgt := 28) (by decide) ?_
  refine g_iload_n C dX8_goAll_28 rfl (j := 0) rfl ?_
  refine g_bipush C dX8_goAll_29 (v := 28) (by decide) ?_
  refine g_icmp_ge C dX8_goAll_31 (tgt := 47) (by decide) (fun q => absurd q (by decide)) (fun _ => ?_)
  refine g_aload_n C dX8_goAll_34 rfl (j := 1) rfl ?_
  refine h_get C F 0 rfl fk_X8_55 dX8_goAll_35 rfl ?_
  refine g_iload_n C dX8_goAll_38 rfl (j := 0) rfl ?_
  refine g_iconst C dX8_goAll_39 (v := 0) (by decide) ?_
  refine h_iast C F 14 rfl dX8_goAll_40 (vp_in_iff.mpr (by decide)) (g := (fun _ => 0)) (upd0 _) (fl2 := flM cy b ts pn) rfl (fun M F => ?_)
  refine g_iinc C dX8_goAll_41 (j := 0) rfl (v := 13) (by decide) (by decide) (lv2 := [(1, .int 13), (0, .ref (b 0))]) rfl ?_
  refine g_goto C dX8_goAll_44 (tgt := 28) (by decide) ?_
  refine g_iload_n C dX8_goAll_28 rfl (j := 0) rfl ?_
  refine g_bipush C dX8_goAll_29 (v := 28) (by decide) ?_
  refine g_icmp_ge C dX8_goAll_31 (tgt := 47) (by decide) (fun q => absurd q (by decide)) (fun _ => ?_)
  refine g_aload_n C dX8_goAll_34 rfl (j := 1) rfl ?_
  refine h_get C F 0 rfl fk_X8_55 dX8_goAll_35 rfl ?_
  refine g_iload_n C dX8_goAll_38 rfl (j := 0) rfl ?_
  refine g_iconst C dX8_goAll_39 (v := 0) (by decide) ?_
  refine h_iast C F 14 rfl dX8_goAll_40 (vp_in_iff.mpr (by decide)) (g := (fun _ => 0)) (upd0 _) (fl2 := flM cy b ts pn) rfl (fun M F => ?_)
  refine g_iinc C dX8_goAll_41 (j := 0) rfl (v := 14) (by decide) (by decide) (lv2 := [(1, .int 14), (0, .ref (b 0))]) rfl ?_
  refine g_goto C dX8_goAll_44 (tgt := 28) (by decide) ?_
  refine g_iload_n C dX8_goAll_28 rfl (j := 0) rfl ?_
  refine g_bipush C dX8_goAll_29 (v := 28) (by decide) ?_
  refine g_icmp_ge C dX8_goAll_31 (tgt := 47) (by decide) (fun q => absurd q (by decide)) (fun _ => ?_)
  refine g_aload_n C dX8_goAll_34 rfl (j := 1) rfl ?_
  refine h_get C F 0 rfl fk_X8_55 dX8_goAll_35 rfl ?_
  refine g_iload_n C dX8_goAll_38 rfl (j := 0) rfl ?_
  refine g_iconst C dX8_goAll_39 (v := 0) (by decide) ?_
  refine h_iast C F 14 rfl dX8_goAll_40 (vp_in_iff.mpr (by decide)) (g := (fun _ => 0)) (upd0 _) (fl2 := flM cy b ts pn) rfl (fun M F => ?_)
  refine g_iinc C dX8_goAll_41 (j := 0) rfl (v := 15) (by decide) (by decide) (lv2 := [(1, .int 15), (0, .ref (b 0))]) rfl ?_
  refine g_goto C dX8_goAll_44 (tgt := 28) (by decide) ?_
  refine g_iload_n C dX8_goAll_28 rfl (j := 0) rfl ?_
  refine g_bipush C dX8_goAll_29 (v := 28) (by decide) ?_
  refine g_icmp_ge C dX8_goAll_31 (tgt := 47) (by decide) (fun q => absurd q (by decide)) (fun _ => ?_)
  refine g_aload_n C dX8_goAll_34 rfl (j := 1) rfl ?_
  refine h_get C F 0 rfl fk_X8_55 dX8_goAll_35 rfl ?_
  refine g_iload_n C dX8_goAll_38 rfl (j := 0) rfl ?_
  refine g_iconst C dX8_goAll_39 (v := 0) (by decide) ?_
  refine h_iast C F 14 rfl dX8_goAll_40 (vp_in_iff.mpr (by decide)) (g := (fun _ => 0)) (upd0 _) (fl2 := flM cy b ts pn) rfl (fun M F => ?_)
  refine g_iinc C dX8_goAll_41 (j := 0) rfl (v := 16) (by decide) (by decide) (lv2 := [(1, .int 16), (0, .ref (b 0))]) rfl ?_
  refine g_goto C dX8_goAll_44 (tgt := 28) (by decide) ?_
  refine g_iload_n C dX8_goAll_28 rfl (j := 0) rfl ?_
  refine g_bipush C dX8_goAll_29 (v := 28) (by decide) ?_
  refine g_icmp_ge C dX8_goAll_31 (tgt := 47) (by decide) (fun q => absurd q (by decide)) (fun _ => ?_)
  refine g_aload_n C dX8_goAll_34 rfl (j := 1) rfl ?_
  refine h_get C F 0 rfl fk_X8_55 dX8_goAll_35 rfl ?_
  refine g_iload_n C dX8_goAll_38 rfl (j := 0) rfl ?_
  refine g_iconst C dX8_goAll_39 (v := 0) (by decide) ?_
  refine h_iast C F 14 rfl dX8_goAll_40 (vp_in_iff.mpr (by decide)) (g := (fun _ => 0)) (upd0 _) (fl2 := flM cy b ts pn) rfl (fun M F => ?_)
  refine g_iinc C dX8_goAll_41 (j := 0) rfl (v := 17) (by decide) (by decide) (lv2 := [(1, .int 17), (0, .ref (b 0))]) rfl ?_
  refine g_goto C dX8_goAll_44 (tgt := 28) (by decide) ?_
  refine g_iload_n C dX8_goAll_28 rfl (j := 0) rfl ?_
  refine g_bipush C dX8_goAll_29 (v := 28) (by decide) ?_
  refine g_icmp_ge C dX8_goAll_31 (tgt := 47) (by decide) (fun q => absurd q (by decide)) (fun _ => ?_)
  refine g_aload_n C dX8_goAll_34 rfl (j := 1) rfl ?_
  refine h_get C F 0 rfl fk_X8_55 dX8_goAll_35 rfl ?_
  refine g_iload_n C dX8_goAll_38 rfl (j := 0) rfl ?_
  refine g_iconst C dX8_goAll_39 (v := 0) (by decide) ?_
  refine h_iast C F 14 rfl dX8_goAll_40 (vp_in_iff.mpr (by decide)) (g := (fun _ => 0)) (upd0 _) (fl2 := flM cy b ts pn) rfl (fun M F => ?_)
  refine g_iinc C dX8_goAll_41 (j := 0) rfl (v := 18) (by decide) (by decide) (lv2 := [(1, .int 18), (0, .ref (b 0))]) rfl ?_
  refine g_goto C dX8_goAll_44 (tgt := 28) (by decide) ?_
  refine g_iload_n C dX8_goAll_28 rfl (j := 0) rfl ?_
  refine g_bipush C dX8_goAll_29 (v := 28) (by decide) ?_
  refine g_icmp_ge C dX8_goAll_31 (tgt := 47) (by decide) (fun q => absurd q (by decide)) (fun _ => ?_)
  refine g_aload_n C dX8_goAll_34 rfl (j := 1) rfl ?_
  refine h_get C F 0 rfl fk_X8_55 dX8_goAll_35 rfl ?_
  refine g_iload_n C dX8_goAll_38 rfl (j := 0) rfl ?_
  refine g_iconst C dX8_goAll_39 (v := 0) (by decide) ?_
  refine h_iast C F 14 rfl dX8_goAll_40 (vp_in_iff.mpr (by decide)) (g := (fun _ => 0)) (upd0 _) (fl2 := flM cy b ts pn) rfl (fun M F => ?_)
  refine g_iinc C dX8_goAll_41 (j := 0) rfl (v := 19) (by decide) (by decide) (lv2 := [(1, .int 19), (0, .ref (b 0))]) rfl ?_
  refine g_goto C dX8_goAll_44 (tgt := 28) (by decide) ?_
  refine g_iload_n C dX8_goAll_28 rfl (j := 0) rfl ?_
  refine g_bipush C dX8_goAll_29 (v := 28) (by decide) ?_
  refine g_icmp_ge C dX8_goAll_31 (tgt := 47) (by decide) (fun q => absurd q (by decide)) (fun _ => ?_)
  refine g_aload_n C dX8_goAll_34 rfl (j := 1) rfl ?_
  refine h_get C F 0 rfl fk_X8_55 dX8_goAll_35 rfl ?_
  refine g_iload_n C dX8_goAll_38 rfl (j := 0) rfl ?_
  refine g_iconst C dX8_goAll_39 (v := 0) (by decide) ?_
  refine h_iast C F 14 rfl dX8_goAll_40 (vp_in_iff.mpr (by decide)) (g := (fun _ => 0)) (upd0 _) (fl2 := flM cy b ts pn) rfl (fun M F => ?_)
  refine g_iinc C dX8_goAll_41 (j := 0) rfl (v := 20) (by decide) (by decide) (lv2 := [(1, .int 20), (0, .ref (b 0))]) rfl ?_
  refine g_goto C dX8_goAll_44 (tgt := 28) (by decide) ?_
  refine g_iload_n C dX8_goAll_28 rfl (j := 0) rfl ?_
  refine g_bipush C dX8_goAll_29 (v := 28) (by decide) ?_
  refine g_icmp_ge C dX8_goAll_31 (tgt := 47) (by decide) (fun q => absurd q (by decide)) (fun _ => ?_)
  refine g_aload_n C dX8_goAll_34 rfl (j := 1) rfl ?_
  refine h_get C F 0 rfl fk_X8_55 dX8_goAll_35 rfl ?_
  refine g_iload_n C dX8_goAll_38 rfl (j := 0) rfl ?_
  refine g_iconst C dX8_goAll_39 (v := 0) (by decide) ?_
  refine h_iast C F 14 rfl dX8_goAll_40 (vp_in_iff.mpr (by decide)) (g := (fun _ => 0)) (upd0 _) (fl2 := flM cy b ts pn) rfl (fun M F => ?_)
  refine g_iinc C dX8_goAll_41 (j := 0) rfl (v := 21) (by decide) (by decide) (lv2 := [(1, .int 21), (0, .ref (b 0))]) rfl ?_
  refine g_goto C dX8_goAll_44 (tgt := 28) (by decide) ?_
  refine g_iload_n C dX8_goAll_28 rfl (j := 0) rfl ?_
  refine g_bipush C dX8_goAll_29 (v := 28) (by decide) ?_
  refine g_icmp_ge C dX8_goAll_31 (tgt := 47) (by decide) (fun q => absurd q (by decide)) (fun _ => ?_)
  refine g_aload_n C dX8_goAll_34 rfl (j := 1) rfl ?_
  refine h_get C F 0 rfl fk_X8_55 dX8_goAll_35 rfl ?_
  refine g_iload_n C dX8_goAll_38 rfl (j := 0) rfl ?_
  refine g_iconst C dX8_goAll_39 (v := 0) (by decide) ?_
  refine h_iast C F 14 rfl dX8_goAll_40 (vp_in_iff.mpr (by decide)) (g := (fun _ => 0)) (upd0 _) (fl2 := flM cy b ts pn) rfl (fun M F => ?_)
  refine g_iinc C dX8_goAll_41 (j := 0) rfl (v := 22) (by decide) (by decide) (lv2 := [(1, .int 22), (0, .ref (b 0))]) rfl ?_
  refine g_goto C dX8_goAll_44 (tgt := 28) (by decide) ?_
  refine g_iload_n C dX8_goAll_28 rfl (j := 0) rfl ?_
  refine g_bipush C dX8_goAll_29 (v := 28) (by decide) ?_
  refine g_icmp_ge C dX8_goAll_31 (tgt := 47) (by decide) (fun q => absurd q (by decide)) (fun _ => ?_)
  refine g_aload_n C dX8_goAll_34 rfl (j := 1) rfl ?_
  refine h_get C F 0 rfl fk_X8_55 dX8_goAll_35 rfl ?_
  refine g_iload_n C dX8_goAll_38 rfl (j := 0) rfl ?_
  refine g_iconst C dX8_goAll_39 (v := 0) (by decide) ?_
  refine h_iast C F 14 rfl dX8_goAll_40 (vp_in_iff.mpr (by decide)) (g := (fun _ => 0)) (upd0 _) (fl2 := flM cy b ts pn) rfl (fun M F => ?_)
  refine g_iinc C dX8_goAll_41 (j := 0) rfl (v := 23) (by decide) (by decide) (lv2 := [(1, .int 23), (0, .ref (b 0))]) rfl ?_
  refine g_goto C dX8_goAll_44 (tgt := 28) (by decide) ?_
  refine g_iload_n C dX8_goAll_28 rfl (j := 0) rfl ?_
  refine g_bipush C dX8_goAll_29 (v := 28) (by decide) ?_
  refine g_icmp_ge C dX8_goAll_31 (tgt := 47) (by decide) (fun q => absurd q (by decide)) (fun _ => ?_)
  refine g_aload_n C dX8_goAll_34 rfl (j := 1) rfl ?_
  refine h_get C F 0 rfl fk_X8_55 dX8_goAll_35 rfl ?_
  refine g_iload_n C dX8_goAll_38 rfl (j := 0) rfl ?_
  refine g_iconst C dX8_goAll_39 (v := 0) (by decide) ?_
  refine h_iast C F 14 rfl dX8_goAll_40 (vp_in_iff.mpr (by decide)) (g := (fun _ => 0)) (upd0 _) (fl2 := flM cy b ts pn) rfl (fun M F => ?_)
  refine g_iinc C dX8_goAll_41 (j := 0) rfl (v := 24) (by decide) (by decide) (lv2 := [(1, .int 24), (0, .ref (b 0))]) rfl ?_
  refine g_goto C dX8_goAll_44 (tgt := 28) (by decide) ?_
  refine g_iload_n C dX8_goAll_28 rfl (j := 0) rfl ?_
  refine g_bipush C dX8_goAll_29 (v := 28) (by decide) ?_
  refine g_icmp_ge C dX8_goAll_31 (tgt := 47) (by decide) (fun q => absurd q (by decide)) (fun _ => ?_)
  refine g_aload_n C dX8_goAll_34 rfl (j := 1) rfl ?_
  refine h_get C F 0 rfl fk_X8_55 dX8_goAll_35 rfl ?_
  refine g_iload_n C dX8_goAll_38 rfl (j := 0) rfl ?_
  refine g_iconst C dX8_goAll_39 (v := 0) (by decide) ?_
  refine h_iast C F 14 rfl dX8_goAll_40 (vp_in_iff.mpr (by decide)) (g := (fun _ => 0)) (upd0 _) (fl2 := flM cy b ts pn) rfl (fun M F => ?_)
  refine g_iinc C dX8_goAll_41 (j := 0) rfl (v := 25) (by decide) (by decide) (lv2 := [(1, .int 25), (0, .ref (b 0))]) rfl ?_
  refine g_goto C dX8_goAll_44 (tgt := 28) (by decide) ?_
  refine g_iload_n C dX8_goAll_28 rfl (j := 0) rfl ?_
  refine g_bipush C dX8_goAll_29 (v := 28) (by decide) ?_
  refine g_icmp_ge C dX8_goAll_31 (tgt := 47) (by decide) (fun q => absurd q (by decide)) (fun _ => ?_)
  refine g_aload_n C dX8_goAll_34 rfl (j := 1) rfl ?_
  refine h_get C F 0 rfl fk_X8_55 dX8_goAll_35 rfl ?_
  refine g_iload_n C dX8_goAll_38 rfl (j := 0) rfl ?_
  refine g_iconst C dX8_goAll_39 (v := 0) (by decide) ?_
  refine h_iast C F 14 rfl dX8_goAll_40 (vp_in_iff.mpr (by decide)) (g := (fun _ => 0)) (upd0 _) (fl2 := flM cy b ts pn) rfl (fun M F => ?_)
  refine g_iinc C dX8_goAll_41 (j := 0) rfl (v := 26) (by decide) (by decide) (lv2 := [(1, .int 26), (0, .ref (b 0))]) rfl ?_
  refine g_goto C dX8_goAll_44 (tgt := 28) (by decide) ?_
  refine g_iload_n C dX8_goAll_28 rfl (j := 0) rfl ?_
  refine g_bipush C dX8_goAll_29 (v := 28) (by decide) ?_
  refine g_icmp_ge C dX8_goAll_31 (tgt := 47) (by decide) (fun q => absurd q (by decide)) (fun _ => ?_)
  refine g_aload_n C dX8_goAll_34 rfl (j := 1) rfl ?_
  refine h_get C F 0 rfl fk_X8_55 dX8_goAll_35 rfl ?_
  refine g_iload_n C dX8_goAll_38 rfl (j := 0) rfl ?_
  refine g_iconst C dX8_goAll_39 (v := 0) (by decide) ?_
  refine h_iast C F 14 rfl dX8_goAll_40 (vp_in_iff.mpr (by decide)) (g := (fun _ => 0)) (upd0 _) (fl2 := flM cy b ts pn) rfl (fun M F => ?_)
  refine g_iinc C dX8_goAll_41 (j := 0) rfl (v := 27) (by decide) (by decide) (lv2 := [(1, .int 27), (0, .ref (b 0))]) rfl ?_
  refine g_goto C dX8_goAll_44 (tgt := 28) (by decide) ?_
  refine g_iload_n C dX8_goAll_28 rfl (j := 0) rfl ?_
  refine g_bipush C dX8_goAll_29 (v := 28) (by decide) ?_
  refine g_icmp_ge C dX8_goAll_31 (tgt := 47) (by decide) (fun q => absurd q (by decide)) (fun _ => ?_)
  refine g_aload_n C dX8_goAll_34 rfl (j := 1) rfl ?_
  refine h_get C F 0 rfl fk_X8_55 dX8_goAll_35 rfl ?_
  refine g_iload_n C dX8_goAll_38 rfl (j := 0) rfl ?_
  refine g_iconst C dX8_goAll_39 (v := 0) (by decide) ?_
  refine h_iast C F 14 rfl dX8_goAll_40 (vp_in_iff.mpr (by decide)) (g := (fun _ => 0)) (upd0 _) (fl2 := flM cy b ts pn) rfl (fun M F => ?_)
  refine g_iinc C dX8_goAll_41 (j := 0) rfl (v := 28) (by decide) (by decide) (lv2 := [(1, .int 28), (0, .ref (b 0))]) rfl ?_
  refine g_goto C dX8_goAll_44 (tgt := 28) (by decide) ?_
  refine g_iload_n C dX8_goAll_28 rfl (j := 0) rfl ?_
  refine g_bipush C dX8_goAll_29 (v := 28) (by decide) ?_
  refine g_icmp_ge C dX8_goAll_31 (tgt := 47) (by decide) (fun _ => ?_) (fun q => absurd (by decide) q)
  refine g_iconst C dX8_goAll_47 (v := 0) (by decide) ?_
  refine g_istore_n C dX8_goAll_48 rfl (by decide) (lv2 := [(1, .int 0), (0, .ref (b 0))]) rfl ?_
  refine g_iload_n C dX8_goAll_49 rfl (j := 0) rfl ?_
  refine g_iconst C dX8_goAll_50 (v := 4) (by decide) ?_
  refine g_icmp_ge C dX8_goAll_51 (tgt := 74) (by decide) (fun q => absurd q (by decide)) (fun _ => ?_)
  refine g_aload_n C dX8_goAll_54 rfl (j := 1) rfl ?_
  refine h_get C F 0 rfl fk_X8_61 dX8_goAll_55 rfl ?_
  refine g_iload_n C dX8_goAll_58 rfl (j := 0) rfl ?_
  refine g_iconst C dX8_goAll_59 (v := 0) (by decide) ?_
  refine h_iast C F 16 rfl dX8_goAll_60 (vp_in_iff.mpr (by decide)) (g := (fun _ => 0)) (upd0 _) (fl2 := flM cy b ts pn) rfl (fun M F => ?_)
  refine g_aload_n C dX8_goAll_61 rfl (j := 1) rfl ?_
  refine h_get C F 0 rfl fk_X8_64 dX8_goAll_62 rfl ?_
  refine g_iload_n C dX8_goAll_65 rfl (j := 0) rfl ?_
  refine g_iconst C dX8_goAll_66 (v := 0) (by decide) ?_
  refine h_iast C F 17 rfl dX8_goAll_67 (vp_in_iff.mpr (by decide)) (g := (fun _ => 0)) (upd0 _) (fl2 := flM cy b ts pn) rfl (fun M F => ?_)
  refine g_iinc C dX8_goAll_68 (j := 0) rfl (v := 1) (by decide) (by decide) (lv2 := [(1, .int 1), (0, .ref (b 0))]) rfl ?_
  refine g_goto C dX8_goAll_71 (tgt := 49) (by decide) ?_
  refine g_iload_n C dX8_goAll_49 rfl (j := 0) rfl ?_
  refine g_iconst C dX8_goAll_50 (v := 4) (by decide) ?_
  refine g_icmp_ge C dX8_goAll_51 (tgt := 74) (by decide) (fun q => absurd q (by decide)) (fun _ => ?_)
  refine g_aload_n C dX8_goAll_54 rfl (j := 1) rfl ?_
  refine h_get C F 0 rfl fk_X8_61 dX8_goAll_55 rfl ?_
  refine g_iload_n C dX8_goAll_58 rfl (j := 0) rfl ?_
  refine g_iconst C dX8_goAll_59 (v := 0) (by decide) ?_
  refine h_iast C F 16 rfl dX8_goAll_60 (vp_in_iff.mpr (by decide)) (g := (fun _ => 0)) (upd0 _) (fl2 := flM cy b ts pn) rfl (fun M F => ?_)
  refine g_aload_n C dX8_goAll_61 rfl (j := 1) rfl ?_
  refine h_get C F 0 rfl fk_X8_64 dX8_goAll_62 rfl ?_
  refine g_iload_n C dX8_goAll_65 rfl (j := 0) rfl ?_
  refine g_iconst C dX8_goAll_66 (v := 0) (by decide) ?_
  refine h_iast C F 17 rfl dX8_goAll_67 (vp_in_iff.mpr (by decide)) (g := (fun _ => 0)) (upd0 _) (fl2 := flM cy b ts pn) rfl (fun M F => ?_)
  refine g_iinc C dX8_goAll_68 (j := 0) rfl (v := 2) (by decide) (by decide) (lv2 := [(1, .int 2), (0, .ref (b 0))]) rfl ?_
  refine g_goto C dX8_goAll_71 (tgt := 49) (by decide) ?_
  refine g_iload_n C dX8_goAll_49 rfl (j := 0) rfl ?_
  refine g_iconst C dX8_goAll_50 (v := 4) (by decide) ?_
  refine g_icmp_ge C dX8_goAll_51 (tgt := 74) (by decide) (fun q => absurd q (by decide)) (fun _ => ?_)
  refine g_aload_n C dX8_goAll_54 rfl (j := 1) rfl ?_
  refine h_get C F 0 rfl fk_X8_61 dX8_goAll_55 rfl ?_
  refine g_iload_n C dX8_goAll_58 rfl (j := 0) rfl ?_
  refine g_iconst C dX8_goAll_59 (v := 0) (by decide) ?_
  refine h_iast C F 16 rfl dX8_goAll_60 (vp_in_iff.mpr (by decide)) (g := (fun _ => 0)) (upd0 _) (fl2 := flM cy b ts pn) rfl (fun M F => ?_)
  refine g_aload_n C dX8_goAll_61 rfl (j := 1) rfl ?_
  refine h_get C F 0 rfl fk_X8_64 dX8_goAll_62 rfl ?_
  refine g_iload_n C dX8_goAll_65 rfl (j := 0) rfl ?_
  refine g_iconst C dX8_goAll_66 (v := 0) (by decide) ?_
  refine h_iast C F 17 rfl dX8_goAll_67 (vp_in_iff.mpr (by decide)) (g := (fun _ => 0)) (upd0 _) (fl2 := flM cy b ts pn) rfl (fun M F => ?_)
  refine g_iinc C dX8_goAll_68 (j := 0) rfl (v := 3) (by decide) (by decide) (lv2 := [(1, .int 3), (0, .ref (b 0))]) rfl ?_
  refine g_goto C dX8_goAll_71 (tgt := 49) (by decide) ?_
  refine g_iload_n C dX8_goAll_49 rfl (j := 0) rfl ?_
  refine g_iconst C dX8_goAll_50 (v := 4) (by decide) ?_
  refine g_icmp_ge C dX8_goAll_51 (tgt := 74) (by decide) (fun q => absurd q (by decide)) (fun _ => ?_)
  refine g_aload_n C dX8_goAll_54 rfl (j := 1) rfl ?_
  refine h_get C F 0 rfl fk_X8_61 dX8_goAll_55 rfl ?_
  refine g_iload_n C dX8_goAll_58 rfl (j := 0) rfl ?_
  refine g_iconst C dX8_goAll_59 (v := 0) (by decide) ?_
  refine h_iast C F 16 rfl dX8_goAll_60 (vp_in_iff.mpr (by decide)) (g := (fun _ => 0)) (upd0 _) (fl2 := flM cy b ts pn) rfl (fun M F => ?_)
  refine g_aload_n C dX8_goAll_61 rfl (j := 1) rfl ?_
  refine h_get C F 0 rfl fk_X8_64 dX8_goAll_62 rfl ?_
  refine g_iload_n C dX8_goAll_65 rfl (j := 0) rfl ?_
  refine g_iconst C dX8_goAll_66 (v := 0) (by decide) ?_
  refine h_iast C F 17 rfl dX8_goAll_67 (vp_in_iff.mpr (by decide)) (g := (fun _ => 0)) (upd0 _) (fl2 := flM cy b ts pn) rfl (fun M F => ?_)
  refine g_iinc C dX8_goAll_68 (j := 0) rfl (v := 4) (by decide) (by decide) (lv2 := [(1, .int 4), (0, .ref (b 0))]) rfl ?_
  refine g_goto C dX8_goAll_71 (tgt := 49) (by decide) ?_
  refine g_iload_n C dX8_goAll_49 rfl (j := 0) rfl ?_
  refine g_iconst C dX8_goAll_50 (v := 4) (by decide) ?_
  refine g_icmp_ge C dX8_goAll_51 (tgt := 74) (by decide) (fun _ => ?_) (fun q => absurd (by decide) q)
  refine g_iconst C dX8_goAll_74 (v := 0) (by decide) ?_
  refine g_istore_n C dX8_goAll_75 rfl (by decide) (lv2 := [(1, .int 0), (0, .ref (b 0))]) rfl ?_
  refine g_iload_n C dX8_goAll_76 rfl (j := 0) rfl ?_
  refine g_bipush C dX8_goAll_77 (v := 8) (by decide) ?_
  refine g_icmp_ge C dX8_goAll_79 (tgt := 102) (by decide) (fun q => absurd q (by decide)) (fun _ => ?_)
  refine g_aload_n C dX8_goAll_82 rfl (j := 1) rfl ?_
  refine h_get C F 0 rfl fk_X8_43 dX8_goAll_83 rfl ?_
  refine g_iload_n C dX8_goAll_86 rfl (j := 0) rfl ?_
  refine g_iconst C dX8_goAll_87 (v := -1) (by decide) ?_
  refine h_iastX C F 10 rfl dX8_goAll_88 (vp_in_iff.mpr (by decide)) (flf := fun g => flM cy b ts g) (fun _ => rfl) (fun M g126 F => ?_)
  refine g_aload_n C dX8_goAll_89 rfl (j := 1) rfl ?_
  refine h_get C F 0 rfl fk_X8_58 dX8_goAll_90 rfl ?_
  refine g_iload_n C dX8_goAll_93 rfl (j := 0) rfl ?_
  refine g_iconst C dX8_goAll_94 (v := 0) (by decide) ?_
  refine h_iast C F 15 rfl dX8_goAll_95 (vp_in_iff.mpr (by decide)) (g := (fun _ => 0)) (upd0 _) (fl2 := flM cy b ts g126) rfl (fun M F => ?_)
  refine g_iinc C dX8_goAll_96 (j := 0) rfl (v := 1) (by decide) (by decide) (lv2 := [(1, .int 1), (0, .ref (b 0))]) rfl ?_
  refine g_goto C dX8_goAll_99 (tgt := 76) (by decide) ?_
  refine g_iload_n C dX8_goAll_76 rfl (j := 0) rfl ?_
  refine g_bipush C dX8_goAll_77 (v := 8) (by decide) ?_
  refine g_icmp_ge C dX8_goAll_79 (tgt := 102) (by decide) (fun q => absurd q (by decide)) (fun _ => ?_)
  refine g_aload_n C dX8_goAll_82 rfl (j := 1) rfl ?_
  refine h_get C F 0 rfl fk_X8_43 dX8_goAll_83 rfl ?_
  refine g_iload_n C dX8_goAll_86 rfl (j := 0) rfl ?_
  refine g_iconst C dX8_goAll_87 (v := -1) (by decide) ?_
  refine h_iastX C F 10 rfl dX8_goAll_88 (vp_in_iff.mpr (by decide)) (flf := fun g => flM cy b ts g) (fun _ => rfl) (fun M g127 F => ?_)
  refine g_aload_n C dX8_goAll_89 rfl (j := 1) rfl ?_
  refine h_get C F 0 rfl fk_X8_58 dX8_goAll_90 rfl ?_
  refine g_iload_n C dX8_goAll_93 rfl (j := 0) rfl ?_
  refine g_iconst C dX8_goAll_94 (v := 0) (by decide) ?_
  refine h_iast C F 15 rfl dX8_goAll_95 (vp_in_iff.mpr (by decide)) (g := (fun _ => 0)) (upd0 _) (fl2 := flM cy b ts g127) rfl (fun M F => ?_)
  refine g_iinc C dX8_goAll_96 (j := 0) rfl (v := 2) (by decide) (by decide) (lv2 := [(1, .int 2), (0, .ref (b 0))]) rfl ?_
  refine g_goto C dX8_goAll_99 (tgt := 76) (by decide) ?_
  refine g_iload_n C dX8_goAll_76 rfl (j := 0) rfl ?_
  refine g_bipush C dX8_goAll_77 (v := 8) (by decide) ?_
  refine g_icmp_ge C dX8_goAll_79 (tgt := 102) (by decide) (fun q => absurd q (by decide)) (fun _ => ?_)
  refine g_aload_n C dX8_goAll_82 rfl (j := 1) rfl ?_
  refine h_get C F 0 rfl fk_X8_43 dX8_goAll_83 rfl ?_
  refine g_iload_n C dX8_goAll_86 rfl (j := 0) rfl ?_
  refine g_iconst C dX8_goAll_87 (v := -1) (by decide) ?_
  refine h_iastX C F 10 rfl dX8_goAll_88 (vp_in_iff.mpr (by decide)) (flf := fun g => flM cy b ts g) (fun _ => rfl) (fun M g128 F => ?_)
  refine g_aload_n C dX8_goAll_89 rfl (j := 1) rfl ?_
  refine h_get C F 0 rfl fk_X8_58 dX8_goAll_90 rfl ?_
  refine g_iload_n C dX8_goAll_93 rfl (j := 0) rfl ?_
  refine g_iconst C dX8_goAll_94 (v := 0) (by decide) ?_
  refine h_iast C F 15 rfl dX8_goAll_95 (vp_in_iff.mpr (by decide)) (g := (fun _ => 0)) (upd0 _) (fl2 := flM cy b ts g128) rfl (fun M F => ?_)
  refine g_iinc C dX8_goAll_96 (j := 0) rfl (v := 3) (by decide) (by decide) (lv2 := [(1, .int 3), (0, .ref (b 0))]) rfl ?_
  refine g_goto C dX8_goAll_99 (tgt := 76) (by decide) ?_
  refine g_iload_n C dX8_goAll_76 rfl (j := 0) rfl ?_
  refine g_bipush C dX8_goAll_77 (v := 8) (by decide) ?_
  refine g_icmp_ge C dX8_goAll_79 (tgt := 102) (by decide) (fun q => absurd q (by decide)) (fun _ => ?_)
  refine g_aload_n C dX8_goAll_82 rfl (j := 1) rfl ?_
  refine h_get C F 0 rfl fk_X8_43 dX8_goAll_83 rfl ?_
  refine g_iload_n C dX8_goAll_86 rfl (j := 0) rfl ?_
  refine g_iconst C dX8_goAll_87 (v := -1) (by decide) ?_
  refine h_iastX C F 10 rfl dX8_goAll_88 (vp_in_iff.mpr (by decide)) (flf := fun g => flM cy b ts g) (fun _ => rfl) (fun M g129 F => ?_)
  refine g_aload_n C dX8_goAll_89 rfl (j := 1) rfl ?_
  refine h_get C F 0 rfl fk_X8_58 dX8_goAll_90 rfl ?_
  refine g_iload_n C dX8_goAll_93 rfl (j := 0) rfl ?_
  refine g_iconst C dX8_goAll_94 (v := 0) (by decide) ?_
  refine h_iast C F 15 rfl dX8_goAll_95 (vp_in_iff.mpr (by decide)) (g := (fun _ => 0)) (upd0 _) (fl2 := flM cy b ts g129) rfl (fun M F => ?_)
  refine g_iinc C dX8_goAll_96 (j := 0) rfl (v := 4) (by decide) (by decide) (lv2 := [(1, .int 4), (0, .ref (b 0))]) rfl ?_
  refine g_goto C dX8_goAll_99 (tgt := 76) (by decide) ?_
  refine g_iload_n C dX8_goAll_76 rfl (j := 0) rfl ?_
  refine g_bipush C dX8_goAll_77 (v := 8) (by decide) ?_
  refine g_icmp_ge C dX8_goAll_79 (tgt := 102) (by decide) (fun q => absurd q (by decide)) (fun _ => ?_)
  refine g_aload_n C dX8_goAll_82 rfl (j := 1) rfl ?_
  refine h_get C F 0 rfl fk_X8_43 dX8_goAll_83 rfl ?_
  refine g_iload_n C dX8_goAll_86 rfl (j := 0) rfl ?_
  refine g_iconst C dX8_goAll_87 (v := -1) (by decide) ?_
  refine h_iastX C F 10 rfl dX8_goAll_88 (vp_in_iff.mpr (by decide)) (flf := fun g => flM cy b ts g) (fun _ => rfl) (fun M g130 F => ?_)
  refine g_aload_n C dX8_goAll_89 rfl (j := 1) rfl ?_
  refine h_get C F 0 rfl fk_X8_58 dX8_goAll_90 rfl ?_
  refine g_iload_n C dX8_goAll_93 rfl (j := 0) rfl ?_
  refine g_iconst C dX8_goAll_94 (v := 0) (by decide) ?_
  refine h_iast C F 15 rfl dX8_goAll_95 (vp_in_iff.mpr (by decide)) (g := (fun _ => 0)) (upd0 _) (fl2 := flM cy b ts g130) rfl (fun M F => ?_)
  refine g_iinc C dX8_goAll_96 (j := 0) rfl (v := 5) (by decide) (by decide) (lv2 := [(1, .int 5), (0, .ref (b 0))]) rfl ?_
  refine g_goto C dX8_goAll_99 (tgt := 76) (by decide) ?_
  refine g_iload_n C dX8_goAll_76 rfl (j := 0) rfl ?_
  refine g_bipush C dX8_goAll_77 (v := 8) (by decide) ?_
  refine g_icmp_ge C dX8_goAll_79 (tgt := 102) (by decide) (fun q => absurd q (by decide)) (fun _ => ?_)
  refine g_aload_n C dX8_goAll_82 rfl (j := 1) rfl ?_
  refine h_get C F 0 rfl fk_X8_43 dX8_goAll_83 rfl ?_
  refine g_iload_n C dX8_goAll_86 rfl (j := 0) rfl ?_
  refine g_iconst C dX8_goAll_87 (v := -1) (by decide) ?_
  refine h_iastX C F 10 rfl dX8_goAll_88 (vp_in_iff.mpr (by decide)) (flf := fun g => flM cy b ts g) (fun _ => rfl) (fun M g131 F => ?_)
  refine g_aload_n C dX8_goAll_89 rfl (j := 1) rfl ?_
  refine h_get C F 0 rfl fk_X8_58 dX8_goAll_90 rfl ?_
  refine g_iload_n C dX8_goAll_93 rfl (j := 0) rfl ?_
  refine g_iconst C dX8_goAll_94 (v := 0) (by decide) ?_
  refine h_iast C F 15 rfl dX8_goAll_95 (vp_in_iff.mpr (by decide)) (g := (fun _ => 0)) (upd0 _) (fl2 := flM cy b ts g131) rfl (fun M F => ?_)
  refine g_iinc C dX8_goAll_96 (j := 0) rfl (v := 6) (by decide) (by decide) (lv2 := [(1, .int 6), (0, .ref (b 0))]) rfl ?_
  refine g_goto C dX8_goAll_99 (tgt := 76) (by decide) ?_
  refine g_iload_n C dX8_goAll_76 rfl (j := 0) rfl ?_
  refine g_bipush C dX8_goAll_77 (v := 8) (by decide) ?_
  refine g_icmp_ge C dX8_goAll_79 (tgt := 102) (by decide) (fun q => absurd q (by decide)) (fun _ => ?_)
  refine g_aload_n C dX8_goAll_82 rfl (j := 1) rfl ?_
  refine h_get C F 0 rfl fk_X8_43 dX8_goAll_83 rfl ?_
  refine g_iload_n C dX8_goAll_86 rfl (j := 0) rfl ?_
  refine g_iconst C dX8_goAll_87 (v := -1) (by decide) ?_
  refine h_iastX C F 10 rfl dX8_goAll_88 (vp_in_iff.mpr (by decide)) (flf := fun g => flM cy b ts g) (fun _ => rfl) (fun M g132 F => ?_)
  refine g_aload_n C dX8_goAll_89 rfl (j := 1) rfl ?_
  refine h_get C F 0 rfl fk_X8_58 dX8_goAll_90 rfl ?_
  refine g_iload_n C dX8_goAll_93 rfl (j := 0) rfl ?_
  refine g_iconst C dX8_goAll_94 (v := 0) (by decide) ?_
  refine h_iast C F 15 rfl dX8_goAll_95 (vp_in_iff.mpr (by decide)) (g := (fun _ => 0)) (upd0 _) (fl2 := flM cy b ts g132) rfl (fun M F => ?_)
  refine g_iinc C dX8_goAll_96 (j := 0) rfl (v := 7) (by decide) (by decide) (lv2 := [(1, .int 7), (0, .ref (b 0))]) rfl ?_
  refine g_goto C dX8_goAll_99 (tgt := 76) (by decide) ?_
  refine g_iload_n C dX8_goAll_76 rfl (j := 0) rfl ?_
  refine g_bipush C dX8_goAll_77 (v := 8) (by decide) ?_
  refine g_icmp_ge C dX8_goAll_79 (tgt := 102) (by decide) (fun q => absurd q (by decide)) (fun _ => ?_)
  refine g_aload_n C dX8_goAll_82 rfl (j := 1) rfl ?_
  refine h_get C F 0 rfl fk_X8_43 dX8_goAll_83 rfl ?_
  refine g_iload_n C dX8_goAll_86 rfl (j := 0) rfl ?_
  refine g_iconst C dX8_goAll_87 (v := -1) (by decide) ?_
  refine h_iastX C F 10 rfl dX8_goAll_88 (vp_in_iff.mpr (by decide)) (flf := fun g => flM cy b ts g) (fun _ => rfl) (fun M g133 F => ?_)
  refine g_aload_n C dX8_goAll_89 rfl (j := 1) rfl ?_
  refine h_get C F 0 rfl fk_X8_58 dX8_goAll_90 rfl ?_
  refine g_iload_n C dX8_goAll_93 rfl (j := 0) rfl ?_
  refine g_iconst C dX8_goAll_94 (v := 0) (by decide) ?_
  refine h_iast C F 15 rfl dX8_goAll_95 (vp_in_iff.mpr (by decide)) (g := (fun _ => 0)) (upd0 _) (fl2 := flM cy b ts g133) rfl (fun M F => ?_)
  refine g_iinc C dX8_goAll_96 (j := 0) rfl (v := 8) (by decide) (by decide) (lv2 := [(1, .int 8), (0, .ref (b 0))]) rfl ?_
  refine g_goto C dX8_goAll_99 (tgt := 76) (by decide) ?_
  refine g_iload_n C dX8_goAll_76 rfl (j := 0) rfl ?_
  refine g_bipush C dX8_goAll_77 (v := 8) (by decide) ?_
  refine g_icmp_ge C dX8_goAll_79 (tgt := 102) (by decide) (fun _ => ?_) (fun q => absurd (by decide) q)
  refine g_iconst C dX8_goAll_102 (v := 0) (by decide) ?_
  refine g_istore_n C dX8_goAll_103 rfl (by decide) (lv2 := [(1, .int 0), (0, .ref (b 0))]) rfl ?_
  refine g_iload_n C dX8_goAll_104 rfl (j := 0) rfl ?_
  refine g_aload_n C dX8_goAll_105 rfl (j := 1) rfl ?_
  refine g_callVI C (c_X8_hours_s48 l G F ) lk_X8_106 (F.mem 0 rfl) (F.at 0 rfl) rfl rfl dX8_goAll_106 (Nat.le_of_ble_eq_true rfl) ⟨by decide, by decide⟩ ⟨by decide, by decide⟩ (fun r1 L M hp => ?_)
  obtain ⟨r1_, F⟩ := hp
  subst r1_
  refine g_icmp_gt C dX8_goAll_109 (tgt := 230) (by decide) (fun q => absurd q (by decide)) (fun _ => ?_)
  refine g_iconst C dX8_goAll_112 (v := 0) (by decide) ?_
  refine g_istore_n C dX8_goAll_113 rfl (by decide) (lv2 := [(2, .int 0), (1, .int 0), (0, .ref (b 0))]) rfl ?_
  refine g_iload_n C dX8_goAll_114 rfl (j := 0) rfl ?_
  refine g_aload_n C dX8_goAll_115 rfl (j := 2) rfl ?_
  refine g_callVI C (c_X8_walkers_s37 l G F ) lk_X8_109 (F.mem 0 rfl) (F.at 0 rfl) rfl rfl dX8_goAll_116 (Nat.le_of_ble_eq_true rfl) ⟨by decide, by decide⟩ ⟨by decide, by decide⟩ (fun r2 L M hp => ?_)
  obtain ⟨r2_, F⟩ := hp
  subst r2_
  refine g_icmp_ge C dX8_goAll_119 (tgt := 172) (by decide) (fun _ => ?_) (fun q => absurd (by decide) q)
  refine g_iconst C dX8_goAll_172 (v := 0) (by decide) ?_
  refine g_istore_n C dX8_goAll_173 rfl (by decide) (lv2 := [(2, .int 0), (1, .int 0), (0, .ref (b 0))]) rfl ?_
  refine g_iload_n C dX8_goAll_174 rfl (j := 0) rfl ?_
  refine g_bipush C dX8_goAll_175 (v := 7) (by decide) ?_
  refine g_icmp_ge C dX8_goAll_177 (tgt := 203) (by decide) (fun q => absurd q (by decide)) (fun _ => ?_)
  refine g_aload_n C dX8_goAll_180 rfl (j := 2) rfl ?_
  refine h_get C F 0 rfl fk_X8_49 dX8_goAll_181 rfl ?_
  refine g_bipush C dX8_goAll_184 (v := 7) (by decide) ?_
  refine g_iload_n C dX8_goAll_186 rfl (j := 1) rfl ?_
  refine g_imul C dX8_goAll_187 ?_
  refine Go.top (v := .int 0) (by decide) ?_
  refine g_iload_n C dX8_goAll_188 rfl (j := 0) rfl ?_
  refine g_iadd C dX8_goAll_189 ?_
  refine Go.top (v := .int 0) (by decide) ?_
  refine g_aload_n C dX8_goAll_190 rfl (j := 2) rfl ?_
  refine h_get C F 0 rfl fk_X8_40 dX8_goAll_191 rfl ?_
  refine g_iload_n C dX8_goAll_194 rfl (j := 0) rfl ?_
  refine h_iald C F 9 rfl dX8_goAll_195 (vp_in_iff.mpr (by decide)) (v := 0) rfl ?_
  refine h_iast C F 12 rfl dX8_goAll_196 (vp_in_iff.mpr (by decide)) (g := (fun _ => 0)) (upd0 _) (fl2 := flM cy b ts g133) rfl (fun M F => ?_)
  refine g_iinc C dX8_goAll_197 (j := 0) rfl (v := 1) (by decide) (by decide) (lv2 := [(2, .int 1), (1, .int 0), (0, .ref (b 0))]) rfl ?_
  refine g_goto C dX8_goAll_200 (tgt := 174) (by decide) ?_
  refine g_iload_n C dX8_goAll_174 rfl (j := 0) rfl ?_
  refine g_bipush C dX8_goAll_175 (v := 7) (by decide) ?_
  refine g_icmp_ge C dX8_goAll_177 (tgt := 203) (by decide) (fun q => absurd q (by decide)) (fun _ => ?_)
  refine g_aload_n C dX8_goAll_180 rfl (j := 2) rfl ?_
  refine h_get C F 0 rfl fk_X8_49 dX8_goAll_181 rfl ?_
  refine g_bipush C dX8_goAll_184 (v := 7) (by decide) ?_
  refine g_iload_n C dX8_goAll_186 rfl (j := 1) rfl ?_
  refine g_imul C dX8_goAll_187 ?_
  refine Go.top (v := .int 0) (by decide) ?_
  refine g_iload_n C dX8_goAll_188 rfl (j := 0) rfl ?_
  refine g_iadd C dX8_goAll_189 ?_
  refine Go.top (v := .int 1) (by decide) ?_
  refine g_aload_n C dX8_goAll_190 rfl (j := 2) rfl ?_
  refine h_get C F 0 rfl fk_X8_40 dX8_goAll_191 rfl ?_
  refine g_iload_n C dX8_goAll_194 rfl (j := 0) rfl ?_
  refine h_iald C F 9 rfl dX8_goAll_195 (vp_in_iff.mpr (by decide)) (v := 0) rfl ?_
  refine h_iast C F 12 rfl dX8_goAll_196 (vp_in_iff.mpr (by decide)) (g := (fun _ => 0)) (upd0 _) (fl2 := flM cy b ts g133) rfl (fun M F => ?_)
  refine g_iinc C dX8_goAll_197 (j := 0) rfl (v := 2) (by decide) (by decide) (lv2 := [(2, .int 2), (1, .int 0), (0, .ref (b 0))]) rfl ?_
  refine g_goto C dX8_goAll_200 (tgt := 174) (by decide) ?_
  refine g_iload_n C dX8_goAll_174 rfl (j := 0) rfl ?_
  refine g_bipush C dX8_goAll_175 (v := 7) (by decide) ?_
  refine g_icmp_ge C dX8_goAll_177 (tgt := 203) (by decide) (fun q => absurd q (by decide)) (fun _ => ?_)
  refine g_aload_n C dX8_goAll_180 rfl (j := 2) rfl ?_
  refine h_get C F 0 rfl fk_X8_49 dX8_goAll_181 rfl ?_
  refine g_bipush C dX8_goAll_184 (v := 7) (by decide) ?_
  refine g_iload_n C dX8_goAll_186 rfl (j := 1) rfl ?_
  refine g_imul C dX8_goAll_187 ?_
  refine Go.top (v := .int 0) (by decide) ?_
  refine g_iload_n C dX8_goAll_188 rfl (j := 0) rfl ?_
  refine g_iadd C dX8_goAll_189 ?_
  refine Go.top (v := .int 2) (by decide) ?_
  refine g_aload_n C dX8_goAll_190 rfl (j := 2) rfl ?_
  refine h_get C F 0 rfl fk_X8_40 dX8_goAll_191 rfl ?_
  refine g_iload_n C dX8_goAll_194 rfl (j := 0) rfl ?_
  refine h_iald C F 9 rfl dX8_goAll_195 (vp_in_iff.mpr (by decide)) (v := 0) rfl ?_
  refine h_iast C F 12 rfl dX8_goAll_196 (vp_in_iff.mpr (by decide)) (g := (fun _ => 0)) (upd0 _) (fl2 := flM cy b ts g133) rfl (fun M F => ?_)
  refine g_iinc C dX8_goAll_197 (j := 0) rfl (v := 3) (by decide) (by decide) (lv2 := [(2, .int 3), (1, .int 0), (0, .ref (b 0))]) rfl ?_
  refine g_goto C dX8_goAll_200 (tgt := 174) (by decide) ?_
  refine g_iload_n C dX8_goAll_174 rfl (j := 0) rfl ?_
  refine g_bipush C dX8_goAll_175 (v := 7) (by decide) ?_
  refine g_icmp_ge C dX8_goAll_177 (tgt := 203) (by decide) (fun q => absurd q (by decide)) (fun _ => ?_)
  refine g_aload_n C dX8_goAll_180 rfl (j := 2) rfl ?_
  refine h_get C F 0 rfl fk_X8_49 dX8_goAll_181 rfl ?_
  refine g_bipush C dX8_goAll_184 (v := 7) (by decide) ?_
  refine g_iload_n C dX8_goAll_186 rfl (j := 1) rfl ?_
  refine g_imul C dX8_goAll_187 ?_
  refine Go.top (v := .int 0) (by decide) ?_
  refine g_iload_n C dX8_goAll_188 rfl (j := 0) rfl ?_
  refine g_iadd C dX8_goAll_189 ?_
  refine Go.top (v := .int 3) (by decide) ?_
  refine g_aload_n C dX8_goAll_190 rfl (j := 2) rfl ?_
  refine h_get C F 0 rfl fk_X8_40 dX8_goAll_191 rfl ?_
  refine g_iload_n C dX8_goAll_194 rfl (j := 0) rfl ?_
  refine h_iald C F 9 rfl dX8_goAll_195 (vp_in_iff.mpr (by decide)) (v := 0) rfl ?_
  refine h_iast C F 12 rfl dX8_goAll_196 (vp_in_iff.mpr (by decide)) (g := (fun _ => 0)) (upd0 _) (fl2 := flM cy b ts g133) rfl (fun M F => ?_)
  refine g_iinc C dX8_goAll_197 (j := 0) rfl (v := 4) (by decide) (by decide) (lv2 := [(2, .int 4), (1, .int 0), (0, .ref (b 0))]) rfl ?_
  refine g_goto C dX8_goAll_200 (tgt := 174) (by decide) ?_
  refine g_iload_n C dX8_goAll_174 rfl (j := 0) rfl ?_
  refine g_bipush C dX8_goAll_175 (v := 7) (by decide) ?_
  refine g_icmp_ge C dX8_goAll_177 (tgt := 203) (by decide) (fun q => absurd q (by decide)) (fun _ => ?_)
  refine g_aload_n C dX8_goAll_180 rfl (j := 2) rfl ?_
  refine h_get C F 0 rfl fk_X8_49 dX8_goAll_181 rfl ?_
  refine g_bipush C dX8_goAll_184 (v := 7) (by decide) ?_
  refine g_iload_n C dX8_goAll_186 rfl (j := 1) rfl ?_
  refine g_imul C dX8_goAll_187 ?_
  refine Go.top (v := .int 0) (by decide) ?_
  refine g_iload_n C dX8_goAll_188 rfl (j := 0) rfl ?_
  refine g_iadd C dX8_goAll_189 ?_
  refine Go.top (v := .int 4) (by decide) ?_
  refine g_aload_n C dX8_goAll_190 rfl (j := 2) rfl ?_
  refine h_get C F 0 rfl fk_X8_40 dX8_goAll_191 rfl ?_
  refine g_iload_n C dX8_goAll_194 rfl (j := 0) rfl ?_
  refine h_iald C F 9 rfl dX8_goAll_195 (vp_in_iff.mpr (by decide)) (v := 0) rfl ?_
  refine h_iast C F 12 rfl dX8_goAll_196 (vp_in_iff.mpr (by decide)) (g := (fun _ => 0)) (upd0 _) (fl2 := flM cy b ts g133) rfl (fun M F => ?_)
  refine g_iinc C dX8_goAll_197 (j := 0) rfl (v := 5) (by decide) (by decide) (lv2 := [(2, .int 5), (1, .int 0), (0, .ref (b 0))]) rfl ?_
  refine g_goto C dX8_goAll_200 (tgt := 174) (by decide) ?_
  refine g_iload_n C dX8_goAll_174 rfl (j := 0) rfl ?_
  refine g_bipush C dX8_goAll_175 (v := 7) (by decide) ?_
  refine g_icmp_ge C dX8_goAll_177 (tgt := 203) (by decide) (fun q => absurd q (by decide)) (fun _ => ?_)
  refine g_aload_n C dX8_goAll_180 rfl (j := 2) rfl ?_
  refine h_get C F 0 rfl fk_X8_49 dX8_goAll_181 rfl ?_
  refine g_bipush C dX8_goAll_184 (v := 7) (by decide) ?_
  refine g_iload_n C dX8_goAll_186 rfl (j := 1) rfl ?_
  refine g_imul C dX8_goAll_187 ?_
  refine Go.top (v := .int 0) (by decide) ?_
  refine g_iload_n C dX8_goAll_188 rfl (j := 0) rfl ?_
  refine g_iadd C dX8_goAll_189 ?_
  refine Go.top (v := .int 5) (by decide) ?_
  refine g_aload_n C dX8_goAll_190 rfl (j := 2) rfl ?_
  refine h_get C F 0 rfl fk_X8_40 dX8_goAll_191 rfl ?_
  refine g_iload_n C dX8_goAll_194 rfl (j := 0) rfl ?_
  refine h_iald C F 9 rfl dX8_goAll_195 (vp_in_iff.mpr (by decide)) (v := 0) rfl ?_
  refine h_iast C F 12 rfl dX8_goAll_196 (vp_in_iff.mpr (by decide)) (g := (fun _ => 0)) (upd0 _) (fl2 := flM cy b ts g133) rfl (fun M F => ?_)
  refine g_iinc C dX8_goAll_197 (j := 0) rfl (v := 6) (by decide) (by decide) (lv2 := [(2, .int 6), (1, .int 0), (0, .ref (b 0))]) rfl ?_
  refine g_goto C dX8_goAll_200 (tgt := 174) (by decide) ?_
  refine g_iload_n C dX8_goAll_174 rfl (j := 0) rfl ?_
  refine g_bipush C dX8_goAll_175 (v := 7) (by decide) ?_
  refine g_icmp_ge C dX8_goAll_177 (tgt := 203) (by decide) (fun q => absurd q (by decide)) (fun _ => ?_)
  refine g_aload_n C dX8_goAll_180 rfl (j := 2) rfl ?_
  refine h_get C F 0 rfl fk_X8_49 dX8_goAll_181 rfl ?_
  refine g_bipush C dX8_goAll_184 (v := 7) (by decide) ?_
  refine g_iload_n C dX8_goAll_186 rfl (j := 1) rfl ?_
  refine g_imul C dX8_goAll_187 ?_
  refine Go.top (v := .int 0) (by decide) ?_
  refine g_iload_n C dX8_goAll_188 rfl (j := 0) rfl ?_
  refine g_iadd C dX8_goAll_189 ?_
  refine Go.top (v := .int 6) (by decide) ?_
  refine g_aload_n C dX8_goAll_190 rfl (j := 2) rfl ?_
  refine h_get C F 0 rfl fk_X8_40 dX8_goAll_191 rfl ?_
  refine g_iload_n C dX8_goAll_194 rfl (j := 0) rfl ?_
  refine h_iald C F 9 rfl dX8_goAll_195 (vp_in_iff.mpr (by decide)) (v := 0) rfl ?_
  refine h_iast C F 12 rfl dX8_goAll_196 (vp_in_iff.mpr (by decide)) (g := (fun _ => 0)) (upd0 _) (fl2 := flM cy b ts g133) rfl (fun M F => ?_)
  refine g_iinc C dX8_goAll_197 (j := 0) rfl (v := 7) (by decide) (by decide) (lv2 := [(2, .int 7), (1, .int 0), (0, .ref (b 0))]) rfl ?_
  refine g_goto C dX8_goAll_200 (tgt := 174) (by decide) ?_
  refine g_iload_n C dX8_goAll_174 rfl (j := 0) rfl ?_
  refine g_bipush C dX8_goAll_175 (v := 7) (by decide) ?_
  refine g_icmp_ge C dX8_goAll_177 (tgt := 203) (by decide) (fun _ => ?_) (fun q => absurd (by decide) q)
  refine g_iload_n C dX8_goAll_203 rfl (j := 1) rfl ?_
  refine g_aload_n C dX8_goAll_204 rfl (j := 2) rfl ?_
  refine g_callVI C (c_X8_hours_s48 l G F ) lk_X8_106 (F.mem 0 rfl) (F.at 0 rfl) rfl rfl dX8_goAll_205 (Nat.le_of_ble_eq_true rfl) ⟨by decide, by decide⟩ ⟨by decide, by decide⟩ (fun r3 L M hp => ?_)
  obtain ⟨r3_, F⟩ := hp
  subst r3_
  refine g_icmp_ne C dX8_goAll_208 (tgt := 212) (by decide) (fun q => absurd (by decide) q) (fun _ => ?_)
  exact g_vret C hrt dX8_goAll_211 (by decide) (by decide) ⟨g133, F⟩
set_option maxHeartbeats 4000000 in
set_option maxRecDepth 100000 in
theorem c_X8_asksHeath_s50 (l : Launch) (G : va_G) {cy : Nat → ClassId} {L : List Nat} {M : Nat → va_E} {b : Nat → Nat} {pn : Nat → Int32} {ts : Int32}  (F : FW L M (flM cy b ts pn))  : MI l G cy yX8_asksHeath cX8_asksHeath 1 (some .boolean) 2 0 0 [.ref (b 0)] L M (fun r L2 M2 => r = (0) ∧ ∃ (g134 : Nat → Int32), FW L2 M2 (flM cy b 127 g134)) := by
  refine MI.of (own := RX8) rfl (by decide) (Nat.le_of_ble_eq_true rfl) ?_
  intro p e s m below meth c A C hrt hnm
  refine g_aload_n C dX8_asksHeath_0 rfl (j := 0) rfl ?_
  refine g_callVV C (c_X8_asItIs_s47 l G F ) lk_X8_286 (F.mem 0 rfl) (F.at 0 rfl) rfl rfl dX8_asksHeath_1 (Nat.le_of_ble_eq_true rfl) ⟨by decide, by decide⟩ ⟨by decide, by decide⟩ (fun L M hp => ?_)
  have F := hp
  refine g_aload_n C dX8_asksHeath_4 rfl (j := 0) rfl ?_
  refine g_callVV C (c_X8_goAll_s49 l G F ) lk_X8_289 (F.mem 0 rfl) (F.at 0 rfl) rfl rfl dX8_asksHeath_5 (Nat.le_of_ble_eq_true rfl) ⟨by decide, by decide⟩ ⟨by decide, by decide⟩ (fun L M hp => ?_)
  obtain ⟨g134, F⟩ := hp
  refine g_aload_n C dX8_asksHeath_8 rfl (j := 0) rfl ?_
  refine g_callVI C (c_X8_isHeath_s39 l G F ) lk_X8_102 (F.mem 0 rfl) (F.at 0 rfl) rfl rfl dX8_asksHeath_9 (Nat.le_of_ble_eq_true rfl) ⟨by decide, by decide⟩ ⟨by decide, by decide⟩ (fun r1 L M hp => ?_)
  obtain ⟨r1_, F⟩ := hp
  subst r1_
  exact g_zret C hrt rfl dX8_asksHeath_12 (by decide) (by decide) ⟨by decide, ⟨g134, F⟩⟩
set_option maxHeartbeats 4000000 in
set_option maxRecDepth 100000 in
theorem c_X8_isHour_s51 (l : Launch) (G : va_G) {cy : Nat → ClassId} {L : List Nat} {M : Nat → va_E} {b : Nat → Nat} {pn : Nat → Int32} {ts : Int32}  (F : FW L M (flM cy b ts pn)) (p0 : Int64) : MI l G cy yX8_isHour cX8_isHour 3 (some .boolean) 1 0 0 [.ref (b 0), .long p0] L M (fun r L2 M2 => r = (0) ∧ FW L2 M2 (flM cy b ts pn)) := by
  refine MI.of (own := RX8) rfl (by decide) (Nat.le_of_ble_eq_true rfl) ?_
  intro p e s m below meth c A C hrt hnm
  refine g_aload_n C dX8_isHour_0 rfl (j := 0) rfl ?_
  refine g_callVI C (c_X8_isHeath_s39 l G F ) lk_X8_102 (F.mem 0 rfl) (F.at 0 rfl) rfl rfl dX8_isHour_1 (Nat.le_of_ble_eq_true rfl) ⟨by decide, by decide⟩ ⟨by decide, by decide⟩ (fun r1 L M hp => ?_)
  obtain ⟨r1_, F⟩ := hp
  subst r1_
  refine g_if_eq C dX8_isHour_4 (tgt := 24) (by decide) (fun _ => ?_) (fun q => absurd (by decide) q)
  refine g_iconst C dX8_isHour_24 (v := 0) (by decide) ?_
  exact g_zret C hrt rfl dX8_isHour_25 (by decide) (by decide) ⟨by decide, F⟩
set_option maxHeartbeats 4000000 in
set_option maxRecDepth 100000 in
theorem c_X8_asksHour_s52 (l : Launch) (G : va_G) {cy : Nat → ClassId} {L : List Nat} {M : Nat → va_E} {b : Nat → Nat} {pn : Nat → Int32} {ts : Int32}  (F : FW L M (flM cy b ts pn)) (p0 : Int32) : MI l G cy yX8_asksHour cX8_asksHour 2 (some .boolean) 3 0 0 [.ref (b 0), .int p0] L M (fun r L2 M2 => r = (0) ∧ ∃ (g135 : Nat → Int32), FW L2 M2 (flM cy b 127 g135)) := by
  refine MI.of (own := RX8) rfl (by decide) (Nat.le_of_ble_eq_true rfl) ?_
  intro p e s m below meth c A C hrt hnm
  refine g_aload_n C dX8_asksHour_0 rfl (j := 0) rfl ?_
  refine g_callVI C (c_X8_asksHeath_s50 l G F ) lk_X8_292 (F.mem 0 rfl) (F.at 0 rfl) rfl rfl dX8_asksHour_1 (Nat.le_of_ble_eq_true rfl) ⟨by decide, by decide⟩ ⟨by decide, by decide⟩ (fun r1 L M hp => ?_)
  obtain ⟨r1_, g135, F⟩ := hp
  subst r1_
  refine g_pop C dX8_asksHour_4 rfl ?_
  refine g_aload_n C dX8_asksHour_5 rfl (j := 0) rfl ?_
  refine g_iload_n C dX8_asksHour_6 rfl (j := 1) rfl ?_
  refine g_i2l C dX8_asksHour_7 (v := p0.toInt64) rfl ?_
  refine g_callVI C (c_X8_isHour_s51 l G F (p0.toInt64)) lk_X8_295 (F.mem 0 rfl) (F.at 0 rfl) rfl rfl dX8_asksHour_8 (Nat.le_of_ble_eq_true rfl) ⟨by decide, by decide⟩ ⟨by decide, by decide⟩ (fun r2 L M hp => ?_)
  obtain ⟨r2_, F⟩ := hp
  subst r2_
  exact g_zret C hrt rfl dX8_asksHour_11 (by decide) (by decide) ⟨by decide, ⟨g135, F⟩⟩
set_option maxHeartbeats 4000000 in
set_option maxRecDepth 100000 in
theorem c_X8_at (l : Launch) (G : va_G) {cy : Nat → ClassId} {L : List Nat} {M : Nat → va_E} {b : Nat → Nat} {ts : Int32} {pn : Nat → Int32}  (F : FW L M (flM cy b ts pn)) (p0 : Int32) (p1 : Int32) : MI l G cy yX8_at cX8_at 3 (some .int) 4 0 0 [.ref (b 0), .int p0, .int p1] L M (fun r L2 M2 => r = (-2)) := by
  refine MI.of (own := RX8) rfl (by decide) (Nat.le_of_ble_eq_true rfl) ?_
  intro p e s m below meth c A C hrt hnm
  refine g_aload_n C dX8_at_0 rfl (j := 0) rfl ?_
  refine g_iload_n C dX8_at_1 rfl (j := 2) rfl ?_
  refine g_callVI C (c_X8_asksHour_s52 l G F p1) lk_X8_301 (F.mem 0 rfl) (F.at 0 rfl) rfl rfl dX8_at_2 (Nat.le_of_ble_eq_true rfl) ⟨by decide, by decide⟩ ⟨by decide, by decide⟩ (fun r1 L M hp => ?_)
  obtain ⟨r1_, g136, F⟩ := hp
  subst r1_
  refine g_if_eq C dX8_at_5 (tgt := 26) (by decide) (fun _ => ?_) (fun q => absurd (by decide) q)
  refine g_bipush C dX8_at_26 (v := -2) (by decide) ?_
  exact g_iret C hrt dX8_at_28 (by decide) (by decide) (by decide)
set_option maxHeartbeats 4000000 in
set_option maxRecDepth 100000 in
theorem c_X8_arm (l : Launch) (G : va_G) {cy : Nat → ClassId} {L : List Nat} {M : Nat → va_E} {b : Nat → Nat} {ts : Int32} {pn : Nat → Int32}  (F : FW L M (flM cy b ts pn)) (p0 : Int32) (p1 : Int32) : MI l G cy yX8_arm cX8_arm 3 (some .int) 4 0 0 [.ref (b 0), .int p0, .int p1] L M (fun r L2 M2 => r = (-2)) := by
  refine MI.of (own := RX8) rfl (by decide) (Nat.le_of_ble_eq_true rfl) ?_
  intro p e s m below meth c A C hrt hnm
  refine g_aload_n C dX8_arm_0 rfl (j := 0) rfl ?_
  refine g_iload_n C dX8_arm_1 rfl (j := 2) rfl ?_
  refine g_callVI C (c_X8_asksHour_s52 l G F p1) lk_X8_301 (F.mem 0 rfl) (F.at 0 rfl) rfl rfl dX8_arm_2 (Nat.le_of_ble_eq_true rfl) ⟨by decide, by decide⟩ ⟨by decide, by decide⟩ (fun r1 L M hp => ?_)
  obtain ⟨r1_, g137, F⟩ := hp
  subst r1_
  refine g_if_eq C dX8_arm_5 (tgt := 17) (by decide) (fun _ => ?_) (fun q => absurd (by decide) q)
  refine g_bipush C dX8_arm_17 (v := -2) (by decide) ?_
  exact g_iret C hrt dX8_arm_19 (by decide) (by decide) (by decide)
set_option maxHeartbeats 4000000 in
set_option maxRecDepth 100000 in
theorem c_X8_here (l : Launch) (G : va_G) {cy : Nat → ClassId} {L : List Nat} {M : Nat → va_E} {b : Nat → Nat} {ts : Int32} {pn : Nat → Int32}  (F : FW L M (flM cy b ts pn)) (p0 : Int32) (p1 : Int32) : MI l G cy yX8_here cX8_here 3 (some .int) 4 0 0 [.ref (b 0), .int p0, .int p1] L M (fun r L2 M2 => r = (-2)) := by
  refine MI.of (own := RX8) rfl (by decide) (Nat.le_of_ble_eq_true rfl) ?_
  intro p e s m below meth c A C hrt hnm
  refine g_aload_n C dX8_here_0 rfl (j := 0) rfl ?_
  refine g_iload_n C dX8_here_1 rfl (j := 2) rfl ?_
  refine g_callVI C (c_X8_asksHour_s52 l G F p1) lk_X8_301 (F.mem 0 rfl) (F.at 0 rfl) rfl rfl dX8_here_2 (Nat.le_of_ble_eq_true rfl) ⟨by decide, by decide⟩ ⟨by decide, by decide⟩ (fun r1 L M hp => ?_)
  obtain ⟨r1_, g138, F⟩ := hp
  subst r1_
  refine g_if_eq C dX8_here_5 (tgt := 26) (by decide) (fun _ => ?_) (fun q => absurd (by decide) q)
  refine g_bipush C dX8_here_26 (v := -2) (by decide) ?_
  exact g_iret C hrt dX8_here_28 (by decide) (by decide) (by decide)
set_option maxHeartbeats 4000000 in
set_option maxRecDepth 100000 in
theorem c_X8_isAhead_s53 (l : Launch) (G : va_G) {cy : Nat → ClassId} {L : List Nat} {M : Nat → va_E} {b : Nat → Nat} {pn : Nat → Int32} {ts : Int32}  (F : FW L M (flM cy b ts pn)) (p0 : Int64) : MI l G cy yX8_isAhead cX8_isAhead 3 (some .boolean) 1 0 0 [.ref (b 0), .long p0] L M (fun r L2 M2 => r = (0) ∧ FW L2 M2 (flM cy b ts pn)) := by
  refine MI.of (own := RX8) rfl (by decide) (Nat.le_of_ble_eq_true rfl) ?_
  intro p e s m below meth c A C hrt hnm
  refine g_aload_n C dX8_isAhead_0 rfl (j := 0) rfl ?_
  refine g_callVI C (c_X8_isHeath_s39 l G F ) lk_X8_102 (F.mem 0 rfl) (F.at 0 rfl) rfl rfl dX8_isAhead_1 (Nat.le_of_ble_eq_true rfl) ⟨by decide, by decide⟩ ⟨by decide, by decide⟩ (fun r1 L M hp => ?_)
  obtain ⟨r1_, F⟩ := hp
  subst r1_
  refine g_if_eq C dX8_isAhead_4 (tgt := 26) (by decide) (fun _ => ?_) (fun q => absurd (by decide) q)
  refine g_iconst C dX8_isAhead_26 (v := 0) (by decide) ?_
  exact g_zret C hrt rfl dX8_isAhead_27 (by decide) (by decide) ⟨by decide, F⟩
set_option maxHeartbeats 4000000 in
set_option maxRecDepth 100000 in
theorem c_X8_sent (l : Launch) (G : va_G) {cy : Nat → ClassId} {L : List Nat} {M : Nat → va_E} {b : Nat → Nat} {ts : Int32} {pn : Nat → Int32}  (F : FW L M (flM cy b ts pn)) (p0 : Int32) : MI l G cy yX8_sent cX8_sent 2 (some .int) 3 0 0 [.ref (b 0), .int p0] L M (fun r L2 M2 => r = (-2)) := by
  refine MI.of (own := RX8) rfl (by decide) (Nat.le_of_ble_eq_true rfl) ?_
  intro p e s m below meth c A C hrt hnm
  refine g_aload_n C dX8_sent_0 rfl (j := 0) rfl ?_
  refine g_callVI C (c_X8_asksHeath_s50 l G F ) lk_X8_292 (F.mem 0 rfl) (F.at 0 rfl) rfl rfl dX8_sent_1 (Nat.le_of_ble_eq_true rfl) ⟨by decide, by decide⟩ ⟨by decide, by decide⟩ (fun r1 L M hp => ?_)
  obtain ⟨r1_, g139, F⟩ := hp
  subst r1_
  refine g_pop C dX8_sent_4 rfl ?_
  refine g_aload_n C dX8_sent_5 rfl (j := 0) rfl ?_
  refine g_iload_n C dX8_sent_6 rfl (j := 1) rfl ?_
  refine g_i2l C dX8_sent_7 (v := p0.toInt64) rfl ?_
  refine g_callVI C (c_X8_isAhead_s53 l G F (p0.toInt64)) lk_X8_311 (F.mem 0 rfl) (F.at 0 rfl) rfl rfl dX8_sent_8 (Nat.le_of_ble_eq_true rfl) ⟨by decide, by decide⟩ ⟨by decide, by decide⟩ (fun r2 L M hp => ?_)
  obtain ⟨r2_, F⟩ := hp
  subst r2_
  refine g_if_eq C dX8_sent_11 (tgt := 23) (by decide) (fun _ => ?_) (fun q => absurd (by decide) q)
  refine g_bipush C dX8_sent_23 (v := -2) (by decide) ?_
  exact g_iret C hrt dX8_sent_25 (by decide) (by decide) (by decide)
set_option maxHeartbeats 4000000 in
set_option maxRecDepth 100000 in
theorem c_X8_asksPost_s54 (l : Launch) (G : va_G) {cy : Nat → ClassId} {L : List Nat} {M : Nat → va_E} {b : Nat → Nat} {pn : Nat → Int32} {ts : Int32}  (F : FW L M (flM cy b ts pn)) (p0 : Int32) : MI l G cy yX8_asksPost cX8_asksPost 2 (some .boolean) 3 0 0 [.ref (b 0), .int p0] L M (fun r L2 M2 => r = (0) ∧ ∃ (g140 : Nat → Int32), FW L2 M2 (flM cy b 127 g140)) := by
  refine MI.of (own := RX8) rfl (by decide) (Nat.le_of_ble_eq_true rfl) ?_
  intro p e s m below meth c A C hrt hnm
  refine g_aload_n C dX8_asksPost_0 rfl (j := 0) rfl ?_
  refine g_callVI C (c_X8_asksHeath_s50 l G F ) lk_X8_292 (F.mem 0 rfl) (F.at 0 rfl) rfl rfl dX8_asksPost_1 (Nat.le_of_ble_eq_true rfl) ⟨by decide, by decide⟩ ⟨by decide, by decide⟩ (fun r1 L M hp => ?_)
  obtain ⟨r1_, g140, F⟩ := hp
  subst r1_
  refine g_pop C dX8_asksPost_4 rfl ?_
  refine g_aload_n C dX8_asksPost_5 rfl (j := 0) rfl ?_
  refine g_iload_n C dX8_asksPost_6 rfl (j := 1) rfl ?_
  refine g_i2l C dX8_asksPost_7 (v := p0.toInt64) rfl ?_
  refine g_callVI C (c_X8_isPost_s36 l G F (p0.toInt64)) lk_X8_112 (F.mem 0 rfl) (F.at 0 rfl) rfl rfl dX8_asksPost_8 (Nat.le_of_ble_eq_true rfl) ⟨by decide, by decide⟩ ⟨by decide, by decide⟩ (fun r2 L M hp => ?_)
  obtain ⟨r2_, F⟩ := hp
  subst r2_
  exact g_zret C hrt rfl dX8_asksPost_11 (by decide) (by decide) ⟨by decide, ⟨g140, F⟩⟩
set_option maxHeartbeats 4000000 in
set_option maxRecDepth 100000 in
theorem c_X8_sends (l : Launch) (G : va_G) {cy : Nat → ClassId} {L : List Nat} {M : Nat → va_E} {b : Nat → Nat} {ts : Int32} {pn : Nat → Int32}  (F : FW L M (flM cy b ts pn)) (p0 : Int32) : MI l G cy yX8_sends cX8_sends 2 (some .int) 4 0 0 [.ref (b 0), .int p0] L M (fun r L2 M2 => r = (-2)) := by
  refine MI.of (own := RX8) rfl (by decide) (Nat.le_of_ble_eq_true rfl) ?_
  intro p e s m below meth c A C hrt hnm
  refine g_aload_n C dX8_sends_0 rfl (j := 0) rfl ?_
  refine g_iload_n C dX8_sends_1 rfl (j := 1) rfl ?_
  refine g_callVI C (c_X8_asksPost_s54 l G F p0) lk_X8_314 (F.mem 0 rfl) (F.at 0 rfl) rfl rfl dX8_sends_2 (Nat.le_of_ble_eq_true rfl) ⟨by decide, by decide⟩ ⟨by decide, by decide⟩ (fun r1 L M hp => ?_)
  obtain ⟨r1_, g141, F⟩ := hp
  subst r1_
  refine g_if_eq C dX8_sends_5 (tgt := 16) (by decide) (fun _ => ?_) (fun q => absurd (by decide) q)
  refine g_bipush C dX8_sends_16 (v := -2) (by decide) ?_
  exact g_iret C hrt dX8_sends_18 (by decide) (by decide) (by decide)
set_option maxHeartbeats 4000000 in
set_option maxRecDepth 100000 in
theorem c_X8_used (l : Launch) (G : va_G) {cy : Nat → ClassId} {L : List Nat} {M : Nat → va_E} {b : Nat → Nat} {ts : Int32} {pn : Nat → Int32}  (F : FW L M (flM cy b ts pn)) (p0 : Int32) (p1 : Int32) : MI l G cy yX8_used cX8_used 3 (some .int) 4 0 0 [.ref (b 0), .int p0, .int p1] L M (fun r L2 M2 => r = (-2)) := by
  refine MI.of (own := RX8) rfl (by decide) (Nat.le_of_ble_eq_true rfl) ?_
  intro p e s m below meth c A C hrt hnm
  refine g_aload_n C dX8_used_0 rfl (j := 0) rfl ?_
  refine g_iload_n C dX8_used_1 rfl (j := 1) rfl ?_
  refine g_callVI C (c_X8_asksPost_s54 l G F p0) lk_X8_314 (F.mem 0 rfl) (F.at 0 rfl) rfl rfl dX8_used_2 (Nat.le_of_ble_eq_true rfl) ⟨by decide, by decide⟩ ⟨by decide, by decide⟩ (fun r1 L M hp => ?_)
  obtain ⟨r1_, g142, F⟩ := hp
  subst r1_
  refine g_if_eq C dX8_used_5 (tgt := 12) (by decide) (fun _ => ?_) (fun q => absurd (by decide) q)
  refine g_bipush C dX8_used_12 (v := -2) (by decide) ?_
  exact g_iret C hrt dX8_used_14 (by decide) (by decide) (by decide)
set_option maxHeartbeats 4000000 in
set_option maxRecDepth 100000 in
theorem c_X8_asksWalker_s55 (l : Launch) (G : va_G) {cy : Nat → ClassId} {L : List Nat} {M : Nat → va_E} {b : Nat → Nat} {pn : Nat → Int32} {ts : Int32}  (F : FW L M (flM cy b ts pn)) (p0 : Int32) : MI l G cy yX8_asksWalker cX8_asksWalker 2 (some .boolean) 3 0 0 [.ref (b 0), .int p0] L M (fun r L2 M2 => r = (0) ∧ ∃ (g143 : Nat → Int32), FW L2 M2 (flM cy b 127 g143)) := by
  refine MI.of (own := RX8) rfl (by decide) (Nat.le_of_ble_eq_true rfl) ?_
  intro p e s m below meth c A C hrt hnm
  refine g_aload_n C dX8_asksWalker_0 rfl (j := 0) rfl ?_
  refine g_callVI C (c_X8_asksHeath_s50 l G F ) lk_X8_292 (F.mem 0 rfl) (F.at 0 rfl) rfl rfl dX8_asksWalker_1 (Nat.le_of_ble_eq_true rfl) ⟨by decide, by decide⟩ ⟨by decide, by decide⟩ (fun r1 L M hp => ?_)
  obtain ⟨r1_, g143, F⟩ := hp
  subst r1_
  refine g_pop C dX8_asksWalker_4 rfl ?_
  refine g_aload_n C dX8_asksWalker_5 rfl (j := 0) rfl ?_
  refine g_iload_n C dX8_asksWalker_6 rfl (j := 1) rfl ?_
  refine g_i2l C dX8_asksWalker_7 (v := p0.toInt64) rfl ?_
  refine g_callVI C (c_X8_isWalker_s38 l G F (p0.toInt64)) lk_X8_254 (F.mem 0 rfl) (F.at 0 rfl) rfl rfl dX8_asksWalker_8 (Nat.le_of_ble_eq_true rfl) ⟨by decide, by decide⟩ ⟨by decide, by decide⟩ (fun r2 L M hp => ?_)
  obtain ⟨r2_, F⟩ := hp
  subst r2_
  exact g_zret C hrt rfl dX8_asksWalker_11 (by decide) (by decide) ⟨by decide, ⟨g143, F⟩⟩
set_option maxHeartbeats 4000000 in
set_option maxRecDepth 100000 in
theorem c_X8_walks (l : Launch) (G : va_G) {cy : Nat → ClassId} {L : List Nat} {M : Nat → va_E} {b : Nat → Nat} {ts : Int32} {pn : Nat → Int32}  (F : FW L M (flM cy b ts pn)) (p0 : Int32) : MI l G cy yX8_walks cX8_walks 2 (some .int) 4 0 0 [.ref (b 0), .int p0] L M (fun r L2 M2 => r = (-2)) := by
  refine MI.of (own := RX8) rfl (by decide) (Nat.le_of_ble_eq_true rfl) ?_
  intro p e s m below meth c A C hrt hnm
  refine g_aload_n C dX8_walks_0 rfl (j := 0) rfl ?_
  refine g_iload_n C dX8_walks_1 rfl (j := 1) rfl ?_
  refine g_callVI C (c_X8_asksWalker_s55 l G F p0) lk_X8_320 (F.mem 0 rfl) (F.at 0 rfl) rfl rfl dX8_walks_2 (Nat.le_of_ble_eq_true rfl) ⟨by decide, by decide⟩ ⟨by decide, by decide⟩ (fun r1 L M hp => ?_)
  obtain ⟨r1_, g144, F⟩ := hp
  subst r1_
  refine g_if_eq C dX8_walks_5 (tgt := 17) (by decide) (fun _ => ?_) (fun q => absurd (by decide) q)
  refine g_bipush C dX8_walks_17 (v := -2) (by decide) ?_
  exact g_iret C hrt dX8_walks_19 (by decide) (by decide) (by decide)
set_option maxHeartbeats 4000000 in
set_option maxRecDepth 100000 in
theorem c_X8_home (l : Launch) (G : va_G) {cy : Nat → ClassId} {L : List Nat} {M : Nat → va_E} {b : Nat → Nat} {ts : Int32} {pn : Nat → Int32}  (F : FW L M (flM cy b ts pn)) (p0 : Int32) : MI l G cy yX8_home cX8_home 2 (some .int) 4 0 0 [.ref (b 0), .int p0] L M (fun r L2 M2 => r = (-2)) := by
  refine MI.of (own := RX8) rfl (by decide) (Nat.le_of_ble_eq_true rfl) ?_
  intro p e s m below meth c A C hrt hnm
  refine g_aload_n C dX8_home_0 rfl (j := 0) rfl ?_
  refine g_iload_n C dX8_home_1 rfl (j := 1) rfl ?_
  refine g_callVI C (c_X8_asksWalker_s55 l G F p0) lk_X8_320 (F.mem 0 rfl) (F.at 0 rfl) rfl rfl dX8_home_2 (Nat.le_of_ble_eq_true rfl) ⟨by decide, by decide⟩ ⟨by decide, by decide⟩ (fun r1 L M hp => ?_)
  obtain ⟨r1_, g145, F⟩ := hp
  subst r1_
  refine g_if_eq C dX8_home_5 (tgt := 16) (by decide) (fun _ => ?_) (fun q => absurd (by decide) q)
  refine g_bipush C dX8_home_16 (v := -2) (by decide) ?_
  exact g_iret C hrt dX8_home_18 (by decide) (by decide) (by decide)
set_option maxHeartbeats 4000000 in
set_option maxRecDepth 100000 in
theorem c_X8_inn (l : Launch) (G : va_G) {cy : Nat → ClassId} {L : List Nat} {M : Nat → va_E} {b : Nat → Nat} {ts : Int32} {pn : Nat → Int32}  (F : FW L M (flM cy b ts pn)) (p0 : Int32) : MI l G cy yX8_inn cX8_inn 2 (some .int) 4 0 0 [.ref (b 0), .int p0] L M (fun r L2 M2 => r = (-2)) := by
  refine MI.of (own := RX8) rfl (by decide) (Nat.le_of_ble_eq_true rfl) ?_
  intro p e s m below meth c A C hrt hnm
  refine g_aload_n C dX8_inn_0 rfl (j := 0) rfl ?_
  refine g_iload_n C dX8_inn_1 rfl (j := 1) rfl ?_
  refine g_callVI C (c_X8_asksWalker_s55 l G F p0) lk_X8_320 (F.mem 0 rfl) (F.at 0 rfl) rfl rfl dX8_inn_2 (Nat.le_of_ble_eq_true rfl) ⟨by decide, by decide⟩ ⟨by decide, by decide⟩ (fun r1 L M hp => ?_)
  obtain ⟨r1_, g146, F⟩ := hp
  subst r1_
  refine g_if_ne C dX8_inn_5 (tgt := 11) (by decide) (fun q => absurd (by decide) q) (fun _ => ?_)
  refine g_bipush C dX8_inn_8 (v := -2) (by decide) ?_
  exact g_iret C hrt dX8_inn_10 (by decide) (by decide) (by decide)
set_option maxHeartbeats 4000000 in
set_option maxRecDepth 100000 in
theorem c_X8_trail (l : Launch) (G : va_G) {cy : Nat → ClassId} {L : List Nat} {M : Nat → va_E} {b : Nat → Nat} {ts : Int32} {pn : Nat → Int32}  (F : FW L M (flM cy b ts pn)) (p0 : Int32) : MI l G cy yX8_trail cX8_trail 2 (some .int) 4 0 0 [.ref (b 0), .int p0] L M (fun r L2 M2 => r = (-2)) := by
  refine MI.of (own := RX8) rfl (by decide) (Nat.le_of_ble_eq_true rfl) ?_
  intro p e s m below meth c A C hrt hnm
  refine g_aload_n C dX8_trail_0 rfl (j := 0) rfl ?_
  refine g_iload_n C dX8_trail_1 rfl (j := 1) rfl ?_
  refine g_callVI C (c_X8_asksWalker_s55 l G F p0) lk_X8_320 (F.mem 0 rfl) (F.at 0 rfl) rfl rfl dX8_trail_2 (Nat.le_of_ble_eq_true rfl) ⟨by decide, by decide⟩ ⟨by decide, by decide⟩ (fun r1 L M hp => ?_)
  obtain ⟨r1_, g147, F⟩ := hp
  subst r1_
  refine g_if_eq C dX8_trail_5 (tgt := 20) (by decide) (fun _ => ?_) (fun q => absurd (by decide) q)
  refine g_bipush C dX8_trail_20 (v := -2) (by decide) ?_
  exact g_iret C hrt dX8_trail_22 (by decide) (by decide) (by decide)
set_option maxHeartbeats 4000000 in
set_option maxRecDepth 100000 in
theorem c_X8_again (l : Launch) (G : va_G) {cy : Nat → ClassId} {L : List Nat} {M : Nat → va_E} {b : Nat → Nat} {ts : Int32} {pn : Nat → Int32}  (F : FW L M (flM cy b ts pn)) (p0 : Int32) : MI l G cy yX8_again cX8_again 5 (some .int) 4 0 0 [.ref (b 0), .int p0] L M (fun r L2 M2 => r = (-2)) := by
  refine MI.of (own := RX8) rfl (by decide) (Nat.le_of_ble_eq_true rfl) ?_
  intro p e s m below meth c A C hrt hnm
  refine g_aload_n C dX8_again_0 rfl (j := 0) rfl ?_
  refine g_iload_n C dX8_again_1 rfl (j := 1) rfl ?_
  refine g_callVI C (c_X8_asksWalker_s55 l G F p0) lk_X8_320 (F.mem 0 rfl) (F.at 0 rfl) rfl rfl dX8_again_2 (Nat.le_of_ble_eq_true rfl) ⟨by decide, by decide⟩ ⟨by decide, by decide⟩ (fun r1 L M hp => ?_)
  obtain ⟨r1_, g148, F⟩ := hp
  subst r1_
  refine g_if_ne C dX8_again_5 (tgt := 11) (by decide) (fun q => absurd (by decide) q) (fun _ => ?_)
  refine g_bipush C dX8_again_8 (v := -2) (by decide) ?_
  exact g_iret C hrt dX8_again_10 (by decide) (by decide) (by decide)
set_option maxHeartbeats 4000000 in
set_option maxRecDepth 100000 in
theorem c_X8_lingers (l : Launch) (G : va_G) {cy : Nat → ClassId} {L : List Nat} {M : Nat → va_E} {b : Nat → Nat} {ts : Int32} {pn : Nat → Int32}  (F : FW L M (flM cy b ts pn)) (p0 : Int32) : MI l G cy yX8_lingers cX8_lingers 4 (some .int) 4 0 0 [.ref (b 0), .int p0] L M (fun r L2 M2 => r = (-2)) := by
  refine MI.of (own := RX8) rfl (by decide) (Nat.le_of_ble_eq_true rfl) ?_
  intro p e s m below meth c A C hrt hnm
  refine g_aload_n C dX8_lingers_0 rfl (j := 0) rfl ?_
  refine g_iload_n C dX8_lingers_1 rfl (j := 1) rfl ?_
  refine g_callVI C (c_X8_asksWalker_s55 l G F p0) lk_X8_320 (F.mem 0 rfl) (F.at 0 rfl) rfl rfl dX8_lingers_2 (Nat.le_of_ble_eq_true rfl) ⟨by decide, by decide⟩ ⟨by decide, by decide⟩ (fun r1 L M hp => ?_)
  obtain ⟨r1_, g149, F⟩ := hp
  subst r1_
  refine g_if_ne C dX8_lingers_5 (tgt := 11) (by decide) (fun q => absurd (by decide) q) (fun _ => ?_)
  refine g_bipush C dX8_lingers_8 (v := -2) (by decide) ?_
  exact g_iret C hrt dX8_lingers_10 (by decide) (by decide) (by decide)
set_option maxHeartbeats 4000000 in
set_option maxRecDepth 100000 in
theorem c_X8_guests (l : Launch) (G : va_G) {cy : Nat → ClassId} {L : List Nat} {M : Nat → va_E} {b : Nat → Nat} {ts : Int32} {pn : Nat → Int32}  (F : FW L M (flM cy b ts pn)) (p0 : Int32) (p1 : Int32) : MI l G cy yX8_guests cX8_guests 3 (some .int) 4 0 0 [.ref (b 0), .int p0, .int p1] L M (fun r L2 M2 => r = (-2)) := by
  refine MI.of (own := RX8) rfl (by decide) (Nat.le_of_ble_eq_true rfl) ?_
  intro p e s m below meth c A C hrt hnm
  refine g_aload_n C dX8_guests_0 rfl (j := 0) rfl ?_
  refine g_iload_n C dX8_guests_1 rfl (j := 2) rfl ?_
  refine g_callVI C (c_X8_asksHour_s52 l G F p1) lk_X8_301 (F.mem 0 rfl) (F.at 0 rfl) rfl rfl dX8_guests_2 (Nat.le_of_ble_eq_true rfl) ⟨by decide, by decide⟩ ⟨by decide, by decide⟩ (fun r1 L M hp => ?_)
  obtain ⟨r1_, g150, F⟩ := hp
  subst r1_
  refine g_if_eq C dX8_guests_5 (tgt := 26) (by decide) (fun _ => ?_) (fun q => absurd (by decide) q)
  refine g_bipush C dX8_guests_26 (v := -2) (by decide) ?_
  exact g_iret C hrt dX8_guests_28 (by decide) (by decide) (by decide)
set_option maxHeartbeats 4000000 in
set_option maxRecDepth 100000 in
theorem c_X8_full (l : Launch) (G : va_G) {cy : Nat → ClassId} {L : List Nat} {M : Nat → va_E} {b : Nat → Nat} {ts : Int32} {pn : Nat → Int32}  (F : FW L M (flM cy b ts pn)) (p0 : Int32) : MI l G cy yX8_full cX8_full 3 (some .int) 3 0 0 [.ref (b 0), .int p0] L M (fun r L2 M2 => r = (-2)) := by
  refine MI.of (own := RX8) rfl (by decide) (Nat.le_of_ble_eq_true rfl) ?_
  intro p e s m below meth c A C hrt hnm
  refine g_aload_n C dX8_full_0 rfl (j := 0) rfl ?_
  refine g_callVI C (c_X8_asksHeath_s50 l G F ) lk_X8_292 (F.mem 0 rfl) (F.at 0 rfl) rfl rfl dX8_full_1 (Nat.le_of_ble_eq_true rfl) ⟨by decide, by decide⟩ ⟨by decide, by decide⟩ (fun r1 L M hp => ?_)
  obtain ⟨r1_, g151, F⟩ := hp
  subst r1_
  refine g_pop C dX8_full_4 rfl ?_
  refine g_aload_n C dX8_full_5 rfl (j := 0) rfl ?_
  refine g_iload_n C dX8_full_6 rfl (j := 1) rfl ?_
  refine g_i2l C dX8_full_7 (v := p0.toInt64) rfl ?_
  refine g_callVI C (c_X8_isInn_s34 l G F (p0.toInt64)) lk_X8_118 (F.mem 0 rfl) (F.at 0 rfl) rfl rfl dX8_full_8 (Nat.le_of_ble_eq_true rfl) ⟨by decide, by decide⟩ ⟨by decide, by decide⟩ (fun r2 L M hp => ?_)
  obtain ⟨r2_, F⟩ := hp
  subst r2_
  refine g_if_ne C dX8_full_11 (tgt := 17) (by decide) (fun q => absurd (by decide) q) (fun _ => ?_)
  refine g_bipush C dX8_full_14 (v := -2) (by decide) ?_
  exact g_iret C hrt dX8_full_16 (by decide) (by decide) (by decide)
set_option maxHeartbeats 4000000 in
set_option maxRecDepth 100000 in
theorem c_X8_refuses (l : Launch) (G : va_G) {cy : Nat → ClassId} {L : List Nat} {M : Nat → va_E} {b : Nat → Nat} {ts : Int32} {pn : Nat → Int32}  (F : FW L M (flM cy b ts pn)) (p0 : Int32) : MI l G cy yX8_refuses cX8_refuses 2 (some .int) 3 0 0 [.ref (b 0), .int p0] L M (fun r L2 M2 => r = (-2)) := by
  refine MI.of (own := RX8) rfl (by decide) (Nat.le_of_ble_eq_true rfl) ?_
  intro p e s m below meth c A C hrt hnm
  refine g_aload_n C dX8_refuses_0 rfl (j := 0) rfl ?_
  refine g_callVI C (c_X8_asksHeath_s50 l G F ) lk_X8_292 (F.mem 0 rfl) (F.at 0 rfl) rfl rfl dX8_refuses_1 (Nat.le_of_ble_eq_true rfl) ⟨by decide, by decide⟩ ⟨by decide, by decide⟩ (fun r1 L M hp => ?_)
  obtain ⟨r1_, g152, F⟩ := hp
  subst r1_
  refine g_pop C dX8_refuses_4 rfl ?_
  refine g_aload_n C dX8_refuses_5 rfl (j := 0) rfl ?_
  refine g_iload_n C dX8_refuses_6 rfl (j := 1) rfl ?_
  refine g_i2l C dX8_refuses_7 (v := p0.toInt64) rfl ?_
  refine g_callVI C (c_X8_isInn_s34 l G F (p0.toInt64)) lk_X8_118 (F.mem 0 rfl) (F.at 0 rfl) rfl rfl dX8_refuses_8 (Nat.le_of_ble_eq_true rfl) ⟨by decide, by decide⟩ ⟨by decide, by decide⟩ (fun r2 L M hp => ?_)
  obtain ⟨r2_, F⟩ := hp
  subst r2_
  refine g_if_eq C dX8_refuses_11 (tgt := 23) (by decide) (fun _ => ?_) (fun q => absurd (by decide) q)
  refine g_bipush C dX8_refuses_23 (v := -2) (by decide) ?_
  exact g_iret C hrt dX8_refuses_25 (by decide) (by decide) (by decide)
set_option maxHeartbeats 4000000 in
set_option maxRecDepth 100000 in
theorem c_X8_inside (l : Launch) (G : va_G) {cy : Nat → ClassId} {L : List Nat} {M : Nat → va_E} {b : Nat → Nat} {ts : Int32} {pn : Nat → Int32}  (F : FW L M (flM cy b ts pn)) (p0 : Int32) : MI l G cy yX8_inside cX8_inside 2 (some .int) 4 0 0 [.ref (b 0), .int p0] L M (fun r L2 M2 => r = (-2)) := by
  refine MI.of (own := RX8) rfl (by decide) (Nat.le_of_ble_eq_true rfl) ?_
  intro p e s m below meth c A C hrt hnm
  refine g_aload_n C dX8_inside_0 rfl (j := 0) rfl ?_
  refine g_iload_n C dX8_inside_1 rfl (j := 1) rfl ?_
  refine g_callVI C (c_X8_asksHour_s52 l G F p0) lk_X8_301 (F.mem 0 rfl) (F.at 0 rfl) rfl rfl dX8_inside_2 (Nat.le_of_ble_eq_true rfl) ⟨by decide, by decide⟩ ⟨by decide, by decide⟩ (fun r1 L M hp => ?_)
  obtain ⟨r1_, g153, F⟩ := hp
  subst r1_
  refine g_if_eq C dX8_inside_5 (tgt := 16) (by decide) (fun _ => ?_) (fun q => absurd (by decide) q)
  refine g_bipush C dX8_inside_16 (v := -2) (by decide) ?_
  exact g_iret C hrt dX8_inside_18 (by decide) (by decide) (by decide)
set_option maxHeartbeats 4000000 in
set_option maxRecDepth 100000 in
theorem c_X8_outside (l : Launch) (G : va_G) {cy : Nat → ClassId} {L : List Nat} {M : Nat → va_E} {b : Nat → Nat} {ts : Int32} {pn : Nat → Int32}  (F : FW L M (flM cy b ts pn)) (p0 : Int32) : MI l G cy yX8_outside cX8_outside 4 (some .int) 4 0 0 [.ref (b 0), .int p0] L M (fun r L2 M2 => r = (-2)) := by
  refine MI.of (own := RX8) rfl (by decide) (Nat.le_of_ble_eq_true rfl) ?_
  intro p e s m below meth c A C hrt hnm
  refine g_aload_n C dX8_outside_0 rfl (j := 0) rfl ?_
  refine g_iload_n C dX8_outside_1 rfl (j := 1) rfl ?_
  refine g_callVI C (c_X8_asksHour_s52 l G F p0) lk_X8_301 (F.mem 0 rfl) (F.at 0 rfl) rfl rfl dX8_outside_2 (Nat.le_of_ble_eq_true rfl) ⟨by decide, by decide⟩ ⟨by decide, by decide⟩ (fun r1 L M hp => ?_)
  obtain ⟨r1_, g154, F⟩ := hp
  subst r1_
  refine g_if_ne C dX8_outside_5 (tgt := 11) (by decide) (fun q => absurd (by decide) q) (fun _ => ?_)
  refine g_bipush C dX8_outside_8 (v := -2) (by decide) ?_
  exact g_iret C hrt dX8_outside_10 (by decide) (by decide) (by decide)
set_option maxHeartbeats 4000000 in
set_option maxRecDepth 100000 in
theorem c_X8_done (l : Launch) (G : va_G) {cy : Nat → ClassId} {L : List Nat} {M : Nat → va_E} {b : Nat → Nat} {ts : Int32} {pn : Nat → Int32}  (F : FW L M (flM cy b ts pn))  : MI l G cy yX8_done cX8_done 2 (some .int) 3 0 0 [.ref (b 0)] L M (fun r L2 M2 => r = (-2)) := by
  refine MI.of (own := RX8) rfl (by decide) (Nat.le_of_ble_eq_true rfl) ?_
  intro p e s m below meth c A C hrt hnm
  refine g_aload_n C dX8_done_0 rfl (j := 0) rfl ?_
  refine g_callVI C (c_X8_asksHeath_s50 l G F ) lk_X8_292 (F.mem 0 rfl) (F.at 0 rfl) rfl rfl dX8_done_1 (Nat.le_of_ble_eq_true rfl) ⟨by decide, by decide⟩ ⟨by decide, by decide⟩ (fun r1 L M hp => ?_)
  obtain ⟨r1_, g155, F⟩ := hp
  subst r1_
  refine g_if_ne C dX8_done_4 (tgt := 10) (by decide) (fun q => absurd (by decide) q) (fun _ => ?_)
  refine g_bipush C dX8_done_7 (v := -2) (by decide) ?_
  exact g_iret C hrt dX8_done_9 (by decide) (by decide) (by decide)
set_option maxHeartbeats 4000000 in
set_option maxRecDepth 100000 in
theorem c_X8_crowd (l : Launch) (G : va_G) {cy : Nat → ClassId} {L : List Nat} {M : Nat → va_E} {b : Nat → Nat} {ts : Int32} {pn : Nat → Int32}  (F : FW L M (flM cy b ts pn)) (p0 : Int32) : MI l G cy yX8_crowd cX8_crowd 4 (some .int) 4 0 0 [.ref (b 0), .int p0] L M (fun r L2 M2 => r = (-2)) := by
  refine MI.of (own := RX8) rfl (by decide) (Nat.le_of_ble_eq_true rfl) ?_
  intro p e s m below meth c A C hrt hnm
  refine g_aload_n C dX8_crowd_0 rfl (j := 0) rfl ?_
  refine g_iload_n C dX8_crowd_1 rfl (j := 1) rfl ?_
  refine g_callVI C (c_X8_asksHour_s52 l G F p0) lk_X8_301 (F.mem 0 rfl) (F.at 0 rfl) rfl rfl dX8_crowd_2 (Nat.le_of_ble_eq_true rfl) ⟨by decide, by decide⟩ ⟨by decide, by decide⟩ (fun r1 L M hp => ?_)
  obtain ⟨r1_, g156, F⟩ := hp
  subst r1_
  refine g_if_ne C dX8_crowd_5 (tgt := 11) (by decide) (fun q => absurd (by decide) q) (fun _ => ?_)
  refine g_bipush C dX8_crowd_8 (v := -2) (by decide) ?_
  exact g_iret C hrt dX8_crowd_10 (by decide) (by decide) (by decide)
set_option maxHeartbeats 4000000 in
set_option maxRecDepth 100000 in
theorem c_X8_areTwo_s56 (l : Launch) (G : va_G) {cy : Nat → ClassId} {L : List Nat} {M : Nat → va_E} {b : Nat → Nat} {pn : Nat → Int32} {ts : Int32}  (F : FW L M (flM cy b ts pn)) (p0 : Int32) (p1 : Int32) : MI l G cy yX8_areTwo cX8_areTwo 3 (some .boolean) 2 0 0 [.ref (b 0), .int p0, .int p1] L M (fun r L2 M2 => r = (0) ∧ FW L2 M2 (flM cy b ts pn)) := by
  refine MI.of (own := RX8) rfl (by decide) (Nat.le_of_ble_eq_true rfl) ?_
  intro p e s m below meth c A C hrt hnm
  refine g_aload_n C dX8_areTwo_0 rfl (j := 0) rfl ?_
  refine g_iload_n C dX8_areTwo_1 rfl (j := 1) rfl ?_
  refine g_i2l C dX8_areTwo_2 (v := p0.toInt64) rfl ?_
  refine g_callVI C (c_X8_isWalker_s38 l G F (p0.toInt64)) lk_X8_254 (F.mem 0 rfl) (F.at 0 rfl) rfl rfl dX8_areTwo_3 (Nat.le_of_ble_eq_true rfl) ⟨by decide, by decide⟩ ⟨by decide, by decide⟩ (fun r1 L M hp => ?_)
  obtain ⟨r1_, F⟩ := hp
  subst r1_
  refine g_if_eq C dX8_areTwo_6 (tgt := 27) (by decide) (fun _ => ?_) (fun q => absurd (by decide) q)
  refine g_iconst C dX8_areTwo_27 (v := 0) (by decide) ?_
  exact g_zret C hrt rfl dX8_areTwo_28 (by decide) (by decide) ⟨by decide, F⟩
set_option maxHeartbeats 4000000 in
set_option maxRecDepth 100000 in
theorem c_X8_meet (l : Launch) (G : va_G) {cy : Nat → ClassId} {L : List Nat} {M : Nat → va_E} {b : Nat → Nat} {ts : Int32} {pn : Nat → Int32}  (F : FW L M (flM cy b ts pn)) (p0 : Int32) (p1 : Int32) : MI l G cy yX8_meet cX8_meet 4 (some .int) 3 0 0 [.ref (b 0), .int p0, .int p1] L M (fun r L2 M2 => r = (-2)) := by
  refine MI.of (own := RX8) rfl (by decide) (Nat.le_of_ble_eq_true rfl) ?_
  intro p e s m below meth c A C hrt hnm
  refine g_aload_n C dX8_meet_0 rfl (j := 0) rfl ?_
  refine g_callVI C (c_X8_asksHeath_s50 l G F ) lk_X8_292 (F.mem 0 rfl) (F.at 0 rfl) rfl rfl dX8_meet_1 (Nat.le_of_ble_eq_true rfl) ⟨by decide, by decide⟩ ⟨by decide, by decide⟩ (fun r1 L M hp => ?_)
  obtain ⟨r1_, g157, F⟩ := hp
  subst r1_
  refine g_pop C dX8_meet_4 rfl ?_
  refine g_aload_n C dX8_meet_5 rfl (j := 0) rfl ?_
  refine g_iload_n C dX8_meet_6 rfl (j := 1) rfl ?_
  refine g_iload_n C dX8_meet_7 rfl (j := 2) rfl ?_
  refine g_callVI C (c_X8_areTwo_s56 l G F p0 p1) lk_X8_346 (F.mem 0 rfl) (F.at 0 rfl) rfl rfl dX8_meet_8 (Nat.le_of_ble_eq_true rfl) ⟨by decide, by decide⟩ ⟨by decide, by decide⟩ (fun r2 L M hp => ?_)
  obtain ⟨r2_, F⟩ := hp
  subst r2_
  refine g_if_ne C dX8_meet_11 (tgt := 17) (by decide) (fun q => absurd (by decide) q) (fun _ => ?_)
  refine g_bipush C dX8_meet_14 (v := -2) (by decide) ?_
  exact g_iret C hrt dX8_meet_16 (by decide) (by decide) (by decide)
set_option maxHeartbeats 4000000 in
set_option maxRecDepth 100000 in
theorem c_X8_busy (l : Launch) (G : va_G) {cy : Nat → ClassId} {L : List Nat} {M : Nat → va_E} {b : Nat → Nat} {ts : Int32} {pn : Nat → Int32}  (F : FW L M (flM cy b ts pn))  : MI l G cy yX8_busy cX8_busy 3 (some .int) 3 0 0 [.ref (b 0)] L M (fun r L2 M2 => r = (-2)) := by
  refine MI.of (own := RX8) rfl (by decide) (Nat.le_of_ble_eq_true rfl) ?_
  intro p e s m below meth c A C hrt hnm
  refine g_aload_n C dX8_busy_0 rfl (j := 0) rfl ?_
  refine g_callVI C (c_X8_asksHeath_s50 l G F ) lk_X8_292 (F.mem 0 rfl) (F.at 0 rfl) rfl rfl dX8_busy_1 (Nat.le_of_ble_eq_true rfl) ⟨by decide, by decide⟩ ⟨by decide, by decide⟩ (fun r1 L M hp => ?_)
  obtain ⟨r1_, g158, F⟩ := hp
  subst r1_
  refine g_if_ne C dX8_busy_4 (tgt := 10) (by decide) (fun q => absurd (by decide) q) (fun _ => ?_)
  refine g_bipush C dX8_busy_7 (v := -2) (by decide) ?_
  exact g_iret C hrt dX8_busy_9 (by decide) (by decide) (by decide)
set_option maxHeartbeats 4000000 in
set_option maxRecDepth 100000 in
theorem c_X8_idle (l : Launch) (G : va_G) {cy : Nat → ClassId} {L : List Nat} {M : Nat → va_E} {b : Nat → Nat} {ts : Int32} {pn : Nat → Int32}  (F : FW L M (flM cy b ts pn))  : MI l G cy yX8_idle cX8_idle 3 (some .int) 3 0 0 [.ref (b 0)] L M (fun r L2 M2 => r = (-2)) := by
  refine MI.of (own := RX8) rfl (by decide) (Nat.le_of_ble_eq_true rfl) ?_
  intro p e s m below meth c A C hrt hnm
  refine g_aload_n C dX8_idle_0 rfl (j := 0) rfl ?_
  refine g_callVI C (c_X8_asksHeath_s50 l G F ) lk_X8_292 (F.mem 0 rfl) (F.at 0 rfl) rfl rfl dX8_idle_1 (Nat.le_of_ble_eq_true rfl) ⟨by decide, by decide⟩ ⟨by decide, by decide⟩ (fun r1 L M hp => ?_)
  obtain ⟨r1_, g159, F⟩ := hp
  subst r1_
  refine g_if_ne C dX8_idle_4 (tgt := 10) (by decide) (fun q => absurd (by decide) q) (fun _ => ?_)
  refine g_bipush C dX8_idle_7 (v := -2) (by decide) ?_
  exact g_iret C hrt dX8_idle_9 (by decide) (by decide) (by decide)
set_option maxHeartbeats 4000000 in
set_option maxRecDepth 100000 in
theorem c_X8_reach (l : Launch) (G : va_G) {cy : Nat → ClassId} {L : List Nat} {M : Nat → va_E} {b : Nat → Nat} {ts : Int32} {pn : Nat → Int32}  (F : FW L M (flM cy b ts pn)) (p0 : Int32) : MI l G cy yX8_reach cX8_reach 4 (some .int) 2 0 0 [.ref (b 0), .int p0] L M (fun r L2 M2 => r = (-2)) := by
  refine MI.of (own := RX8) rfl (by decide) (Nat.le_of_ble_eq_true rfl) ?_
  intro p e s m below meth c A C hrt hnm
  refine g_aload_n C dX8_reach_0 rfl (j := 0) rfl ?_
  refine g_iload_n C dX8_reach_1 rfl (j := 1) rfl ?_
  refine g_i2l C dX8_reach_2 (v := p0.toInt64) rfl ?_
  refine g_callVI C (c_X8_isPost_s36 l G F (p0.toInt64)) lk_X8_112 (F.mem 0 rfl) (F.at 0 rfl) rfl rfl dX8_reach_3 (Nat.le_of_ble_eq_true rfl) ⟨by decide, by decide⟩ ⟨by decide, by decide⟩ (fun r1 L M hp => ?_)
  obtain ⟨r1_, F⟩ := hp
  subst r1_
  refine g_if_ne C dX8_reach_6 (tgt := 12) (by decide) (fun q => absurd (by decide) q) (fun _ => ?_)
  refine g_bipush C dX8_reach_9 (v := -2) (by decide) ?_
  exact g_iret C hrt dX8_reach_11 (by decide) (by decide) (by decide)
set_option maxHeartbeats 4000000 in
set_option maxRecDepth 100000 in
theorem c_X8_far (l : Launch) (G : va_G) {cy : Nat → ClassId} {L : List Nat} {M : Nat → va_E} {b : Nat → Nat} {ts : Int32} {pn : Nat → Int32}  (F : FW L M (flM cy b ts pn)) (p0 : Int32) (p1 : Int32) : MI l G cy yX8_far cX8_far 5 (some .int) 2 0 0 [.ref (b 0), .int p0, .int p1] L M (fun r L2 M2 => r = (-2)) := by
  refine MI.of (own := RX8) rfl (by decide) (Nat.le_of_ble_eq_true rfl) ?_
  intro p e s m below meth c A C hrt hnm
  refine g_aload_n C dX8_far_0 rfl (j := 0) rfl ?_
  refine g_iload_n C dX8_far_1 rfl (j := 1) rfl ?_
  refine g_i2l C dX8_far_2 (v := p0.toInt64) rfl ?_
  refine g_callVI C (c_X8_isPost_s36 l G F (p0.toInt64)) lk_X8_112 (F.mem 0 rfl) (F.at 0 rfl) rfl rfl dX8_far_3 (Nat.le_of_ble_eq_true rfl) ⟨by decide, by decide⟩ ⟨by decide, by decide⟩ (fun r1 L M hp => ?_)
  obtain ⟨r1_, F⟩ := hp
  subst r1_
  refine g_if_eq C dX8_far_6 (tgt := 18) (by decide) (fun _ => ?_) (fun q => absurd (by decide) q)
  refine g_bipush C dX8_far_18 (v := -2) (by decide) ?_
  exact g_iret C hrt dX8_far_20 (by decide) (by decide) (by decide)
set_option maxHeartbeats 4000000 in
set_option maxRecDepth 100000 in
theorem c_X8_setting (l : Launch) (G : va_G) {cy : Nat → ClassId} {L : List Nat} {M : Nat → va_E} {b : Nat → Nat} {ts : Int32} {pn : Nat → Int32}  (F : FW L M (flM cy b ts pn)) (p0 : Int32) : MI l G cy yX8_setting cX8_setting 2 (some .int) 4 0 0 [.ref (b 0), .int p0] L M (fun r L2 M2 => r = (-2)) := by
  refine MI.of (own := RX8) rfl (by decide) (Nat.le_of_ble_eq_true rfl) ?_
  intro p e s m below meth c A C hrt hnm
  refine g_aload_n C dX8_setting_0 rfl (j := 0) rfl ?_
  refine g_iload_n C dX8_setting_1 rfl (j := 1) rfl ?_
  refine g_callVI C (c_X8_asksHour_s52 l G F p0) lk_X8_301 (F.mem 0 rfl) (F.at 0 rfl) rfl rfl dX8_setting_2 (Nat.le_of_ble_eq_true rfl) ⟨by decide, by decide⟩ ⟨by decide, by decide⟩ (fun r1 L M hp => ?_)
  obtain ⟨r1_, g160, F⟩ := hp
  subst r1_
  refine g_if_eq C dX8_setting_5 (tgt := 16) (by decide) (fun _ => ?_) (fun q => absurd (by decide) q)
  refine g_bipush C dX8_setting_16 (v := -2) (by decide) ?_
  exact g_iret C hrt dX8_setting_18 (by decide) (by decide) (by decide)
set_option maxHeartbeats 4000000 in
set_option maxRecDepth 100000 in
theorem c_X8_settings (l : Launch) (G : va_G) {cy : Nat → ClassId} {L : List Nat} {M : Nat → va_E} {b : Nat → Nat} {ts : Int32} {pn : Nat → Int32}  (F : FW L M (flM cy b ts pn))  : MI l G cy yX8_settings cX8_settings 1 (some .int) 1 0 0 [.ref (b 0)] L M (fun r L2 M2 => r = (-2)) := by
  refine MI.of (own := RX8) rfl (by decide) (Nat.le_of_ble_eq_true rfl) ?_
  intro p e s m below meth c A C hrt hnm
  refine g_aload_n C dX8_settings_0 rfl (j := 0) rfl ?_
  refine g_callVI C (c_X8_isHeath_s39 l G F ) lk_X8_102 (F.mem 0 rfl) (F.at 0 rfl) rfl rfl dX8_settings_1 (Nat.le_of_ble_eq_true rfl) ⟨by decide, by decide⟩ ⟨by decide, by decide⟩ (fun r1 L M hp => ?_)
  obtain ⟨r1_, F⟩ := hp
  subst r1_
  refine g_if_eq C dX8_settings_4 (tgt := 14) (by decide) (fun _ => ?_) (fun q => absurd (by decide) q)
  refine g_bipush C dX8_settings_14 (v := -2) (by decide) ?_
  exact g_iret C hrt dX8_settings_16 (by decide) (by decide) (by decide)
set_option maxHeartbeats 4000000 in
set_option maxRecDepth 100000 in
theorem c_X8_same (l : Launch) (G : va_G) {cy : Nat → ClassId} {L : List Nat} {M : Nat → va_E} {b : Nat → Nat} {ts : Int32} {pn : Nat → Int32}  (F : FW L M (flM cy b ts pn))  : MI l G cy yX8_same cX8_same 2 (some .int) 3 0 0 [.ref (b 0)] L M (fun r L2 M2 => r = (-2)) := by
  refine MI.of (own := RX8) rfl (by decide) (Nat.le_of_ble_eq_true rfl) ?_
  intro p e s m below meth c A C hrt hnm
  refine g_aload_n C dX8_same_0 rfl (j := 0) rfl ?_
  refine g_callVI C (c_X8_asksHeath_s50 l G F ) lk_X8_292 (F.mem 0 rfl) (F.at 0 rfl) rfl rfl dX8_same_1 (Nat.le_of_ble_eq_true rfl) ⟨by decide, by decide⟩ ⟨by decide, by decide⟩ (fun r1 L M hp => ?_)
  obtain ⟨r1_, g161, F⟩ := hp
  subst r1_
  refine g_if_ne C dX8_same_4 (tgt := 10) (by decide) (fun q => absurd (by decide) q) (fun _ => ?_)
  refine g_bipush C dX8_same_7 (v := -2) (by decide) ?_
  exact g_iret C hrt dX8_same_9 (by decide) (by decide) (by decide)
set_option maxHeartbeats 4000000 in
set_option maxRecDepth 100000 in
theorem c_X8_tree (l : Launch) (G : va_G) {cy : Nat → ClassId} {L : List Nat} {M : Nat → va_E} {b : Nat → Nat} {ts : Int32} {pn : Nat → Int32}  (F : FW L M (flM cy b ts pn)) (p0 : Int32) : MI l G cy yX8_tree cX8_tree 2 (some .int) 4 0 0 [.ref (b 0), .int p0] L M (fun r L2 M2 => r = (-2)) := by
  refine MI.of (own := RX8) rfl (by decide) (Nat.le_of_ble_eq_true rfl) ?_
  intro p e s m below meth c A C hrt hnm
  refine g_aload_n C dX8_tree_0 rfl (j := 0) rfl ?_
  refine g_iload_n C dX8_tree_1 rfl (j := 1) rfl ?_
  refine g_callVI C (c_X8_asksHour_s52 l G F p0) lk_X8_301 (F.mem 0 rfl) (F.at 0 rfl) rfl rfl dX8_tree_2 (Nat.le_of_ble_eq_true rfl) ⟨by decide, by decide⟩ ⟨by decide, by decide⟩ (fun r1 L M hp => ?_)
  obtain ⟨r1_, g162, F⟩ := hp
  subst r1_
  refine g_if_ne C dX8_tree_5 (tgt := 11) (by decide) (fun q => absurd (by decide) q) (fun _ => ?_)
  refine g_bipush C dX8_tree_8 (v := -2) (by decide) ?_
  exact g_iret C hrt dX8_tree_10 (by decide) (by decide) (by decide)
set_option maxHeartbeats 4000000 in
set_option maxRecDepth 100000 in
theorem c_X8_ring (l : Launch) (G : va_G) {cy : Nat → ClassId} {L : List Nat} {M : Nat → va_E} {b : Nat → Nat} {ts : Int32} {pn : Nat → Int32}  (F : FW L M (flM cy b ts pn)) (p0 : Int32) : MI l G cy yX8_ring cX8_ring 6 (some .int) 4 0 0 [.ref (b 0), .int p0] L M (fun r L2 M2 => r = (-2)) := by
  refine MI.of (own := RX8) rfl (by decide) (Nat.le_of_ble_eq_true rfl) ?_
  intro p e s m below meth c A C hrt hnm
  refine g_aload_n C dX8_ring_0 rfl (j := 0) rfl ?_
  refine g_iload_n C dX8_ring_1 rfl (j := 1) rfl ?_
  refine g_callVI C (c_X8_asksHour_s52 l G F p0) lk_X8_301 (F.mem 0 rfl) (F.at 0 rfl) rfl rfl dX8_ring_2 (Nat.le_of_ble_eq_true rfl) ⟨by decide, by decide⟩ ⟨by decide, by decide⟩ (fun r1 L M hp => ?_)
  obtain ⟨r1_, g163, F⟩ := hp
  subst r1_
  refine g_if_ne C dX8_ring_5 (tgt := 11) (by decide) (fun q => absurd (by decide) q) (fun _ => ?_)
  refine g_bipush C dX8_ring_8 (v := -2) (by decide) ?_
  exact g_iret C hrt dX8_ring_10 (by decide) (by decide) (by decide)
set_option maxHeartbeats 4000000 in
set_option maxRecDepth 100000 in
theorem c_X8_trees (l : Launch) (G : va_G) {cy : Nat → ClassId} {L : List Nat} {M : Nat → va_E} {b : Nat → Nat} {ts : Int32} {pn : Nat → Int32}  (F : FW L M (flM cy b ts pn))  : MI l G cy yX8_trees cX8_trees 7 (some .int) 1 0 0 [.ref (b 0)] L M (fun r L2 M2 => r = (-2)) := by
  refine MI.of (own := RX8) rfl (by decide) (Nat.le_of_ble_eq_true rfl) ?_
  intro p e s m below meth c A C hrt hnm
  refine g_aload_n C dX8_trees_0 rfl (j := 0) rfl ?_
  refine g_callVI C (c_X8_isHeath_s39 l G F ) lk_X8_102 (F.mem 0 rfl) (F.at 0 rfl) rfl rfl dX8_trees_1 (Nat.le_of_ble_eq_true rfl) ⟨by decide, by decide⟩ ⟨by decide, by decide⟩ (fun r1 L M hp => ?_)
  obtain ⟨r1_, F⟩ := hp
  subst r1_
  refine g_if_ne C dX8_trees_4 (tgt := 10) (by decide) (fun q => absurd (by decide) q) (fun _ => ?_)
  refine g_bipush C dX8_trees_7 (v := -2) (by decide) ?_
  exact g_iret C hrt dX8_trees_9 (by decide) (by decide) (by decide)
set_option maxHeartbeats 4000000 in
set_option maxRecDepth 100000 in
theorem c_X8_alone (l : Launch) (G : va_G) {cy : Nat → ClassId} {L : List Nat} {M : Nat → va_E} {b : Nat → Nat} {ts : Int32} {pn : Nat → Int32}  (F : FW L M (flM cy b ts pn)) (p0 : Int32) : MI l G cy yX8_alone cX8_alone 2 (some .int) 2 0 0 [.ref (b 0), .int p0] L M (fun r L2 M2 => r = (-2)) := by
  refine MI.of (own := RX8) rfl (by decide) (Nat.le_of_ble_eq_true rfl) ?_
  intro p e s m below meth c A C hrt hnm
  refine g_aload_n C dX8_alone_0 rfl (j := 0) rfl ?_
  refine g_iload_n C dX8_alone_1 rfl (j := 1) rfl ?_
  refine g_i2l C dX8_alone_2 (v := p0.toInt64) rfl ?_
  refine g_callVI C (c_X8_isPost_s36 l G F (p0.toInt64)) lk_X8_112 (F.mem 0 rfl) (F.at 0 rfl) rfl rfl dX8_alone_3 (Nat.le_of_ble_eq_true rfl) ⟨by decide, by decide⟩ ⟨by decide, by decide⟩ (fun r1 L M hp => ?_)
  obtain ⟨r1_, F⟩ := hp
  subst r1_
  refine g_if_ne C dX8_alone_6 (tgt := 12) (by decide) (fun q => absurd (by decide) q) (fun _ => ?_)
  refine g_bipush C dX8_alone_9 (v := -2) (by decide) ?_
  exact g_iret C hrt dX8_alone_11 (by decide) (by decide) (by decide)
set_option maxHeartbeats 4000000 in
set_option maxRecDepth 100000 in
theorem c_X8_steps (l : Launch) (G : va_G) {cy : Nat → ClassId} {L : List Nat} {M : Nat → va_E} {b : Nat → Nat} {ts : Int32} {pn : Nat → Int32}  (F : FW L M (flM cy b ts pn)) (p0 : Int32) : MI l G cy yX8_steps cX8_steps 2 (some .int) 2 0 0 [.ref (b 0), .int p0] L M (fun r L2 M2 => r = (-2)) := by
  refine MI.of (own := RX8) rfl (by decide) (Nat.le_of_ble_eq_true rfl) ?_
  intro p e s m below meth c A C hrt hnm
  refine g_aload_n C dX8_steps_0 rfl (j := 0) rfl ?_
  refine g_iload_n C dX8_steps_1 rfl (j := 1) rfl ?_
  refine g_i2l C dX8_steps_2 (v := p0.toInt64) rfl ?_
  refine g_callVI C (c_X8_isPost_s36 l G F (p0.toInt64)) lk_X8_112 (F.mem 0 rfl) (F.at 0 rfl) rfl rfl dX8_steps_3 (Nat.le_of_ble_eq_true rfl) ⟨by decide, by decide⟩ ⟨by decide, by decide⟩ (fun r1 L M hp => ?_)
  obtain ⟨r1_, F⟩ := hp
  subst r1_
  refine g_if_ne C dX8_steps_6 (tgt := 12) (by decide) (fun q => absurd (by decide) q) (fun _ => ?_)
  refine g_bipush C dX8_steps_9 (v := -2) (by decide) ?_
  exact g_iret C hrt dX8_steps_11 (by decide) (by decide) (by decide)
set_option maxHeartbeats 4000000 in
set_option maxRecDepth 100000 in
theorem c_X8_behind (l : Launch) (G : va_G) {cy : Nat → ClassId} {L : List Nat} {M : Nat → va_E} {b : Nat → Nat} {ts : Int32} {pn : Nat → Int32}  (F : FW L M (flM cy b ts pn)) (p0 : Int32) : MI l G cy yX8_behind cX8_behind 2 (some .int) 2 0 0 [.ref (b 0), .int p0] L M (fun r L2 M2 => r = (-2)) := by
  refine MI.of (own := RX8) rfl (by decide) (Nat.le_of_ble_eq_true rfl) ?_
  intro p e s m below meth c A C hrt hnm
  refine g_aload_n C dX8_behind_0 rfl (j := 0) rfl ?_
  refine g_iload_n C dX8_behind_1 rfl (j := 1) rfl ?_
  refine g_i2l C dX8_behind_2 (v := p0.toInt64) rfl ?_
  refine g_callVI C (c_X8_isPost_s36 l G F (p0.toInt64)) lk_X8_112 (F.mem 0 rfl) (F.at 0 rfl) rfl rfl dX8_behind_3 (Nat.le_of_ble_eq_true rfl) ⟨by decide, by decide⟩ ⟨by decide, by decide⟩ (fun r1 L M hp => ?_)
  obtain ⟨r1_, F⟩ := hp
  subst r1_
  refine g_if_ne C dX8_behind_6 (tgt := 12) (by decide) (fun q => absurd (by decide) q) (fun _ => ?_)
  refine g_bipush C dX8_behind_9 (v := -2) (by decide) ?_
  exact g_iret C hrt dX8_behind_11 (by decide) (by decide) (by decide)
set_option maxHeartbeats 4000000 in
set_option maxRecDepth 100000 in
theorem c_X8_nth (l : Launch) (G : va_G) {cy : Nat → ClassId} {L : List Nat} {M : Nat → va_E} {b : Nat → Nat} {ts : Int32} {pn : Nat → Int32}  (F : FW L M (flM cy b ts pn)) (p0 : Int32) (p1 : Int32) : MI l G cy yX8_nth cX8_nth 5 (some .int) 2 0 0 [.ref (b 0), .int p0, .int p1] L M (fun r L2 M2 => r = (-2)) := by
  refine MI.of (own := RX8) rfl (by decide) (Nat.le_of_ble_eq_true rfl) ?_
  intro p e s m below meth c A C hrt hnm
  refine g_aload_n C dX8_nth_0 rfl (j := 0) rfl ?_
  refine g_iload_n C dX8_nth_1 rfl (j := 1) rfl ?_
  refine g_i2l C dX8_nth_2 (v := p0.toInt64) rfl ?_
  refine g_callVI C (c_X8_isPost_s36 l G F (p0.toInt64)) lk_X8_112 (F.mem 0 rfl) (F.at 0 rfl) rfl rfl dX8_nth_3 (Nat.le_of_ble_eq_true rfl) ⟨by decide, by decide⟩ ⟨by decide, by decide⟩ (fun r1 L M hp => ?_)
  obtain ⟨r1_, F⟩ := hp
  subst r1_
  refine g_if_eq C dX8_nth_6 (tgt := 21) (by decide) (fun _ => ?_) (fun q => absurd (by decide) q)
  refine g_bipush C dX8_nth_21 (v := -2) (by decide) ?_
  exact g_iret C hrt dX8_nth_23 (by decide) (by decide) (by decide)
set_option maxHeartbeats 4000000 in
set_option maxRecDepth 100000 in
theorem c_X8_round (l : Launch) (G : va_G) {cy : Nat → ClassId} {L : List Nat} {M : Nat → va_E} {b : Nat → Nat} {ts : Int32} {pn : Nat → Int32}  (F : FW L M (flM cy b ts pn)) (p0 : Int32) : MI l G cy yX8_round cX8_round 4 (some .int) 2 0 0 [.ref (b 0), .int p0] L M (fun r L2 M2 => r = (-2)) := by
  refine MI.of (own := RX8) rfl (by decide) (Nat.le_of_ble_eq_true rfl) ?_
  intro p e s m below meth c A C hrt hnm
  refine g_aload_n C dX8_round_0 rfl (j := 0) rfl ?_
  refine g_iload_n C dX8_round_1 rfl (j := 1) rfl ?_
  refine g_i2l C dX8_round_2 (v := p0.toInt64) rfl ?_
  refine g_callVI C (c_X8_isPost_s36 l G F (p0.toInt64)) lk_X8_112 (F.mem 0 rfl) (F.at 0 rfl) rfl rfl dX8_round_3 (Nat.le_of_ble_eq_true rfl) ⟨by decide, by decide⟩ ⟨by decide, by decide⟩ (fun r1 L M hp => ?_)
  obtain ⟨r1_, F⟩ := hp
  subst r1_
  refine g_if_ne C dX8_round_6 (tgt := 12) (by decide) (fun q => absurd (by decide) q) (fun _ => ?_)
  refine g_bipush C dX8_round_9 (v := -2) (by decide) ?_
  exact g_iret C hrt dX8_round_11 (by decide) (by decide) (by decide)
set_option maxHeartbeats 4000000 in
set_option maxRecDepth 100000 in
theorem c_X8_houses (l : Launch) (G : va_G) {cy : Nat → ClassId} {L : List Nat} {M : Nat → va_E} {b : Nat → Nat} {ts : Int32} {pn : Nat → Int32}  (F : FW L M (flM cy b ts pn)) (p0 : Int32) (p1 : Int32) (p2 : Int32) : MI l G cy yX8_houses cX8_houses 7 (some .int) 2 0 0 [.ref (b 0), .int p0, .int p1, .int p2] L M (fun r L2 M2 => r = (-2)) := by
  refine MI.of (own := RX8) rfl (by decide) (Nat.le_of_ble_eq_true rfl) ?_
  intro p e s m below meth c A C hrt hnm
  refine g_aload_n C dX8_houses_0 rfl (j := 0) rfl ?_
  refine g_iload_n C dX8_houses_1 rfl (j := 1) rfl ?_
  refine g_i2l C dX8_houses_2 (v := p0.toInt64) rfl ?_
  refine g_callVI C (c_X8_isPost_s36 l G F (p0.toInt64)) lk_X8_112 (F.mem 0 rfl) (F.at 0 rfl) rfl rfl dX8_houses_3 (Nat.le_of_ble_eq_true rfl) ⟨by decide, by decide⟩ ⟨by decide, by decide⟩ (fun r1 L M hp => ?_)
  obtain ⟨r1_, F⟩ := hp
  subst r1_
  refine g_if_eq C dX8_houses_6 (tgt := 30) (by decide) (fun _ => ?_) (fun q => absurd (by decide) q)
  refine g_bipush C dX8_houses_30 (v := -2) (by decide) ?_
  exact g_iret C hrt dX8_houses_32 (by decide) (by decide) (by decide)
set_option maxHeartbeats 4000000 in
set_option maxRecDepth 100000 in
theorem c_X8_point (l : Launch) (G : va_G) {cy : Nat → ClassId} {L : List Nat} {M : Nat → va_E} {b : Nat → Nat} {ts : Int32} {pn : Nat → Int32}  (F : FW L M (flM cy b ts pn)) (p0 : Int32) (p1 : Int32) : MI l G cy yX8_point cX8_point 7 (some .int) 4 0 0 [.ref (b 0), .int p0, .int p1] L M (fun r L2 M2 => r = (-2)) := by
  refine MI.of (own := RX8) rfl (by decide) (Nat.le_of_ble_eq_true rfl) ?_
  intro p e s m below meth c A C hrt hnm
  refine g_aload_n C dX8_point_0 rfl (j := 0) rfl ?_
  refine g_iload_n C dX8_point_1 rfl (j := 1) rfl ?_
  refine g_callVI C (c_X8_asksWalker_s55 l G F p0) lk_X8_320 (F.mem 0 rfl) (F.at 0 rfl) rfl rfl dX8_point_2 (Nat.le_of_ble_eq_true rfl) ⟨by decide, by decide⟩ ⟨by decide, by decide⟩ (fun r1 L M hp => ?_)
  obtain ⟨r1_, g164, F⟩ := hp
  subst r1_
  refine g_if_eq C dX8_point_5 (tgt := 17) (by decide) (fun _ => ?_) (fun q => absurd (by decide) q)
  refine g_bipush C dX8_point_17 (v := -2) (by decide) ?_
  exact g_iret C hrt dX8_point_19 (by decide) (by decide) (by decide)
set_option maxHeartbeats 4000000 in
set_option maxRecDepth 100000 in
theorem c_X8_best (l : Launch) (G : va_G) {cy : Nat → ClassId} {L : List Nat} {M : Nat → va_E} {b : Nat → Nat} {ts : Int32} {pn : Nat → Int32}  (F : FW L M (flM cy b ts pn))  : MI l G cy yX8_best cX8_best 5 (some .int) 3 0 0 [.ref (b 0)] L M (fun r L2 M2 => r = (-2)) := by
  refine MI.of (own := RX8) rfl (by decide) (Nat.le_of_ble_eq_true rfl) ?_
  intro p e s m below meth c A C hrt hnm
  refine g_aload_n C dX8_best_0 rfl (j := 0) rfl ?_
  refine g_callVI C (c_X8_asksHeath_s50 l G F ) lk_X8_292 (F.mem 0 rfl) (F.at 0 rfl) rfl rfl dX8_best_1 (Nat.le_of_ble_eq_true rfl) ⟨by decide, by decide⟩ ⟨by decide, by decide⟩ (fun r1 L M hp => ?_)
  obtain ⟨r1_, g165, F⟩ := hp
  subst r1_
  refine g_if_ne C dX8_best_4 (tgt := 10) (by decide) (fun q => absurd (by decide) q) (fun _ => ?_)
  refine g_bipush C dX8_best_7 (v := -2) (by decide) ?_
  exact g_iret C hrt dX8_best_9 (by decide) (by decide) (by decide)
set_option maxHeartbeats 4000000 in
set_option maxRecDepth 100000 in
theorem c_X8_crowds (l : Launch) (G : va_G) {cy : Nat → ClassId} {L : List Nat} {M : Nat → va_E} {b : Nat → Nat} {ts : Int32} {pn : Nat → Int32}  (F : FW L M (flM cy b ts pn))  : MI l G cy yX8_crowds cX8_crowds 6 (some .int) 3 0 0 [.ref (b 0)] L M (fun r L2 M2 => r = (-2)) := by
  refine MI.of (own := RX8) rfl (by decide) (Nat.le_of_ble_eq_true rfl) ?_
  intro p e s m below meth c A C hrt hnm
  refine g_aload_n C dX8_crowds_0 rfl (j := 0) rfl ?_
  refine g_callVI C (c_X8_asksHeath_s50 l G F ) lk_X8_292 (F.mem 0 rfl) (F.at 0 rfl) rfl rfl dX8_crowds_1 (Nat.le_of_ble_eq_true rfl) ⟨by decide, by decide⟩ ⟨by decide, by decide⟩ (fun r1 L M hp => ?_)
  obtain ⟨r1_, g166, F⟩ := hp
  subst r1_
  refine g_if_ne C dX8_crowds_4 (tgt := 10) (by decide) (fun q => absurd (by decide) q) (fun _ => ?_)
  refine g_bipush C dX8_crowds_7 (v := -2) (by decide) ?_
  exact g_iret C hrt dX8_crowds_9 (by decide) (by decide) (by decide)
set_option maxHeartbeats 4000000 in
set_option maxRecDepth 100000 in
theorem c_X8_askMay_s57 (l : Launch) (G : va_G) {cy : Nat → ClassId} {L : List Nat} {M : Nat → va_E} {b : Nat → Nat} {pn : Nat → Int32} {ts : Int32}  (F : FW L M (flM cy b ts pn)) (p0 : Int32) (p1 : Int32) : MI l G cy yX8_askMay cX8_askMay 3 (some .int) 2 0 0 [.ref (b 0), .int p0, .int p1] L M (fun r L2 M2 => r = (-2) ∧ FW L2 M2 (flM cy b ts pn)) := by
  refine MI.of (own := RX8) rfl (by decide) (Nat.le_of_ble_eq_true rfl) ?_
  intro p e s m below meth c A C hrt hnm
  refine g_aload_n C dX8_askMay_0 rfl (j := 0) rfl ?_
  refine g_iload_n C dX8_askMay_1 rfl (j := 2) rfl ?_
  refine g_i2l C dX8_askMay_2 (v := p1.toInt64) rfl ?_
  refine g_callVI C (c_X8_isPost_s36 l G F (p1.toInt64)) lk_X8_112 (F.mem 0 rfl) (F.at 0 rfl) rfl rfl dX8_askMay_3 (Nat.le_of_ble_eq_true rfl) ⟨by decide, by decide⟩ ⟨by decide, by decide⟩ (fun r1 L M hp => ?_)
  obtain ⟨r1_, F⟩ := hp
  subst r1_
  refine g_if_eq C dX8_askMay_6 (tgt := 17) (by decide) (fun _ => ?_) (fun q => absurd (by decide) q)
  refine g_bipush C dX8_askMay_17 (v := -2) (by decide) ?_
  exact g_iret C hrt dX8_askMay_19 (by decide) (by decide) ⟨by decide, F⟩
set_option maxHeartbeats 4000000 in
set_option maxRecDepth 100000 in
theorem c_X8_may (l : Launch) (G : va_G) {cy : Nat → ClassId} {L : List Nat} {M : Nat → va_E} {b : Nat → Nat} {ts : Int32} {pn : Nat → Int32}  (F : FW L M (flM cy b ts pn)) (p0 : Int32) (p1 : Int32) : MI l G cy yX8_may cX8_may 4 (some .int) 3 0 0 [.ref (b 0), .int p0, .int p1] L M (fun r L2 M2 => r = (-2)) := by
  refine MI.of (own := RX8) rfl (by decide) (Nat.le_of_ble_eq_true rfl) ?_
  intro p e s m below meth c A C hrt hnm
  refine g_aload_n C dX8_may_0 rfl (j := 0) rfl ?_
  refine g_iload_n C dX8_may_1 rfl (j := 1) rfl ?_
  refine g_iload_n C dX8_may_2 rfl (j := 2) rfl ?_
  refine g_callVI C (c_X8_askMay_s57 l G F p0 p1) lk_X8_413 (F.mem 0 rfl) (F.at 0 rfl) rfl rfl dX8_may_3 (Nat.le_of_ble_eq_true rfl) ⟨by decide, by decide⟩ ⟨by decide, by decide⟩ (fun r1 L M hp => ?_)
  obtain ⟨r1_, F⟩ := hp
  subst r1_
  refine g_istore_n C dX8_may_6 rfl (by decide) (lv2 := [(3, .int (-2)), (0, .ref (b 0)), (1, .int p0), (2, .int p1)]) rfl ?_
  refine g_iload_n C dX8_may_7 rfl (j := 0) rfl ?_
  refine g_if_ge C dX8_may_8 (tgt := 15) (by decide) (fun q => absurd q (by decide)) (fun _ => ?_)
  refine g_iload_n C dX8_may_11 rfl (j := 0) rfl ?_
  refine g_goto C dX8_may_12 (tgt := 21) (by decide) ?_
  exact g_iret C hrt dX8_may_21 (by decide) (by decide) (by decide)
set_option maxHeartbeats 4000000 in
set_option maxRecDepth 100000 in
theorem c_X8_ask (l : Launch) (G : va_G) {cy : Nat → ClassId} {L : List Nat} {M : Nat → va_E} {b : Nat → Nat} {ts : Int32} {pn : Nat → Int32}  (F : FW L M (flM cy b ts pn)) (p0 : Int32) (p1 : Int32) : MI l G cy yX8_ask cX8_ask 4 (some .int) 3 0 0 [.ref (b 0), .int p0, .int p1] L M (fun r L2 M2 => r = (-2)) := by
  refine MI.of (own := RX8) rfl (by decide) (Nat.le_of_ble_eq_true rfl) ?_
  intro p e s m below meth c A C hrt hnm
  refine g_aload_n C dX8_ask_0 rfl (j := 0) rfl ?_
  refine g_iload_n C dX8_ask_1 rfl (j := 1) rfl ?_
  refine g_iload_n C dX8_ask_2 rfl (j := 2) rfl ?_
  refine g_callVI C (c_X8_askMay_s57 l G F p0 p1) lk_X8_413 (F.mem 0 rfl) (F.at 0 rfl) rfl rfl dX8_ask_3 (Nat.le_of_ble_eq_true rfl) ⟨by decide, by decide⟩ ⟨by decide, by decide⟩ (fun r1 L M hp => ?_)
  obtain ⟨r1_, F⟩ := hp
  subst r1_
  refine g_istore_n C dX8_ask_6 rfl (by decide) (lv2 := [(3, .int (-2)), (0, .ref (b 0)), (1, .int p0), (2, .int p1)]) rfl ?_
  refine g_iload_n C dX8_ask_7 rfl (j := 0) rfl ?_
  refine g_if_ge C dX8_ask_8 (tgt := 15) (by decide) (fun q => absurd q (by decide)) (fun _ => ?_)
  refine g_iload_n C dX8_ask_11 rfl (j := 0) rfl ?_
  refine g_goto C dX8_ask_12 (tgt := 25) (by decide) ?_
  exact g_iret C hrt dX8_ask_25 (by decide) (by decide) (by decide)
set_option maxHeartbeats 4000000 in
set_option maxRecDepth 100000 in
theorem c_X8_leaves (l : Launch) (G : va_G) {cy : Nat → ClassId} {L : List Nat} {M : Nat → va_E} {b : Nat → Nat} {ts : Int32} {pn : Nat → Int32}  (F : FW L M (flM cy b ts pn)) (p0 : Int32) (p1 : Int32) : MI l G cy yX8_leaves cX8_leaves 4 (some .int) 3 0 0 [.ref (b 0), .int p0, .int p1] L M (fun r L2 M2 => r = (-2)) := by
  refine MI.of (own := RX8) rfl (by decide) (Nat.le_of_ble_eq_true rfl) ?_
  intro p e s m below meth c A C hrt hnm
  refine g_aload_n C dX8_leaves_0 rfl (j := 0) rfl ?_
  refine g_iload_n C dX8_leaves_1 rfl (j := 1) rfl ?_
  refine g_iload_n C dX8_leaves_2 rfl (j := 2) rfl ?_
  refine g_callVI C (c_X8_askMay_s57 l G F p0 p1) lk_X8_413 (F.mem 0 rfl) (F.at 0 rfl) rfl rfl dX8_leaves_3 (Nat.le_of_ble_eq_true rfl) ⟨by decide, by decide⟩ ⟨by decide, by decide⟩ (fun r1 L M hp => ?_)
  obtain ⟨r1_, F⟩ := hp
  subst r1_
  refine g_istore_n C dX8_leaves_6 rfl (by decide) (lv2 := [(3, .int (-2)), (0, .ref (b 0)), (1, .int p0), (2, .int p1)]) rfl ?_
  refine g_iload_n C dX8_leaves_7 rfl (j := 0) rfl ?_
  refine g_if_ge C dX8_leaves_8 (tgt := 13) (by decide) (fun q => absurd q (by decide)) (fun _ => ?_)
  refine g_iload_n C dX8_leaves_11 rfl (j := 0) rfl ?_
  exact g_iret C hrt dX8_leaves_12 (by decide) (by decide) (by decide)
set_option maxHeartbeats 4000000 in
set_option maxRecDepth 100000 in
theorem c_X8_askSeen_s58 (l : Launch) (G : va_G) {cy : Nat → ClassId} {L : List Nat} {M : Nat → va_E} {b : Nat → Nat} {pn : Nat → Int32} {ts : Int32}  (F : FW L M (flM cy b ts pn)) (p0 : Int32) : MI l G cy yX8_askSeen cX8_askSeen 3 (some .int) 2 0 0 [.ref (b 0), .int p0] L M (fun r L2 M2 => r = (-2) ∧ FW L2 M2 (flM cy b ts pn)) := by
  refine MI.of (own := RX8) rfl (by decide) (Nat.le_of_ble_eq_true rfl) ?_
  intro p e s m below meth c A C hrt hnm
  refine g_iload_n C dX8_askSeen_0 rfl (j := 1) rfl ?_
  refine g_callSI C (c_X8_isSlot l G F p0) lk_X8_394 rfl rfl dX8_askSeen_1 (Nat.le_of_ble_eq_true rfl) ⟨by decide, by decide⟩ ⟨by decide, by decide⟩ (fun r1 L M hp => ?_)
  obtain ⟨r1_, F⟩ := hp
  rcases r1_ with ⟨rfl, r1a⟩ | ⟨rfl, r1a⟩
  · skip
    refine g_if_eq C dX8_askSeen_4 (tgt := 14) (by decide) (fun q => absurd q (by decide)) (fun _ => ?_)
    refine g_aload_n C dX8_askSeen_7 rfl (j := 0) rfl ?_
    refine g_callVI C (c_X8_isHeath_s39 l G F ) lk_X8_102 (F.mem 0 rfl) (F.at 0 rfl) rfl rfl dX8_askSeen_8 (Nat.le_of_ble_eq_true rfl) ⟨by decide, by decide⟩ ⟨by decide, by decide⟩ (fun r2 L M hp => ?_)
    obtain ⟨r2_, F⟩ := hp
    subst r2_
    refine g_if_ne C dX8_askSeen_11 (tgt := 17) (by decide) (fun q => absurd (by decide) q) (fun _ => ?_)
    refine g_bipush C dX8_askSeen_14 (v := -2) (by decide) ?_
    exact g_iret C hrt dX8_askSeen_16 (by decide) (by decide) ⟨by decide, F⟩
  · skip
    refine g_if_eq C dX8_askSeen_4 (tgt := 14) (by decide) (fun _ => ?_) (fun q => absurd (by decide) q)
    refine g_bipush C dX8_askSeen_14 (v := -2) (by decide) ?_
    exact g_iret C hrt dX8_askSeen_16 (by decide) (by decide) ⟨by decide, F⟩
set_option maxHeartbeats 4000000 in
set_option maxRecDepth 100000 in
theorem c_X8_laws (l : Launch) (G : va_G) {cy : Nat → ClassId} {L : List Nat} {M : Nat → va_E} {b : Nat → Nat} {ts : Int32} {pn : Nat → Int32}  (F : FW L M (flM cy b ts pn)) (p0 : Int32) : MI l G cy yX8_laws cX8_laws 4 (some .int) 3 0 0 [.ref (b 0), .int p0] L M (fun r L2 M2 => r = (-2)) := by
  refine MI.of (own := RX8) rfl (by decide) (Nat.le_of_ble_eq_true rfl) ?_
  intro p e s m below meth c A C hrt hnm
  refine g_aload_n C dX8_laws_0 rfl (j := 0) rfl ?_
  refine g_iload_n C dX8_laws_1 rfl (j := 1) rfl ?_
  refine g_callVI C (c_X8_askSeen_s58 l G F p0) lk_X8_410 (F.mem 0 rfl) (F.at 0 rfl) rfl rfl dX8_laws_2 (Nat.le_of_ble_eq_true rfl) ⟨by decide, by decide⟩ ⟨by decide, by decide⟩ (fun r1 L M hp => ?_)
  obtain ⟨r1_, F⟩ := hp
  subst r1_
  refine g_istore_n C dX8_laws_5 rfl (by decide) (lv2 := [(2, .int (-2)), (0, .ref (b 0)), (1, .int p0)]) rfl ?_
  refine g_iload_n C dX8_laws_6 rfl (j := 0) rfl ?_
  refine g_if_ge C dX8_laws_7 (tgt := 12) (by decide) (fun q => absurd q (by decide)) (fun _ => ?_)
  refine g_iload_n C dX8_laws_10 rfl (j := 0) rfl ?_
  exact g_iret C hrt dX8_laws_11 (by decide) (by decide) (by decide)
set_option maxHeartbeats 4000000 in
set_option maxRecDepth 100000 in
theorem c_X8_by (l : Launch) (G : va_G) {cy : Nat → ClassId} {L : List Nat} {M : Nat → va_E} {b : Nat → Nat} {ts : Int32} {pn : Nat → Int32}  (F : FW L M (flM cy b ts pn)) (p0 : Int32) : MI l G cy yX8_by cX8_by 2 (some .int) 3 0 0 [.ref (b 0), .int p0] L M (fun r L2 M2 => r = (-2)) := by
  refine MI.of (own := RX8) rfl (by decide) (Nat.le_of_ble_eq_true rfl) ?_
  intro p e s m below meth c A C hrt hnm
  refine g_aload_n C dX8_by_0 rfl (j := 0) rfl ?_
  refine g_callVI C (c_X8_asksHeath_s50 l G F ) lk_X8_292 (F.mem 0 rfl) (F.at 0 rfl) rfl rfl dX8_by_1 (Nat.le_of_ble_eq_true rfl) ⟨by decide, by decide⟩ ⟨by decide, by decide⟩ (fun r1 L M hp => ?_)
  obtain ⟨r1_, g167, F⟩ := hp
  subst r1_
  refine g_if_eq C dX8_by_4 (tgt := 27) (by decide) (fun _ => ?_) (fun q => absurd (by decide) q)
  refine g_bipush C dX8_by_27 (v := -2) (by decide) ?_
  exact g_iret C hrt dX8_by_29 (by decide) (by decide) (by decide)
set_option maxHeartbeats 4000000 in
set_option maxRecDepth 100000 in
theorem c_X8_law (l : Launch) (G : va_G) {cy : Nat → ClassId} {L : List Nat} {M : Nat → va_E} {b : Nat → Nat} {ts : Int32} {pn : Nat → Int32}  (F : FW L M (flM cy b ts pn))  : MI l G cy yX8_law cX8_law 3 (some .int) 3 0 0 [.ref (b 0)] L M (fun r L2 M2 => r = (-2)) := by
  refine MI.of (own := RX8) rfl (by decide) (Nat.le_of_ble_eq_true rfl) ?_
  intro p e s m below meth c A C hrt hnm
  refine g_aload_n C dX8_law_0 rfl (j := 0) rfl ?_
  refine g_callVI C (c_X8_asksHeath_s50 l G F ) lk_X8_292 (F.mem 0 rfl) (F.at 0 rfl) rfl rfl dX8_law_1 (Nat.le_of_ble_eq_true rfl) ⟨by decide, by decide⟩ ⟨by decide, by decide⟩ (fun r1 L M hp => ?_)
  obtain ⟨r1_, g168, F⟩ := hp
  subst r1_
  refine g_if_ne C dX8_law_4 (tgt := 10) (by decide) (fun q => absurd (by decide) q) (fun _ => ?_)
  refine g_bipush C dX8_law_7 (v := -2) (by decide) ?_
  exact g_iret C hrt dX8_law_9 (by decide) (by decide) (by decide)
set_option maxHeartbeats 4000000 in
set_option maxRecDepth 100000 in
theorem c_X8_worth (l : Launch) (G : va_G) {cy : Nat → ClassId} {L : List Nat} {M : Nat → va_E} {b : Nat → Nat} {ts : Int32} {pn : Nat → Int32}  (F : FW L M (flM cy b ts pn)) (p0 : Int32) : MI l G cy yX8_worth cX8_worth 2 (some .int) 2 0 0 [.ref (b 0), .int p0] L M (fun r L2 M2 => r = (-2)) := by
  refine MI.of (own := RX8) rfl (by decide) (Nat.le_of_ble_eq_true rfl) ?_
  intro p e s m below meth c A C hrt hnm
  refine g_aload_n C dX8_worth_0 rfl (j := 0) rfl ?_
  refine g_callVV C (c_X8_asItIs_s47 l G F ) lk_X8_286 (F.mem 0 rfl) (F.at 0 rfl) rfl rfl dX8_worth_1 (Nat.le_of_ble_eq_true rfl) ⟨by decide, by decide⟩ ⟨by decide, by decide⟩ (fun L M hp => ?_)
  have F := hp
  refine g_aload_n C dX8_worth_4 rfl (j := 0) rfl ?_
  refine g_callVI C (c_X8_isHeath_s39 l G F ) lk_X8_102 (F.mem 0 rfl) (F.at 0 rfl) rfl rfl dX8_worth_5 (Nat.le_of_ble_eq_true rfl) ⟨by decide, by decide⟩ ⟨by decide, by decide⟩ (fun r1 L M hp => ?_)
  obtain ⟨r1_, F⟩ := hp
  subst r1_
  refine g_if_eq C dX8_worth_8 (tgt := 33) (by decide) (fun _ => ?_) (fun q => absurd (by decide) q)
  refine g_bipush C dX8_worth_33 (v := -2) (by decide) ?_
  exact g_iret C hrt dX8_worth_35 (by decide) (by decide) (by decide)
set_option maxHeartbeats 4000000 in
set_option maxRecDepth 100000 in
theorem c_X8_share (l : Launch) (G : va_G) {cy : Nat → ClassId} {L : List Nat} {M : Nat → va_E} {b : Nat → Nat} {ts : Int32} {pn : Nat → Int32}  (F : FW L M (flM cy b ts pn)) (p0 : Int32) (p1 : Int32) : MI l G cy yX8_share cX8_share 7 (some .int) 2 0 0 [.ref (b 0), .int p0, .int p1] L M (fun r L2 M2 => r = (-1000)) := by
  refine MI.of (own := RX8) rfl (by decide) (Nat.le_of_ble_eq_true rfl) ?_
  intro p e s m below meth c A C hrt hnm
  refine g_aload_n C dX8_share_0 rfl (j := 0) rfl ?_
  refine g_callVV C (c_X8_asItIs_s47 l G F ) lk_X8_286 (F.mem 0 rfl) (F.at 0 rfl) rfl rfl dX8_share_1 (Nat.le_of_ble_eq_true rfl) ⟨by decide, by decide⟩ ⟨by decide, by decide⟩ (fun L M hp => ?_)
  have F := hp
  refine g_aload_n C dX8_share_4 rfl (j := 0) rfl ?_
  refine g_iload_n C dX8_share_5 rfl (j := 1) rfl ?_
  refine g_i2l C dX8_share_6 (v := p0.toInt64) rfl ?_
  refine g_callVI C (c_X8_isPost_s36 l G F (p0.toInt64)) lk_X8_112 (F.mem 0 rfl) (F.at 0 rfl) rfl rfl dX8_share_7 (Nat.le_of_ble_eq_true rfl) ⟨by decide, by decide⟩ ⟨by decide, by decide⟩ (fun r1 L M hp => ?_)
  obtain ⟨r1_, F⟩ := hp
  subst r1_
  refine g_if_eq C dX8_share_10 (tgt := 23) (by decide) (fun _ => ?_) (fun q => absurd (by decide) q)
  refine g_sipush C dX8_share_23 (v := -1000) (by decide) ?_
  exact g_iret C hrt dX8_share_26 (by decide) (by decide) (by decide)
set_option maxHeartbeats 4000000 in
set_option maxRecDepth 100000 in
theorem c_X8_rests (l : Launch) (G : va_G) {cy : Nat → ClassId} {L : List Nat} {M : Nat → va_E} {b : Nat → Nat} {ts : Int32} {pn : Nat → Int32}  (F : FW L M (flM cy b ts pn)) (p0 : Int32) (p1 : Int32) : MI l G cy yX8_rests cX8_rests 8 (some .int) 3 0 0 [.ref (b 0), .int p0, .int p1] L M (fun r L2 M2 => r = (-2)) := by
  refine MI.of (own := RX8) rfl (by decide) (Nat.le_of_ble_eq_true rfl) ?_
  intro p e s m below meth c A C hrt hnm
  refine g_aload_n C dX8_rests_0 rfl (j := 0) rfl ?_
  refine g_iload_n C dX8_rests_1 rfl (j := 1) rfl ?_
  refine g_iload_n C dX8_rests_2 rfl (j := 2) rfl ?_
  refine g_callVI C (c_X8_areTwo_s56 l G F p0 p1) lk_X8_346 (F.mem 0 rfl) (F.at 0 rfl) rfl rfl dX8_rests_3 (Nat.le_of_ble_eq_true rfl) ⟨by decide, by decide⟩ ⟨by decide, by decide⟩ (fun r1 L M hp => ?_)
  obtain ⟨r1_, F⟩ := hp
  subst r1_
  refine g_if_ne C dX8_rests_6 (tgt := 12) (by decide) (fun q => absurd (by decide) q) (fun _ => ?_)
  refine g_bipush C dX8_rests_9 (v := -2) (by decide) ?_
  exact g_iret C hrt dX8_rests_11 (by decide) (by decide) (by decide)
set_option maxHeartbeats 4000000 in
set_option maxRecDepth 100000 in
theorem c_X8_gets (l : Launch) (G : va_G) {cy : Nat → ClassId} {L : List Nat} {M : Nat → va_E} {b : Nat → Nat} {ts : Int32} {pn : Nat → Int32}  (F : FW L M (flM cy b ts pn)) (p0 : Int32) (p1 : Int32) (p2 : Int32) (p3 : Int32) : MI l G cy yX8_gets cX8_gets 5 (some .int) 3 0 0 [.ref (b 0), .int p0, .int p1, .int p2, .int p3] L M (fun r L2 M2 => r = (-1000)) := by
  refine MI.of (own := RX8) rfl (by decide) (Nat.le_of_ble_eq_true rfl) ?_
  intro p e s m below meth c A C hrt hnm
  refine g_aload_n C dX8_gets_0 rfl (j := 0) rfl ?_
  refine g_iload_n C dX8_gets_1 rfl (j := 1) rfl ?_
  refine g_iload_n C dX8_gets_2 rfl (j := 2) rfl ?_
  refine g_callVI C (c_X8_areTwo_s56 l G F p0 p1) lk_X8_346 (F.mem 0 rfl) (F.at 0 rfl) rfl rfl dX8_gets_3 (Nat.le_of_ble_eq_true rfl) ⟨by decide, by decide⟩ ⟨by decide, by decide⟩ (fun r1 L M hp => ?_)
  obtain ⟨r1_, F⟩ := hp
  subst r1_
  refine g_if_eq C dX8_gets_6 (tgt := 43) (by decide) (fun _ => ?_) (fun q => absurd (by decide) q)
  refine g_sipush C dX8_gets_43 (v := -1000) (by decide) ?_
  exact g_iret C hrt dX8_gets_46 (by decide) (by decide) (by decide)
set_option maxHeartbeats 4000000 in
set_option maxRecDepth 100000 in
theorem c_X8_chance (l : Launch) (G : va_G) {cy : Nat → ClassId} {L : List Nat} {M : Nat → va_E} {b : Nat → Nat} {ts : Int32} {pn : Nat → Int32}  (F : FW L M (flM cy b ts pn)) (p0 : Int32) (p1 : Int32) (p2 : Int32) : MJ l G cy yX8_chance cX8_chance 4 (some .long) 2 0 0 [.ref (b 0), .int p0, .int p1, .int p2] L M (fun r L2 M2 => r = (-2)) := by
  refine MJ.of (own := RX8) rfl (by decide) (Nat.le_of_ble_eq_true rfl) ?_
  intro p e s m below meth c A C hrt hnm
  refine g_aload_n C dX8_chance_0 rfl (j := 0) rfl ?_
  refine g_iload_n C dX8_chance_1 rfl (j := 1) rfl ?_
  refine g_i2l C dX8_chance_2 (v := p0.toInt64) rfl ?_
  refine g_callVI C (c_X8_isWalker_s38 l G F (p0.toInt64)) lk_X8_254 (F.mem 0 rfl) (F.at 0 rfl) rfl rfl dX8_chance_3 (Nat.le_of_ble_eq_true rfl) ⟨by decide, by decide⟩ ⟨by decide, by decide⟩ (fun r1 L M hp => ?_)
  obtain ⟨r1_, F⟩ := hp
  subst r1_
  refine g_if_eq C dX8_chance_6 (tgt := 18) (by decide) (fun _ => ?_) (fun q => absurd (by decide) q)
  refine g_ldc2 C (v := -2) wd333 dX8_chance_18 ?_
  exact g_lret C hrt dX8_chance_21 (by decide) (by decide) (by decide)
set_option maxHeartbeats 4000000 in
set_option maxRecDepth 100000 in
theorem c_X8_isFog_s59 (l : Launch) (G : va_G) {cy : Nat → ClassId} {L : List Nat} {M : Nat → va_E} {b : Nat → Nat} {pn : Nat → Int32} {ts : Int32}  (F : FW L M (flM cy b ts pn)) (p0 : Int32) (p1 : Int32) : MI l G cy yX8_isFog cX8_isFog 3 (some .boolean) 2 0 0 [.ref (b 0), .int p0, .int p1] L M (fun r L2 M2 => r = (0) ∧ FW L2 M2 (flM cy b ts pn)) := by
  refine MI.of (own := RX8) rfl (by decide) (Nat.le_of_ble_eq_true rfl) ?_
  intro p e s m below meth c A C hrt hnm
  refine g_aload_n C dX8_isFog_0 rfl (j := 0) rfl ?_
  refine g_iload_n C dX8_isFog_1 rfl (j := 1) rfl ?_
  refine g_i2l C dX8_isFog_2 (v := p0.toInt64) rfl ?_
  refine g_callVI C (c_X8_isAhead_s53 l G F (p0.toInt64)) lk_X8_311 (F.mem 0 rfl) (F.at 0 rfl) rfl rfl dX8_isFog_3 (Nat.le_of_ble_eq_true rfl) ⟨by decide, by decide⟩ ⟨by decide, by decide⟩ (fun r1 L M hp => ?_)
  obtain ⟨r1_, F⟩ := hp
  subst r1_
  refine g_if_eq C dX8_isFog_6 (tgt := 29) (by decide) (fun _ => ?_) (fun q => absurd (by decide) q)
  refine g_iconst C dX8_isFog_29 (v := 0) (by decide) ?_
  exact g_zret C hrt rfl dX8_isFog_30 (by decide) (by decide) ⟨by decide, F⟩
set_option maxHeartbeats 4000000 in
set_option maxRecDepth 100000 in
theorem c_X8_mean (l : Launch) (G : va_G) {cy : Nat → ClassId} {L : List Nat} {M : Nat → va_E} {b : Nat → Nat} {ts : Int32} {pn : Nat → Int32}  (F : FW L M (flM cy b ts pn)) (p0 : Int32) (p1 : Int32) : MJ l G cy yX8_mean cX8_mean 3 (some .long) 3 0 0 [.ref (b 0), .int p0, .int p1] L M (fun r L2 M2 => r = (-2)) := by
  refine MJ.of (own := RX8) rfl (by decide) (Nat.le_of_ble_eq_true rfl) ?_
  intro p e s m below meth c A C hrt hnm
  refine g_aload_n C dX8_mean_0 rfl (j := 0) rfl ?_
  refine g_iload_n C dX8_mean_1 rfl (j := 1) rfl ?_
  refine g_iload_n C dX8_mean_2 rfl (j := 2) rfl ?_
  refine g_callVI C (c_X8_isFog_s59 l G F p0 p1) lk_X8_468 (F.mem 0 rfl) (F.at 0 rfl) rfl rfl dX8_mean_3 (Nat.le_of_ble_eq_true rfl) ⟨by decide, by decide⟩ ⟨by decide, by decide⟩ (fun r1 L M hp => ?_)
  obtain ⟨r1_, F⟩ := hp
  subst r1_
  refine g_if_ne C dX8_mean_6 (tgt := 13) (by decide) (fun q => absurd (by decide) q) (fun _ => ?_)
  refine g_ldc2 C (v := -2) wd333 dX8_mean_9 ?_
  exact g_lret C hrt dX8_mean_12 (by decide) (by decide) (by decide)
set_option maxHeartbeats 4000000 in
set_option maxRecDepth 100000 in
theorem c_X8_twists (l : Launch) (G : va_G) {cy : Nat → ClassId} {L : List Nat} {M : Nat → va_E} {b : Nat → Nat} {ts : Int32} {pn : Nat → Int32}  (F : FW L M (flM cy b ts pn)) (p0 : Int32) (p1 : Int32) : MI l G cy yX8_twists cX8_twists 3 (some .int) 2 0 0 [.ref (b 0), .int p0, .int p1] L M (fun r L2 M2 => r = (-2)) := by
  refine MI.of (own := RX8) rfl (by decide) (Nat.le_of_ble_eq_true rfl) ?_
  intro p e s m below meth c A C hrt hnm
  refine g_aload_n C dX8_twists_0 rfl (j := 0) rfl ?_
  refine g_iload_n C dX8_twists_1 rfl (j := 1) rfl ?_
  refine g_i2l C dX8_twists_2 (v := p0.toInt64) rfl ?_
  refine g_callVI C (c_X8_isPost_s36 l G F (p0.toInt64)) lk_X8_112 (F.mem 0 rfl) (F.at 0 rfl) rfl rfl dX8_twists_3 (Nat.le_of_ble_eq_true rfl) ⟨by decide, by decide⟩ ⟨by decide, by decide⟩ (fun r1 L M hp => ?_)
  obtain ⟨r1_, F⟩ := hp
  subst r1_
  refine g_if_eq C dX8_twists_6 (tgt := 18) (by decide) (fun _ => ?_) (fun q => absurd (by decide) q)
  refine g_bipush C dX8_twists_18 (v := -2) (by decide) ?_
  exact g_iret C hrt dX8_twists_20 (by decide) (by decide) (by decide)
set_option maxHeartbeats 4000000 in
set_option maxRecDepth 100000 in
theorem c_X8_holds (l : Launch) (G : va_G) {cy : Nat → ClassId} {L : List Nat} {M : Nat → va_E} {b : Nat → Nat} {ts : Int32} {pn : Nat → Int32}  (F : FW L M (flM cy b ts pn)) (p0 : Int32) (p1 : Int32) : MI l G cy yX8_holds cX8_holds 3 (some .int) 2 0 0 [.ref (b 0), .int p0, .int p1] L M (fun r L2 M2 => r = (-2)) := by
  refine MI.of (own := RX8) rfl (by decide) (Nat.le_of_ble_eq_true rfl) ?_
  intro p e s m below meth c A C hrt hnm
  refine g_aload_n C dX8_holds_0 rfl (j := 0) rfl ?_
  refine g_iload_n C dX8_holds_1 rfl (j := 1) rfl ?_
  refine g_i2l C dX8_holds_2 (v := p0.toInt64) rfl ?_
  refine g_callVI C (c_X8_isWalker_s38 l G F (p0.toInt64)) lk_X8_254 (F.mem 0 rfl) (F.at 0 rfl) rfl rfl dX8_holds_3 (Nat.le_of_ble_eq_true rfl) ⟨by decide, by decide⟩ ⟨by decide, by decide⟩ (fun r1 L M hp => ?_)
  obtain ⟨r1_, F⟩ := hp
  subst r1_
  refine g_if_eq C dX8_holds_6 (tgt := 18) (by decide) (fun _ => ?_) (fun q => absurd (by decide) q)
  refine g_bipush C dX8_holds_18 (v := -2) (by decide) ?_
  exact g_iret C hrt dX8_holds_20 (by decide) (by decide) (by decide)
set_option maxHeartbeats 4000000 in
set_option maxRecDepth 100000 in
theorem c_X8_undo (l : Launch) (G : va_G) {cy : Nat → ClassId} {L : List Nat} {M : Nat → va_E} {b : Nat → Nat} {ts : Int32} {pn : Nat → Int32}  (F : FW L M (flM cy b ts pn))  : MI l G cy yX8_undo cX8_undo 1 (some .int) 1 0 0 [.ref (b 0)] L M (fun r L2 M2 => r = (-2)) := by
  refine MI.of (own := RX8) rfl (by decide) (Nat.le_of_ble_eq_true rfl) ?_
  intro p e s m below meth c A C hrt hnm
  refine g_aload_n C dX8_undo_0 rfl (j := 0) rfl ?_
  refine g_callVI C (c_X8_isHeath_s39 l G F ) lk_X8_102 (F.mem 0 rfl) (F.at 0 rfl) rfl rfl dX8_undo_1 (Nat.le_of_ble_eq_true rfl) ⟨by decide, by decide⟩ ⟨by decide, by decide⟩ (fun r1 L M hp => ?_)
  obtain ⟨r1_, F⟩ := hp
  subst r1_
  refine g_if_ne C dX8_undo_4 (tgt := 10) (by decide) (fun q => absurd (by decide) q) (fun _ => ?_)
  refine g_bipush C dX8_undo_7 (v := -2) (by decide) ?_
  exact g_iret C hrt dX8_undo_9 (by decide) (by decide) (by decide)
set_option maxHeartbeats 4000000 in
set_option maxRecDepth 100000 in
theorem c_X8_anew (l : Launch) (G : va_G) {cy : Nat → ClassId} {L : List Nat} {M : Nat → va_E} {b : Nat → Nat} {ts : Int32} {pn : Nat → Int32}  (F : FW L M (flM cy b ts pn))  : MI l G cy yX8_anew cX8_anew 2 (some .int) 1 0 0 [.ref (b 0)] L M (fun r L2 M2 => r = (-2)) := by
  refine MI.of (own := RX8) rfl (by decide) (Nat.le_of_ble_eq_true rfl) ?_
  intro p e s m below meth c A C hrt hnm
  refine g_aload_n C dX8_anew_0 rfl (j := 0) rfl ?_
  refine g_callVI C (c_X8_isHeath_s39 l G F ) lk_X8_102 (F.mem 0 rfl) (F.at 0 rfl) rfl rfl dX8_anew_1 (Nat.le_of_ble_eq_true rfl) ⟨by decide, by decide⟩ ⟨by decide, by decide⟩ (fun r1 L M hp => ?_)
  obtain ⟨r1_, F⟩ := hp
  subst r1_
  refine g_if_ne C dX8_anew_4 (tgt := 10) (by decide) (fun q => absurd (by decide) q) (fun _ => ?_)
  refine g_bipush C dX8_anew_7 (v := -2) (by decide) ?_
  exact g_iret C hrt dX8_anew_9 (by decide) (by decide) (by decide)
set_option maxHeartbeats 4000000 in
set_option maxRecDepth 100000 in
theorem c_X8_drawn (l : Launch) (G : va_G) {cy : Nat → ClassId} {L : List Nat} {M : Nat → va_E} {b : Nat → Nat} {ts : Int32} {pn : Nat → Int32}  (F : FW L M (flM cy b ts pn)) (p0 : Int32) (p1 : Int32) : MI l G cy yX8_drawn cX8_drawn 3 (some .int) 1 0 0 [.ref (b 0), .int p0, .int p1] L M (fun r L2 M2 => r = (-2)) := by
  refine MI.of (own := RX8) rfl (by decide) (Nat.le_of_ble_eq_true rfl) ?_
  intro p e s m below meth c A C hrt hnm
  refine g_aload_n C dX8_drawn_0 rfl (j := 0) rfl ?_
  refine g_callVI C (c_X8_isHeath_s39 l G F ) lk_X8_102 (F.mem 0 rfl) (F.at 0 rfl) rfl rfl dX8_drawn_1 (Nat.le_of_ble_eq_true rfl) ⟨by decide, by decide⟩ ⟨by decide, by decide⟩ (fun r1 L M hp => ?_)
  obtain ⟨r1_, F⟩ := hp
  subst r1_
  refine g_if_eq C dX8_drawn_4 (tgt := 24) (by decide) (fun _ => ?_) (fun q => absurd (by decide) q)
  refine g_bipush C dX8_drawn_24 (v := -2) (by decide) ?_
  exact g_iret C hrt dX8_drawn_26 (by decide) (by decide) (by decide)
set_option maxHeartbeats 4000000 in
set_option maxRecDepth 100000 in
theorem c_X8_luck (l : Launch) (G : va_G) {cy : Nat → ClassId} {L : List Nat} {M : Nat → va_E} {b : Nat → Nat} {ts : Int32} {pn : Nat → Int32}  (F : FW L M (flM cy b ts pn)) (p0 : Int32) (p1 : Int32) (p2 : Int32) : MI l G cy yX8_luck cX8_luck 6 (some .int) 2 0 0 [.ref (b 0), .int p0, .int p1, .int p2] L M (fun r L2 M2 => r = (-2)) := by
  refine MI.of (own := RX8) rfl (by decide) (Nat.le_of_ble_eq_true rfl) ?_
  intro p e s m below meth c A C hrt hnm
  refine g_iload_n C dX8_luck_0 rfl (j := 1) rfl ?_
  refine g_callSI C (c_X8_isSeed l G F p0) lk_X8_489 rfl rfl dX8_luck_1 (Nat.le_of_ble_eq_true rfl) ⟨by decide, by decide⟩ ⟨by decide, by decide⟩ (fun r1 L M hp => ?_)
  obtain ⟨-, F⟩ := hp
  refine g_if_eq C dX8_luck_4 (tgt := 28) (by decide) (fun q2 => ?_) (fun q2 => ?_)
  · skip
    refine g_bipush C dX8_luck_28 (v := -2) (by decide) ?_
    exact g_iret C hrt dX8_luck_30 (by decide) (by decide) (by decide)
  · skip
    refine g_iload_n C dX8_luck_7 rfl (j := 2) rfl ?_
    refine g_i2l C dX8_luck_8 (v := p1.toInt64) rfl ?_
    refine g_lconst C dX8_luck_9 (v := 1) (by decide) ?_
    refine g_ldc2 C (v := 20) wd341 dX8_luck_10 ?_
    refine g_callSI C (c_X8_in l G F (p1.toInt64) (1) (20)) lk_X8_94 rfl rfl dX8_luck_13 (Nat.le_of_ble_eq_true rfl) ⟨by decide, by decide⟩ ⟨by decide, by decide⟩ (fun r3 L M hp => ?_)
    obtain ⟨r3_, F⟩ := hp
    rcases r3_ with ⟨rfl, r3a⟩ | ⟨rfl, r3a⟩
    · skip
      refine g_if_eq C dX8_luck_16 (tgt := 28) (by decide) (fun q => absurd q (by decide)) (fun _ => ?_)
      refine g_aload_n C dX8_luck_19 rfl (j := 0) rfl ?_
      refine g_iload_n C dX8_luck_20 rfl (j := 3) rfl ?_
      refine g_i2l C dX8_luck_21 (v := p2.toInt64) rfl ?_
      refine g_callVI C (c_X8_isWalker_s38 l G F (p2.toInt64)) lk_X8_254 (F.mem 0 rfl) (F.at 0 rfl) rfl rfl dX8_luck_22 (Nat.le_of_ble_eq_true rfl) ⟨by decide, by decide⟩ ⟨by decide, by decide⟩ (fun r4 L M hp => ?_)
      obtain ⟨r4_, F⟩ := hp
      subst r4_
      refine g_if_ne C dX8_luck_25 (tgt := 31) (by decide) (fun q => absurd (by decide) q) (fun _ => ?_)
      refine g_bipush C dX8_luck_28 (v := -2) (by decide) ?_
      exact g_iret C hrt dX8_luck_30 (by decide) (by decide) (by decide)
    · skip
      refine g_if_eq C dX8_luck_16 (tgt := 28) (by decide) (fun _ => ?_) (fun q => absurd (by decide) q)
      refine g_bipush C dX8_luck_28 (v := -2) (by decide) ?_
      exact g_iret C hrt dX8_luck_30 (by decide) (by decide) (by decide)
set_option maxHeartbeats 4000000 in
set_option maxRecDepth 100000 in
theorem c_X8_rate (l : Launch) (G : va_G) {cy : Nat → ClassId} {L : List Nat} {M : Nat → va_E} {b : Nat → Nat} {ts : Int32} {pn : Nat → Int32}  (F : FW L M (flM cy b ts pn)) (p0 : Int32) (p1 : Int32) : MI l G cy yX8_rate cX8_rate 4 (some .int) 2 0 0 [.ref (b 0), .int p0, .int p1] L M (fun r L2 M2 => r = (-2)) := by
  refine MI.of (own := RX8) rfl (by decide) (Nat.le_of_ble_eq_true rfl) ?_
  intro p e s m below meth c A C hrt hnm
  refine g_aload_n C dX8_rate_0 rfl (j := 0) rfl ?_
  refine g_iload_n C dX8_rate_1 rfl (j := 1) rfl ?_
  refine g_i2l C dX8_rate_2 (v := p0.toInt64) rfl ?_
  refine g_callVI C (c_X8_isInn_s34 l G F (p0.toInt64)) lk_X8_118 (F.mem 0 rfl) (F.at 0 rfl) rfl rfl dX8_rate_3 (Nat.le_of_ble_eq_true rfl) ⟨by decide, by decide⟩ ⟨by decide, by decide⟩ (fun r1 L M hp => ?_)
  obtain ⟨r1_, F⟩ := hp
  subst r1_
  refine g_if_eq C dX8_rate_6 (tgt := 21) (by decide) (fun _ => ?_) (fun q => absurd (by decide) q)
  refine g_bipush C dX8_rate_21 (v := -2) (by decide) ?_
  exact g_iret C hrt dX8_rate_23 (by decide) (by decide) (by decide)
