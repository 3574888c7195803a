set_option maxHeartbeats 4000000 in
set_option maxRecDepth 100000 in
theorem s_J0_coder_7d493 (l : Launch) (G : va_G) {cy : Nat → ClassId} {L : List Nat} {M : Nat → va_E} {a : Nat → Nat} {act : Nat → Bool} {C0 : Nat → Nat → Int32} {D0 : Nat → Nat → Int64} {R : Nat → Nat → Option Nat} (F : WI L M a act (ent cy a C0 D0 R)) (I : Inv C0) (pr : Nat) (hpr : pr < 26)  : MI l G cy yJ0_coder_7d493 cJ0_coder_7d493 1 (some .byte) 0 0 0 [.ref (G.2 1000 pr)] L M (fun r L2 M2 => ∃ C2 D2, WI L2 M2 a act (ent cy a C2 D2 R) ∧ Inv C2 ∧ Kp [] C0 D0 C2 D2 ∧ r = 0) := by
  refine MI.of (own := RJ0) rfl (by decide) (Nat.le_of_ble_eq_true rfl) ?_
  intro p e s m below meth c A X hrt hnm
  obtain ⟨C, D, hC0, hD0, F, I, K⟩ : ∃ C D, C = C0 ∧ D = D0 ∧ WI L M a act (ent cy a C D R) ∧ Inv C ∧ Kp [] C0 D0 C D := ⟨C0, D0, rfl, rfl, F, I, Kp.rf⟩
  refine g_compact X wd351 dJ0_coder_7d493_0 ?_
  refine g_if_eq X dJ0_coder_7d493_3 (tgt := 13) (by decide) (fun q => absurd q (by decide)) (fun _ => ?_)
  refine g_aload_n X dJ0_coder_7d493_6 rfl (j := 0) rfl ?_
  refine g_strC X hpr wd352 dJ0_coder_7d493_7 ?_
  refine g_goto X dJ0_coder_7d493_10 (tgt := 14) (by decide) ?_
  exact g_zret X hrt rfl dJ0_coder_7d493_14 (by decide) (by decide) ⟨C, D, F, I, K, rfl⟩
set_option maxHeartbeats 4000000 in
set_option maxRecDepth 100000 in
theorem s_J0_isLatin1_aae02 (l : Launch) (G : va_G) {cy : Nat → ClassId} {L : List Nat} {M : Nat → va_E} {a : Nat → Nat} {act : Nat → Bool} {C0 : Nat → Nat → Int32} {D0 : Nat → Nat → Int64} {R : Nat → Nat → Option Nat} (F : WI L M a act (ent cy a C0 D0 R)) (I : Inv C0) (pr : Nat) (hpr : pr < 26)  : MI l G cy yJ0_isLatin1_aae02 cJ0_isLatin1_aae02 1 (some .boolean) 0 0 0 [.ref (G.2 1000 pr)] L M (fun r L2 M2 => ∃ C2 D2, WI L2 M2 a act (ent cy a C2 D2 R) ∧ Inv C2 ∧ Kp [] C0 D0 C2 D2 ∧ r = 1) := by
  refine MI.of (own := RJ0) rfl (by decide) (Nat.le_of_ble_eq_true rfl) ?_
  intro p e s m below meth c A X hrt hnm
  obtain ⟨C, D, hC0, hD0, F, I, K⟩ : ∃ C D, C = C0 ∧ D = D0 ∧ WI L M a act (ent cy a C D R) ∧ Inv C ∧ Kp [] C0 D0 C D := ⟨C0, D0, rfl, rfl, F, I, Kp.rf⟩
  refine g_compact X wd351 dJ0_isLatin1_aae02_0 ?_
  refine g_if_eq X dJ0_isLatin1_aae02_3 (tgt := 17) (by decide) (fun q => absurd q (by decide)) (fun _ => ?_)
  refine g_aload_n X dJ0_isLatin1_aae02_6 rfl (j := 0) rfl ?_
  refine g_strC X hpr wd352 dJ0_isLatin1_aae02_7 ?_
  refine g_if_ne X dJ0_isLatin1_aae02_10 (tgt := 17) (by decide) (fun q => absurd (by decide) q) (fun _ => ?_)
  refine g_iconst X dJ0_isLatin1_aae02_13 (v := 1) (by decide) ?_
  refine g_goto X dJ0_isLatin1_aae02_14 (tgt := 18) (by decide) ?_
  exact g_zret X hrt rfl dJ0_isLatin1_aae02_18 (by decide) (by decide) ⟨C, D, F, I, K, rfl⟩
set_option maxHeartbeats 4000000 in
set_option maxRecDepth 100000 in
theorem s_J0_length_8abf5 (l : Launch) (G : va_G) {cy : Nat → ClassId} {L : List Nat} {M : Nat → va_E} {a : Nat → Nat} {act : Nat → Bool} {C0 : Nat → Nat → Int32} {D0 : Nat → Nat → Int64} {R : Nat → Nat → Option Nat} (F : WI L M a act (ent cy a C0 D0 R)) (I : Inv C0) (pr : Nat) (hpr : pr < 26)  : MI l G cy yJ0_length_8abf5 cJ0_length_8abf5 1 (some .int) 1 0 0 [.ref (G.2 1000 pr)] L M (fun r L2 M2 => ∃ C2 D2, WI L2 M2 a act (ent cy a C2 D2 R) ∧ Inv C2 ∧ Kp [] C0 D0 C2 D2 ∧ (∃ n : Nat, n ≤ 6 ∧ n = (strB.getD pr []).length ∧ r = nI n)) := by
  refine MI.of (own := RJ0) rfl (by decide) (Nat.le_of_ble_eq_true rfl) ?_
  intro p e s m below meth c A X hrt hnm
  obtain ⟨C, D, hC0, hD0, F, I, K⟩ : ∃ C D, C = C0 ∧ D = D0 ∧ WI L M a act (ent cy a C D R) ∧ Inv C ∧ Kp [] C0 D0 C D := ⟨C0, D0, rfl, rfl, F, I, Kp.rf⟩
  refine g_aload_n X dJ0_length_8abf5_0 rfl (j := 0) rfl ?_
  refine g_strV X hpr wd353 dJ0_length_8abf5_1 ?_
  have hlen6 := str_le pr hpr
  refine g_slenK X hpr (v := nI (strB.getD pr []).length) rfl dJ0_length_8abf5_4 ?_
  refine g_aload_n X dJ0_length_8abf5_5 rfl (j := 0) rfl ?_
  refine g_callT X hpr (s_J0_coder_7d493 l G F I pr hpr ) rfl wd354 wd355 wd356 wd357 wd358 pl_J0_coder_7d493 rfl rfl dJ0_length_8abf5_6 (Nat.le_of_ble_eq_true rfl) ⟨by decide, by decide⟩ ⟨by decide, by decide⟩ (fun r1 L M hp => ?_)
  obtain ⟨C, D, F, I, K1, hr⟩ := hp
  have K := K.step K1 (by decide)
  subst hr
  refine g_ishr X dJ0_length_8abf5_9 ?_
  refine Go.top (v := .int (nI (strB.getD pr []).length)) (congrArg Value.int (sc_shr0 (by omega))) ?_
  exact g_iret X hrt dJ0_length_8abf5_10 (by decide) (by decide) ⟨C, D, F, I, K, ⟨_, hlen6, rfl, rfl⟩⟩
set_option maxHeartbeats 4000000 in
set_option maxRecDepth 100000 in
theorem s_J3_checkIndex_8e157_null (l : Launch) (G : va_G) {cy : Nat → ClassId} {L : List Nat} {M : Nat → va_E} {a : Nat → Nat} {act : Nat → Bool} {C0 : Nat → Nat → Int32} {D0 : Nat → Nat → Int64} {R : Nat → Nat → Option Nat} (F : WI L M a act (ent cy a C0 D0 R)) (I : Inv C0) (p0 : Nat) (hp0a : 0 ≤ p0) (hp0b : p0 ≤ 6) (p1 : Nat) (hp1a : 0 ≤ p1) (hp1b : p1 ≤ 6) (hlt : p0 < p1) : MI l G cy yJ3_checkIndex_8e157 cJ3_checkIndex_8e157 3 (some .int) 0 0 0 [.int (nI p0), .int (nI p1), .null] L M (fun r L2 M2 => ∃ C2 D2, WI L2 M2 a act (ent cy a C2 D2 R) ∧ Inv C2 ∧ Kp [] C0 D0 C2 D2 ∧ True) := by
  refine MI.of (own := RJ3) rfl (by decide) (Nat.le_of_ble_eq_true rfl) ?_
  intro p e s m below meth c A X hrt hnm
  obtain ⟨C, D, hC0, hD0, F, I, K⟩ : ∃ C D, C = C0 ∧ D = D0 ∧ WI L M a act (ent cy a C D R) ∧ Inv C ∧ Kp [] C0 D0 C D := ⟨C0, D0, rfl, rfl, F, I, Kp.rf⟩
  refine g_iload_n X dJ3_checkIndex_8e157_0 rfl (j := 0) rfl ?_
  refine g_if_lt X dJ3_checkIndex_8e157_1 (tgt := 9) (by decide) (fun q => absurd q (nI_pos (by omega))) (fun _ => ?_)
  refine g_iload_n X dJ3_checkIndex_8e157_4 rfl (j := 0) rfl ?_
  refine g_iload_n X dJ3_checkIndex_8e157_5 rfl (j := 1) rfl ?_
  refine g_icmp_lt X dJ3_checkIndex_8e157_6 (tgt := 16) (by decide) (fun q2 => ?_) (fun q2 => ?_)
  · skip
    have q2 : p0 < p1 := (nI_ltI (a := p0) (b := p1) (by omega) (by omega)).mp q2
    refine g_iload_n X dJ3_checkIndex_8e157_16 rfl (j := 0) rfl ?_
    exact g_iret X hrt dJ3_checkIndex_8e157_17 (by decide) (by decide) ⟨C, D, F, I, K, trivial⟩
  · skip
    have q2 : ¬ p0 < p1 := fun z => q2 ((nI_ltI (a := p0) (b := p1) (by omega) (by omega)).mpr z)
    exact absurd hlt (by omega)
set_option maxHeartbeats 4000000 in
set_option maxRecDepth 100000 in
theorem s_J3_checkIndex_8e157_x (l : Launch) (G : va_G) {cy : Nat → ClassId} {L : List Nat} {M : Nat → va_E} {a : Nat → Nat} {act : Nat → Bool} {C0 : Nat → Nat → Int32} {D0 : Nat → Nat → Int64} {R : Nat → Nat → Option Nat} (F : WI L M a act (ent cy a C0 D0 R)) (I : Inv C0) (p0 : Nat) (hp0a : 0 ≤ p0) (hp0b : p0 ≤ 6) (p1 : Nat) (hp1a : 0 ≤ p1) (hp1b : p1 ≤ 6) (p2 : Nat) (hlt : p0 < p1) : MI l G cy yJ3_checkIndex_8e157 cJ3_checkIndex_8e157 3 (some .int) 0 0 0 [.int (nI p0), .int (nI p1), .ref p2] L M (fun r L2 M2 => ∃ C2 D2, WI L2 M2 a act (ent cy a C2 D2 R) ∧ Inv C2 ∧ Kp [] C0 D0 C2 D2 ∧ True) := by
  refine MI.of (own := RJ3) rfl (by decide) (Nat.le_of_ble_eq_true rfl) ?_
  intro p e s m below meth c A X hrt hnm
  obtain ⟨C, D, hC0, hD0, F, I, K⟩ : ∃ C D, C = C0 ∧ D = D0 ∧ WI L M a act (ent cy a C D R) ∧ Inv C ∧ Kp [] C0 D0 C D := ⟨C0, D0, rfl, rfl, F, I, Kp.rf⟩
  refine g_iload_n X dJ3_checkIndex_8e157_0 rfl (j := 0) rfl ?_
  refine g_if_lt X dJ3_checkIndex_8e157_1 (tgt := 9) (by decide) (fun q => absurd q (nI_pos (by omega))) (fun _ => ?_)
  refine g_iload_n X dJ3_checkIndex_8e157_4 rfl (j := 0) rfl ?_
  refine g_iload_n X dJ3_checkIndex_8e157_5 rfl (j := 1) rfl ?_
  refine g_icmp_lt X dJ3_checkIndex_8e157_6 (tgt := 16) (by decide) (fun q2 => ?_) (fun q2 => ?_)
  · skip
    have q2 : p0 < p1 := (nI_ltI (a := p0) (b := p1) (by omega) (by omega)).mp q2
    refine g_iload_n X dJ3_checkIndex_8e157_16 rfl (j := 0) rfl ?_
    exact g_iret X hrt dJ3_checkIndex_8e157_17 (by decide) (by decide) ⟨C, D, F, I, K, trivial⟩
  · skip
    have q2 : ¬ p0 < p1 := fun z => q2 ((nI_ltI (a := p0) (b := p1) (by omega) (by omega)).mpr z)
    exact absurd hlt (by omega)
set_option maxHeartbeats 4000000 in
set_option maxRecDepth 100000 in
theorem s_J0_checkIndex_df160 (l : Launch) (G : va_G) {cy : Nat → ClassId} {L : List Nat} {M : Nat → va_E} {a : Nat → Nat} {act : Nat → Bool} {C0 : Nat → Nat → Int32} {D0 : Nat → Nat → Int64} {R : Nat → Nat → Option Nat} (F : WI L M a act (ent cy a C0 D0 R)) (I : Inv C0) (p0 : Nat) (hp0a : 0 ≤ p0) (hp0b : p0 ≤ 6) (p1 : Nat) (hp1a : 0 ≤ p1) (hp1b : p1 ≤ 6) (hlt : p0 < p1) : MV l G cy yJ0_checkIndex_df160 cJ0_checkIndex_df160 2 none 1 0 0 [.int (nI p0), .int (nI p1)] L M (fun L2 M2 => ∃ C2 D2, WI L2 M2 a act (ent cy a C2 D2 R) ∧ Inv C2 ∧ Kp [] C0 D0 C2 D2 ∧ True) := by
  refine MV.of (own := RJ0) rfl (by decide) (Nat.le_of_ble_eq_true rfl) ?_
  intro p e s m below meth c A X hrt hnm
  obtain ⟨C, D, hC0, hD0, F, I, K⟩ : ∃ C D, C = C0 ∧ D = D0 ∧ WI L M a act (ent cy a C D R) ∧ Inv C ∧ Kp [] C0 D0 C D := ⟨C0, D0, rfl, rfl, F, I, Kp.rf⟩
  refine g_iload_n X dJ0_checkIndex_df160_0 rfl (j := 0) rfl ?_
  refine g_iload_n X dJ0_checkIndex_df160_1 rfl (j := 1) rfl ?_
  refine g_sioobe X wd359 dJ0_checkIndex_df160_2 ?_ (fun t1 => ?_)
  · skip
    refine g_callSI X (s_J3_checkIndex_8e157_null l G F I p0 (by omega) (by omega) p1 (by omega) (by omega) (by omega)) lk_J0_1059 rfl rfl dJ0_checkIndex_df160_5 (Nat.le_of_ble_eq_true rfl) ⟨by decide, by decide⟩ ⟨by decide, by decide⟩ (fun r2 L M hp => ?_)
    obtain ⟨C, D, F, I, K1, hr⟩ := hp
    have K := K.step K1 (by decide)
    refine g_pop X dJ0_checkIndex_df160_8 rfl ?_
    exact g_vret X hrt dJ0_checkIndex_df160_9 (by decide) (by decide) ⟨C, D, F, I, K, trivial⟩
  · skip
    refine g_callSI X (s_J3_checkIndex_8e157_x l G F I p0 (by omega) (by omega) p1 (by omega) (by omega) t1 (by omega)) lk_J0_1059 rfl rfl dJ0_checkIndex_df160_5 (Nat.le_of_ble_eq_true rfl) ⟨by decide, by decide⟩ ⟨by decide, by decide⟩ (fun r3 L M hp => ?_)
    obtain ⟨C, D, F, I, K1, hr⟩ := hp
    have K := K.step K1 (by decide)
    refine g_pop X dJ0_checkIndex_df160_8 rfl ?_
    exact g_vret X hrt dJ0_checkIndex_df160_9 (by decide) (by decide) ⟨C, D, F, I, K, trivial⟩
set_option maxHeartbeats 4000000 in
set_option maxRecDepth 100000 in
theorem s_J1_charAt_3b067 (l : Launch) (G : va_G) {cy : Nat → ClassId} {L : List Nat} {M : Nat → va_E} {a : Nat → Nat} {act : Nat → Bool} {C0 : Nat → Nat → Int32} {D0 : Nat → Nat → Int64} {R : Nat → Nat → Option Nat} (F : WI L M a act (ent cy a C0 D0 R)) (I : Inv C0) (p0 : Nat) (hp0 : p0 < 26) (p1 : Nat) (hp1a : 0 ≤ p1) (hp1b : p1 ≤ 6) (hlt : p1 < (strB.getD p0 []).length) : MI l G cy yJ1_charAt_3b067 cJ1_charAt_3b067 2 (some .char) 2 0 0 [.ref (G.2 1001 p0), .int (nI p1)] L M (fun r L2 M2 => ∃ C2 D2, WI L2 M2 a act (ent cy a C2 D2 R) ∧ Inv C2 ∧ Kp [] C0 D0 C2 D2 ∧ narrow .char (.int r) = .int r) := by
  refine MI.of (own := RJ1) rfl (by decide) (Nat.le_of_ble_eq_true rfl) ?_
  intro p e s m below meth c A X hrt hnm
  obtain ⟨C, D, hC0, hD0, F, I, K⟩ : ∃ C D, C = C0 ∧ D = D0 ∧ WI L M a act (ent cy a C D R) ∧ Inv C ∧ Kp [] C0 D0 C D := ⟨C0, D0, rfl, rfl, F, I, Kp.rf⟩
  refine g_iload_n X dJ1_charAt_3b067_0 rfl (j := 1) rfl ?_
  refine g_aload_n X dJ1_charAt_3b067_1 rfl (j := 0) rfl ?_
  have hlen6 := str_le p0 hp0
  refine g_slenK X hp0 (v := nI (strB.getD p0 []).length) rfl dJ1_charAt_3b067_2 ?_
  refine g_callSV X (s_J0_checkIndex_df160 l G F I p1 (by omega) (by omega) ((strB.getD p0 []).length) (by omega) (by omega) (by omega)) lk_J1_9 rfl rfl dJ1_charAt_3b067_3 (Nat.le_of_ble_eq_true rfl) ⟨by decide, by decide⟩ ⟨by decide, by decide⟩ (fun L M hp => ?_)
  obtain ⟨C, D, F, I, K1, hr⟩ := hp
  have K := K.step K1 (by decide)
  refine g_aload_n X dJ1_charAt_3b067_6 rfl (j := 0) rfl ?_
  refine g_iload_n X dJ1_charAt_3b067_7 rfl (j := 1) rfl ?_
  refine g_sbyte X hp0 (vp_in_nI (by omega) (by omega)) dJ1_charAt_3b067_8 (fun o1 => ?_)
  refine g_sipush X dJ1_charAt_3b067_9 (v := 255) (by decide) ?_
  refine g_iand X dJ1_charAt_3b067_12 ?_
  refine g_i2c X dJ1_charAt_3b067_13 (v := o1 &&& 255) (sc_c2 o1) ?_
  exact g_zret X hrt (sc_nar o1) dJ1_charAt_3b067_14 (by decide) (by decide) ⟨C, D, F, I, K, (sc_nar o1)⟩
set_option maxHeartbeats 4000000 in
set_option maxRecDepth 100000 in
theorem s_J0_charAt_5068e (l : Launch) (G : va_G) {cy : Nat → ClassId} {L : List Nat} {M : Nat → va_E} {a : Nat → Nat} {act : Nat → Bool} {C0 : Nat → Nat → Int32} {D0 : Nat → Nat → Int64} {R : Nat → Nat → Option Nat} (F : WI L M a act (ent cy a C0 D0 R)) (I : Inv C0) (pr : Nat) (hpr : pr < 26) (p0 : Nat) (hp0a : 0 ≤ p0) (hp0b : p0 ≤ 6) (hlt : p0 < (strB.getD pr []).length) : MI l G cy yJ0_charAt_5068e cJ0_charAt_5068e 2 (some .char) 3 0 0 [.ref (G.2 1000 pr), .int (nI p0)] L M (fun r L2 M2 => ∃ C2 D2, WI L2 M2 a act (ent cy a C2 D2 R) ∧ Inv C2 ∧ Kp [] C0 D0 C2 D2 ∧ narrow .char (.int r) = .int r) := by
  refine MI.of (own := RJ0) rfl (by decide) (Nat.le_of_ble_eq_true rfl) ?_
  intro p e s m below meth c A X hrt hnm
  obtain ⟨C, D, hC0, hD0, F, I, K⟩ : ∃ C D, C = C0 ∧ D = D0 ∧ WI L M a act (ent cy a C D R) ∧ Inv C ∧ Kp [] C0 D0 C D := ⟨C0, D0, rfl, rfl, F, I, Kp.rf⟩
  refine g_aload_n X dJ0_charAt_5068e_0 rfl (j := 0) rfl ?_
  refine g_callT X hpr (s_J0_isLatin1_aae02 l G F I pr hpr ) rfl wd367 wd368 wd369 wd357 wd370 pl_J0_isLatin1_aae02 rfl rfl dJ0_charAt_5068e_1 (Nat.le_of_ble_eq_true rfl) ⟨by decide, by decide⟩ ⟨by decide, by decide⟩ (fun r1 L M hp => ?_)
  obtain ⟨C, D, F, I, K1, hr⟩ := hp
  have K := K.step K1 (by decide)
  subst hr
  refine g_if_eq X dJ0_charAt_5068e_4 (tgt := 16) (by decide) (fun q => absurd q (by decide)) (fun _ => ?_)
  refine g_aload_n X dJ0_charAt_5068e_7 rfl (j := 0) rfl ?_
  refine g_strV X hpr wd353 dJ0_charAt_5068e_8 ?_
  refine g_iload_n X dJ0_charAt_5068e_11 rfl (j := 1) rfl ?_
  refine g_callSI X (s_J1_charAt_3b067 l G F I pr hpr p0 (by omega) (by omega) (by omega)) lk_J0_495 rfl rfl dJ0_charAt_5068e_12 (Nat.le_of_ble_eq_true rfl) ⟨by decide, by decide⟩ ⟨by decide, by decide⟩ (fun r2 L M hp => ?_)
  obtain ⟨C, D, F, I, K1, hr⟩ := hp
  have K := K.step K1 (by decide)
  have hnarr2 := hr
  exact g_zret X hrt hnarr2 dJ0_charAt_5068e_15 (by decide) (by decide) ⟨C, D, F, I, K, hnarr2⟩
set_option maxHeartbeats 4000000 in
set_option maxRecDepth 100000 in
theorem s_X6_isBlank (l : Launch) (G : va_G) {cy : Nat → ClassId} {L : List Nat} {M : Nat → va_E} {a : Nat → Nat} {act : Nat → Bool} {C0 : Nat → Nat → Int32} {D0 : Nat → Nat → Int64} {R : Nat → Nat → Option Nat} (F : WI L M a act (ent cy a C0 D0 R)) (I : Inv C0) (p0 : Int32)  : MI l G cy yX6_isBlank cX6_isBlank 1 (some .boolean) 0 0 0 [.int p0] L M (fun r L2 M2 => ∃ C2 D2, WI L2 M2 a act (ent cy a C2 D2 R) ∧ Inv C2 ∧ Kp [] C0 D0 C2 D2 ∧ (r = 0 ∨ r = 1)) := by
  refine MI.of (own := RX6) rfl (by decide) (Nat.le_of_ble_eq_true rfl) ?_
  intro p e s m below meth c A X hrt hnm
  obtain ⟨C, D, hC0, hD0, F, I, K⟩ : ∃ C D, C = C0 ∧ D = D0 ∧ WI L M a act (ent cy a C D R) ∧ Inv C ∧ Kp [] C0 D0 C D := ⟨C0, D0, rfl, rfl, F, I, Kp.rf⟩
  refine g_iload_n X dX6_isBlank_0 rfl (j := 0) rfl ?_
  refine g_bipush X dX6_isBlank_1 (v := 32) (by decide) ?_
  refine g_icmp_eq X dX6_isBlank_3 (tgt := 12) (by decide) (fun q1 => ?_) (fun q1 => ?_)
  · skip
    subst q1
    refine g_iconst X dX6_isBlank_12 (v := 1) (by decide) ?_
    refine g_goto X dX6_isBlank_13 (tgt := 17) (by decide) ?_
    exact g_zret X hrt rfl dX6_isBlank_17 (by decide) (by decide) ⟨C, D, F, I, K, Or.inr rfl⟩
  · skip
    refine g_iload_n X dX6_isBlank_6 rfl (j := 0) rfl ?_
    refine g_bipush X dX6_isBlank_7 (v := 10) (by decide) ?_
    refine g_icmp_ne X dX6_isBlank_9 (tgt := 16) (by decide) (fun q2 => ?_) (fun q2 => ?_)
    · skip
      refine g_iconst X dX6_isBlank_16 (v := 0) (by decide) ?_
      exact g_zret X hrt rfl dX6_isBlank_17 (by decide) (by decide) ⟨C, D, F, I, K, Or.inl rfl⟩
    · skip
      subst q2
      refine g_iconst X dX6_isBlank_12 (v := 1) (by decide) ?_
      refine g_goto X dX6_isBlank_13 (tgt := 17) (by decide) ?_
      exact g_zret X hrt rfl dX6_isBlank_17 (by decide) (by decide) ⟨C, D, F, I, K, Or.inr rfl⟩
set_option maxHeartbeats 4000000 in
set_option maxRecDepth 100000 in
theorem s_X6_isLetter (l : Launch) (G : va_G) {cy : Nat → ClassId} {L : List Nat} {M : Nat → va_E} {a : Nat → Nat} {act : Nat → Bool} {C0 : Nat → Nat → Int32} {D0 : Nat → Nat → Int64} {R : Nat → Nat → Option Nat} (F : WI L M a act (ent cy a C0 D0 R)) (I : Inv C0) (p0 : Int32)  : MI l G cy yX6_isLetter cX6_isLetter 1 (some .boolean) 0 0 0 [.int p0] L M (fun r L2 M2 => ∃ C2 D2, WI L2 M2 a act (ent cy a C2 D2 R) ∧ Inv C2 ∧ Kp [] C0 D0 C2 D2 ∧ (r = 0 ∨ r = 1)) := by
  refine MI.of (own := RX6) rfl (by decide) (Nat.le_of_ble_eq_true rfl) ?_
  intro p e s m below meth c A X hrt hnm
  obtain ⟨C, D, hC0, hD0, F, I, K⟩ : ∃ C D, C = C0 ∧ D = D0 ∧ WI L M a act (ent cy a C D R) ∧ Inv C ∧ Kp [] C0 D0 C D := ⟨C0, D0, rfl, rfl, F, I, Kp.rf⟩
  refine g_iload_n X dX6_isLetter_0 rfl (j := 0) rfl ?_
  refine g_bipush X dX6_isLetter_1 (v := 97) (by decide) ?_
  refine g_icmp_lt X dX6_isLetter_3 (tgt := 16) (by decide) (fun q1 => ?_) (fun q1 => ?_)
  · skip
    have q1t : p0.toInt < (97 : Int32).toInt := Int32.lt_iff_toInt_lt.mp q1
    have q1k : (97 : Int32).toInt = 97 := (by decide)
    have q1b := Int32.toInt_lt p0
    refine g_iconst X dX6_isLetter_16 (v := 0) (by decide) ?_
    exact g_zret X hrt rfl dX6_isLetter_17 (by decide) (by decide) ⟨C, D, F, I, K, Or.inl rfl⟩
  · skip
    have q1t : ¬ p0.toInt < (97 : Int32).toInt := fun z => q1 (Int32.lt_iff_toInt_lt.mpr z)
    have q1k : (97 : Int32).toInt = 97 := (by decide)
    have q1b := Int32.toInt_lt p0
    obtain ⟨n2, hn2, rfl⟩ := nI_of (x := p0) (fun z => by have z2 := Int32.lt_iff_toInt_lt.mp z; have z3 : (0 : Int32).toInt = 0 := (by decide); omega)
    rw [nI_toInt (by omega)] at q1t
    have tn2 := nI_toInt (n := n2) (by omega)
    refine g_iload_n X dX6_isLetter_6 rfl (j := 0) rfl ?_
    refine g_bipush X dX6_isLetter_7 (v := 122) (by decide) ?_
    refine g_icmp_gt X dX6_isLetter_9 (tgt := 16) (by decide) (fun q3 => ?_) (fun q3 => ?_)
    · skip
      have q3 : 122 < n2 := (nI_ltI (a := 122) (b := n2) (by omega) (by omega)).mp q3
      refine g_iconst X dX6_isLetter_16 (v := 0) (by decide) ?_
      exact g_zret X hrt rfl dX6_isLetter_17 (by decide) (by decide) ⟨C, D, F, I, K, Or.inl rfl⟩
    · skip
      have q3 : ¬ 122 < n2 := fun z => q3 ((nI_ltI (a := 122) (b := n2) (by omega) (by omega)).mpr z)
      refine g_iconst X dX6_isLetter_12 (v := 1) (by decide) ?_
      refine g_goto X dX6_isLetter_13 (tgt := 17) (by decide) ?_
      exact g_zret X hrt rfl dX6_isLetter_17 (by decide) (by decide) ⟨C, D, F, I, K, Or.inr rfl⟩
set_option maxHeartbeats 4000000 in
set_option maxRecDepth 100000 in
theorem s_X6_isDigit (l : Launch) (G : va_G) {cy : Nat → ClassId} {L : List Nat} {M : Nat → va_E} {a : Nat → Nat} {act : Nat → Bool} {C0 : Nat → Nat → Int32} {D0 : Nat → Nat → Int64} {R : Nat → Nat → Option Nat} (F : WI L M a act (ent cy a C0 D0 R)) (I : Inv C0) (p0 : Int32)  : MI l G cy yX6_isDigit cX6_isDigit 1 (some .boolean) 0 0 0 [.int p0] L M (fun r L2 M2 => ∃ C2 D2, WI L2 M2 a act (ent cy a C2 D2 R) ∧ Inv C2 ∧ Kp [] C0 D0 C2 D2 ∧ (r = 0 ∨ r = 1)) := by
  refine MI.of (own := RX6) rfl (by decide) (Nat.le_of_ble_eq_true rfl) ?_
  intro p e s m below meth c A X hrt hnm
  obtain ⟨C, D, hC0, hD0, F, I, K⟩ : ∃ C D, C = C0 ∧ D = D0 ∧ WI L M a act (ent cy a C D R) ∧ Inv C ∧ Kp [] C0 D0 C D := ⟨C0, D0, rfl, rfl, F, I, Kp.rf⟩
  refine g_iload_n X dX6_isDigit_0 rfl (j := 0) rfl ?_
  refine g_bipush X dX6_isDigit_1 (v := 48) (by decide) ?_
  refine g_icmp_lt X dX6_isDigit_3 (tgt := 16) (by decide) (fun q1 => ?_) (fun q1 => ?_)
  · skip
    have q1t : p0.toInt < (48 : Int32).toInt := Int32.lt_iff_toInt_lt.mp q1
    have q1k : (48 : Int32).toInt = 48 := (by decide)
    have q1b := Int32.toInt_lt p0
    refine g_iconst X dX6_isDigit_16 (v := 0) (by decide) ?_
    exact g_zret X hrt rfl dX6_isDigit_17 (by decide) (by decide) ⟨C, D, F, I, K, Or.inl rfl⟩
  · skip
    have q1t : ¬ p0.toInt < (48 : Int32).toInt := fun z => q1 (Int32.lt_iff_toInt_lt.mpr z)
    have q1k : (48 : Int32).toInt = 48 := (by decide)
    have q1b := Int32.toInt_lt p0
    obtain ⟨n2, hn2, rfl⟩ := nI_of (x := p0) (fun z => by have z2 := Int32.lt_iff_toInt_lt.mp z; have z3 : (0 : Int32).toInt = 0 := (by decide); omega)
    rw [nI_toInt (by omega)] at q1t
    have tn2 := nI_toInt (n := n2) (by omega)
    refine g_iload_n X dX6_isDigit_6 rfl (j := 0) rfl ?_
    refine g_bipush X dX6_isDigit_7 (v := 57) (by decide) ?_
    refine g_icmp_gt X dX6_isDigit_9 (tgt := 16) (by decide) (fun q3 => ?_) (fun q3 => ?_)
    · skip
      have q3 : 57 < n2 := (nI_ltI (a := 57) (b := n2) (by omega) (by omega)).mp q3
      refine g_iconst X dX6_isDigit_16 (v := 0) (by decide) ?_
      exact g_zret X hrt rfl dX6_isDigit_17 (by decide) (by decide) ⟨C, D, F, I, K, Or.inl rfl⟩
    · skip
      have q3 : ¬ 57 < n2 := fun z => q3 ((nI_ltI (a := 57) (b := n2) (by omega) (by omega)).mpr z)
      refine g_iconst X dX6_isDigit_12 (v := 1) (by decide) ?_
      refine g_goto X dX6_isDigit_13 (tgt := 17) (by decide) ?_
      exact g_zret X hrt rfl dX6_isDigit_17 (by decide) (by decide) ⟨C, D, F, I, K, Or.inr rfl⟩
set_option maxHeartbeats 4000000 in
set_option maxRecDepth 100000 in
theorem s_X6_append (l : Launch) (G : va_G) {cy : Nat → ClassId} {L : List Nat} {M : Nat → va_E} {a : Nat → Nat} {act : Nat → Bool} {C0 : Nat → Nat → Int32} {D0 : Nat → Nat → Int64} {R : Nat → Nat → Option Nat} (F : WI L M a act (ent cy a C0 D0 R)) (I : Inv C0) (p0 : Int32)  : MV l G cy yX6_append cX6_append 3 none 0 0 0 [.ref (a 1), .int p0] L M (fun L2 M2 => ∃ C2 D2, WI L2 M2 a act (ent cy a C2 D2 R) ∧ Inv C2 ∧ Kp [1, 2] C0 D0 C2 D2 ∧ True) := by
  refine MV.of (own := RX6) rfl (by decide) (Nat.le_of_ble_eq_true rfl) ?_
  intro p e s m below meth c A X hrt hnm
  obtain ⟨C, D, hC0, hD0, F, I, K⟩ : ∃ C D, C = C0 ∧ D = D0 ∧ WI L M a act (ent cy a C D R) ∧ Inv C ∧ Kp [1, 2] C0 D0 C D := ⟨C0, D0, rfl, rfl, F, I, Kp.rf⟩
  refine g_bipush X dX6_append_0 (v := 24) (by decide) ?_
  refine g_istore_n X dX6_append_2 rfl (by decide) (lv2 := [(2, .int 24), (0, .ref (a 1)), (1, .int p0)]) rfl ?_
  obtain ⟨n1, hn1, en1⟩ := rg_nat (I 1 1 (by decide)) (by decide)
  refine g_lv [0, 1, 2] (lv2 := [(2, .int 24), (0, .ref (a 1)), (1, .int p0)]) rfl ?_
  refine i_loop (mods := [1, 2]) (fun x : Nat × Int32 => 800 - x.1) (fun x => [(2, .int (x.2)), (0, .ref (a 1)), (1, .int p0)]) (fun x C => C 1 1 = nI (x.1) ∧ 0 ≤ x.1 ∧ x.1 ≤ 800) (fun x L M C D F I K hP ih3 => ?_) ((n1, 24) : Nat × Int32) F I K ⟨en1, by show _ ≤ _; omega, by show _ ≤ _; omega⟩
  rcases x with ⟨g3_1, v3_2⟩
  obtain ⟨eg3_1, hg3_1a, hg3_1b⟩ := hP
  have heg3_1 : C 1 1 = nI g3_1 := eg3_1
  refine g_lv [0, 1, 2] (lv2 := [(2, .int v3_2), (0, .ref (a 1)), (1, .int p0)]) rfl ?_
  refine g_iload_n X dX6_append_3 rfl (j := 0) rfl ?_
  refine g_if_lt X dX6_append_4 (tgt := 46) (by decide) (fun q2 => ?_) (fun q2 => ?_)
  · skip
    have q2t : v3_2.toInt < (0 : Int32).toInt := Int32.lt_iff_toInt_lt.mp q2
    have q2k : (0 : Int32).toInt = 0 := (by decide)
    have q2b := Int32.toInt_lt v3_2
    exact g_vret X hrt dX6_append_46 (by decide) (by decide) ⟨C, D, F, I, K, trivial⟩
  · skip
    have q2t : ¬ v3_2.toInt < (0 : Int32).toInt := fun z => q2 (Int32.lt_iff_toInt_lt.mpr z)
    have q2k : (0 : Int32).toInt = 0 := (by decide)
    have q2b := Int32.toInt_lt v3_2
    obtain ⟨n3, hn3, rfl⟩ := nI_of (x := v3_2) (fun z => by have z2 := Int32.lt_iff_toInt_lt.mp z; have z3 : (0 : Int32).toInt = 0 := (by decide); omega)
    rw [nI_toInt (by omega)] at q2t
    have tn3 := nI_toInt (n := n3) (by omega)
    refine g_aload_n X dX6_append_7 rfl (j := 1) rfl ?_
    refine i_get X F 1 rfl rfl fk_X6_15 dX6_append_8 (v := .int (nI g3_1)) (congrArg (fun z => some (Value.int z)) heg3_1) ?_
    refine g_sipush X dX6_append_11 (v := 800) (by decide) ?_
    refine g_icmp_ge X dX6_append_14 (tgt := 46) (by decide) (fun q4 => ?_) (fun q4 => ?_)
    · skip
      have q4 : 800 ≤ g3_1 := (nI_leI (a := 800) (b := g3_1) (by omega) (by omega)).mp q4
      exact g_vret X hrt dX6_append_46 (by decide) (by decide) ⟨C, D, F, I, K, trivial⟩
    · skip
      have q4 : ¬ 800 ≤ g3_1 := fun z => q4 ((nI_leI (a := 800) (b := g3_1) (by omega) (by omega)).mpr z)
      refine g_aload_n X dX6_append_17 rfl (j := 1) rfl ?_
      refine i_get X F 1 rfl rfl fk_X6_9 dX6_append_18 rfl ?_
      refine g_aload_n X dX6_append_21 rfl (j := 1) rfl ?_
      refine i_get X F 1 rfl rfl fk_X6_15 dX6_append_22 (v := .int (nI g3_1)) (congrArg (fun z => some (Value.int z)) heg3_1) ?_
      refine g_iload_n X dX6_append_25 rfl (j := 2) rfl ?_
      refine g_iload_n X dX6_append_26 rfl (j := 0) rfl ?_
      refine g_ishr X dX6_append_27 ?_
      refine Go.gen (fun o5 => ?_)
      refine g_i2b X dX6_append_28 rfl ?_
      refine Go.gen (fun o6 => ?_)
      refine i_bast X F I 2 rfl (fun _ => rfl) dX6_append_29 (vp_in_nI (by omega) (by decide)) trivial (fun M C F I K1 hC => ?_)
      have K := K.step K1 (by decide)
      have heg3_1 : C 1 1 = nI g3_1 := (congrFun (K1 1 (by decide)).1 1).trans heg3_1
      refine g_aload_n X dX6_append_30 rfl (j := 1) rfl ?_
      refine g_dup X dX6_append_31 rfl ?_
      refine i_get X F 1 rfl rfl fk_X6_15 dX6_append_32 (v := .int (nI g3_1)) (congrArg (fun z => some (Value.int z)) heg3_1) ?_
      refine g_iconst X dX6_append_35 (v := 1) (by decide) ?_
      refine g_iadd X dX6_append_36 ?_
      refine Go.top (v := .int (nI (g3_1 + 1))) (congrArg Value.int (nI_add g3_1 1)) ?_
      refine i_put X F I 1 rfl rfl rfl fk_X6_15 dX6_append_37 rfl rfl (Nat.le_of_ble_eq_true rfl) (fun _ => (rg_of (n := (g3_1 + 1)) (by omega) (by omega) (by omega))) (fun M C F I K1 hC => ?_)
      have K := K.step K1 (by decide)
      have f7 : C 1 1 = nI (g3_1 + 1) := by rw [hC]; exact pk_us
      refine g_iinc X dX6_append_40 (j := 0) rfl (v := ((nI n3) + (-8))) rfl (by decide) (lv2 := [(2, .int (((nI n3) + (-8)))), (0, .ref (a 1)), (1, .int p0)]) rfl ?_
      refine g_goto X dX6_append_43 (tgt := 3) (by decide) ?_
      refine g_lv [0, 1, 2] (lv2 := [(2, .int (((nI n3) + (-8)))), (0, .ref (a 1)), (1, .int p0)]) rfl ?_
      exact ih3 ((g3_1 + 1), ((nI n3) + (-8))) L M C D F I K ⟨f7, by omega, by omega⟩ (by show _ < _; omega)
set_option maxHeartbeats 4000000 in
set_option maxRecDepth 100000 in
theorem s_X6_fail (l : Launch) (G : va_G) {cy : Nat → ClassId} {L : List Nat} {M : Nat → va_E} {a : Nat → Nat} {act : Nat → Bool} {C0 : Nat → Nat → Int32} {D0 : Nat → Nat → Int64} {R : Nat → Nat → Option Nat} (F : WI L M a act (ent cy a C0 D0 R)) (I : Inv C0) (p0 : Int32) (hw : ¬ p0 = 0) : MV l G cy yX6_fail cX6_fail 2 none 0 0 0 [.ref (a 1), .int p0] L M (fun L2 M2 => ∃ C2 D2, WI L2 M2 a act (ent cy a C2 D2 R) ∧ Inv C2 ∧ Kp [1] C0 D0 C2 D2 ∧ ¬ C2 1 2 = 0) := by
  refine MV.of (own := RX6) rfl (by decide) (Nat.le_of_ble_eq_true rfl) ?_
  intro p e s m below meth c A X hrt hnm
  obtain ⟨C, D, hC0, hD0, F, I, K⟩ : ∃ C D, C = C0 ∧ D = D0 ∧ WI L M a act (ent cy a C D R) ∧ Inv C ∧ Kp [1] C0 D0 C D := ⟨C0, D0, rfl, rfl, F, I, Kp.rf⟩
  refine g_aload_n X dX6_fail_0 rfl (j := 0) rfl ?_
  obtain ⟨o1, eo1⟩ : ∃ z, C 1 2 = z := ⟨_, rfl⟩
  refine i_get X F 1 rfl rfl fk_X6_19 dX6_fail_1 (v := .int o1) (congrArg (fun z => some (Value.int z)) eo1) ?_
  refine g_if_ne X dX6_fail_4 (tgt := 20) (by decide) (fun q2 => ?_) (fun q2 => ?_)
  · skip
    exact g_vret X hrt dX6_fail_20 (by decide) (by decide) ⟨C, D, F, I, K, (fun z => q2 (eo1.symm.trans z))⟩
  · skip
    subst q2
    refine g_aload_n X dX6_fail_7 rfl (j := 0) rfl ?_
    refine g_iload_n X dX6_fail_8 rfl (j := 1) rfl ?_
    refine i_put X F I 1 rfl rfl rfl fk_X6_19 dX6_fail_9 rfl rfl (Nat.le_of_ble_eq_true rfl) (fun h => absurd h (by decide)) (fun M C F I K1 hC => ?_)
    have K := K.step K1 (by decide)
    have f3 : C 1 2 = p0 := by rw [hC]; exact pk_us
    refine g_aload_n X dX6_fail_12 rfl (j := 0) rfl ?_
    refine g_aload_n X dX6_fail_13 rfl (j := 0) rfl ?_
    obtain ⟨n4, hn4, en4⟩ := rg_nat (I 1 5 (by decide)) (by decide)
    refine i_get X F 1 rfl rfl fk_X6_28 dX6_fail_14 (v := .int (nI n4)) (congrArg (fun z => some (Value.int z)) en4) ?_
    refine i_put X F I 1 rfl rfl rfl fk_X6_22 dX6_fail_17 rfl rfl (Nat.le_of_ble_eq_true rfl) (fun h => absurd h (by decide)) (fun M C F I K1 hC => ?_)
    have K := K.step K1 (by decide)
    have f3 : C 1 2 = p0 := by rw [hC, pk_un (by decide)]; exact f3
    exact g_vret X hrt dX6_fail_20 (by decide) (by decide) ⟨C, D, F, I, K, (fun z => hw (f3.symm.trans z))⟩
set_option maxHeartbeats 4000000 in
set_option maxRecDepth 100000 in
theorem s_X6_take (l : Launch) (G : va_G) {cy : Nat → ClassId} {L : List Nat} {M : Nat → va_E} {a : Nat → Nat} {act : Nat → Bool} {C0 : Nat → Nat → Int32} {D0 : Nat → Nat → Int64} {R : Nat → Nat → Option Nat} (F : WI L M a act (ent cy a C0 D0 R)) (I : Inv C0)   : MV l G cy yX6_take cX6_take 1 none 1 0 0 [.ref (a 1)] L M (fun L2 M2 => ∃ C2 D2, WI L2 M2 a act (ent cy a C2 D2 R) ∧ Inv C2 ∧ Kp [1] C0 D0 C2 D2 ∧ C2 1 2 = C0 1 2) := by
  refine MV.of (own := RX6) rfl (by decide) (Nat.le_of_ble_eq_true rfl) ?_
  intro p e s m below meth c A X hrt hnm
  obtain ⟨C, D, hC0, hD0, F, I, K⟩ : ∃ C D, C = C0 ∧ D = D0 ∧ WI L M a act (ent cy a C D R) ∧ Inv C ∧ Kp [1] C0 D0 C D := ⟨C0, D0, rfl, rfl, F, I, Kp.rf⟩
  have kq1_2 : C 1 2 = C0 1 2 := by rw [hC0]
  refine g_aload_n X dX6_take_0 rfl (j := 0) rfl ?_
  refine i_get X F 1 rfl rfl fk_X6_19 dX6_take_1 rfl ?_
  refine Go.gen (fun o1 => ?_)
  refine g_if_eq X dX6_take_4 (tgt := 8) (by decide) (fun q2 => ?_) (fun q2 => ?_)
  · skip
    subst q2
    obtain ⟨n3, hn3, en3⟩ := rg_nat (I 1 6 (by decide)) (by decide)
    refine g_lv [0] (lv2 := [(0, .ref (a 1))]) rfl ?_
    refine i_loop (mods := [1]) (fun x : Nat => 800 - x) (fun x => [(0, .ref (a 1))]) (fun x C => C 1 6 = nI (x) ∧ 0 ≤ x ∧ x ≤ 800 ∧ C 1 2 = C0 1 2) (fun x L M C D F I K hP ih8 => ?_) ((n3) : Nat) F I K ⟨en3, by show _ ≤ _; omega, by show _ ≤ _; omega, kq1_2⟩
    obtain ⟨g8_1, rfl⟩ : ∃ z, z = x := ⟨_, rfl⟩
    obtain ⟨eg8_1, hg8_1a, hg8_1b, kq1_2⟩ := hP
    have heg8_1 : C 1 6 = nI g8_1 := eg8_1
    refine g_lv [0] (lv2 := [(0, .ref (a 1))]) rfl ?_
    refine g_aload_n X dX6_take_8 rfl (j := 0) rfl ?_
    refine i_get X F 1 rfl rfl fk_X6_31 dX6_take_9 (v := .int (nI g8_1)) (congrArg (fun z => some (Value.int z)) heg8_1) ?_
    refine g_aload_n X dX6_take_12 rfl (j := 0) rfl ?_
    obtain ⟨n4, hn4, en4⟩ := rg_nat (I 1 1 (by decide)) (by decide)
    refine i_get X F 1 rfl rfl fk_X6_15 dX6_take_13 (v := .int (nI n4)) (congrArg (fun z => some (Value.int z)) en4) ?_
    refine g_icmp_ge X dX6_take_16 (tgt := 47) (by decide) (fun q5 => ?_) (fun q5 => ?_)
    · skip
      have q5 : n4 ≤ g8_1 := (nI_leI (a := n4) (b := g8_1) (by omega) (by omega)).mp q5
      refine g_aload_n X dX6_take_47 rfl (j := 0) rfl ?_
      refine g_aload_n X dX6_take_48 rfl (j := 0) rfl ?_
      refine i_get X F 1 rfl rfl fk_X6_31 dX6_take_49 (v := .int (nI g8_1)) (congrArg (fun z => some (Value.int z)) heg8_1) ?_
      refine i_put X F I 1 rfl rfl rfl fk_X6_28 dX6_take_52 rfl rfl (Nat.le_of_ble_eq_true rfl) (fun _ => (rg_of (n := g8_1) (by omega) (by omega) (by omega))) (fun M C F I K1 hC => ?_)
      have K := K.step K1 (by decide)
      have kq1_2 : C 1 2 = C0 1 2 := by rw [hC, pk_un (by decide)]; exact kq1_2
      have heg8_1 : C 1 6 = nI g8_1 := by rw [hC, pk_un (by decide)]; exact heg8_1
      have en4 : C 1 1 = nI n4 := by rw [hC, pk_un (by decide)]; exact en4
      have f6 : C 1 5 = nI g8_1 := by rw [hC]; exact pk_us
      refine g_aload_n X dX6_take_55 rfl (j := 0) rfl ?_
      refine g_iconst X dX6_take_56 (v := 0) (by decide) ?_
      refine i_put X F I 1 rfl rfl rfl fk_X6_34 dX6_take_57 rfl rfl (Nat.le_of_ble_eq_true rfl) (fun h => absurd h (by decide)) (fun M C F I K1 hC => ?_)
      have K := K.step K1 (by decide)
      have kq1_2 : C 1 2 = C0 1 2 := by rw [hC, pk_un (by decide)]; exact kq1_2
      have heg8_1 : C 1 6 = nI g8_1 := by rw [hC, pk_un (by decide)]; exact heg8_1
      have en4 : C 1 1 = nI n4 := by rw [hC, pk_un (by decide)]; exact en4
      have f6 : C 1 5 = nI g8_1 := by rw [hC, pk_un (by decide)]; exact f6
      refine g_aload_n X dX6_take_60 rfl (j := 0) rfl ?_
      refine i_get X F 1 rfl rfl fk_X6_31 dX6_take_61 (v := .int (nI g8_1)) (congrArg (fun z => some (Value.int z)) heg8_1) ?_
      refine g_aload_n X dX6_take_64 rfl (j := 0) rfl ?_
      refine i_get X F 1 rfl rfl fk_X6_15 dX6_take_65 (v := .int (nI n4)) (congrArg (fun z => some (Value.int z)) en4) ?_
      refine g_icmp_lt X dX6_take_68 (tgt := 79) (by decide) (fun q7 => ?_) (fun q7 => ?_)
      · skip
        have q7 : g8_1 < n4 := (nI_ltI (a := g8_1) (b := n4) (by omega) (by omega)).mp q7
        refine g_aload_n X dX6_take_79 rfl (j := 0) rfl ?_
        refine i_get X F 1 rfl rfl fk_X6_9 dX6_take_80 rfl ?_
        refine g_aload_n X dX6_take_83 rfl (j := 0) rfl ?_
        refine i_get X F 1 rfl rfl fk_X6_31 dX6_take_84 (v := .int (nI g8_1)) (congrArg (fun z => some (Value.int z)) heg8_1) ?_
        refine i_bald X F 2 rfl rfl dX6_take_87 (vp_in_nI (by omega) (by decide)) rfl ?_
        refine Go.gen (fun o8 => ?_)
        refine g_callSI X (s_X6_isLetter l G F I o8 ) lk_X6_176 rfl rfl dX6_take_88 (Nat.le_of_ble_eq_true rfl) ⟨by decide, by decide⟩ ⟨by decide, by decide⟩ (fun r9 L M hp => ?_)
        obtain ⟨C, D, F, I, K1, hr⟩ := hp
        have K := K.step K1 (by decide)
        have kq1_2 : C 1 2 = C0 1 2 := (congrFun (K1 1 (by decide)).1 2).trans kq1_2
        have heg8_1 : C 1 6 = nI g8_1 := (congrFun (K1 1 (by decide)).1 6).trans heg8_1
        have en4 : C 1 1 = nI n4 := (congrFun (K1 1 (by decide)).1 1).trans en4
        have f6 : C 1 5 = nI g8_1 := (congrFun (K1 1 (by decide)).1 5).trans f6
        rcases hr with rfl | rfl
        · skip
          refine g_if_eq X dX6_take_91 (tgt := 138) (by decide) (fun _ => ?_) (fun q => absurd (by decide) q)
          refine g_aload_n X dX6_take_138 rfl (j := 0) rfl ?_
          refine i_get X F 1 rfl rfl fk_X6_9 dX6_take_139 rfl ?_
          refine g_aload_n X dX6_take_142 rfl (j := 0) rfl ?_
          refine i_get X F 1 rfl rfl fk_X6_31 dX6_take_143 (v := .int (nI g8_1)) (congrArg (fun z => some (Value.int z)) heg8_1) ?_
          refine i_bald X F 2 rfl rfl dX6_take_146 (vp_in_nI (by omega) (by decide)) rfl ?_
          refine Go.gen (fun o10 => ?_)
          refine g_callSI X (s_X6_isDigit l G F I o10 ) lk_X6_179 rfl rfl dX6_take_147 (Nat.le_of_ble_eq_true rfl) ⟨by decide, by decide⟩ ⟨by decide, by decide⟩ (fun r11 L M hp => ?_)
          obtain ⟨C, D, F, I, K1, hr⟩ := hp
          have K := K.step K1 (by decide)
          have kq1_2 : C 1 2 = C0 1 2 := (congrFun (K1 1 (by decide)).1 2).trans kq1_2
          have heg8_1 : C 1 6 = nI g8_1 := (congrFun (K1 1 (by decide)).1 6).trans heg8_1
          have en4 : C 1 1 = nI n4 := (congrFun (K1 1 (by decide)).1 1).trans en4
          have f6 : C 1 5 = nI g8_1 := (congrFun (K1 1 (by decide)).1 5).trans f6
          rcases hr with rfl | rfl
          · skip
            refine g_if_eq X dX6_take_150 (tgt := 226) (by decide) (fun _ => ?_) (fun q => absurd (by decide) q)
            refine g_aload_n X dX6_take_226 rfl (j := 0) rfl ?_
            refine g_aload_n X dX6_take_227 rfl (j := 0) rfl ?_
            refine i_get X F 1 rfl rfl fk_X6_9 dX6_take_228 rfl ?_
            refine g_aload_n X dX6_take_231 rfl (j := 0) rfl ?_
            refine i_get X F 1 rfl rfl fk_X6_31 dX6_take_232 (v := .int (nI g8_1)) (congrArg (fun z => some (Value.int z)) heg8_1) ?_
            refine i_bald X F 2 rfl rfl dX6_take_235 (vp_in_nI (by omega) (by decide)) rfl ?_
            refine Go.gen (fun o12 => ?_)
            refine g_bipush X dX6_take_236 (v := 59) (by decide) ?_
            refine g_icmp_ne X dX6_take_238 (tgt := 245) (by decide) (fun q13 => ?_) (fun q13 => ?_)
            · skip
              refine g_iconst X dX6_take_245 (v := 4) (by decide) ?_
              refine i_put X F I 1 rfl rfl rfl fk_X6_25 dX6_take_246 rfl rfl (Nat.le_of_ble_eq_true rfl) (fun h => absurd h (by decide)) (fun M C F I K1 hC => ?_)
              have K := K.step K1 (by decide)
              have kq1_2 : C 1 2 = C0 1 2 := by rw [hC, pk_un (by decide)]; exact kq1_2
              have heg8_1 : C 1 6 = nI g8_1 := by rw [hC, pk_un (by decide)]; exact heg8_1
              have en4 : C 1 1 = nI n4 := by rw [hC, pk_un (by decide)]; exact en4
              have f6 : C 1 5 = nI g8_1 := by rw [hC, pk_un (by decide)]; exact f6
              refine g_aload_n X dX6_take_249 rfl (j := 0) rfl ?_
              refine g_dup X dX6_take_250 rfl ?_
              refine i_get X F 1 rfl rfl fk_X6_31 dX6_take_251 (v := .int (nI g8_1)) (congrArg (fun z => some (Value.int z)) heg8_1) ?_
              refine g_iconst X dX6_take_254 (v := 1) (by decide) ?_
              refine g_iadd X dX6_take_255 ?_
              refine Go.top (v := .int (nI (g8_1 + 1))) (congrArg Value.int (nI_add g8_1 1)) ?_
              refine i_put X F I 1 rfl rfl rfl fk_X6_31 dX6_take_256 rfl rfl (Nat.le_of_ble_eq_true rfl) (fun _ => (rg_of (n := (g8_1 + 1)) (by omega) (by omega) (by omega))) (fun M C F I K1 hC => ?_)
              have K := K.step K1 (by decide)
              have kq1_2 : C 1 2 = C0 1 2 := by rw [hC, pk_un (by decide)]; exact kq1_2
              have en4 : C 1 1 = nI n4 := by rw [hC, pk_un (by decide)]; exact en4
              have f6 : C 1 5 = nI g8_1 := by rw [hC, pk_un (by decide)]; exact f6
              have f14 : C 1 6 = nI (g8_1 + 1) := by rw [hC]; exact pk_us
              exact g_vret X hrt dX6_take_259 (by decide) (by decide) ⟨C, D, F, I, K, kq1_2⟩
            · skip
              subst q13
              refine g_iconst X dX6_take_241 (v := 3) (by decide) ?_
              refine g_goto X dX6_take_242 (tgt := 246) (by decide) ?_
              refine i_put X F I 1 rfl rfl rfl fk_X6_25 dX6_take_246 rfl rfl (Nat.le_of_ble_eq_true rfl) (fun h => absurd h (by decide)) (fun M C F I K1 hC => ?_)
              have K := K.step K1 (by decide)
              have kq1_2 : C 1 2 = C0 1 2 := by rw [hC, pk_un (by decide)]; exact kq1_2
              have heg8_1 : C 1 6 = nI g8_1 := by rw [hC, pk_un (by decide)]; exact heg8_1
              have en4 : C 1 1 = nI n4 := by rw [hC, pk_un (by decide)]; exact en4
              have f6 : C 1 5 = nI g8_1 := by rw [hC, pk_un (by decide)]; exact f6
              refine g_aload_n X dX6_take_249 rfl (j := 0) rfl ?_
              refine g_dup X dX6_take_250 rfl ?_
              refine i_get X F 1 rfl rfl fk_X6_31 dX6_take_251 (v := .int (nI g8_1)) (congrArg (fun z => some (Value.int z)) heg8_1) ?_
              refine g_iconst X dX6_take_254 (v := 1) (by decide) ?_
              refine g_iadd X dX6_take_255 ?_
              refine Go.top (v := .int (nI (g8_1 + 1))) (congrArg Value.int (nI_add g8_1 1)) ?_
              refine i_put X F I 1 rfl rfl rfl fk_X6_31 dX6_take_256 rfl rfl (Nat.le_of_ble_eq_true rfl) (fun _ => (rg_of (n := (g8_1 + 1)) (by omega) (by omega) (by omega))) (fun M C F I K1 hC => ?_)
              have K := K.step K1 (by decide)
              have kq1_2 : C 1 2 = C0 1 2 := by rw [hC, pk_un (by decide)]; exact kq1_2
              have en4 : C 1 1 = nI n4 := by rw [hC, pk_un (by decide)]; exact en4
              have f6 : C 1 5 = nI g8_1 := by rw [hC, pk_un (by decide)]; exact f6
              have f15 : C 1 6 = nI (g8_1 + 1) := by rw [hC]; exact pk_us
              exact g_vret X hrt dX6_take_259 (by decide) (by decide) ⟨C, D, F, I, K, kq1_2⟩
          · skip
            refine g_if_eq X dX6_take_150 (tgt := 226) (by decide) (fun q => absurd q (by decide)) (fun _ => ?_)
            refine g_aload_n X dX6_take_153 rfl (j := 0) rfl ?_
            refine g_iconst X dX6_take_154 (v := 2) (by decide) ?_
            refine i_put X F I 1 rfl rfl rfl fk_X6_25 dX6_take_155 rfl rfl (Nat.le_of_ble_eq_true rfl) (fun h => absurd h (by decide)) (fun M C F I K1 hC => ?_)
            have K := K.step K1 (by decide)
            have kq1_2 : C 1 2 = C0 1 2 := by rw [hC, pk_un (by decide)]; exact kq1_2
            have heg8_1 : C 1 6 = nI g8_1 := by rw [hC, pk_un (by decide)]; exact heg8_1
            have en4 : C 1 1 = nI n4 := by rw [hC, pk_un (by decide)]; exact en4
            have f6 : C 1 5 = nI g8_1 := by rw [hC, pk_un (by decide)]; exact f6
            refine g_lv [0] (lv2 := [(0, .ref (a 1))]) rfl ?_
            refine i_loop (mods := [1]) (fun x : Nat => 800 - x) (fun x => [(0, .ref (a 1))]) (fun x C => C 1 6 = nI (x) ∧ 0 ≤ x ∧ x ≤ 800 ∧ C 1 2 = C0 1 2) (fun x L M C D F I K hP ih158 => ?_) ((g8_1) : Nat) F I K ⟨heg8_1, by show _ ≤ _; omega, by show _ ≤ _; omega, kq1_2⟩
            obtain ⟨g158_1, rfl⟩ : ∃ z, z = x := ⟨_, rfl⟩
            obtain ⟨eg158_1, hg158_1a, hg158_1b, kq1_2⟩ := hP
            have heg158_1 : C 1 6 = nI g158_1 := eg158_1
            refine g_lv [0] (lv2 := [(0, .ref (a 1))]) rfl ?_
            refine g_aload_n X dX6_take_158 rfl (j := 0) rfl ?_
            refine i_get X F 1 rfl rfl fk_X6_31 dX6_take_159 (v := .int (nI g158_1)) (congrArg (fun z => some (Value.int z)) heg158_1) ?_
            refine g_aload_n X dX6_take_162 rfl (j := 0) rfl ?_
            obtain ⟨n16, hn16, en16⟩ := rg_nat (I 1 1 (by decide)) (by decide)
            refine i_get X F 1 rfl rfl fk_X6_15 dX6_take_163 (v := .int (nI n16)) (congrArg (fun z => some (Value.int z)) en16) ?_
            refine g_icmp_ge X dX6_take_166 (tgt := 259) (by decide) (fun q17 => ?_) (fun q17 => ?_)
            · skip
              have q17 : n16 ≤ g158_1 := (nI_leI (a := n16) (b := g158_1) (by omega) (by omega)).mp q17
              exact g_vret X hrt dX6_take_259 (by decide) (by decide) ⟨C, D, F, I, K, kq1_2⟩
            · skip
              have q17 : ¬ n16 ≤ g158_1 := fun z => q17 ((nI_leI (a := n16) (b := g158_1) (by omega) (by omega)).mpr z)
              refine g_aload_n X dX6_take_169 rfl (j := 0) rfl ?_
              refine i_get X F 1 rfl rfl fk_X6_9 dX6_take_170 rfl ?_
              refine g_aload_n X dX6_take_173 rfl (j := 0) rfl ?_
              refine i_get X F 1 rfl rfl fk_X6_31 dX6_take_174 (v := .int (nI g158_1)) (congrArg (fun z => some (Value.int z)) heg158_1) ?_
              refine i_bald X F 2 rfl rfl dX6_take_177 (vp_in_nI (by omega) (by decide)) rfl ?_
              refine Go.gen (fun o18 => ?_)
              refine g_callSI X (s_X6_isDigit l G F I o18 ) lk_X6_179 rfl rfl dX6_take_178 (Nat.le_of_ble_eq_true rfl) ⟨by decide, by decide⟩ ⟨by decide, by decide⟩ (fun r19 L M hp => ?_)
              obtain ⟨C, D, F, I, K1, hr⟩ := hp
              have K := K.step K1 (by decide)
              have kq1_2 : C 1 2 = C0 1 2 := (congrFun (K1 1 (by decide)).1 2).trans kq1_2
              have heg158_1 : C 1 6 = nI g158_1 := (congrFun (K1 1 (by decide)).1 6).trans heg158_1
              have en16 : C 1 1 = nI n16 := (congrFun (K1 1 (by decide)).1 1).trans en16
              rcases hr with rfl | rfl
              · skip
                refine g_if_eq X dX6_take_181 (tgt := 259) (by decide) (fun _ => ?_) (fun q => absurd (by decide) q)
                exact g_vret X hrt dX6_take_259 (by decide) (by decide) ⟨C, D, F, I, K, kq1_2⟩
              · skip
                refine g_if_eq X dX6_take_181 (tgt := 259) (by decide) (fun q => absurd q (by decide)) (fun _ => ?_)
                refine g_aload_n X dX6_take_184 rfl (j := 0) rfl ?_
                refine g_ldc X (v := 1000000) wd390 dX6_take_185 ?_
                refine g_aload_n X dX6_take_187 rfl (j := 0) rfl ?_
                refine i_get X F 1 rfl rfl fk_X6_34 dX6_take_188 rfl ?_
                refine Go.gen (fun o20 => ?_)
                refine g_bipush X dX6_take_191 (v := 10) (by decide) ?_
                refine g_imul X dX6_take_193 ?_
                refine Go.gen (fun o21 => ?_)
                refine g_aload_n X dX6_take_194 rfl (j := 0) rfl ?_
                refine i_get X F 1 rfl rfl fk_X6_9 dX6_take_195 rfl ?_
                refine g_aload_n X dX6_take_198 rfl (j := 0) rfl ?_
                refine i_get X F 1 rfl rfl fk_X6_31 dX6_take_199 (v := .int (nI g158_1)) (congrArg (fun z => some (Value.int z)) heg158_1) ?_
                refine i_bald X F 2 rfl rfl dX6_take_202 (vp_in_nI (by omega) (by decide)) rfl ?_
                refine Go.gen (fun o22 => ?_)
                refine g_iadd X dX6_take_203 ?_
                refine Go.gen (fun o23 => ?_)
                refine g_bipush X dX6_take_204 (v := 48) (by decide) ?_
                refine g_isub X dX6_take_206 ?_
                refine Go.gen (fun o24 => ?_)
                refine g_mmin X wd391 wd392 wd80 wd393 (by decide) (Nat.le_of_ble_eq_true rfl) (by decide) (by decide) dX6_take_207 (fun o25 => ?_)
                refine i_put X F I 1 rfl rfl rfl fk_X6_34 dX6_take_210 rfl rfl (Nat.le_of_ble_eq_true rfl) (fun h => absurd h (by decide)) (fun M C F I K1 hC => ?_)
                have K := K.step K1 (by decide)
                have kq1_2 : C 1 2 = C0 1 2 := by rw [hC, pk_un (by decide)]; exact kq1_2
                have heg158_1 : C 1 6 = nI g158_1 := by rw [hC, pk_un (by decide)]; exact heg158_1
                have en16 : C 1 1 = nI n16 := by rw [hC, pk_un (by decide)]; exact en16
                refine g_aload_n X dX6_take_213 rfl (j := 0) rfl ?_
                refine g_dup X dX6_take_214 rfl ?_
                refine i_get X F 1 rfl rfl fk_X6_31 dX6_take_215 (v := .int (nI g158_1)) (congrArg (fun z => some (Value.int z)) heg158_1) ?_
                refine g_iconst X dX6_take_218 (v := 1) (by decide) ?_
                refine g_iadd X dX6_take_219 ?_
                refine Go.top (v := .int (nI (g158_1 + 1))) (congrArg Value.int (nI_add g158_1 1)) ?_
                refine i_put X F I 1 rfl rfl rfl fk_X6_31 dX6_take_220 rfl rfl (Nat.le_of_ble_eq_true rfl) (fun _ => (rg_of (n := (g158_1 + 1)) (by omega) (by omega) (by omega))) (fun M C F I K1 hC => ?_)
                have K := K.step K1 (by decide)
                have kq1_2 : C 1 2 = C0 1 2 := by rw [hC, pk_un (by decide)]; exact kq1_2
                have en16 : C 1 1 = nI n16 := by rw [hC, pk_un (by decide)]; exact en16
                have f26 : C 1 6 = nI (g158_1 + 1) := by rw [hC]; exact pk_us
                refine g_goto X dX6_take_223 (tgt := 158) (by decide) ?_
                refine g_lv [0] (lv2 := [(0, .ref (a 1))]) rfl ?_
                exact ih158 ((g158_1 + 1)) L M C D F I K ⟨f26, by omega, by omega, kq1_2⟩ (by show _ < _; omega)
        · skip
          refine g_if_eq X dX6_take_91 (tgt := 138) (by decide) (fun q => absurd q (by decide)) (fun _ => ?_)
          refine g_aload_n X dX6_take_94 rfl (j := 0) rfl ?_
          refine g_iconst X dX6_take_95 (v := 1) (by decide) ?_
          refine i_put X F I 1 rfl rfl rfl fk_X6_25 dX6_take_96 rfl rfl (Nat.le_of_ble_eq_true rfl) (fun h => absurd h (by decide)) (fun M C F I K1 hC => ?_)
          have K := K.step K1 (by decide)
          have kq1_2 : C 1 2 = C0 1 2 := by rw [hC, pk_un (by decide)]; exact kq1_2
          have heg8_1 : C 1 6 = nI g8_1 := by rw [hC, pk_un (by decide)]; exact heg8_1
          have en4 : C 1 1 = nI n4 := by rw [hC, pk_un (by decide)]; exact en4
          have f6 : C 1 5 = nI g8_1 := by rw [hC, pk_un (by decide)]; exact f6
          refine g_lv [0] (lv2 := [(0, .ref (a 1))]) rfl ?_
          refine i_loop (mods := [1]) (fun x : Nat => 800 - x) (fun x => [(0, .ref (a 1))]) (fun x C => C 1 6 = nI (x) ∧ 0 ≤ x ∧ x ≤ 800 ∧ C 1 2 = C0 1 2) (fun x L M C D F I K hP ih99 => ?_) ((g8_1) : Nat) F I K ⟨heg8_1, by show _ ≤ _; omega, by show _ ≤ _; omega, kq1_2⟩
          obtain ⟨g99_1, rfl⟩ : ∃ z, z = x := ⟨_, rfl⟩
          obtain ⟨eg99_1, hg99_1a, hg99_1b, kq1_2⟩ := hP
          have heg99_1 : C 1 6 = nI g99_1 := eg99_1
          refine g_lv [0] (lv2 := [(0, .ref (a 1))]) rfl ?_
          refine g_aload_n X dX6_take_99 rfl (j := 0) rfl ?_
          refine i_get X F 1 rfl rfl fk_X6_31 dX6_take_100 (v := .int (nI g99_1)) (congrArg (fun z => some (Value.int z)) heg99_1) ?_
          refine g_aload_n X dX6_take_103 rfl (j := 0) rfl ?_
          obtain ⟨n27, hn27, en27⟩ := rg_nat (I 1 1 (by decide)) (by decide)
          refine i_get X F 1 rfl rfl fk_X6_15 dX6_take_104 (v := .int (nI n27)) (congrArg (fun z => some (Value.int z)) en27) ?_
          refine g_icmp_ge X dX6_take_107 (tgt := 259) (by decide) (fun q28 => ?_) (fun q28 => ?_)
          · skip
            have q28 : n27 ≤ g99_1 := (nI_leI (a := n27) (b := g99_1) (by omega) (by omega)).mp q28
            exact g_vret X hrt dX6_take_259 (by decide) (by decide) ⟨C, D, F, I, K, kq1_2⟩
          · skip
            have q28 : ¬ n27 ≤ g99_1 := fun z => q28 ((nI_leI (a := n27) (b := g99_1) (by omega) (by omega)).mpr z)
            refine g_aload_n X dX6_take_110 rfl (j := 0) rfl ?_
            refine i_get X F 1 rfl rfl fk_X6_9 dX6_take_111 rfl ?_
            refine g_aload_n X dX6_take_114 rfl (j := 0) rfl ?_
            refine i_get X F 1 rfl rfl fk_X6_31 dX6_take_115 (v := .int (nI g99_1)) (congrArg (fun z => some (Value.int z)) heg99_1) ?_
            refine i_bald X F 2 rfl rfl dX6_take_118 (vp_in_nI (by omega) (by decide)) rfl ?_
            refine Go.gen (fun o29 => ?_)
            refine g_callSI X (s_X6_isLetter l G F I o29 ) lk_X6_176 rfl rfl dX6_take_119 (Nat.le_of_ble_eq_true rfl) ⟨by decide, by decide⟩ ⟨by decide, by decide⟩ (fun r30 L M hp => ?_)
            obtain ⟨C, D, F, I, K1, hr⟩ := hp
            have K := K.step K1 (by decide)
            have kq1_2 : C 1 2 = C0 1 2 := (congrFun (K1 1 (by decide)).1 2).trans kq1_2
            have heg99_1 : C 1 6 = nI g99_1 := (congrFun (K1 1 (by decide)).1 6).trans heg99_1
            have en27 : C 1 1 = nI n27 := (congrFun (K1 1 (by decide)).1 1).trans en27
            rcases hr with rfl | rfl
            · skip
              refine g_if_eq X dX6_take_122 (tgt := 259) (by decide) (fun _ => ?_) (fun q => absurd (by decide) q)
              exact g_vret X hrt dX6_take_259 (by decide) (by decide) ⟨C, D, F, I, K, kq1_2⟩
            · skip
              refine g_if_eq X dX6_take_122 (tgt := 259) (by decide) (fun q => absurd q (by decide)) (fun _ => ?_)
              refine g_aload_n X dX6_take_125 rfl (j := 0) rfl ?_
              refine g_dup X dX6_take_126 rfl ?_
              refine i_get X F 1 rfl rfl fk_X6_31 dX6_take_127 (v := .int (nI g99_1)) (congrArg (fun z => some (Value.int z)) heg99_1) ?_
              refine g_iconst X dX6_take_130 (v := 1) (by decide) ?_
              refine g_iadd X dX6_take_131 ?_
              refine Go.top (v := .int (nI (g99_1 + 1))) (congrArg Value.int (nI_add g99_1 1)) ?_
              refine i_put X F I 1 rfl rfl rfl fk_X6_31 dX6_take_132 rfl rfl (Nat.le_of_ble_eq_true rfl) (fun _ => (rg_of (n := (g99_1 + 1)) (by omega) (by omega) (by omega))) (fun M C F I K1 hC => ?_)
              have K := K.step K1 (by decide)
              have kq1_2 : C 1 2 = C0 1 2 := by rw [hC, pk_un (by decide)]; exact kq1_2
              have en27 : C 1 1 = nI n27 := by rw [hC, pk_un (by decide)]; exact en27
              have f31 : C 1 6 = nI (g99_1 + 1) := by rw [hC]; exact pk_us
              refine g_goto X dX6_take_135 (tgt := 99) (by decide) ?_
              refine g_lv [0] (lv2 := [(0, .ref (a 1))]) rfl ?_
              exact ih99 ((g99_1 + 1)) L M C D F I K ⟨f31, by omega, by omega, kq1_2⟩ (by show _ < _; omega)
      · skip
        have q7 : ¬ g8_1 < n4 := fun z => q7 ((nI_ltI (a := g8_1) (b := n4) (by omega) (by omega)).mpr z)
        refine g_aload_n X dX6_take_71 rfl (j := 0) rfl ?_
        refine g_iconst X dX6_take_72 (v := 0) (by decide) ?_
        refine i_put X F I 1 rfl rfl rfl fk_X6_25 dX6_take_73 rfl rfl (Nat.le_of_ble_eq_true rfl) (fun h => absurd h (by decide)) (fun M C F I K1 hC => ?_)
        have K := K.step K1 (by decide)
        have kq1_2 : C 1 2 = C0 1 2 := by rw [hC, pk_un (by decide)]; exact kq1_2
        have heg8_1 : C 1 6 = nI g8_1 := by rw [hC, pk_un (by decide)]; exact heg8_1
        have en4 : C 1 1 = nI n4 := by rw [hC, pk_un (by decide)]; exact en4
        have f6 : C 1 5 = nI g8_1 := by rw [hC, pk_un (by decide)]; exact f6
        refine g_goto X dX6_take_76 (tgt := 259) (by decide) ?_
        exact g_vret X hrt dX6_take_259 (by decide) (by decide) ⟨C, D, F, I, K, kq1_2⟩
    · skip
      have q5 : ¬ n4 ≤ g8_1 := fun z => q5 ((nI_leI (a := n4) (b := g8_1) (by omega) (by omega)).mpr z)
      refine g_aload_n X dX6_take_19 rfl (j := 0) rfl ?_
      refine i_get X F 1 rfl rfl fk_X6_9 dX6_take_20 rfl ?_
      refine g_aload_n X dX6_take_23 rfl (j := 0) rfl ?_
      refine i_get X F 1 rfl rfl fk_X6_31 dX6_take_24 (v := .int (nI g8_1)) (congrArg (fun z => some (Value.int z)) heg8_1) ?_
      refine i_bald X F 2 rfl rfl dX6_take_27 (vp_in_nI (by omega) (by decide)) rfl ?_
      refine Go.gen (fun o32 => ?_)
      refine g_callSI X (s_X6_isBlank l G F I o32 ) lk_X6_172 rfl rfl dX6_take_28 (Nat.le_of_ble_eq_true rfl) ⟨by decide, by decide⟩ ⟨by decide, by decide⟩ (fun r33 L M hp => ?_)
      obtain ⟨C, D, F, I, K1, hr⟩ := hp
      have K := K.step K1 (by decide)
      have kq1_2 : C 1 2 = C0 1 2 := (congrFun (K1 1 (by decide)).1 2).trans kq1_2
      have heg8_1 : C 1 6 = nI g8_1 := (congrFun (K1 1 (by decide)).1 6).trans heg8_1
      have en4 : C 1 1 = nI n4 := (congrFun (K1 1 (by decide)).1 1).trans en4
      rcases hr with rfl | rfl
      · skip
        refine g_if_eq X dX6_take_31 (tgt := 47) (by decide) (fun _ => ?_) (fun q => absurd (by decide) q)
        refine g_aload_n X dX6_take_47 rfl (j := 0) rfl ?_
        refine g_aload_n X dX6_take_48 rfl (j := 0) rfl ?_
        refine i_get X F 1 rfl rfl fk_X6_31 dX6_take_49 (v := .int (nI g8_1)) (congrArg (fun z => some (Value.int z)) heg8_1) ?_
        refine i_put X F I 1 rfl rfl rfl fk_X6_28 dX6_take_52 rfl rfl (Nat.le_of_ble_eq_true rfl) (fun _ => (rg_of (n := g8_1) (by omega) (by omega) (by omega))) (fun M C F I K1 hC => ?_)
        have K := K.step K1 (by decide)
        have kq1_2 : C 1 2 = C0 1 2 := by rw [hC, pk_un (by decide)]; exact kq1_2
        have heg8_1 : C 1 6 = nI g8_1 := by rw [hC, pk_un (by decide)]; exact heg8_1
        have en4 : C 1 1 = nI n4 := by rw [hC, pk_un (by decide)]; exact en4
        have f34 : C 1 5 = nI g8_1 := by rw [hC]; exact pk_us
        refine g_aload_n X dX6_take_55 rfl (j := 0) rfl ?_
        refine g_iconst X dX6_take_56 (v := 0) (by decide) ?_
        refine i_put X F I 1 rfl rfl rfl fk_X6_34 dX6_take_57 rfl rfl (Nat.le_of_ble_eq_true rfl) (fun h => absurd h (by decide)) (fun M C F I K1 hC => ?_)
        have K := K.step K1 (by decide)
        have kq1_2 : C 1 2 = C0 1 2 := by rw [hC, pk_un (by decide)]; exact kq1_2
        have heg8_1 : C 1 6 = nI g8_1 := by rw [hC, pk_un (by decide)]; exact heg8_1
        have en4 : C 1 1 = nI n4 := by rw [hC, pk_un (by decide)]; exact en4
        have f34 : C 1 5 = nI g8_1 := by rw [hC, pk_un (by decide)]; exact f34
        refine g_aload_n X dX6_take_60 rfl (j := 0) rfl ?_
        refine i_get X F 1 rfl rfl fk_X6_31 dX6_take_61 (v := .int (nI g8_1)) (congrArg (fun z => some (Value.int z)) heg8_1) ?_
        refine g_aload_n X dX6_take_64 rfl (j := 0) rfl ?_
        refine i_get X F 1 rfl rfl fk_X6_15 dX6_take_65 (v := .int (nI n4)) (congrArg (fun z => some (Value.int z)) en4) ?_
        refine g_icmp_lt X dX6_take_68 (tgt := 79) (by decide) (fun q35 => ?_) (fun q35 => ?_)
        · skip
          have q35 : g8_1 < n4 := (nI_ltI (a := g8_1) (b := n4) (by omega) (by omega)).mp q35
          refine g_aload_n X dX6_take_79 rfl (j := 0) rfl ?_
          refine i_get X F 1 rfl rfl fk_X6_9 dX6_take_80 rfl ?_
          refine g_aload_n X dX6_take_83 rfl (j := 0) rfl ?_
          refine i_get X F 1 rfl rfl fk_X6_31 dX6_take_84 (v := .int (nI g8_1)) (congrArg (fun z => some (Value.int z)) heg8_1) ?_
          refine i_bald X F 2 rfl rfl dX6_take_87 (vp_in_nI (by omega) (by decide)) rfl ?_
          refine Go.gen (fun o36 => ?_)
          refine g_callSI X (s_X6_isLetter l G F I o36 ) lk_X6_176 rfl rfl dX6_take_88 (Nat.le_of_ble_eq_true rfl) ⟨by decide, by decide⟩ ⟨by decide, by decide⟩ (fun r37 L M hp => ?_)
          obtain ⟨C, D, F, I, K1, hr⟩ := hp
          have K := K.step K1 (by decide)
          have kq1_2 : C 1 2 = C0 1 2 := (congrFun (K1 1 (by decide)).1 2).trans kq1_2
          have heg8_1 : C 1 6 = nI g8_1 := (congrFun (K1 1 (by decide)).1 6).trans heg8_1
          have en4 : C 1 1 = nI n4 := (congrFun (K1 1 (by decide)).1 1).trans en4
          have f34 : C 1 5 = nI g8_1 := (congrFun (K1 1 (by decide)).1 5).trans f34
          rcases hr with rfl | rfl
          · skip
            refine g_if_eq X dX6_take_91 (tgt := 138) (by decide) (fun _ => ?_) (fun q => absurd (by decide) q)
            refine g_aload_n X dX6_take_138 rfl (j := 0) rfl ?_
            refine i_get X F 1 rfl rfl fk_X6_9 dX6_take_139 rfl ?_
            refine g_aload_n X dX6_take_142 rfl (j := 0) rfl ?_
            refine i_get X F 1 rfl rfl fk_X6_31 dX6_take_143 (v := .int (nI g8_1)) (congrArg (fun z => some (Value.int z)) heg8_1) ?_
            refine i_bald X F 2 rfl rfl dX6_take_146 (vp_in_nI (by omega) (by decide)) rfl ?_
            refine Go.gen (fun o38 => ?_)
            refine g_callSI X (s_X6_isDigit l G F I o38 ) lk_X6_179 rfl rfl dX6_take_147 (Nat.le_of_ble_eq_true rfl) ⟨by decide, by decide⟩ ⟨by decide, by decide⟩ (fun r39 L M hp => ?_)
            obtain ⟨C, D, F, I, K1, hr⟩ := hp
            have K := K.step K1 (by decide)
            have kq1_2 : C 1 2 = C0 1 2 := (congrFun (K1 1 (by decide)).1 2).trans kq1_2
            have heg8_1 : C 1 6 = nI g8_1 := (congrFun (K1 1 (by decide)).1 6).trans heg8_1
            have en4 : C 1 1 = nI n4 := (congrFun (K1 1 (by decide)).1 1).trans en4
            have f34 : C 1 5 = nI g8_1 := (congrFun (K1 1 (by decide)).1 5).trans f34
            rcases hr with rfl | rfl
            · skip
              refine g_if_eq X dX6_take_150 (tgt := 226) (by decide) (fun _ => ?_) (fun q => absurd (by decide) q)
              refine g_aload_n X dX6_take_226 rfl (j := 0) rfl ?_
              refine g_aload_n X dX6_take_227 rfl (j := 0) rfl ?_
              refine i_get X F 1 rfl rfl fk_X6_9 dX6_take_228 rfl ?_
              refine g_aload_n X dX6_take_231 rfl (j := 0) rfl ?_
              refine i_get X F 1 rfl rfl fk_X6_31 dX6_take_232 (v := .int (nI g8_1)) (congrArg (fun z => some (Value.int z)) heg8_1) ?_
              refine i_bald X F 2 rfl rfl dX6_take_235 (vp_in_nI (by omega) (by decide)) rfl ?_
              refine Go.gen (fun o40 => ?_)
              refine g_bipush X dX6_take_236 (v := 59) (by decide) ?_
              refine g_icmp_ne X dX6_take_238 (tgt := 245) (by decide) (fun q41 => ?_) (fun q41 => ?_)
              · skip
                refine g_iconst X dX6_take_245 (v := 4) (by decide) ?_
                refine i_put X F I 1 rfl rfl rfl fk_X6_25 dX6_take_246 rfl rfl (Nat.le_of_ble_eq_true rfl) (fun h => absurd h (by decide)) (fun M C F I K1 hC => ?_)
                have K := K.step K1 (by decide)
                have kq1_2 : C 1 2 = C0 1 2 := by rw [hC, pk_un (by decide)]; exact kq1_2
                have heg8_1 : C 1 6 = nI g8_1 := by rw [hC, pk_un (by decide)]; exact heg8_1
                have en4 : C 1 1 = nI n4 := by rw [hC, pk_un (by decide)]; exact en4
                have f34 : C 1 5 = nI g8_1 := by rw [hC, pk_un (by decide)]; exact f34
                refine g_aload_n X dX6_take_249 rfl (j := 0) rfl ?_
                refine g_dup X dX6_take_250 rfl ?_
                refine i_get X F 1 rfl rfl fk_X6_31 dX6_take_251 (v := .int (nI g8_1)) (congrArg (fun z => some (Value.int z)) heg8_1) ?_
                refine g_iconst X dX6_take_254 (v := 1) (by decide) ?_
                refine g_iadd X dX6_take_255 ?_
                refine Go.top (v := .int (nI (g8_1 + 1))) (congrArg Value.int (nI_add g8_1 1)) ?_
                refine i_put X F I 1 rfl rfl rfl fk_X6_31 dX6_take_256 rfl rfl (Nat.le_of_ble_eq_true rfl) (fun _ => (rg_of (n := (g8_1 + 1)) (by omega) (by omega) (by omega))) (fun M C F I K1 hC => ?_)
                have K := K.step K1 (by decide)
                have kq1_2 : C 1 2 = C0 1 2 := by rw [hC, pk_un (by decide)]; exact kq1_2
                have en4 : C 1 1 = nI n4 := by rw [hC, pk_un (by decide)]; exact en4
                have f34 : C 1 5 = nI g8_1 := by rw [hC, pk_un (by decide)]; exact f34
                have f42 : C 1 6 = nI (g8_1 + 1) := by rw [hC]; exact pk_us
                exact g_vret X hrt dX6_take_259 (by decide) (by decide) ⟨C, D, F, I, K, kq1_2⟩
              · skip
                subst q41
                refine g_iconst X dX6_take_241 (v := 3) (by decide) ?_
                refine g_goto X dX6_take_242 (tgt := 246) (by decide) ?_
                refine i_put X F I 1 rfl rfl rfl fk_X6_25 dX6_take_246 rfl rfl (Nat.le_of_ble_eq_true rfl) (fun h => absurd h (by decide)) (fun M C F I K1 hC => ?_)
                have K := K.step K1 (by decide)
                have kq1_2 : C 1 2 = C0 1 2 := by rw [hC, pk_un (by decide)]; exact kq1_2
                have heg8_1 : C 1 6 = nI g8_1 := by rw [hC, pk_un (by decide)]; exact heg8_1
                have en4 : C 1 1 = nI n4 := by rw [hC, pk_un (by decide)]; exact en4
                have f34 : C 1 5 = nI g8_1 := by rw [hC, pk_un (by decide)]; exact f34
                refine g_aload_n X dX6_take_249 rfl (j := 0) rfl ?_
                refine g_dup X dX6_take_250 rfl ?_
                refine i_get X F 1 rfl rfl fk_X6_31 dX6_take_251 (v := .int (nI g8_1)) (congrArg (fun z => some (Value.int z)) heg8_1) ?_
                refine g_iconst X dX6_take_254 (v := 1) (by decide) ?_
                refine g_iadd X dX6_take_255 ?_
                refine Go.top (v := .int (nI (g8_1 + 1))) (congrArg Value.int (nI_add g8_1 1)) ?_
                refine i_put X F I 1 rfl rfl rfl fk_X6_31 dX6_take_256 rfl rfl (Nat.le_of_ble_eq_true rfl) (fun _ => (rg_of (n := (g8_1 + 1)) (by omega) (by omega) (by omega))) (fun M C F I K1 hC => ?_)
                have K := K.step K1 (by decide)
                have kq1_2 : C 1 2 = C0 1 2 := by rw [hC, pk_un (by decide)]; exact kq1_2
                have en4 : C 1 1 = nI n4 := by rw [hC, pk_un (by decide)]; exact en4
                have f34 : C 1 5 = nI g8_1 := by rw [hC, pk_un (by decide)]; exact f34
                have f43 : C 1 6 = nI (g8_1 + 1) := by rw [hC]; exact pk_us
                exact g_vret X hrt dX6_take_259 (by decide) (by decide) ⟨C, D, F, I, K, kq1_2⟩
            · skip
              refine g_if_eq X dX6_take_150 (tgt := 226) (by decide) (fun q => absurd q (by decide)) (fun _ => ?_)
              refine g_aload_n X dX6_take_153 rfl (j := 0) rfl ?_
              refine g_iconst X dX6_take_154 (v := 2) (by decide) ?_
              refine i_put X F I 1 rfl rfl rfl fk_X6_25 dX6_take_155 rfl rfl (Nat.le_of_ble_eq_true rfl) (fun h => absurd h (by decide)) (fun M C F I K1 hC => ?_)
              have K := K.step K1 (by decide)
              have kq1_2 : C 1 2 = C0 1 2 := by rw [hC, pk_un (by decide)]; exact kq1_2
              have heg8_1 : C 1 6 = nI g8_1 := by rw [hC, pk_un (by decide)]; exact heg8_1
              have en4 : C 1 1 = nI n4 := by rw [hC, pk_un (by decide)]; exact en4
              have f34 : C 1 5 = nI g8_1 := by rw [hC, pk_un (by decide)]; exact f34
              refine g_lv [0] (lv2 := [(0, .ref (a 1))]) rfl ?_
              refine i_loop (mods := [1]) (fun x : Nat => 800 - x) (fun x => [(0, .ref (a 1))]) (fun x C => C 1 6 = nI (x) ∧ 0 ≤ x ∧ x ≤ 800 ∧ C 1 2 = C0 1 2) (fun x L M C D F I K hP ih158 => ?_) ((g8_1) : Nat) F I K ⟨heg8_1, by show _ ≤ _; omega, by show _ ≤ _; omega, kq1_2⟩
              obtain ⟨g158_1, rfl⟩ : ∃ z, z = x := ⟨_, rfl⟩
              obtain ⟨eg158_1, hg158_1a, hg158_1b, kq1_2⟩ := hP
              have heg158_1 : C 1 6 = nI g158_1 := eg158_1
              refine g_lv [0] (lv2 := [(0, .ref (a 1))]) rfl ?_
              refine g_aload_n X dX6_take_158 rfl (j := 0) rfl ?_
              refine i_get X F 1 rfl rfl fk_X6_31 dX6_take_159 (v := .int (nI g158_1)) (congrArg (fun z => some (Value.int z)) heg158_1) ?_
              refine g_aload_n X dX6_take_162 rfl (j := 0) rfl ?_
              obtain ⟨n44, hn44, en44⟩ := rg_nat (I 1 1 (by decide)) (by decide)
              refine i_get X F 1 rfl rfl fk_X6_15 dX6_take_163 (v := .int (nI n44)) (congrArg (fun z => some (Value.int z)) en44) ?_
              refine g_icmp_ge X dX6_take_166 (tgt := 259) (by decide) (fun q45 => ?_) (fun q45 => ?_)
              · skip
                have q45 : n44 ≤ g158_1 := (nI_leI (a := n44) (b := g158_1) (by omega) (by omega)).mp q45
                exact g_vret X hrt dX6_take_259 (by decide) (by decide) ⟨C, D, F, I, K, kq1_2⟩
              · skip
                have q45 : ¬ n44 ≤ g158_1 := fun z => q45 ((nI_leI (a := n44) (b := g158_1) (by omega) (by omega)).mpr z)
                refine g_aload_n X dX6_take_169 rfl (j := 0) rfl ?_
                refine i_get X F 1 rfl rfl fk_X6_9 dX6_take_170 rfl ?_
                refine g_aload_n X dX6_take_173 rfl (j := 0) rfl ?_
                refine i_get X F 1 rfl rfl fk_X6_31 dX6_take_174 (v := .int (nI g158_1)) (congrArg (fun z => some (Value.int z)) heg158_1) ?_
                refine i_bald X F 2 rfl rfl dX6_take_177 (vp_in_nI (by omega) (by decide)) rfl ?_
                refine Go.gen (fun o46 => ?_)
                refine g_callSI X (s_X6_isDigit l G F I o46 ) lk_X6_179 rfl rfl dX6_take_178 (Nat.le_of_ble_eq_true rfl) ⟨by decide, by decide⟩ ⟨by decide, by decide⟩ (fun r47 L M hp => ?_)
                obtain ⟨C, D, F, I, K1, hr⟩ := hp
                have K := K.step K1 (by decide)
                have kq1_2 : C 1 2 = C0 1 2 := (congrFun (K1 1 (by decide)).1 2).trans kq1_2
                have heg158_1 : C 1 6 = nI g158_1 := (congrFun (K1 1 (by decide)).1 6).trans heg158_1
                have en44 : C 1 1 = nI n44 := (congrFun (K1 1 (by decide)).1 1).trans en44
                rcases hr with rfl | rfl
                · skip
                  refine g_if_eq X dX6_take_181 (tgt := 259) (by decide) (fun _ => ?_) (fun q => absurd (by decide) q)
                  exact g_vret X hrt dX6_take_259 (by decide) (by decide) ⟨C, D, F, I, K, kq1_2⟩
                · skip
                  refine g_if_eq X dX6_take_181 (tgt := 259) (by decide) (fun q => absurd q (by decide)) (fun _ => ?_)
                  refine g_aload_n X dX6_take_184 rfl (j := 0) rfl ?_
                  refine g_ldc X (v := 1000000) wd390 dX6_take_185 ?_
                  refine g_aload_n X dX6_take_187 rfl (j := 0) rfl ?_
                  refine i_get X F 1 rfl rfl fk_X6_34 dX6_take_188 rfl ?_
                  refine Go.gen (fun o48 => ?_)
                  refine g_bipush X dX6_take_191 (v := 10) (by decide) ?_
                  refine g_imul X dX6_take_193 ?_
                  refine Go.gen (fun o49 => ?_)
                  refine g_aload_n X dX6_take_194 rfl (j := 0) rfl ?_
                  refine i_get X F 1 rfl rfl fk_X6_9 dX6_take_195 rfl ?_
                  refine g_aload_n X dX6_take_198 rfl (j := 0) rfl ?_
                  refine i_get X F 1 rfl rfl fk_X6_31 dX6_take_199 (v := .int (nI g158_1)) (congrArg (fun z => some (Value.int z)) heg158_1) ?_
                  refine i_bald X F 2 rfl rfl dX6_take_202 (vp_in_nI (by omega) (by decide)) rfl ?_
                  refine Go.gen (fun o50 => ?_)
                  refine g_iadd X dX6_take_203 ?_
                  refine Go.gen (fun o51 => ?_)
                  refine g_bipush X dX6_take_204 (v := 48) (by decide) ?_
                  refine g_isub X dX6_take_206 ?_
                  refine Go.gen (fun o52 => ?_)
                  refine g_mmin X wd391 wd392 wd80 wd393 (by decide) (Nat.le_of_ble_eq_true rfl) (by decide) (by decide) dX6_take_207 (fun o53 => ?_)
                  refine i_put X F I 1 rfl rfl rfl fk_X6_34 dX6_take_210 rfl rfl (Nat.le_of_ble_eq_true rfl) (fun h => absurd h (by decide)) (fun M C F I K1 hC => ?_)
                  have K := K.step K1 (by decide)
                  have kq1_2 : C 1 2 = C0 1 2 := by rw [hC, pk_un (by decide)]; exact kq1_2
                  have heg158_1 : C 1 6 = nI g158_1 := by rw [hC, pk_un (by decide)]; exact heg158_1
                  have en44 : C 1 1 = nI n44 := by rw [hC, pk_un (by decide)]; exact en44
                  refine g_aload_n X dX6_take_213 rfl (j := 0) rfl ?_
                  refine g_dup X dX6_take_214 rfl ?_
                  refine i_get X F 1 rfl rfl fk_X6_31 dX6_take_215 (v := .int (nI g158_1)) (congrArg (fun z => some (Value.int z)) heg158_1) ?_
                  refine g_iconst X dX6_take_218 (v := 1) (by decide) ?_
                  refine g_iadd X dX6_take_219 ?_
                  refine Go.top (v := .int (nI (g158_1 + 1))) (congrArg Value.int (nI_add g158_1 1)) ?_
                  refine i_put X F I 1 rfl rfl rfl fk_X6_31 dX6_take_220 rfl rfl (Nat.le_of_ble_eq_true rfl) (fun _ => (rg_of (n := (g158_1 + 1)) (by omega) (by omega) (by omega))) (fun M C F I K1 hC => ?_)
                  have K := K.step K1 (by decide)
                  have kq1_2 : C 1 2 = C0 1 2 := by rw [hC, pk_un (by decide)]; exact kq1_2
                  have en44 : C 1 1 = nI n44 := by rw [hC, pk_un (by decide)]; exact en44
                  have f54 : C 1 6 = nI (g158_1 + 1) := by rw [hC]; exact pk_us
                  refine g_goto X dX6_take_223 (tgt := 158) (by decide) ?_
                  refine g_lv [0] (lv2 := [(0, .ref (a 1))]) rfl ?_
                  exact ih158 ((g158_1 + 1)) L M C D F I K ⟨f54, by omega, by omega, kq1_2⟩ (by show _ < _; omega)
          · skip
            refine g_if_eq X dX6_take_91 (tgt := 138) (by decide) (fun q => absurd q (by decide)) (fun _ => ?_)
            refine g_aload_n X dX6_take_94 rfl (j := 0) rfl ?_
            refine g_iconst X dX6_take_95 (v := 1) (by decide) ?_
            refine i_put X F I 1 rfl rfl rfl fk_X6_25 dX6_take_96 rfl rfl (Nat.le_of_ble_eq_true rfl) (fun h => absurd h (by decide)) (fun M C F I K1 hC => ?_)
            have K := K.step K1 (by decide)
            have kq1_2 : C 1 2 = C0 1 2 := by rw [hC, pk_un (by decide)]; exact kq1_2
            have heg8_1 : C 1 6 = nI g8_1 := by rw [hC, pk_un (by decide)]; exact heg8_1
            have en4 : C 1 1 = nI n4 := by rw [hC, pk_un (by decide)]; exact en4
            have f34 : C 1 5 = nI g8_1 := by rw [hC, pk_un (by decide)]; exact f34
            refine g_lv [0] (lv2 := [(0, .ref (a 1))]) rfl ?_
            refine i_loop (mods := [1]) (fun x : Nat => 800 - x) (fun x => [(0, .ref (a 1))]) (fun x C => C 1 6 = nI (x) ∧ 0 ≤ x ∧ x ≤ 800 ∧ C 1 2 = C0 1 2) (fun x L M C D F I K hP ih99 => ?_) ((g8_1) : Nat) F I K ⟨heg8_1, by show _ ≤ _; omega, by show _ ≤ _; omega, kq1_2⟩
            obtain ⟨g99_1, rfl⟩ : ∃ z, z = x := ⟨_, rfl⟩
            obtain ⟨eg99_1, hg99_1a, hg99_1b, kq1_2⟩ := hP
            have heg99_1 : C 1 6 = nI g99_1 := eg99_1
            refine g_lv [0] (lv2 := [(0, .ref (a 1))]) rfl ?_
            refine g_aload_n X dX6_take_99 rfl (j := 0) rfl ?_
            refine i_get X F 1 rfl rfl fk_X6_31 dX6_take_100 (v := .int (nI g99_1)) (congrArg (fun z => some (Value.int z)) heg99_1) ?_
            refine g_aload_n X dX6_take_103 rfl (j := 0) rfl ?_
            obtain ⟨n55, hn55, en55⟩ := rg_nat (I 1 1 (by decide)) (by decide)
            refine i_get X F 1 rfl rfl fk_X6_15 dX6_take_104 (v := .int (nI n55)) (congrArg (fun z => some (Value.int z)) en55) ?_
            refine g_icmp_ge X dX6_take_107 (tgt := 259) (by decide) (fun q56 => ?_) (fun q56 => ?_)
            · skip
              have q56 : n55 ≤ g99_1 := (nI_leI (a := n55) (b := g99_1) (by omega) (by omega)).mp q56
              exact g_vret X hrt dX6_take_259 (by decide) (by decide) ⟨C, D, F, I, K, kq1_2⟩
            · skip
              have q56 : ¬ n55 ≤ g99_1 := fun z => q56 ((nI_leI (a := n55) (b := g99_1) (by omega) (by omega)).mpr z)
              refine g_aload_n X dX6_take_110 rfl (j := 0) rfl ?_
              refine i_get X F 1 rfl rfl fk_X6_9 dX6_take_111 rfl ?_
              refine g_aload_n X dX6_take_114 rfl (j := 0) rfl ?_
              refine i_get X F 1 rfl rfl fk_X6_31 dX6_take_115 (v := .int (nI g99_1)) (congrArg (fun z => some (Value.int z)) heg99_1) ?_
              refine i_bald X F 2 rfl rfl dX6_take_118 (vp_in_nI (by omega) (by decide)) rfl ?_
              refine Go.gen (fun o57 => ?_)
              refine g_callSI X (s_X6_isLetter l G F I o57 ) lk_X6_176 rfl rfl dX6_take_119 (Nat.le_of_ble_eq_true rfl) ⟨by decide, by decide⟩ ⟨by decide, by decide⟩ (fun r58 L M hp => ?_)
              obtain ⟨C, D, F, I, K1, hr⟩ := hp
              have K := K.step K1 (by decide)
              have kq1_2 : C 1 2 = C0 1 2 := (congrFun (K1 1 (by decide)).1 2).trans kq1_2
              have heg99_1 : C 1 6 = nI g99_1 := (congrFun (K1 1 (by decide)).1 6).trans heg99_1
              have en55 : C 1 1 = nI n55 := (congrFun (K1 1 (by decide)).1 1).trans en55
              rcases hr with rfl | rfl
              · skip
                refine g_if_eq X dX6_take_122 (tgt := 259) (by decide) (fun _ => ?_) (fun q => absurd (by decide) q)
                exact g_vret X hrt dX6_take_259 (by decide) (by decide) ⟨C, D, F, I, K, kq1_2⟩
              · skip
                refine g_if_eq X dX6_take_122 (tgt := 259) (by decide) (fun q => absurd q (by decide)) (fun _ => ?_)
                refine g_aload_n X dX6_take_125 rfl (j := 0) rfl ?_
                refine g_dup X dX6_take_126 rfl ?_
                refine i_get X F 1 rfl rfl fk_X6_31 dX6_take_127 (v := .int (nI g99_1)) (congrArg (fun z => some (Value.int z)) heg99_1) ?_
                refine g_iconst X dX6_take_130 (v := 1) (by decide) ?_
                refine g_iadd X dX6_take_131 ?_
                refine Go.top (v := .int (nI (g99_1 + 1))) (congrArg Value.int (nI_add g99_1 1)) ?_
                refine i_put X F I 1 rfl rfl rfl fk_X6_31 dX6_take_132 rfl rfl (Nat.le_of_ble_eq_true rfl) (fun _ => (rg_of (n := (g99_1 + 1)) (by omega) (by omega) (by omega))) (fun M C F I K1 hC => ?_)
                have K := K.step K1 (by decide)
                have kq1_2 : C 1 2 = C0 1 2 := by rw [hC, pk_un (by decide)]; exact kq1_2
                have en55 : C 1 1 = nI n55 := by rw [hC, pk_un (by decide)]; exact en55
                have f59 : C 1 6 = nI (g99_1 + 1) := by rw [hC]; exact pk_us
                refine g_goto X dX6_take_135 (tgt := 99) (by decide) ?_
                refine g_lv [0] (lv2 := [(0, .ref (a 1))]) rfl ?_
                exact ih99 ((g99_1 + 1)) L M C D F I K ⟨f59, by omega, by omega, kq1_2⟩ (by show _ < _; omega)
        · skip
          have q35 : ¬ g8_1 < n4 := fun z => q35 ((nI_ltI (a := g8_1) (b := n4) (by omega) (by omega)).mpr z)
          refine g_aload_n X dX6_take_71 rfl (j := 0) rfl ?_
          refine g_iconst X dX6_take_72 (v := 0) (by decide) ?_
          refine i_put X F I 1 rfl rfl rfl fk_X6_25 dX6_take_73 rfl rfl (Nat.le_of_ble_eq_true rfl) (fun h => absurd h (by decide)) (fun M C F I K1 hC => ?_)
          have K := K.step K1 (by decide)
          have kq1_2 : C 1 2 = C0 1 2 := by rw [hC, pk_un (by decide)]; exact kq1_2
          have heg8_1 : C 1 6 = nI g8_1 := by rw [hC, pk_un (by decide)]; exact heg8_1
          have en4 : C 1 1 = nI n4 := by rw [hC, pk_un (by decide)]; exact en4
          have f34 : C 1 5 = nI g8_1 := by rw [hC, pk_un (by decide)]; exact f34
          refine g_goto X dX6_take_76 (tgt := 259) (by decide) ?_
          exact g_vret X hrt dX6_take_259 (by decide) (by decide) ⟨C, D, F, I, K, kq1_2⟩
      · skip
        refine g_if_eq X dX6_take_31 (tgt := 47) (by decide) (fun q => absurd q (by decide)) (fun _ => ?_)
        refine g_aload_n X dX6_take_34 rfl (j := 0) rfl ?_
        refine g_dup X dX6_take_35 rfl ?_
        refine i_get X F 1 rfl rfl fk_X6_31 dX6_take_36 (v := .int (nI g8_1)) (congrArg (fun z => some (Value.int z)) heg8_1) ?_
        refine g_iconst X dX6_take_39 (v := 1) (by decide) ?_
        refine g_iadd X dX6_take_40 ?_
        refine Go.top (v := .int (nI (g8_1 + 1))) (congrArg Value.int (nI_add g8_1 1)) ?_
        refine i_put X F I 1 rfl rfl rfl fk_X6_31 dX6_take_41 rfl rfl (Nat.le_of_ble_eq_true rfl) (fun _ => (rg_of (n := (g8_1 + 1)) (by omega) (by omega) (by omega))) (fun M C F I K1 hC => ?_)
        have K := K.step K1 (by decide)
        have kq1_2 : C 1 2 = C0 1 2 := by rw [hC, pk_un (by decide)]; exact kq1_2
        have en4 : C 1 1 = nI n4 := by rw [hC, pk_un (by decide)]; exact en4
        have f60 : C 1 6 = nI (g8_1 + 1) := by rw [hC]; exact pk_us
        refine g_goto X dX6_take_44 (tgt := 8) (by decide) ?_
        refine g_lv [0] (lv2 := [(0, .ref (a 1))]) rfl ?_
        exact ih8 ((g8_1 + 1)) L M C D F I K ⟨f60, by omega, by omega, kq1_2⟩ (by show _ < _; omega)
  · skip
    exact g_vret X hrt dX6_take_7 (by decide) (by decide) ⟨C, D, F, I, K, kq1_2⟩
set_option maxHeartbeats 4000000 in
set_option maxRecDepth 100000 in
theorem s_X6_numberHere (l : Launch) (G : va_G) {cy : Nat → ClassId} {L : List Nat} {M : Nat → va_E} {a : Nat → Nat} {act : Nat → Bool} {C0 : Nat → Nat → Int32} {D0 : Nat → Nat → Int64} {R : Nat → Nat → Option Nat} (F : WI L M a act (ent cy a C0 D0 R)) (I : Inv C0) (p0 : Int32) (p1 : Int32)  : MI l G cy yX6_numberHere cX6_numberHere 3 (some .int) 1 0 0 [.ref (a 1), .int p0, .int p1] L M (fun r L2 M2 => ∃ C2 D2, WI L2 M2 a act (ent cy a C2 D2 R) ∧ Inv C2 ∧ Kp [1] C0 D0 C2 D2 ∧ (C2 1 2 = 0 → C0 1 2 = 0) ∧ (r = 0 ∨ (p0.toInt ≤ r.toInt ∧ r.toInt ≤ p1.toInt))) := by
  refine MI.of (own := RX6) rfl (by decide) (Nat.le_of_ble_eq_true rfl) ?_
  intro p e s m below meth c A X hrt hnm
  obtain ⟨C, D, hC0, hD0, F, I, K⟩ : ∃ C D, C = C0 ∧ D = D0 ∧ WI L M a act (ent cy a C D R) ∧ Inv C ∧ Kp [1] C0 D0 C D := ⟨C0, D0, rfl, rfl, F, I, Kp.rf⟩
  have hm : C 1 2 = 0 → C0 1 2 = 0 := fun z => by rw [hC0] at z; exact z
  refine g_aload_n X dX6_numberHere_0 rfl (j := 0) rfl ?_
  refine i_get X F 1 rfl rfl fk_X6_25 dX6_numberHere_1 rfl ?_
  refine Go.gen (fun o1 => ?_)
  refine g_iconst X dX6_numberHere_4 (v := 2) (by decide) ?_
  refine g_icmp_eq X dX6_numberHere_5 (tgt := 16) (by decide) (fun q2 => ?_) (fun q2 => ?_)
  · skip
    subst q2
    refine g_aload_n X dX6_numberHere_16 rfl (j := 0) rfl ?_
    obtain ⟨o3, eo3⟩ : ∃ z, C 1 7 = z := ⟨_, rfl⟩
    refine i_get X F 1 rfl rfl fk_X6_34 dX6_numberHere_17 (v := .int o3) (congrArg (fun z => some (Value.int z)) eo3) ?_
    refine g_iload_n X dX6_numberHere_20 rfl (j := 1) rfl ?_
    refine g_icmp_lt X dX6_numberHere_21 (tgt := 32) (by decide) (fun q4 => ?_) (fun q4 => ?_)
    · skip
      refine g_aload_n X dX6_numberHere_32 rfl (j := 0) rfl ?_
      refine g_iconst X dX6_numberHere_33 (v := 2) (by decide) ?_
      refine g_callVV X (s_X6_fail l G F I (2 : Int32) (by decide)) lk_X6_64 (F.1 1 rfl).2 (F.1 1 rfl).1 rfl rfl dX6_numberHere_34 (Nat.le_of_ble_eq_true rfl) ⟨by decide, by decide⟩ ⟨by decide, by decide⟩ (fun L M hp => ?_)
      obtain ⟨C, D, F, I, K1, hr⟩ := hp
      have K := K.step K1 (by decide)
      have hm : C 1 2 = 0 → C0 1 2 = 0 := fun z => absurd z hr
      refine g_aload_n X dX6_numberHere_37 rfl (j := 0) rfl ?_
      obtain ⟨o5, eo5⟩ : ∃ z, C 1 2 = z := ⟨_, rfl⟩
      refine i_get X F 1 rfl rfl fk_X6_19 dX6_numberHere_38 (v := .int o5) (congrArg (fun z => some (Value.int z)) eo5) ?_
      refine g_if_ne X dX6_numberHere_41 (tgt := 51) (by decide) (fun q6 => ?_) (fun q6 => ?_)
      · skip
        refine g_iconst X dX6_numberHere_51 (v := 0) (by decide) ?_
        exact g_iret X hrt dX6_numberHere_52 (by decide) (by decide) ⟨C, D, F, I, K, ⟨hm, Or.inl rfl⟩⟩
      · skip
        subst q6
        have hmy := hm eo5
        refine g_aload_n X dX6_numberHere_44 rfl (j := 0) rfl ?_
        exact absurd eo5 hr
    · skip
      refine g_aload_n X dX6_numberHere_24 rfl (j := 0) rfl ?_
      refine i_get X F 1 rfl rfl fk_X6_34 dX6_numberHere_25 (v := .int o3) (congrArg (fun z => some (Value.int z)) eo3) ?_
      refine g_iload_n X dX6_numberHere_28 rfl (j := 2) rfl ?_
      refine g_icmp_le X dX6_numberHere_29 (tgt := 37) (by decide) (fun q7 => ?_) (fun q7 => ?_)
      · skip
        refine g_aload_n X dX6_numberHere_37 rfl (j := 0) rfl ?_
        obtain ⟨o8, eo8⟩ : ∃ z, C 1 2 = z := ⟨_, rfl⟩
        refine i_get X F 1 rfl rfl fk_X6_19 dX6_numberHere_38 (v := .int o8) (congrArg (fun z => some (Value.int z)) eo8) ?_
        refine g_if_ne X dX6_numberHere_41 (tgt := 51) (by decide) (fun q9 => ?_) (fun q9 => ?_)
        · skip
          refine g_iconst X dX6_numberHere_51 (v := 0) (by decide) ?_
          exact g_iret X hrt dX6_numberHere_52 (by decide) (by decide) ⟨C, D, F, I, K, ⟨hm, Or.inl rfl⟩⟩
        · skip
          subst q9
          have hmy := hm eo8
          refine g_aload_n X dX6_numberHere_44 rfl (j := 0) rfl ?_
          refine i_get X F 1 rfl rfl fk_X6_34 dX6_numberHere_45 (v := .int o3) (congrArg (fun z => some (Value.int z)) eo3) ?_
          refine g_goto X dX6_numberHere_48 (tgt := 52) (by decide) ?_
          exact g_iret X hrt dX6_numberHere_52 (by decide) (by decide) ⟨C, D, F, I, K, ⟨hm, Or.inr ⟨i32_ge (by assumption), i32_le (by assumption)⟩⟩⟩
      · skip
        refine g_aload_n X dX6_numberHere_32 rfl (j := 0) rfl ?_
        refine g_iconst X dX6_numberHere_33 (v := 2) (by decide) ?_
        refine g_callVV X (s_X6_fail l G F I (2 : Int32) (by decide)) lk_X6_64 (F.1 1 rfl).2 (F.1 1 rfl).1 rfl rfl dX6_numberHere_34 (Nat.le_of_ble_eq_true rfl) ⟨by decide, by decide⟩ ⟨by decide, by decide⟩ (fun L M hp => ?_)
        obtain ⟨C, D, F, I, K1, hr⟩ := hp
        have K := K.step K1 (by decide)
        have hm : C 1 2 = 0 → C0 1 2 = 0 := fun z => absurd z hr
        refine g_aload_n X dX6_numberHere_37 rfl (j := 0) rfl ?_
        obtain ⟨o10, eo10⟩ : ∃ z, C 1 2 = z := ⟨_, rfl⟩
        refine i_get X F 1 rfl rfl fk_X6_19 dX6_numberHere_38 (v := .int o10) (congrArg (fun z => some (Value.int z)) eo10) ?_
        refine g_if_ne X dX6_numberHere_41 (tgt := 51) (by decide) (fun q11 => ?_) (fun q11 => ?_)
        · skip
          refine g_iconst X dX6_numberHere_51 (v := 0) (by decide) ?_
          exact g_iret X hrt dX6_numberHere_52 (by decide) (by decide) ⟨C, D, F, I, K, ⟨hm, Or.inl rfl⟩⟩
        · skip
          subst q11
          have hmy := hm eo10
          refine g_aload_n X dX6_numberHere_44 rfl (j := 0) rfl ?_
          exact absurd eo10 hr
  · skip
    refine g_aload_n X dX6_numberHere_8 rfl (j := 0) rfl ?_
    refine g_iconst X dX6_numberHere_9 (v := 1) (by decide) ?_
    refine g_callVV X (s_X6_fail l G F I (1 : Int32) (by decide)) lk_X6_64 (F.1 1 rfl).2 (F.1 1 rfl).1 rfl rfl dX6_numberHere_10 (Nat.le_of_ble_eq_true rfl) ⟨by decide, by decide⟩ ⟨by decide, by decide⟩ (fun L M hp => ?_)
    obtain ⟨C, D, F, I, K1, hr⟩ := hp
    have K := K.step K1 (by decide)
    have hm : C 1 2 = 0 → C0 1 2 = 0 := fun z => absurd z hr
    refine g_goto X dX6_numberHere_13 (tgt := 37) (by decide) ?_
    refine g_aload_n X dX6_numberHere_37 rfl (j := 0) rfl ?_
    obtain ⟨o12, eo12⟩ : ∃ z, C 1 2 = z := ⟨_, rfl⟩
    refine i_get X F 1 rfl rfl fk_X6_19 dX6_numberHere_38 (v := .int o12) (congrArg (fun z => some (Value.int z)) eo12) ?_
    refine g_if_ne X dX6_numberHere_41 (tgt := 51) (by decide) (fun q13 => ?_) (fun q13 => ?_)
    · skip
      refine g_iconst X dX6_numberHere_51 (v := 0) (by decide) ?_
      exact g_iret X hrt dX6_numberHere_52 (by decide) (by decide) ⟨C, D, F, I, K, ⟨hm, Or.inl rfl⟩⟩
    · skip
      subst q13
      have hmy := hm eo12
      refine g_aload_n X dX6_numberHere_44 rfl (j := 0) rfl ?_
      exact absurd eo12 hr
set_option maxHeartbeats 4000000 in
set_option maxRecDepth 100000 in
theorem s_X6_takeNumber (l : Launch) (G : va_G) {cy : Nat → ClassId} {L : List Nat} {M : Nat → va_E} {a : Nat → Nat} {act : Nat → Bool} {C0 : Nat → Nat → Int32} {D0 : Nat → Nat → Int64} {R : Nat → Nat → Option Nat} (F : WI L M a act (ent cy a C0 D0 R)) (I : Inv C0) (p0 : Int32) (p1 : Int32)  : MI l G cy yX6_takeNumber cX6_takeNumber 4 (some .int) 2 0 0 [.ref (a 1), .int p0, .int p1] L M (fun r L2 M2 => ∃ C2 D2, WI L2 M2 a act (ent cy a C2 D2 R) ∧ Inv C2 ∧ Kp [1] C0 D0 C2 D2 ∧ (C2 1 2 = 0 → C0 1 2 = 0) ∧ (r = 0 ∨ (p0.toInt ≤ r.toInt ∧ r.toInt ≤ p1.toInt))) := by
  refine MI.of (own := RX6) rfl (by decide) (Nat.le_of_ble_eq_true rfl) ?_
  intro p e s m below meth c A X hrt hnm
  obtain ⟨C, D, hC0, hD0, F, I, K⟩ : ∃ C D, C = C0 ∧ D = D0 ∧ WI L M a act (ent cy a C D R) ∧ Inv C ∧ Kp [1] C0 D0 C D := ⟨C0, D0, rfl, rfl, F, I, Kp.rf⟩
  have hm : C 1 2 = 0 → C0 1 2 = 0 := fun z => by rw [hC0] at z; exact z
  refine g_aload_n X dX6_takeNumber_0 rfl (j := 0) rfl ?_
  refine g_iload_n X dX6_takeNumber_1 rfl (j := 1) rfl ?_
  refine g_iload_n X dX6_takeNumber_2 rfl (j := 2) rfl ?_
  refine g_callVI X (s_X6_numberHere l G F I p0 p1 ) lk_X6_132 (F.1 1 rfl).2 (F.1 1 rfl).1 rfl rfl dX6_takeNumber_3 (Nat.le_of_ble_eq_true rfl) ⟨by decide, by decide⟩ ⟨by decide, by decide⟩ (fun r1 L M hp => ?_)
  obtain ⟨C, D, F, I, K1, hr⟩ := hp
  have K := K.step K1 (by decide)
  obtain ⟨hr, hnum⟩ := hr
  have hm : C 1 2 = 0 → C0 1 2 = 0 := fun z => hm (hr z)
  refine g_istore_n X dX6_takeNumber_6 rfl (by decide) (lv2 := [(3, .int r1), (0, .ref (a 1)), (1, .int p0), (2, .int p1)]) rfl ?_
  refine g_aload_n X dX6_takeNumber_7 rfl (j := 1) rfl ?_
  refine g_callVV X (s_X6_take l G F I  ) lk_X6_42 (F.1 1 rfl).2 (F.1 1 rfl).1 rfl rfl dX6_takeNumber_8 (Nat.le_of_ble_eq_true rfl) ⟨by decide, by decide⟩ ⟨by decide, by decide⟩ (fun L M hp => ?_)
  obtain ⟨C, D, F, I, K1, hr⟩ := hp
  have K := K.step K1 (by decide)
  have hm : C 1 2 = 0 → C0 1 2 = 0 := fun z => hm (hr.symm.trans z)
  refine g_iload_n X dX6_takeNumber_11 rfl (j := 0) rfl ?_
  exact g_iret X hrt dX6_takeNumber_12 (by decide) (by decide) ⟨C, D, F, I, K, ⟨hm, hnum⟩⟩
set_option maxHeartbeats 4000000 in
set_option maxRecDepth 100000 in
theorem s_X6_takeSign (l : Launch) (G : va_G) {cy : Nat → ClassId} {L : List Nat} {M : Nat → va_E} {a : Nat → Nat} {act : Nat → Bool} {C0 : Nat → Nat → Int32} {D0 : Nat → Nat → Int64} {R : Nat → Nat → Option Nat} (F : WI L M a act (ent cy a C0 D0 R)) (I : Inv C0)   : MV l G cy yX6_takeSign cX6_takeSign 1 none 2 0 0 [.ref (a 1)] L M (fun L2 M2 => ∃ C2 D2, WI L2 M2 a act (ent cy a C2 D2 R) ∧ Inv C2 ∧ Kp [1] C0 D0 C2 D2 ∧ (C2 1 2 = 0 → C0 1 2 = 0)) := by
  refine MV.of (own := RX6) rfl (by decide) (Nat.le_of_ble_eq_true rfl) ?_
  intro p e s m below meth c A X hrt hnm
  obtain ⟨C, D, hC0, hD0, F, I, K⟩ : ∃ C D, C = C0 ∧ D = D0 ∧ WI L M a act (ent cy a C D R) ∧ Inv C ∧ Kp [1] C0 D0 C D := ⟨C0, D0, rfl, rfl, F, I, Kp.rf⟩
  have hm : C 1 2 = 0 → C0 1 2 = 0 := fun z => by rw [hC0] at z; exact z
  refine g_aload_n X dX6_takeSign_0 rfl (j := 0) rfl ?_
  refine i_get X F 1 rfl rfl fk_X6_25 dX6_takeSign_1 rfl ?_
  refine Go.gen (fun o1 => ?_)
  refine g_iconst X dX6_takeSign_4 (v := 3) (by decide) ?_
  refine g_icmp_eq X dX6_takeSign_5 (tgt := 13) (by decide) (fun q2 => ?_) (fun q2 => ?_)
  · skip
    subst q2
    refine g_aload_n X dX6_takeSign_13 rfl (j := 0) rfl ?_
    refine g_callVV X (s_X6_take l G F I  ) lk_X6_42 (F.1 1 rfl).2 (F.1 1 rfl).1 rfl rfl dX6_takeSign_14 (Nat.le_of_ble_eq_true rfl) ⟨by decide, by decide⟩ ⟨by decide, by decide⟩ (fun L M hp => ?_)
    obtain ⟨C, D, F, I, K1, hr⟩ := hp
    have K := K.step K1 (by decide)
    have hm : C 1 2 = 0 → C0 1 2 = 0 := fun z => hm (hr.symm.trans z)
    exact g_vret X hrt dX6_takeSign_17 (by decide) (by decide) ⟨C, D, F, I, K, hm⟩
  · skip
    refine g_aload_n X dX6_takeSign_8 rfl (j := 0) rfl ?_
    refine g_iconst X dX6_takeSign_9 (v := 1) (by decide) ?_
    refine g_callVV X (s_X6_fail l G F I (1 : Int32) (by decide)) lk_X6_64 (F.1 1 rfl).2 (F.1 1 rfl).1 rfl rfl dX6_takeSign_10 (Nat.le_of_ble_eq_true rfl) ⟨by decide, by decide⟩ ⟨by decide, by decide⟩ (fun L M hp => ?_)
    obtain ⟨C, D, F, I, K1, hr⟩ := hp
    have K := K.step K1 (by decide)
    have hm : C 1 2 = 0 → C0 1 2 = 0 := fun z => absurd z hr
    refine g_aload_n X dX6_takeSign_13 rfl (j := 0) rfl ?_
    refine g_callVV X (s_X6_take l G F I  ) lk_X6_42 (F.1 1 rfl).2 (F.1 1 rfl).1 rfl rfl dX6_takeSign_14 (Nat.le_of_ble_eq_true rfl) ⟨by decide, by decide⟩ ⟨by decide, by decide⟩ (fun L M hp => ?_)
    obtain ⟨C, D, F, I, K1, hr⟩ := hp
    have K := K.step K1 (by decide)
    have hm : C 1 2 = 0 → C0 1 2 = 0 := fun z => hm (hr.symm.trans z)
    exact g_vret X hrt dX6_takeSign_17 (by decide) (by decide) ⟨C, D, F, I, K, hm⟩
set_option maxHeartbeats 4000000 in
set_option maxRecDepth 100000 in
theorem s_X6_isWord (l : Launch) (G : va_G) {cy : Nat → ClassId} {L : List Nat} {M : Nat → va_E} {a : Nat → Nat} {act : Nat → Bool} {C0 : Nat → Nat → Int32} {D0 : Nat → Nat → Int64} {R : Nat → Nat → Option Nat} (F : WI L M a act (ent cy a C0 D0 R)) (I : Inv C0) (p0 : Nat) (hp0 : p0 < 26)  : MI l G cy yX6_isWord cX6_isWord 3 (some .boolean) 4 0 0 [.ref (a 1), .ref (G.2 1000 p0)] L M (fun r L2 M2 => ∃ C2 D2, WI L2 M2 a act (ent cy a C2 D2 R) ∧ Inv C2 ∧ Kp [] C0 D0 C2 D2 ∧ (r = 0 ∨ r = 1)) := by
  refine MI.of (own := RX6) rfl (by decide) (Nat.le_of_ble_eq_true rfl) ?_
  intro p e s m below meth c A X hrt hnm
  obtain ⟨C, D, hC0, hD0, F, I, K⟩ : ∃ C D, C = C0 ∧ D = D0 ∧ WI L M a act (ent cy a C D R) ∧ Inv C ∧ Kp [] C0 D0 C D := ⟨C0, D0, rfl, rfl, F, I, Kp.rf⟩
  obtain ⟨n1, hn1, en1⟩ := rg_nat (I 1 5 (by decide)) (by decide)
  rw [hC0] at en1
  obtain ⟨n2, hn2, en2⟩ := rg_nat (I 1 6 (by decide)) (by decide)
  rw [hC0] at en2
  refine g_aload_n X dX6_isWord_0 rfl (j := 0) rfl ?_
  refine i_get X F 1 rfl rfl fk_X6_25 dX6_isWord_1 rfl ?_
  refine Go.gen (fun o3 => ?_)
  refine g_iconst X dX6_isWord_4 (v := 1) (by decide) ?_
  refine g_icmp_ne X dX6_isWord_5 (tgt := 24) (by decide) (fun q4 => ?_) (fun q4 => ?_)
  · skip
    refine g_iconst X dX6_isWord_24 (v := 0) (by decide) ?_
    exact g_zret X hrt rfl dX6_isWord_25 (by decide) (by decide) ⟨C, D, F, I, K, Or.inl rfl⟩
  · skip
    subst q4
    refine g_aload_n X dX6_isWord_8 rfl (j := 0) rfl ?_
    refine i_get X F 1 rfl rfl fk_X6_31 dX6_isWord_9 (v := .int (nI n2)) (congrArg (fun z => some (Value.int z)) ((congrFun (K 1 (by decide)).1 6).trans en2)) ?_
    refine g_aload_n X dX6_isWord_12 rfl (j := 0) rfl ?_
    refine i_get X F 1 rfl rfl fk_X6_28 dX6_isWord_13 (v := .int (nI n1)) (congrArg (fun z => some (Value.int z)) ((congrFun (K 1 (by decide)).1 5).trans en1)) ?_
    refine g_isub X dX6_isWord_16 ?_
    refine g_aload_n X dX6_isWord_17 rfl (j := 1) rfl ?_
    refine g_callT X hp0 (s_J0_length_8abf5 l G F I p0 hp0 ) rfl wd409 wd410 wd411 wd357 wd412 pl_J0_length_8abf5 rfl rfl dX6_isWord_18 (Nat.le_of_ble_eq_true rfl) ⟨by decide, by decide⟩ ⟨by decide, by decide⟩ (fun r5 L M hp => ?_)
    obtain ⟨C, D, F, I, K1, hr⟩ := hp
    have K := K.step K1 (by decide)
    obtain ⟨n6, hn6, enn6, rfl⟩ := hr
    refine g_icmp_eq X dX6_isWord_21 (tgt := 26) (by decide) (fun q7 => ?_) (fun _ => ?_)
    · skip
      have hsub := nI_sub_eq (by omega) (by omega) (by omega) q7
      refine g_iconst X dX6_isWord_26 (v := 0) (by decide) ?_
      refine g_istore_n X dX6_isWord_27 rfl (by decide) (lv2 := [(2, .int 0), (0, .ref (a 1)), (1, .ref (G.2 1000 p0))]) rfl ?_
      refine g_lv [0, 1, 2] (lv2 := [(2, .int 0), (0, .ref (a 1)), (1, .ref (G.2 1000 p0))]) rfl ?_
      refine i_loop (mods := []) (fun x : Nat => 6 - x) (fun x => [(2, .int (nI (x))), (0, .ref (a 1)), (1, .ref (G.2 1000 p0))]) (fun x C => 0 ≤ x ∧ x ≤ 6) (fun x L M C D F I K hP ih28 => ?_) ((0) : Nat) F I K ⟨by show _ ≤ _; omega, by show _ ≤ _; omega⟩
      obtain ⟨i28_2, rfl⟩ : ∃ z, z = x := ⟨_, rfl⟩
      obtain ⟨hi28_2a, hi28_2b⟩ := hP
      refine g_lv [0, 1, 2] (lv2 := [(2, .int (nI i28_2)), (0, .ref (a 1)), (1, .ref (G.2 1000 p0))]) rfl ?_
      refine g_iload_n X dX6_isWord_28 rfl (j := 0) rfl ?_
      refine g_aload_n X dX6_isWord_29 rfl (j := 2) rfl ?_
      refine g_callT X hp0 (s_J0_length_8abf5 l G F I p0 hp0 ) rfl wd409 wd410 wd411 wd357 wd412 pl_J0_length_8abf5 rfl rfl dX6_isWord_30 (Nat.le_of_ble_eq_true rfl) ⟨by decide, by decide⟩ ⟨by decide, by decide⟩ (fun r8 L M hp => ?_)
      obtain ⟨C, D, F, I, K1, hr⟩ := hp
      have K := K.step K1 (by decide)
      obtain ⟨n9, hn9, enn9, rfl⟩ := hr
      refine g_icmp_ge X dX6_isWord_33 (tgt := 63) (by decide) (fun q10 => ?_) (fun q10 => ?_)
      · skip
        have q10 : n9 ≤ i28_2 := (nI_leI (a := n9) (b := i28_2) (by omega) (by omega)).mp q10
        refine g_iconst X dX6_isWord_63 (v := 1) (by decide) ?_
        exact g_zret X hrt rfl dX6_isWord_64 (by decide) (by decide) ⟨C, D, F, I, K, Or.inr rfl⟩
      · skip
        have q10 : ¬ n9 ≤ i28_2 := fun z => q10 ((nI_leI (a := n9) (b := i28_2) (by omega) (by omega)).mpr z)
        refine g_aload_n X dX6_isWord_36 rfl (j := 1) rfl ?_
        refine i_get X F 1 rfl rfl fk_X6_9 dX6_isWord_37 rfl ?_
        refine g_aload_n X dX6_isWord_40 rfl (j := 1) rfl ?_
        refine i_get X F 1 rfl rfl fk_X6_28 dX6_isWord_41 (v := .int (nI n1)) (congrArg (fun z => some (Value.int z)) ((congrFun (K 1 (by decide)).1 5).trans en1)) ?_
        refine g_iload_n X dX6_isWord_44 rfl (j := 0) rfl ?_
        refine g_iadd X dX6_isWord_45 ?_
        refine Go.top (v := .int (nI (n1 + i28_2))) (congrArg Value.int (nI_add n1 i28_2)) ?_
        refine i_bald X F 2 rfl rfl dX6_isWord_46 (vp_in_nI (by omega) (by decide)) rfl ?_
        refine Go.gen (fun o11 => ?_)
        refine g_aload_n X dX6_isWord_47 rfl (j := 2) rfl ?_
        refine g_iload_n X dX6_isWord_48 rfl (j := 0) rfl ?_
        refine g_callT X hp0 (s_J0_charAt_5068e l G F I p0 hp0 i28_2 (by omega) (by omega) (by omega)) rfl wd413 wd414 wd415 wd357 wd416 pl_J0_charAt_5068e rfl rfl dX6_isWord_49 (Nat.le_of_ble_eq_true rfl) ⟨by decide, by decide⟩ ⟨by decide, by decide⟩ (fun r12 L M hp => ?_)
        obtain ⟨C, D, F, I, K1, hr⟩ := hp
        have K := K.step K1 (by decide)
        have hnarr12 := hr
        refine g_icmp_eq X dX6_isWord_52 (tgt := 57) (by decide) (fun q13 => ?_) (fun q13 => ?_)
        · skip
          refine g_iinc X dX6_isWord_57 (j := 0) rfl (v := nI (i28_2 + 1)) (nI_1 i28_2) (by decide) (lv2 := [(2, .int (nI (i28_2 + 1))), (0, .ref (a 1)), (1, .ref (G.2 1000 p0))]) rfl ?_
          refine g_goto X dX6_isWord_60 (tgt := 28) (by decide) ?_
          refine g_lv [0, 1, 2] (lv2 := [(2, .int (nI (i28_2 + 1))), (0, .ref (a 1)), (1, .ref (G.2 1000 p0))]) rfl ?_
          exact ih28 ((i28_2 + 1)) L M C D F I K ⟨by omega, by omega⟩ (by show _ < _; omega)
        · skip
          refine g_iconst X dX6_isWord_55 (v := 0) (by decide) ?_
          exact g_zret X hrt rfl dX6_isWord_56 (by decide) (by decide) ⟨C, D, F, I, K, Or.inl rfl⟩
    · skip
      refine g_iconst X dX6_isWord_24 (v := 0) (by decide) ?_
      exact g_zret X hrt rfl dX6_isWord_25 (by decide) (by decide) ⟨C, D, F, I, K, Or.inl rfl⟩
set_option maxHeartbeats 4000000 in
set_option maxRecDepth 100000 in
theorem s_X6_takeWord (l : Launch) (G : va_G) {cy : Nat → ClassId} {L : List Nat} {M : Nat → va_E} {a : Nat → Nat} {act : Nat → Bool} {C0 : Nat → Nat → Int32} {D0 : Nat → Nat → Int64} {R : Nat → Nat → Option Nat} (F : WI L M a act (ent cy a C0 D0 R)) (I : Inv C0) (p0 : Nat) (hp0 : p0 < 26)  : MV l G cy yX6_takeWord cX6_takeWord 2 none 5 0 0 [.ref (a 1), .ref (G.2 1000 p0)] L M (fun L2 M2 => ∃ C2 D2, WI L2 M2 a act (ent cy a C2 D2 R) ∧ Inv C2 ∧ Kp [1] C0 D0 C2 D2 ∧ (C2 1 2 = 0 → C0 1 2 = 0)) := by
  refine MV.of (own := RX6) rfl (by decide) (Nat.le_of_ble_eq_true rfl) ?_
  intro p e s m below meth c A X hrt hnm
  obtain ⟨C, D, hC0, hD0, F, I, K⟩ : ∃ C D, C = C0 ∧ D = D0 ∧ WI L M a act (ent cy a C D R) ∧ Inv C ∧ Kp [1] C0 D0 C D := ⟨C0, D0, rfl, rfl, F, I, Kp.rf⟩
  have hm : C 1 2 = 0 → C0 1 2 = 0 := fun z => by rw [hC0] at z; exact z
  refine g_aload_n X dX6_takeWord_0 rfl (j := 0) rfl ?_
  refine g_aload_n X dX6_takeWord_1 rfl (j := 1) rfl ?_
  refine g_callVI X (s_X6_isWord l G F I p0 hp0 ) lk_X6_57 (F.1 1 rfl).2 (F.1 1 rfl).1 rfl rfl dX6_takeWord_2 (Nat.le_of_ble_eq_true rfl) ⟨by decide, by decide⟩ ⟨by decide, by decide⟩ (fun r1 L M hp => ?_)
  obtain ⟨C, D, F, I, K1, hr⟩ := hp
  have K := K.step K1 (by decide)
  have hm : C 1 2 = 0 → C0 1 2 = 0 := fun z => hm ((congrFun (K1 1 (by decide)).1 2).symm.trans z)
  rcases hr with rfl | rfl
  · skip
    refine g_if_ne X dX6_takeWord_5 (tgt := 13) (by decide) (fun q => absurd (by decide) q) (fun _ => ?_)
    refine g_aload_n X dX6_takeWord_8 rfl (j := 0) rfl ?_
    refine g_iconst X dX6_takeWord_9 (v := 1) (by decide) ?_
    refine g_callVV X (s_X6_fail l G F I (1 : Int32) (by decide)) lk_X6_64 (F.1 1 rfl).2 (F.1 1 rfl).1 rfl rfl dX6_takeWord_10 (Nat.le_of_ble_eq_true rfl) ⟨by decide, by decide⟩ ⟨by decide, by decide⟩ (fun L M hp => ?_)
    obtain ⟨C, D, F, I, K1, hr⟩ := hp
    have K := K.step K1 (by decide)
    have hm : C 1 2 = 0 → C0 1 2 = 0 := fun z => absurd z hr
    refine g_aload_n X dX6_takeWord_13 rfl (j := 0) rfl ?_
    refine g_callVV X (s_X6_take l G F I  ) lk_X6_42 (F.1 1 rfl).2 (F.1 1 rfl).1 rfl rfl dX6_takeWord_14 (Nat.le_of_ble_eq_true rfl) ⟨by decide, by decide⟩ ⟨by decide, by decide⟩ (fun L M hp => ?_)
    obtain ⟨C, D, F, I, K1, hr⟩ := hp
    have K := K.step K1 (by decide)
    have hm : C 1 2 = 0 → C0 1 2 = 0 := fun z => hm (hr.symm.trans z)
    exact g_vret X hrt dX6_takeWord_17 (by decide) (by decide) ⟨C, D, F, I, K, hm⟩
  · skip
    refine g_if_ne X dX6_takeWord_5 (tgt := 13) (by decide) (fun _ => ?_) (fun q => absurd q (by decide))
    refine g_aload_n X dX6_takeWord_13 rfl (j := 0) rfl ?_
    refine g_callVV X (s_X6_take l G F I  ) lk_X6_42 (F.1 1 rfl).2 (F.1 1 rfl).1 rfl rfl dX6_takeWord_14 (Nat.le_of_ble_eq_true rfl) ⟨by decide, by decide⟩ ⟨by decide, by decide⟩ (fun L M hp => ?_)
    obtain ⟨C, D, F, I, K1, hr⟩ := hp
    have K := K.step K1 (by decide)
    have hm : C 1 2 = 0 → C0 1 2 = 0 := fun z => hm (hr.symm.trans z)
    exact g_vret X hrt dX6_takeWord_17 (by decide) (by decide) ⟨C, D, F, I, K, hm⟩
set_option maxHeartbeats 4000000 in
set_option maxRecDepth 100000 in
theorem s_X6_takeWordOfFew_4 (l : Launch) (G : va_G) {cy : Nat → ClassId} {L : List Nat} {M : Nat → va_E} {a : Nat → Nat} {act : Nat → Bool} {C0 : Nat → Nat → Int32} {D0 : Nat → Nat → Int64} {R : Nat → Nat → Option Nat} (F : WI L M a act (ent cy a C0 D0 R)) (I : Inv C0) (p0 : Nat) (hp0a : 0 ≤ p0) (hp0b : p0 ≤ 8)  : MV l G cy yX6_takeWordOfFew cX6_takeWordOfFew 3 none 2 0 0 [.ref (a 1), .int (nI p0), .int 4] L M (fun L2 M2 => ∃ C2 D2, WI L2 M2 a act (ent cy a C2 D2 R) ∧ Inv C2 ∧ Kp [1] C0 D0 C2 D2 ∧ (C2 1 2 = 0 → C0 1 2 = 0 ∧ p0 < 4)) := by
  refine MV.of (own := RX6) rfl (by decide) (Nat.le_of_ble_eq_true rfl) ?_
  intro p e s m below meth c A X hrt hnm
  obtain ⟨C, D, hC0, hD0, F, I, K⟩ : ∃ C D, C = C0 ∧ D = D0 ∧ WI L M a act (ent cy a C D R) ∧ Inv C ∧ Kp [1] C0 D0 C D := ⟨C0, D0, rfl, rfl, F, I, Kp.rf⟩
  have hm : C 1 2 = 0 → C0 1 2 = 0 := fun z => by rw [hC0] at z; exact z
  refine g_iload_n X dX6_takeWordOfFew_0 rfl (j := 1) rfl ?_
  refine g_iload_n X dX6_takeWordOfFew_1 rfl (j := 2) rfl ?_
  refine g_icmp_lt X dX6_takeWordOfFew_2 (tgt := 10) (by decide) (fun q1 => ?_) (fun _ => ?_)
  · skip
    have q1 : p0 < 4 := (nI_ltI (a := p0) (b := 4) (by omega) (by omega)).mp q1
    have hf : C 1 2 = 0 → p0 < 4 := fun _ => q1
    refine g_aload_n X dX6_takeWordOfFew_10 rfl (j := 0) rfl ?_
    refine g_callVV X (s_X6_take l G F I  ) lk_X6_42 (F.1 1 rfl).2 (F.1 1 rfl).1 rfl rfl dX6_takeWordOfFew_11 (Nat.le_of_ble_eq_true rfl) ⟨by decide, by decide⟩ ⟨by decide, by decide⟩ (fun L M hp => ?_)
    obtain ⟨C, D, F, I, K1, hr⟩ := hp
    have K := K.step K1 (by decide)
    have hm : C 1 2 = 0 → C0 1 2 = 0 := fun z => hm (hr.symm.trans z)
    have hf : C 1 2 = 0 → p0 < 4 := fun z => hf (hr.symm.trans z)
    exact g_vret X hrt dX6_takeWordOfFew_14 (by decide) (by decide) ⟨C, D, F, I, K, (fun z => ⟨hm z, hf z⟩)⟩
  · skip
    refine g_aload_n X dX6_takeWordOfFew_5 rfl (j := 0) rfl ?_
    refine g_iconst X dX6_takeWordOfFew_6 (v := 3) (by decide) ?_
    refine g_callVV X (s_X6_fail l G F I (3 : Int32) (by decide)) lk_X6_64 (F.1 1 rfl).2 (F.1 1 rfl).1 rfl rfl dX6_takeWordOfFew_7 (Nat.le_of_ble_eq_true rfl) ⟨by decide, by decide⟩ ⟨by decide, by decide⟩ (fun L M hp => ?_)
    obtain ⟨C, D, F, I, K1, hr⟩ := hp
    have K := K.step K1 (by decide)
    have hm : C 1 2 = 0 → C0 1 2 = 0 := fun z => absurd z hr
    have hf : C 1 2 = 0 → p0 < 4 := fun z => absurd z hr
    refine g_aload_n X dX6_takeWordOfFew_10 rfl (j := 0) rfl ?_
    refine g_callVV X (s_X6_take l G F I  ) lk_X6_42 (F.1 1 rfl).2 (F.1 1 rfl).1 rfl rfl dX6_takeWordOfFew_11 (Nat.le_of_ble_eq_true rfl) ⟨by decide, by decide⟩ ⟨by decide, by decide⟩ (fun L M hp => ?_)
    obtain ⟨C, D, F, I, K1, hr⟩ := hp
    have K := K.step K1 (by decide)
    have hm : C 1 2 = 0 → C0 1 2 = 0 := fun z => hm (hr.symm.trans z)
    have hf : C 1 2 = 0 → p0 < 4 := fun z => hf (hr.symm.trans z)
    exact g_vret X hrt dX6_takeWordOfFew_14 (by decide) (by decide) ⟨C, D, F, I, K, (fun z => ⟨hm z, hf z⟩)⟩
set_option maxHeartbeats 4000000 in
set_option maxRecDepth 100000 in
theorem s_X6_takeWordOfFew_7 (l : Launch) (G : va_G) {cy : Nat → ClassId} {L : List Nat} {M : Nat → va_E} {a : Nat → Nat} {act : Nat → Bool} {C0 : Nat → Nat → Int32} {D0 : Nat → Nat → Int64} {R : Nat → Nat → Option Nat} (F : WI L M a act (ent cy a C0 D0 R)) (I : Inv C0) (p0 : Nat) (hp0a : 0 ≤ p0) (hp0b : p0 ≤ 8)  : MV l G cy yX6_takeWordOfFew cX6_takeWordOfFew 3 none 2 0 0 [.ref (a 1), .int (nI p0), .int 7] L M (fun L2 M2 => ∃ C2 D2, WI L2 M2 a act (ent cy a C2 D2 R) ∧ Inv C2 ∧ Kp [1] C0 D0 C2 D2 ∧ (C2 1 2 = 0 → C0 1 2 = 0 ∧ p0 < 7)) := by
  refine MV.of (own := RX6) rfl (by decide) (Nat.le_of_ble_eq_true rfl) ?_
  intro p e s m below meth c A X hrt hnm
  obtain ⟨C, D, hC0, hD0, F, I, K⟩ : ∃ C D, C = C0 ∧ D = D0 ∧ WI L M a act (ent cy a C D R) ∧ Inv C ∧ Kp [1] C0 D0 C D := ⟨C0, D0, rfl, rfl, F, I, Kp.rf⟩
  have hm : C 1 2 = 0 → C0 1 2 = 0 := fun z => by rw [hC0] at z; exact z
  refine g_iload_n X dX6_takeWordOfFew_0 rfl (j := 1) rfl ?_
  refine g_iload_n X dX6_takeWordOfFew_1 rfl (j := 2) rfl ?_
  refine g_icmp_lt X dX6_takeWordOfFew_2 (tgt := 10) (by decide) (fun q1 => ?_) (fun _ => ?_)
  · skip
    have q1 : p0 < 7 := (nI_ltI (a := p0) (b := 7) (by omega) (by omega)).mp q1
    have hf : C 1 2 = 0 → p0 < 7 := fun _ => q1
    refine g_aload_n X dX6_takeWordOfFew_10 rfl (j := 0) rfl ?_
    refine g_callVV X (s_X6_take l G F I  ) lk_X6_42 (F.1 1 rfl).2 (F.1 1 rfl).1 rfl rfl dX6_takeWordOfFew_11 (Nat.le_of_ble_eq_true rfl) ⟨by decide, by decide⟩ ⟨by decide, by decide⟩ (fun L M hp => ?_)
    obtain ⟨C, D, F, I, K1, hr⟩ := hp
    have K := K.step K1 (by decide)
    have hm : C 1 2 = 0 → C0 1 2 = 0 := fun z => hm (hr.symm.trans z)
    have hf : C 1 2 = 0 → p0 < 7 := fun z => hf (hr.symm.trans z)
    exact g_vret X hrt dX6_takeWordOfFew_14 (by decide) (by decide) ⟨C, D, F, I, K, (fun z => ⟨hm z, hf z⟩)⟩
  · skip
    refine g_aload_n X dX6_takeWordOfFew_5 rfl (j := 0) rfl ?_
    refine g_iconst X dX6_takeWordOfFew_6 (v := 3) (by decide) ?_
    refine g_callVV X (s_X6_fail l G F I (3 : Int32) (by decide)) lk_X6_64 (F.1 1 rfl).2 (F.1 1 rfl).1 rfl rfl dX6_takeWordOfFew_7 (Nat.le_of_ble_eq_true rfl) ⟨by decide, by decide⟩ ⟨by decide, by decide⟩ (fun L M hp => ?_)
    obtain ⟨C, D, F, I, K1, hr⟩ := hp
    have K := K.step K1 (by decide)
    have hm : C 1 2 = 0 → C0 1 2 = 0 := fun z => absurd z hr
    have hf : C 1 2 = 0 → p0 < 7 := fun z => absurd z hr
    refine g_aload_n X dX6_takeWordOfFew_10 rfl (j := 0) rfl ?_
    refine g_callVV X (s_X6_take l G F I  ) lk_X6_42 (F.1 1 rfl).2 (F.1 1 rfl).1 rfl rfl dX6_takeWordOfFew_11 (Nat.le_of_ble_eq_true rfl) ⟨by decide, by decide⟩ ⟨by decide, by decide⟩ (fun L M hp => ?_)
    obtain ⟨C, D, F, I, K1, hr⟩ := hp
    have K := K.step K1 (by decide)
    have hm : C 1 2 = 0 → C0 1 2 = 0 := fun z => hm (hr.symm.trans z)
    have hf : C 1 2 = 0 → p0 < 7 := fun z => hf (hr.symm.trans z)
    exact g_vret X hrt dX6_takeWordOfFew_14 (by decide) (by decide) ⟨C, D, F, I, K, (fun z => ⟨hm z, hf z⟩)⟩
set_option maxHeartbeats 4000000 in
set_option maxRecDepth 100000 in
theorem s_X6_takeWordOfFew_8 (l : Launch) (G : va_G) {cy : Nat → ClassId} {L : List Nat} {M : Nat → va_E} {a : Nat → Nat} {act : Nat → Bool} {C0 : Nat → Nat → Int32} {D0 : Nat → Nat → Int64} {R : Nat → Nat → Option Nat} (F : WI L M a act (ent cy a C0 D0 R)) (I : Inv C0) (p0 : Nat) (hp0a : 0 ≤ p0) (hp0b : p0 ≤ 8)  : MV l G cy yX6_takeWordOfFew cX6_takeWordOfFew 3 none 2 0 0 [.ref (a 1), .int (nI p0), .int 8] L M (fun L2 M2 => ∃ C2 D2, WI L2 M2 a act (ent cy a C2 D2 R) ∧ Inv C2 ∧ Kp [1] C0 D0 C2 D2 ∧ (C2 1 2 = 0 → C0 1 2 = 0 ∧ p0 < 8)) := by
  refine MV.of (own := RX6) rfl (by decide) (Nat.le_of_ble_eq_true rfl) ?_
  intro p e s m below meth c A X hrt hnm
  obtain ⟨C, D, hC0, hD0, F, I, K⟩ : ∃ C D, C = C0 ∧ D = D0 ∧ WI L M a act (ent cy a C D R) ∧ Inv C ∧ Kp [1] C0 D0 C D := ⟨C0, D0, rfl, rfl, F, I, Kp.rf⟩
  have hm : C 1 2 = 0 → C0 1 2 = 0 := fun z => by rw [hC0] at z; exact z
  refine g_iload_n X dX6_takeWordOfFew_0 rfl (j := 1) rfl ?_
  refine g_iload_n X dX6_takeWordOfFew_1 rfl (j := 2) rfl ?_
  refine g_icmp_lt X dX6_takeWordOfFew_2 (tgt := 10) (by decide) (fun q1 => ?_) (fun _ => ?_)
  · skip
    have q1 : p0 < 8 := (nI_ltI (a := p0) (b := 8) (by omega) (by omega)).mp q1
    have hf : C 1 2 = 0 → p0 < 8 := fun _ => q1
    refine g_aload_n X dX6_takeWordOfFew_10 rfl (j := 0) rfl ?_
    refine g_callVV X (s_X6_take l G F I  ) lk_X6_42 (F.1 1 rfl).2 (F.1 1 rfl).1 rfl rfl dX6_takeWordOfFew_11 (Nat.le_of_ble_eq_true rfl) ⟨by decide, by decide⟩ ⟨by decide, by decide⟩ (fun L M hp => ?_)
    obtain ⟨C, D, F, I, K1, hr⟩ := hp
    have K := K.step K1 (by decide)
    have hm : C 1 2 = 0 → C0 1 2 = 0 := fun z => hm (hr.symm.trans z)
    have hf : C 1 2 = 0 → p0 < 8 := fun z => hf (hr.symm.trans z)
    exact g_vret X hrt dX6_takeWordOfFew_14 (by decide) (by decide) ⟨C, D, F, I, K, (fun z => ⟨hm z, hf z⟩)⟩
  · skip
    refine g_aload_n X dX6_takeWordOfFew_5 rfl (j := 0) rfl ?_
    refine g_iconst X dX6_takeWordOfFew_6 (v := 3) (by decide) ?_
    refine g_callVV X (s_X6_fail l G F I (3 : Int32) (by decide)) lk_X6_64 (F.1 1 rfl).2 (F.1 1 rfl).1 rfl rfl dX6_takeWordOfFew_7 (Nat.le_of_ble_eq_true rfl) ⟨by decide, by decide⟩ ⟨by decide, by decide⟩ (fun L M hp => ?_)
    obtain ⟨C, D, F, I, K1, hr⟩ := hp
    have K := K.step K1 (by decide)
    have hm : C 1 2 = 0 → C0 1 2 = 0 := fun z => absurd z hr
    have hf : C 1 2 = 0 → p0 < 8 := fun z => absurd z hr
    refine g_aload_n X dX6_takeWordOfFew_10 rfl (j := 0) rfl ?_
    refine g_callVV X (s_X6_take l G F I  ) lk_X6_42 (F.1 1 rfl).2 (F.1 1 rfl).1 rfl rfl dX6_takeWordOfFew_11 (Nat.le_of_ble_eq_true rfl) ⟨by decide, by decide⟩ ⟨by decide, by decide⟩ (fun L M hp => ?_)
    obtain ⟨C, D, F, I, K1, hr⟩ := hp
    have K := K.step K1 (by decide)
    have hm : C 1 2 = 0 → C0 1 2 = 0 := fun z => hm (hr.symm.trans z)
    have hf : C 1 2 = 0 → p0 < 8 := fun z => hf (hr.symm.trans z)
    exact g_vret X hrt dX6_takeWordOfFew_14 (by decide) (by decide) ⟨C, D, F, I, K, (fun z => ⟨hm z, hf z⟩)⟩
set_option maxHeartbeats 4000000 in
set_option maxRecDepth 100000 in
theorem s_X6_takeWordOfFew (l : Launch) (G : va_G) {cy : Nat → ClassId} {L : List Nat} {M : Nat → va_E} {a : Nat → Nat} {act : Nat → Bool} {C0 : Nat → Nat → Int32} {D0 : Nat → Nat → Int64} {R : Nat → Nat → Option Nat} (F : WI L M a act (ent cy a C0 D0 R)) (I : Inv C0) (p0 : Int32) (p1 : Int32)  : MV l G cy yX6_takeWordOfFew cX6_takeWordOfFew 3 none 2 0 0 [.ref (a 1), .int p0, .int p1] L M (fun L2 M2 => ∃ C2 D2, WI L2 M2 a act (ent cy a C2 D2 R) ∧ Inv C2 ∧ Kp [1] C0 D0 C2 D2 ∧ (C2 1 2 = 0 → C0 1 2 = 0)) := by
  refine MV.of (own := RX6) rfl (by decide) (Nat.le_of_ble_eq_true rfl) ?_
  intro p e s m below meth c A X hrt hnm
  obtain ⟨C, D, hC0, hD0, F, I, K⟩ : ∃ C D, C = C0 ∧ D = D0 ∧ WI L M a act (ent cy a C D R) ∧ Inv C ∧ Kp [1] C0 D0 C D := ⟨C0, D0, rfl, rfl, F, I, Kp.rf⟩
  have hm : C 1 2 = 0 → C0 1 2 = 0 := fun z => by rw [hC0] at z; exact z
  refine g_iload_n X dX6_takeWordOfFew_0 rfl (j := 1) rfl ?_
  refine g_iload_n X dX6_takeWordOfFew_1 rfl (j := 2) rfl ?_
  refine g_icmp_lt X dX6_takeWordOfFew_2 (tgt := 10) (by decide) (fun q1 => ?_) (fun q1 => ?_)
  · skip
    refine g_aload_n X dX6_takeWordOfFew_10 rfl (j := 0) rfl ?_
    refine g_callVV X (s_X6_take l G F I  ) lk_X6_42 (F.1 1 rfl).2 (F.1 1 rfl).1 rfl rfl dX6_takeWordOfFew_11 (Nat.le_of_ble_eq_true rfl) ⟨by decide, by decide⟩ ⟨by decide, by decide⟩ (fun L M hp => ?_)
    obtain ⟨C, D, F, I, K1, hr⟩ := hp
    have K := K.step K1 (by decide)
    have hm : C 1 2 = 0 → C0 1 2 = 0 := fun z => hm (hr.symm.trans z)
    exact g_vret X hrt dX6_takeWordOfFew_14 (by decide) (by decide) ⟨C, D, F, I, K, hm⟩
  · skip
    refine g_aload_n X dX6_takeWordOfFew_5 rfl (j := 0) rfl ?_
    refine g_iconst X dX6_takeWordOfFew_6 (v := 3) (by decide) ?_
    refine g_callVV X (s_X6_fail l G F I (3 : Int32) (by decide)) lk_X6_64 (F.1 1 rfl).2 (F.1 1 rfl).1 rfl rfl dX6_takeWordOfFew_7 (Nat.le_of_ble_eq_true rfl) ⟨by decide, by decide⟩ ⟨by decide, by decide⟩ (fun L M hp => ?_)
    obtain ⟨C, D, F, I, K1, hr⟩ := hp
    have K := K.step K1 (by decide)
    have hm : C 1 2 = 0 → C0 1 2 = 0 := fun z => absurd z hr
    refine g_aload_n X dX6_takeWordOfFew_10 rfl (j := 0) rfl ?_
    refine g_callVV X (s_X6_take l G F I  ) lk_X6_42 (F.1 1 rfl).2 (F.1 1 rfl).1 rfl rfl dX6_takeWordOfFew_11 (Nat.le_of_ble_eq_true rfl) ⟨by decide, by decide⟩ ⟨by decide, by decide⟩ (fun L M hp => ?_)
    obtain ⟨C, D, F, I, K1, hr⟩ := hp
    have K := K.step K1 (by decide)
    have hm : C 1 2 = 0 → C0 1 2 = 0 := fun z => hm (hr.symm.trans z)
    exact g_vret X hrt dX6_takeWordOfFew_14 (by decide) (by decide) ⟨C, D, F, I, K, hm⟩
set_option maxHeartbeats 4000000 in
set_option maxRecDepth 100000 in
theorem s_X6_readHeath (l : Launch) (G : va_G) {cy : Nat → ClassId} {L : List Nat} {M : Nat → va_E} {a : Nat → Nat} {act : Nat → Bool} {C0 : Nat → Nat → Int32} {D0 : Nat → Nat → Int64} {R : Nat → Nat → Option Nat} (F : WI L M a act (ent cy a C0 D0 R)) (I : Inv C0)   : MV l G cy yX6_readHeath cX6_readHeath 2 none 6 0 0 [.ref (a 1), .ref (a 13)] L M (fun L2 M2 => ∃ C2 D2, WI L2 M2 a act (ent cy a C2 D2 R) ∧ Inv C2 ∧ Kp [1, 13] C0 D0 C2 D2 ∧ True) := by
  refine MV.of (own := RX6) rfl (by decide) (Nat.le_of_ble_eq_true rfl) ?_
  intro p e s m below meth c A X hrt hnm
  obtain ⟨C, D, hC0, hD0, F, I, K⟩ : ∃ C D, C = C0 ∧ D = D0 ∧ WI L M a act (ent cy a C D R) ∧ Inv C ∧ Kp [1, 13] C0 D0 C D := ⟨C0, D0, rfl, rfl, F, I, Kp.rf⟩
  refine g_aload_n X dX6_readHeath_0 rfl (j := 0) rfl ?_
  refine g_callVV X (s_X6_take l G F I  ) lk_X6_42 (F.1 1 rfl).2 (F.1 1 rfl).1 rfl rfl dX6_readHeath_1 (Nat.le_of_ble_eq_true rfl) ⟨by decide, by decide⟩ ⟨by decide, by decide⟩ (fun L M hp => ?_)
  obtain ⟨C, D, F, I, K1, hr⟩ := hp
  have K := K.step K1 (by decide)
  refine g_aload_n X dX6_readHeath_4 rfl (j := 0) rfl ?_
  refine g_ldcS X (tx := "hours") (i := 6) (by decide) dX6_readHeath_5 ?_
  refine g_callVV X (s_X6_takeWord l G F I 6 (by decide) ) lk_X6_95 (F.1 1 rfl).2 (F.1 1 rfl).1 rfl rfl dX6_readHeath_7 (Nat.le_of_ble_eq_true rfl) ⟨by decide, by decide⟩ ⟨by decide, by decide⟩ (fun L M hp => ?_)
  obtain ⟨C, D, F, I, K1, hr⟩ := hp
  have K := K.step K1 (by decide)
  refine g_aload_n X dX6_readHeath_10 rfl (j := 1) rfl ?_
  refine g_aload_n X dX6_readHeath_11 rfl (j := 0) rfl ?_
  refine g_iconst X dX6_readHeath_12 (v := 1) (by decide) ?_
  refine g_bipush X dX6_readHeath_13 (v := 16) (by decide) ?_
  refine g_callVI X (s_X6_takeNumber l G F I (1 : Int32) (16 : Int32) ) lk_X6_99 (F.1 1 rfl).2 (F.1 1 rfl).1 rfl rfl dX6_readHeath_15 (Nat.le_of_ble_eq_true rfl) ⟨by decide, by decide⟩ ⟨by decide, by decide⟩ (fun r1 L M hp => ?_)
  obtain ⟨C, D, F, I, K1, hr⟩ := hp
  have K := K.step K1 (by decide)
  obtain ⟨hr, hnum⟩ := hr
  obtain ⟨n2, hn2, rfl⟩ := num_nat (B := 16) (by decide) hnum (by have kk : (16 : Int32).toInt = 16 := (by decide); omega)
  refine i_put X F I 13 rfl rfl rfl fk_X6_103 dX6_readHeath_18 rfl rfl (Nat.le_of_ble_eq_true rfl) ⟨fun _ => (rg_of (n := n2) (by omega) (by omega) (by omega)), fun h => absurd h (by decide), fun h => absurd h (by decide), fun h => absurd h (by decide)⟩ (fun M C F I K1 hC => ?_)
  have K := K.step K1 (by decide)
  refine g_aload_n X dX6_readHeath_21 rfl (j := 0) rfl ?_
  refine g_ldcS X (tx := "law") (i := 7) (by decide) dX6_readHeath_22 ?_
  refine g_callVV X (s_X6_takeWord l G F I 7 (by decide) ) lk_X6_95 (F.1 1 rfl).2 (F.1 1 rfl).1 rfl rfl dX6_readHeath_24 (Nat.le_of_ble_eq_true rfl) ⟨by decide, by decide⟩ ⟨by decide, by decide⟩ (fun L M hp => ?_)
  obtain ⟨C, D, F, I, K1, hr⟩ := hp
  have K := K.step K1 (by decide)
  refine g_aload_n X dX6_readHeath_27 rfl (j := 1) rfl ?_
  refine g_aload_n X dX6_readHeath_28 rfl (j := 0) rfl ?_
  refine g_iconst X dX6_readHeath_29 (v := 0) (by decide) ?_
  refine g_iconst X dX6_readHeath_30 (v := 3) (by decide) ?_
  refine g_callVI X (s_X6_takeNumber l G F I (0 : Int32) (3 : Int32) ) lk_X6_99 (F.1 1 rfl).2 (F.1 1 rfl).1 rfl rfl dX6_readHeath_31 (Nat.le_of_ble_eq_true rfl) ⟨by decide, by decide⟩ ⟨by decide, by decide⟩ (fun r3 L M hp => ?_)
  obtain ⟨C, D, F, I, K1, hr⟩ := hp
  have K := K.step K1 (by decide)
  obtain ⟨hr, hnum⟩ := hr
  obtain ⟨n4, hn4, rfl⟩ := num_nat (B := 3) (by decide) hnum (by have kk : (3 : Int32).toInt = 3 := (by decide); omega)
  refine i_put X F I 13 rfl rfl rfl fk_X6_107 dX6_readHeath_34 rfl rfl (Nat.le_of_ble_eq_true rfl) ⟨fun h => absurd h (by decide), fun h => absurd h (by decide), fun h => absurd h (by decide), fun h => absurd h (by decide)⟩ (fun M C F I K1 hC => ?_)
  have K := K.step K1 (by decide)
  refine g_aload_n X dX6_readHeath_37 rfl (j := 0) rfl ?_
  refine g_ldcS X (tx := "odds") (i := 8) (by decide) dX6_readHeath_38 ?_
  refine g_callVV X (s_X6_takeWord l G F I 8 (by decide) ) lk_X6_95 (F.1 1 rfl).2 (F.1 1 rfl).1 rfl rfl dX6_readHeath_40 (Nat.le_of_ble_eq_true rfl) ⟨by decide, by decide⟩ ⟨by decide, by decide⟩ (fun L M hp => ?_)
  obtain ⟨C, D, F, I, K1, hr⟩ := hp
  have K := K.step K1 (by decide)
  refine g_aload_n X dX6_readHeath_43 rfl (j := 1) rfl ?_
  refine g_aload_n X dX6_readHeath_44 rfl (j := 0) rfl ?_
  refine g_iconst X dX6_readHeath_45 (v := 0) (by decide) ?_
  refine g_bipush X dX6_readHeath_46 (v := 10) (by decide) ?_
  refine g_callVI X (s_X6_takeNumber l G F I (0 : Int32) (10 : Int32) ) lk_X6_99 (F.1 1 rfl).2 (F.1 1 rfl).1 rfl rfl dX6_readHeath_48 (Nat.le_of_ble_eq_true rfl) ⟨by decide, by decide⟩ ⟨by decide, by decide⟩ (fun r5 L M hp => ?_)
  obtain ⟨C, D, F, I, K1, hr⟩ := hp
  have K := K.step K1 (by decide)
  obtain ⟨hr, hnum⟩ := hr
  obtain ⟨n6, hn6, rfl⟩ := num_nat (B := 10) (by decide) hnum (by have kk : (10 : Int32).toInt = 10 := (by decide); omega)
  refine i_put X F I 13 rfl rfl rfl fk_X6_111 dX6_readHeath_51 rfl rfl (Nat.le_of_ble_eq_true rfl) ⟨fun h => absurd h (by decide), fun h => absurd h (by decide), fun h => absurd h (by decide), fun h => absurd h (by decide)⟩ (fun M C F I K1 hC => ?_)
  have K := K.step K1 (by decide)
  exact g_vret X hrt dX6_readHeath_54 (by decide) (by decide) ⟨C, D, F, I, K, trivial⟩
set_option maxHeartbeats 4000000 in
set_option maxRecDepth 100000 in
theorem s_X6_readInn (l : Launch) (G : va_G) {cy : Nat → ClassId} {L : List Nat} {M : Nat → va_E} {a : Nat → Nat} {act : Nat → Bool} {C0 : Nat → Nat → Int32} {D0 : Nat → Nat → Int64} {R : Nat → Nat → Option Nat} (F : WI L M a act (ent cy a C0 D0 R)) (I : Inv C0)   : MV l G cy yX6_readInn cX6_readInn 3 none 6 0 0 [.ref (a 1), .ref (a 13)] L M (fun L2 M2 => ∃ C2 D2, WI L2 M2 a act (ent cy a C2 D2 R) ∧ Inv C2 ∧ Kp [1, 13, 14] C0 D0 C2 D2 ∧ True) := by
  refine MV.of (own := RX6) rfl (by decide) (Nat.le_of_ble_eq_true rfl) ?_
  intro p e s m below meth c A X hrt hnm
  obtain ⟨C, D, hC0, hD0, F, I, K⟩ : ∃ C D, C = C0 ∧ D = D0 ∧ WI L M a act (ent cy a C D R) ∧ Inv C ∧ Kp [1, 13, 14] C0 D0 C D := ⟨C0, D0, rfl, rfl, F, I, Kp.rf⟩
  refine g_aload_n X dX6_readInn_0 rfl (j := 0) rfl ?_
  refine g_aload_n X dX6_readInn_1 rfl (j := 1) rfl ?_
  obtain ⟨n1, hn1, en1⟩ := rg_nat ((I 13 4).2.1 rfl) (by decide)
  refine i_get X F 13 rfl rfl fk_X6_113 dX6_readInn_2 (v := .int (nI n1)) (congrArg (fun z => some (Value.int z)) en1) ?_
  refine g_iconst X dX6_readInn_5 (v := 4) (by decide) ?_
  refine g_callVV X (s_X6_takeWordOfFew_4 l G F I n1 (by omega) (by omega) ) lk_X6_116 (F.1 1 rfl).2 (F.1 1 rfl).1 rfl rfl dX6_readInn_6 (Nat.le_of_ble_eq_true rfl) ⟨by decide, by decide⟩ ⟨by decide, by decide⟩ (fun L M hp => ?_)
  obtain ⟨C, D, F, I, K1, hr⟩ := hp
  have K := K.step K1 (by decide)
  have en1 : C 13 4 = nI n1 := (congrFun (K1 13 (by decide)).1 4).trans en1
  have hf2 : C 1 2 = 0 → n1 < 4 := fun z => (hr z).2
  refine g_aload_n X dX6_readInn_9 rfl (j := 0) rfl ?_
  refine g_ldcS X (tx := "room") (i := 9) (by decide) dX6_readInn_10 ?_
  refine g_callVV X (s_X6_takeWord l G F I 9 (by decide) ) lk_X6_95 (F.1 1 rfl).2 (F.1 1 rfl).1 rfl rfl dX6_readInn_12 (Nat.le_of_ble_eq_true rfl) ⟨by decide, by decide⟩ ⟨by decide, by decide⟩ (fun L M hp => ?_)
  obtain ⟨C, D, F, I, K1, hr⟩ := hp
  have K := K.step K1 (by decide)
  have en1 : C 13 4 = nI n1 := (congrFun (K1 13 (by decide)).1 4).trans en1
  have hf2 : C 1 2 = 0 → n1 < 4 := fun z => hf2 (hr z)
  refine g_aload_n X dX6_readInn_15 rfl (j := 0) rfl ?_
  refine g_iconst X dX6_readInn_16 (v := 0) (by decide) ?_
  refine g_bipush X dX6_readInn_17 (v := 9) (by decide) ?_
  refine g_callVI X (s_X6_takeNumber l G F I (0 : Int32) (9 : Int32) ) lk_X6_99 (F.1 1 rfl).2 (F.1 1 rfl).1 rfl rfl dX6_readInn_19 (Nat.le_of_ble_eq_true rfl) ⟨by decide, by decide⟩ ⟨by decide, by decide⟩ (fun r3 L M hp => ?_)
  obtain ⟨C, D, F, I, K1, hr⟩ := hp
  have K := K.step K1 (by decide)
  have en1 : C 13 4 = nI n1 := (congrFun (K1 13 (by decide)).1 4).trans en1
  obtain ⟨hr, hnum⟩ := hr
  have hf2 : C 1 2 = 0 → n1 < 4 := fun z => hf2 (hr z)
  obtain ⟨n4, hn4, rfl⟩ := num_nat (B := 9) (by decide) hnum (by have kk : (9 : Int32).toInt = 9 := (by decide); omega)
  refine g_istore_n X dX6_readInn_22 rfl (by decide) (lv2 := [(2, .int (nI n4)), (0, .ref (a 1)), (1, .ref (a 13))]) rfl ?_
  refine g_aload_n X dX6_readInn_23 rfl (j := 1) rfl ?_
  obtain ⟨o5, eo5⟩ : ∃ z, C 1 2 = z := ⟨_, rfl⟩
  refine i_get X F 1 rfl rfl fk_X6_19 dX6_readInn_24 (v := .int o5) (congrArg (fun z => some (Value.int z)) eo5) ?_
  refine g_if_ne X dX6_readInn_27 (tgt := 50) (by decide) (fun q6 => ?_) (fun q6 => ?_)
  · skip
    exact g_vret X hrt dX6_readInn_50 (by decide) (by decide) ⟨C, D, F, I, K, trivial⟩
  · skip
    subst q6
    have hf2y := hf2 eo5
    refine g_aload_n X dX6_readInn_30 rfl (j := 2) rfl ?_
    refine i_get X F 13 rfl rfl fk_X6_122 dX6_readInn_31 rfl ?_
    refine g_aload_n X dX6_readInn_34 rfl (j := 2) rfl ?_
    refine i_get X F 13 rfl rfl fk_X6_113 dX6_readInn_35 (v := .int (nI n1)) (congrArg (fun z => some (Value.int z)) en1) ?_
    refine g_iload_n X dX6_readInn_38 rfl (j := 0) rfl ?_
    refine i_iast X F I 14 rfl (fun _ => rfl) dX6_readInn_39 (vp_in_nI (by omega) (by decide)) trivial (fun M C F I K1 hC => ?_)
    have K := K.step K1 (by decide)
    have hf2 : C 1 2 = 0 → n1 < 4 := fun z => hf2 ((congrFun (K1 1 (by decide)).1 2).symm.trans z)
    have en1 : C 13 4 = nI n1 := (congrFun (K1 13 (by decide)).1 4).trans en1
    have eo5 : C 1 2 = 0 := (congrFun (K1 1 (by decide)).1 2).trans eo5
    refine g_aload_n X dX6_readInn_40 rfl (j := 2) rfl ?_
    refine g_dup X dX6_readInn_41 rfl ?_
    refine i_get X F 13 rfl rfl fk_X6_113 dX6_readInn_42 (v := .int (nI n1)) (congrArg (fun z => some (Value.int z)) en1) ?_
    refine g_iconst X dX6_readInn_45 (v := 1) (by decide) ?_
    refine g_iadd X dX6_readInn_46 ?_
    refine Go.top (v := .int (nI (n1 + 1))) (congrArg Value.int (nI_add n1 1)) ?_
    refine i_put X F I 13 rfl rfl rfl fk_X6_113 dX6_readInn_47 rfl rfl (Nat.le_of_ble_eq_true rfl) ⟨fun h => absurd h (by decide), fun _ => (rg_of (n := (n1 + 1)) (by omega) (by omega) (by omega)), fun h => absurd h (by decide), fun h => absurd h (by decide)⟩ (fun M C F I K1 hC => ?_)
    have K := K.step K1 (by decide)
    have hf2 : C 1 2 = 0 → n1 < 4 := fun z => hf2 ((congrFun (K1 1 (by decide)).1 2).symm.trans z)
    have eo5 : C 1 2 = 0 := (congrFun (K1 1 (by decide)).1 2).trans eo5
    have f7 : C 13 4 = nI (n1 + 1) := by rw [hC]; exact pk_us
    exact g_vret X hrt dX6_readInn_50 (by decide) (by decide) ⟨C, D, F, I, K, trivial⟩
set_option maxHeartbeats 4000000 in
set_option maxRecDepth 100000 in
theorem s_X6_readPost (l : Launch) (G : va_G) {cy : Nat → ClassId} {L : List Nat} {M : Nat → va_E} {a : Nat → Nat} {act : Nat → Bool} {C0 : Nat → Nat → Int32} {D0 : Nat → Nat → Int64} {R : Nat → Nat → Option Nat} (F : WI L M a act (ent cy a C0 D0 R)) (I : Inv C0)   : MV l G cy yX6_readPost cX6_readPost 2 none 3 0 0 [.ref (a 1), .ref (a 13)] L M (fun L2 M2 => ∃ C2 D2, WI L2 M2 a act (ent cy a C2 D2 R) ∧ Inv C2 ∧ Kp [1, 13] C0 D0 C2 D2 ∧ True) := by
  refine MV.of (own := RX6) rfl (by decide) (Nat.le_of_ble_eq_true rfl) ?_
  intro p e s m below meth c A X hrt hnm
  obtain ⟨C, D, hC0, hD0, F, I, K⟩ : ∃ C D, C = C0 ∧ D = D0 ∧ WI L M a act (ent cy a C D R) ∧ Inv C ∧ Kp [1, 13] C0 D0 C D := ⟨C0, D0, rfl, rfl, F, I, Kp.rf⟩
  refine g_aload_n X dX6_readPost_0 rfl (j := 0) rfl ?_
  refine g_aload_n X dX6_readPost_1 rfl (j := 1) rfl ?_
  obtain ⟨n1, hn1, en1⟩ := rg_nat ((I 13 5).2.2.1 rfl) (by decide)
  refine i_get X F 13 rfl rfl fk_X6_126 dX6_readPost_2 (v := .int (nI n1)) (congrArg (fun z => some (Value.int z)) en1) ?_
  refine g_bipush X dX6_readPost_5 (v := 7) (by decide) ?_
  refine g_callVV X (s_X6_takeWordOfFew_7 l G F I n1 (by omega) (by omega) ) lk_X6_116 (F.1 1 rfl).2 (F.1 1 rfl).1 rfl rfl dX6_readPost_7 (Nat.le_of_ble_eq_true rfl) ⟨by decide, by decide⟩ ⟨by decide, by decide⟩ (fun L M hp => ?_)
  obtain ⟨C, D, F, I, K1, hr⟩ := hp
  have K := K.step K1 (by decide)
  have en1 : C 13 5 = nI n1 := (congrFun (K1 13 (by decide)).1 5).trans en1
  have hf2 : C 1 2 = 0 → n1 < 7 := fun z => (hr z).2
  refine g_aload_n X dX6_readPost_10 rfl (j := 0) rfl ?_
  obtain ⟨o3, eo3⟩ : ∃ z, C 1 2 = z := ⟨_, rfl⟩
  refine i_get X F 1 rfl rfl fk_X6_19 dX6_readPost_11 (v := .int o3) (congrArg (fun z => some (Value.int z)) eo3) ?_
  refine g_if_ne X dX6_readPost_14 (tgt := 27) (by decide) (fun q4 => ?_) (fun q4 => ?_)
  · skip
    exact g_vret X hrt dX6_readPost_27 (by decide) (by decide) ⟨C, D, F, I, K, trivial⟩
  · skip
    subst q4
    have hf2y := hf2 eo3
    refine g_aload_n X dX6_readPost_17 rfl (j := 1) rfl ?_
    refine g_dup X dX6_readPost_18 rfl ?_
    refine i_get X F 13 rfl rfl fk_X6_126 dX6_readPost_19 (v := .int (nI n1)) (congrArg (fun z => some (Value.int z)) en1) ?_
    refine g_iconst X dX6_readPost_22 (v := 1) (by decide) ?_
    refine g_iadd X dX6_readPost_23 ?_
    refine Go.top (v := .int (nI (n1 + 1))) (congrArg Value.int (nI_add n1 1)) ?_
    refine i_put X F I 13 rfl rfl rfl fk_X6_126 dX6_readPost_24 rfl rfl (Nat.le_of_ble_eq_true rfl) ⟨fun h => absurd h (by decide), fun h => absurd h (by decide), fun _ => (rg_of (n := (n1 + 1)) (by omega) (by omega) (by omega)), fun h => absurd h (by decide)⟩ (fun M C F I K1 hC => ?_)
    have K := K.step K1 (by decide)
    have hf2 : C 1 2 = 0 → n1 < 7 := fun z => hf2 ((congrFun (K1 1 (by decide)).1 2).symm.trans z)
    have eo3 : C 1 2 = 0 := (congrFun (K1 1 (by decide)).1 2).trans eo3
    have f5 : C 13 5 = nI (n1 + 1) := by rw [hC]; exact pk_us
    exact g_vret X hrt dX6_readPost_27 (by decide) (by decide) ⟨C, D, F, I, K, trivial⟩
set_option maxHeartbeats 4000000 in
set_option maxRecDepth 100000 in
theorem s_X6_readWalker (l : Launch) (G : va_G) {cy : Nat → ClassId} {L : List Nat} {M : Nat → va_E} {a : Nat → Nat} {act : Nat → Bool} {C0 : Nat → Nat → Int32} {D0 : Nat → Nat → Int64} {R : Nat → Nat → Option Nat} (F : WI L M a act (ent cy a C0 D0 R)) (I : Inv C0)   : MV l G cy yX6_readWalker cX6_readWalker 4 none 6 0 0 [.ref (a 1), .ref (a 13)] L M (fun L2 M2 => ∃ C2 D2, WI L2 M2 a act (ent cy a C2 D2 R) ∧ Inv C2 ∧ Kp [1, 13, 18, 19] C0 D0 C2 D2 ∧ True) := by
  refine MV.of (own := RX6) rfl (by decide) (Nat.le_of_ble_eq_true rfl) ?_
  intro p e s m below meth c A X hrt hnm
  obtain ⟨C, D, hC0, hD0, F, I, K⟩ : ∃ C D, C = C0 ∧ D = D0 ∧ WI L M a act (ent cy a C D R) ∧ Inv C ∧ Kp [1, 13, 18, 19] C0 D0 C D := ⟨C0, D0, rfl, rfl, F, I, Kp.rf⟩
  refine g_aload_n X dX6_readWalker_0 rfl (j := 0) rfl ?_
  refine g_aload_n X dX6_readWalker_1 rfl (j := 1) rfl ?_
  obtain ⟨n1, hn1, en1⟩ := rg_nat ((I 13 8).2.2.2 rfl) (by decide)
  refine i_get X F 13 rfl rfl fk_X6_151 dX6_readWalker_2 (v := .int (nI n1)) (congrArg (fun z => some (Value.int z)) en1) ?_
  refine g_bipush X dX6_readWalker_5 (v := 8) (by decide) ?_
  refine g_callVV X (s_X6_takeWordOfFew_8 l G F I n1 (by omega) (by omega) ) lk_X6_116 (F.1 1 rfl).2 (F.1 1 rfl).1 rfl rfl dX6_readWalker_7 (Nat.le_of_ble_eq_true rfl) ⟨by decide, by decide⟩ ⟨by decide, by decide⟩ (fun L M hp => ?_)
  obtain ⟨C, D, F, I, K1, hr⟩ := hp
  have K := K.step K1 (by decide)
  have en1 : C 13 8 = nI n1 := (congrFun (K1 13 (by decide)).1 8).trans en1
  have hf2 : C 1 2 = 0 → n1 < 8 := fun z => (hr z).2
  refine g_aload_n X dX6_readWalker_10 rfl (j := 0) rfl ?_
  refine g_iconst X dX6_readWalker_11 (v := 0) (by decide) ?_
  refine g_aload_n X dX6_readWalker_12 rfl (j := 1) rfl ?_
  obtain ⟨n3, hn3, en3⟩ := rg_nat ((I 13 5).2.2.1 rfl) (by decide)
  refine i_get X F 13 rfl rfl fk_X6_126 dX6_readWalker_13 (v := .int (nI n3)) (congrArg (fun z => some (Value.int z)) en3) ?_
  refine g_iconst X dX6_readWalker_16 (v := 1) (by decide) ?_
  refine g_isub X dX6_readWalker_17 ?_
  have hsn3 := nI_m1 (n := n3) (by omega)
  refine g_callVI X (s_X6_takeNumber l G F I (0 : Int32) ((nI n3 - 1)) ) lk_X6_99 (F.1 1 rfl).2 (F.1 1 rfl).1 rfl rfl dX6_readWalker_18 (Nat.le_of_ble_eq_true rfl) ⟨by decide, by decide⟩ ⟨by decide, by decide⟩ (fun r4 L M hp => ?_)
  obtain ⟨C, D, F, I, K1, hr⟩ := hp
  have K := K.step K1 (by decide)
  have en1 : C 13 8 = nI n1 := (congrFun (K1 13 (by decide)).1 8).trans en1
  obtain ⟨hr, hnum⟩ := hr
  have hf2 : C 1 2 = 0 → n1 < 8 := fun z => hf2 (hr z)
  obtain ⟨n5, hn5, rfl⟩ := num_nat (B := 6) (by decide) hnum (by omega)
  refine g_istore_n X dX6_readWalker_21 rfl (by decide) (lv2 := [(2, .int (nI n5)), (0, .ref (a 1)), (1, .ref (a 13))]) rfl ?_
  refine g_aload_n X dX6_readWalker_22 rfl (j := 1) rfl ?_
  refine g_ldcS X (tx := "at") (i := 12) (by decide) dX6_readWalker_23 ?_
  refine g_callVV X (s_X6_takeWord l G F I 12 (by decide) ) lk_X6_95 (F.1 1 rfl).2 (F.1 1 rfl).1 rfl rfl dX6_readWalker_25 (Nat.le_of_ble_eq_true rfl) ⟨by decide, by decide⟩ ⟨by decide, by decide⟩ (fun L M hp => ?_)
  obtain ⟨C, D, F, I, K1, hr⟩ := hp
  have K := K.step K1 (by decide)
  have en1 : C 13 8 = nI n1 := (congrFun (K1 13 (by decide)).1 8).trans en1
  have hf2 : C 1 2 = 0 → n1 < 8 := fun z => hf2 (hr z)
  refine g_aload_n X dX6_readWalker_28 rfl (j := 1) rfl ?_
  refine g_iconst X dX6_readWalker_29 (v := 0) (by decide) ?_
  refine g_bipush X dX6_readWalker_30 (v := 15) (by decide) ?_
  refine g_callVI X (s_X6_takeNumber l G F I (0 : Int32) (15 : Int32) ) lk_X6_99 (F.1 1 rfl).2 (F.1 1 rfl).1 rfl rfl dX6_readWalker_32 (Nat.le_of_ble_eq_true rfl) ⟨by decide, by decide⟩ ⟨by decide, by decide⟩ (fun r6 L M hp => ?_)
  obtain ⟨C, D, F, I, K1, hr⟩ := hp
  have K := K.step K1 (by decide)
  have en1 : C 13 8 = nI n1 := (congrFun (K1 13 (by decide)).1 8).trans en1
  obtain ⟨hr, hnum⟩ := hr
  have hf2 : C 1 2 = 0 → n1 < 8 := fun z => hf2 (hr z)
  obtain ⟨n7, hn7, rfl⟩ := num_nat (B := 15) (by decide) hnum (by have kk : (15 : Int32).toInt = 15 := (by decide); omega)
  refine g_istore_n X dX6_readWalker_35 rfl (by decide) (lv2 := [(3, .int (nI n7)), (2, .int (nI n5)), (0, .ref (a 1)), (1, .ref (a 13))]) rfl ?_
  refine g_aload_n X dX6_readWalker_36 rfl (j := 2) rfl ?_
  obtain ⟨o8, eo8⟩ : ∃ z, C 1 2 = z := ⟨_, rfl⟩
  refine i_get X F 1 rfl rfl fk_X6_19 dX6_readWalker_37 (v := .int o8) (congrArg (fun z => some (Value.int z)) eo8) ?_
  refine g_if_ne X dX6_readWalker_40 (tgt := 73) (by decide) (fun q9 => ?_) (fun q9 => ?_)
  · skip
    exact g_vret X hrt dX6_readWalker_73 (by decide) (by decide) ⟨C, D, F, I, K, trivial⟩
  · skip
    subst q9
    have hf2y := hf2 eo8
    refine g_aload_n X dX6_readWalker_43 rfl (j := 3) rfl ?_
    refine i_get X F 13 rfl rfl fk_X6_156 dX6_readWalker_44 rfl ?_
    refine g_aload_n X dX6_readWalker_47 rfl (j := 3) rfl ?_
    refine i_get X F 13 rfl rfl fk_X6_151 dX6_readWalker_48 (v := .int (nI n1)) (congrArg (fun z => some (Value.int z)) en1) ?_
    refine g_iload_n X dX6_readWalker_51 rfl (j := 1) rfl ?_
    refine i_iast X F I 18 rfl (fun _ => rfl) dX6_readWalker_52 (vp_in_nI (by omega) (by decide)) (rg_of (n := n5) (by omega) (by omega) (by omega)) (fun M C F I K1 hC => ?_)
    have K := K.step K1 (by decide)
    have hf2 : C 1 2 = 0 → n1 < 8 := fun z => hf2 ((congrFun (K1 1 (by decide)).1 2).symm.trans z)
    have en1 : C 13 8 = nI n1 := (congrFun (K1 13 (by decide)).1 8).trans en1
    have eo8 : C 1 2 = 0 := (congrFun (K1 1 (by decide)).1 2).trans eo8
    refine g_aload_n X dX6_readWalker_53 rfl (j := 3) rfl ?_
    refine i_get X F 13 rfl rfl fk_X6_159 dX6_readWalker_54 rfl ?_
    refine g_aload_n X dX6_readWalker_57 rfl (j := 3) rfl ?_
    refine i_get X F 13 rfl rfl fk_X6_151 dX6_readWalker_58 (v := .int (nI n1)) (congrArg (fun z => some (Value.int z)) en1) ?_
    refine g_iload_n X dX6_readWalker_61 rfl (j := 0) rfl ?_
    refine i_iast X F I 19 rfl (fun _ => rfl) dX6_readWalker_62 (vp_in_nI (by omega) (by decide)) trivial (fun M C F I K1 hC => ?_)
    have K := K.step K1 (by decide)
    have hf2 : C 1 2 = 0 → n1 < 8 := fun z => hf2 ((congrFun (K1 1 (by decide)).1 2).symm.trans z)
    have en1 : C 13 8 = nI n1 := (congrFun (K1 13 (by decide)).1 8).trans en1
    have eo8 : C 1 2 = 0 := (congrFun (K1 1 (by decide)).1 2).trans eo8
    refine g_aload_n X dX6_readWalker_63 rfl (j := 3) rfl ?_
    refine g_dup X dX6_readWalker_64 rfl ?_
    refine i_get X F 13 rfl rfl fk_X6_151 dX6_readWalker_65 (v := .int (nI n1)) (congrArg (fun z => some (Value.int z)) en1) ?_
    refine g_iconst X dX6_readWalker_68 (v := 1) (by decide) ?_
    refine g_iadd X dX6_readWalker_69 ?_
    refine Go.top (v := .int (nI (n1 + 1))) (congrArg Value.int (nI_add n1 1)) ?_
    refine i_put X F I 13 rfl rfl rfl fk_X6_151 dX6_readWalker_70 rfl rfl (Nat.le_of_ble_eq_true rfl) ⟨fun h => absurd h (by decide), fun h => absurd h (by decide), fun h => absurd h (by decide), fun _ => (rg_of (n := (n1 + 1)) (by omega) (by omega) (by omega))⟩ (fun M C F I K1 hC => ?_)
    have K := K.step K1 (by decide)
    have hf2 : C 1 2 = 0 → n1 < 8 := fun z => hf2 ((congrFun (K1 1 (by decide)).1 2).symm.trans z)
    have eo8 : C 1 2 = 0 := (congrFun (K1 1 (by decide)).1 2).trans eo8
    have f10 : C 13 8 = nI (n1 + 1) := by rw [hC]; exact pk_us
    exact g_vret X hrt dX6_readWalker_73 (by decide) (by decide) ⟨C, D, F, I, K, trivial⟩
set_option maxHeartbeats 4000000 in
set_option maxRecDepth 100000 in
theorem s_X6_readRoad (l : Launch) (G : va_G) {cy : Nat → ClassId} {L : List Nat} {M : Nat → va_E} {a : Nat → Nat} {act : Nat → Bool} {C0 : Nat → Nat → Int32} {D0 : Nat → Nat → Int64} {R : Nat → Nat → Option Nat} (F : WI L M a act (ent cy a C0 D0 R)) (I : Inv C0)   : MV l G cy yX6_readRoad cX6_readRoad 4 none 6 0 0 [.ref (a 1), .ref (a 13)] L M (fun L2 M2 => ∃ C2 D2, WI L2 M2 a act (ent cy a C2 D2 R) ∧ Inv C2 ∧ Kp [1, 13, 15, 16] C0 D0 C2 D2 ∧ True) := by
  refine MV.of (own := RX6) rfl (by decide) (Nat.le_of_ble_eq_true rfl) ?_
  intro p e s m below meth c A X hrt hnm
  obtain ⟨C, D, hC0, hD0, F, I, K⟩ : ∃ C D, C = C0 ∧ D = D0 ∧ WI L M a act (ent cy a C D R) ∧ Inv C ∧ Kp [1, 13, 15, 16] C0 D0 C D := ⟨C0, D0, rfl, rfl, F, I, Kp.rf⟩
  refine g_aload_n X dX6_readRoad_0 rfl (j := 0) rfl ?_
  refine g_aload_n X dX6_readRoad_1 rfl (j := 1) rfl ?_
  refine i_get X F 13 rfl rfl fk_X6_129 dX6_readRoad_2 rfl ?_
  refine Go.gen (fun o1 => ?_)
  refine g_bipush X dX6_readRoad_5 (v := 16) (by decide) ?_
  refine g_callVV X (s_X6_takeWordOfFew l G F I o1 (16 : Int32) ) lk_X6_116 (F.1 1 rfl).2 (F.1 1 rfl).1 rfl rfl dX6_readRoad_7 (Nat.le_of_ble_eq_true rfl) ⟨by decide, by decide⟩ ⟨by decide, by decide⟩ (fun L M hp => ?_)
  obtain ⟨C, D, F, I, K1, hr⟩ := hp
  have K := K.step K1 (by decide)
  refine g_aload_n X dX6_readRoad_10 rfl (j := 0) rfl ?_
  refine g_iconst X dX6_readRoad_11 (v := 0) (by decide) ?_
  refine g_aload_n X dX6_readRoad_12 rfl (j := 1) rfl ?_
  obtain ⟨n2, hn2, en2⟩ := rg_nat ((I 13 5).2.2.1 rfl) (by decide)
  refine i_get X F 13 rfl rfl fk_X6_126 dX6_readRoad_13 (v := .int (nI n2)) (congrArg (fun z => some (Value.int z)) en2) ?_
  refine g_iconst X dX6_readRoad_16 (v := 1) (by decide) ?_
  refine g_isub X dX6_readRoad_17 ?_
  have hsn2 := nI_m1 (n := n2) (by omega)
  refine g_callVI X (s_X6_numberHere l G F I (0 : Int32) ((nI n2 - 1)) ) lk_X6_132 (F.1 1 rfl).2 (F.1 1 rfl).1 rfl rfl dX6_readRoad_18 (Nat.le_of_ble_eq_true rfl) ⟨by decide, by decide⟩ ⟨by decide, by decide⟩ (fun r3 L M hp => ?_)
  obtain ⟨C, D, F, I, K1, hr⟩ := hp
  have K := K.step K1 (by decide)
  obtain ⟨hr, hnum⟩ := hr
  obtain ⟨n4, hn4, rfl⟩ := num_nat (B := 6) (by decide) hnum (by omega)
  refine g_istore_n X dX6_readRoad_21 rfl (by decide) (lv2 := [(2, .int (nI n4)), (0, .ref (a 1)), (1, .ref (a 13))]) rfl ?_
  refine g_aload_n X dX6_readRoad_22 rfl (j := 1) rfl ?_
  obtain ⟨o5, eo5⟩ : ∃ z, C 1 2 = z := ⟨_, rfl⟩
  refine i_get X F 1 rfl rfl fk_X6_19 dX6_readRoad_23 (v := .int o5) (congrArg (fun z => some (Value.int z)) eo5) ?_
  refine g_if_ne X dX6_readRoad_26 (tgt := 44) (by decide) (fun q6 => ?_) (fun q6 => ?_)
  · skip
    have hro : C 1 2 = 0 → (C 15 n4).toInt ≤ 3 := fun z => absurd (eo5.symm.trans z) q6
    refine g_aload_n X dX6_readRoad_44 rfl (j := 1) rfl ?_
    refine g_callVV X (s_X6_take l G F I  ) lk_X6_42 (F.1 1 rfl).2 (F.1 1 rfl).1 rfl rfl dX6_readRoad_45 (Nat.le_of_ble_eq_true rfl) ⟨by decide, by decide⟩ ⟨by decide, by decide⟩ (fun L M hp => ?_)
    obtain ⟨C, D, F, I, K1, hr⟩ := hp
    have K := K.step K1 (by decide)
    have hro : C 1 2 = 0 → (C 15 n4).toInt ≤ 3 := fun z => by rw [(K1 15 (by decide)).1]; exact hro (hr.symm.trans z)
    refine g_aload_n X dX6_readRoad_48 rfl (j := 1) rfl ?_
    refine g_ldcS X (tx := "in") (i := 10) (by decide) dX6_readRoad_49 ?_
    refine g_callVI X (s_X6_isWord l G F I 10 (by decide) ) lk_X6_57 (F.1 1 rfl).2 (F.1 1 rfl).1 rfl rfl dX6_readRoad_51 (Nat.le_of_ble_eq_true rfl) ⟨by decide, by decide⟩ ⟨by decide, by decide⟩ (fun r7 L M hp => ?_)
    obtain ⟨C, D, F, I, K1, hr⟩ := hp
    have K := K.step K1 (by decide)
    have hro : C 1 2 = 0 → (C 15 n4).toInt ≤ 3 := fun z => by rw [(K1 15 (by decide)).1]; exact hro ((congrFun (K1 1 (by decide)).1 2).symm.trans z)
    rcases hr with rfl | rfl
    · skip
      refine g_if_eq X dX6_readRoad_54 (tgt := 79) (by decide) (fun _ => ?_) (fun q => absurd (by decide) q)
      refine g_aload_n X dX6_readRoad_79 rfl (j := 1) rfl ?_
      refine g_ldcS X (tx := "to") (i := 11) (by decide) dX6_readRoad_80 ?_
      refine g_callVV X (s_X6_takeWord l G F I 11 (by decide) ) lk_X6_95 (F.1 1 rfl).2 (F.1 1 rfl).1 rfl rfl dX6_readRoad_82 (Nat.le_of_ble_eq_true rfl) ⟨by decide, by decide⟩ ⟨by decide, by decide⟩ (fun L M hp => ?_)
      obtain ⟨C, D, F, I, K1, hr⟩ := hp
      have K := K.step K1 (by decide)
      have hro : C 1 2 = 0 → (C 15 n4).toInt ≤ 3 := fun z => by rw [(K1 15 (by decide)).1]; exact hro (hr z)
      refine g_aload_n X dX6_readRoad_85 rfl (j := 1) rfl ?_
      refine g_iconst X dX6_readRoad_86 (v := 0) (by decide) ?_
      refine g_aload_n X dX6_readRoad_87 rfl (j := 2) rfl ?_
      obtain ⟨n8, hn8, en8⟩ := rg_nat ((I 13 5).2.2.1 rfl) (by decide)
      refine i_get X F 13 rfl rfl fk_X6_126 dX6_readRoad_88 (v := .int (nI n8)) (congrArg (fun z => some (Value.int z)) en8) ?_
      refine g_iconst X dX6_readRoad_91 (v := 1) (by decide) ?_
      refine g_isub X dX6_readRoad_92 ?_
      have hsn8 := nI_m1 (n := n8) (by omega)
      refine g_callVI X (s_X6_numberHere l G F I (0 : Int32) ((nI n8 - 1)) ) lk_X6_132 (F.1 1 rfl).2 (F.1 1 rfl).1 rfl rfl dX6_readRoad_93 (Nat.le_of_ble_eq_true rfl) ⟨by decide, by decide⟩ ⟨by decide, by decide⟩ (fun r9 L M hp => ?_)
      obtain ⟨C, D, F, I, K1, hr⟩ := hp
      have K := K.step K1 (by decide)
      obtain ⟨hr, hnum⟩ := hr
      have hro : C 1 2 = 0 → (C 15 n4).toInt ≤ 3 := fun z => by rw [(K1 15 (by decide)).1]; exact hro (hr z)
      obtain ⟨n10, hn10, rfl⟩ := num_nat (B := 6) (by decide) hnum (by omega)
      refine g_istore_n X dX6_readRoad_96 rfl (by decide) (lv2 := [(3, .int (nI n10)), (2, .int (nI n4)), (0, .ref (a 1)), (1, .ref (a 13))]) rfl ?_
      refine g_iload_n X dX6_readRoad_97 rfl (j := 0) rfl ?_
      refine g_iload_n X dX6_readRoad_98 rfl (j := 1) rfl ?_
      refine g_icmp_ne X dX6_readRoad_99 (tgt := 107) (by decide) (fun q11 => ?_) (fun q11 => ?_)
      · skip
        have q11 : ¬ n10 = n4 := fun z => q11 ((nI_eq (a := n10) (b := n4) (by omega) (by omega)).mpr z)
        refine g_aload_n X dX6_readRoad_107 rfl (j := 2) rfl ?_
        refine g_callVV X (s_X6_take l G F I  ) lk_X6_42 (F.1 1 rfl).2 (F.1 1 rfl).1 rfl rfl dX6_readRoad_108 (Nat.le_of_ble_eq_true rfl) ⟨by decide, by decide⟩ ⟨by decide, by decide⟩ (fun L M hp => ?_)
        obtain ⟨C, D, F, I, K1, hr⟩ := hp
        have K := K.step K1 (by decide)
        have hro : C 1 2 = 0 → (C 15 n4).toInt ≤ 3 := fun z => by rw [(K1 15 (by decide)).1]; exact hro (hr.symm.trans z)
        refine g_aload_n X dX6_readRoad_111 rfl (j := 2) rfl ?_
        obtain ⟨o12, eo12⟩ : ∃ z, C 1 2 = z := ⟨_, rfl⟩
        refine i_get X F 1 rfl rfl fk_X6_19 dX6_readRoad_112 (v := .int o12) (congrArg (fun z => some (Value.int z)) eo12) ?_
        refine g_if_ne X dX6_readRoad_115 (tgt := 124) (by decide) (fun q13 => ?_) (fun q13 => ?_)
        · skip
          exact g_vret X hrt dX6_readRoad_124 (by decide) (by decide) ⟨C, D, F, I, K, trivial⟩
        · skip
          subst q13
          have hroy := hro eo12
          refine g_aload_n X dX6_readRoad_118 rfl (j := 3) rfl ?_
          refine g_iload_n X dX6_readRoad_119 rfl (j := 1) rfl ?_
          refine g_iload_n X dX6_readRoad_120 rfl (j := 0) rfl ?_
          refine g_callVV X (s_X2_addRoad l G F I n4 (by omega) (by omega) n10 (by omega) hroy) lk_X6_142 (F.1 13 rfl).2 (F.1 13 rfl).1 rfl rfl dX6_readRoad_121 (Nat.le_of_ble_eq_true rfl) ⟨by decide, by decide⟩ ⟨by decide, by decide⟩ (fun L M hp => ?_)
          obtain ⟨C, D, F, I, K1, hr⟩ := hp
          have K := K.step K1 (by decide)
          have eo12 : C 1 2 = 0 := (congrFun (K1 1 (by decide)).1 2).trans eo12
          exact g_vret X hrt dX6_readRoad_124 (by decide) (by decide) ⟨C, D, F, I, K, trivial⟩
      · skip
        have q11 : n10 = n4 := (nI_eq (a := n10) (b := n4) (by omega) (by omega)).mp q11
        refine g_aload_n X dX6_readRoad_102 rfl (j := 2) rfl ?_
        refine g_iconst X dX6_readRoad_103 (v := 2) (by decide) ?_
        refine g_callVV X (s_X6_fail l G F I (2 : Int32) (by decide)) lk_X6_64 (F.1 1 rfl).2 (F.1 1 rfl).1 rfl rfl dX6_readRoad_104 (Nat.le_of_ble_eq_true rfl) ⟨by decide, by decide⟩ ⟨by decide, by decide⟩ (fun L M hp => ?_)
        obtain ⟨C, D, F, I, K1, hr⟩ := hp
        have K := K.step K1 (by decide)
        have hro : C 1 2 = 0 → (C 15 n4).toInt ≤ 3 := fun z => by rw [(K1 15 (by decide)).1]; exact absurd z hr
        refine g_aload_n X dX6_readRoad_107 rfl (j := 2) rfl ?_
        refine g_callVV X (s_X6_take l G F I  ) lk_X6_42 (F.1 1 rfl).2 (F.1 1 rfl).1 rfl rfl dX6_readRoad_108 (Nat.le_of_ble_eq_true rfl) ⟨by decide, by decide⟩ ⟨by decide, by decide⟩ (fun L M hp => ?_)
        obtain ⟨C, D, F, I, K1, hr⟩ := hp
        have K := K.step K1 (by decide)
        have hro : C 1 2 = 0 → (C 15 n4).toInt ≤ 3 := fun z => by rw [(K1 15 (by decide)).1]; exact hro (hr.symm.trans z)
        refine g_aload_n X dX6_readRoad_111 rfl (j := 2) rfl ?_
        obtain ⟨o14, eo14⟩ : ∃ z, C 1 2 = z := ⟨_, rfl⟩
        refine i_get X F 1 rfl rfl fk_X6_19 dX6_readRoad_112 (v := .int o14) (congrArg (fun z => some (Value.int z)) eo14) ?_
        refine g_if_ne X dX6_readRoad_115 (tgt := 124) (by decide) (fun q15 => ?_) (fun q15 => ?_)
        · skip
          exact g_vret X hrt dX6_readRoad_124 (by decide) (by decide) ⟨C, D, F, I, K, trivial⟩
        · skip
          subst q15
          have hroy := hro eo14
          refine g_aload_n X dX6_readRoad_118 rfl (j := 3) rfl ?_
          refine g_iload_n X dX6_readRoad_119 rfl (j := 1) rfl ?_
          refine g_iload_n X dX6_readRoad_120 rfl (j := 0) rfl ?_
          refine g_callVV X (s_X2_addRoad l G F I n4 (by omega) (by omega) n10 (by omega) hroy) lk_X6_142 (F.1 13 rfl).2 (F.1 13 rfl).1 rfl rfl dX6_readRoad_121 (Nat.le_of_ble_eq_true rfl) ⟨by decide, by decide⟩ ⟨by decide, by decide⟩ (fun L M hp => ?_)
          obtain ⟨C, D, F, I, K1, hr⟩ := hp
          have K := K.step K1 (by decide)
          have eo14 : C 1 2 = 0 := (congrFun (K1 1 (by decide)).1 2).trans eo14
          exact g_vret X hrt dX6_readRoad_124 (by decide) (by decide) ⟨C, D, F, I, K, trivial⟩
    · skip
      refine g_if_eq X dX6_readRoad_54 (tgt := 79) (by decide) (fun q => absurd q (by decide)) (fun _ => ?_)
      refine g_aload_n X dX6_readRoad_57 rfl (j := 1) rfl ?_
      refine g_callVV X (s_X6_take l G F I  ) lk_X6_42 (F.1 1 rfl).2 (F.1 1 rfl).1 rfl rfl dX6_readRoad_58 (Nat.le_of_ble_eq_true rfl) ⟨by decide, by decide⟩ ⟨by decide, by decide⟩ (fun L M hp => ?_)
      obtain ⟨C, D, F, I, K1, hr⟩ := hp
      have K := K.step K1 (by decide)
      have hro : C 1 2 = 0 → (C 15 n4).toInt ≤ 3 := fun z => by rw [(K1 15 (by decide)).1]; exact hro (hr.symm.trans z)
      refine g_bipush X dX6_readRoad_61 (v := 10) (by decide) ?_
      refine g_aload_n X dX6_readRoad_63 rfl (j := 1) rfl ?_
      refine g_iconst X dX6_readRoad_64 (v := 0) (by decide) ?_
      refine g_aload_n X dX6_readRoad_65 rfl (j := 2) rfl ?_
      obtain ⟨n16, hn16, en16⟩ := rg_nat ((I 13 4).2.1 rfl) (by decide)
      refine i_get X F 13 rfl rfl fk_X6_113 dX6_readRoad_66 (v := .int (nI n16)) (congrArg (fun z => some (Value.int z)) en16) ?_
      refine g_iconst X dX6_readRoad_69 (v := 1) (by decide) ?_
      refine g_isub X dX6_readRoad_70 ?_
      have hsn16 := nI_m1 (n := n16) (by omega)
      refine g_callVI X (s_X6_takeNumber l G F I (0 : Int32) ((nI n16 - 1)) ) lk_X6_99 (F.1 1 rfl).2 (F.1 1 rfl).1 rfl rfl dX6_readRoad_71 (Nat.le_of_ble_eq_true rfl) ⟨by decide, by decide⟩ ⟨by decide, by decide⟩ (fun r17 L M hp => ?_)
      obtain ⟨C, D, F, I, K1, hr⟩ := hp
      have K := K.step K1 (by decide)
      obtain ⟨hr, hnum⟩ := hr
      have hro : C 1 2 = 0 → (C 15 n4).toInt ≤ 3 := fun z => by rw [(K1 15 (by decide)).1]; exact hro (hr z)
      obtain ⟨n18, hn18, rfl⟩ := num_nat (B := 3) (by decide) hnum (by omega)
      refine g_iadd X dX6_readRoad_74 ?_
      refine Go.top (v := .int (nI (10 + n18))) (congrArg Value.int (nI_add 10 n18)) ?_
      refine g_istore_n X dX6_readRoad_75 rfl (by decide) (lv2 := [(3, .int (nI (10 + n18))), (2, .int (nI n4)), (0, .ref (a 1)), (1, .ref (a 13))]) rfl ?_
      refine g_goto X dX6_readRoad_76 (tgt := 111) (by decide) ?_
      refine g_aload_n X dX6_readRoad_111 rfl (j := 2) rfl ?_
      obtain ⟨o19, eo19⟩ : ∃ z, C 1 2 = z := ⟨_, rfl⟩
      refine i_get X F 1 rfl rfl fk_X6_19 dX6_readRoad_112 (v := .int o19) (congrArg (fun z => some (Value.int z)) eo19) ?_
      refine g_if_ne X dX6_readRoad_115 (tgt := 124) (by decide) (fun q20 => ?_) (fun q20 => ?_)
      · skip
        exact g_vret X hrt dX6_readRoad_124 (by decide) (by decide) ⟨C, D, F, I, K, trivial⟩
      · skip
        subst q20
        have hroy := hro eo19
        refine g_aload_n X dX6_readRoad_118 rfl (j := 3) rfl ?_
        refine g_iload_n X dX6_readRoad_119 rfl (j := 1) rfl ?_
        refine g_iload_n X dX6_readRoad_120 rfl (j := 0) rfl ?_
        refine g_callVV X (s_X2_addRoad l G F I n4 (by omega) (by omega) (10 + n18) (by omega) hroy) lk_X6_142 (F.1 13 rfl).2 (F.1 13 rfl).1 rfl rfl dX6_readRoad_121 (Nat.le_of_ble_eq_true rfl) ⟨by decide, by decide⟩ ⟨by decide, by decide⟩ (fun L M hp => ?_)
        obtain ⟨C, D, F, I, K1, hr⟩ := hp
        have K := K.step K1 (by decide)
        have eo19 : C 1 2 = 0 := (congrFun (K1 1 (by decide)).1 2).trans eo19
        exact g_vret X hrt dX6_readRoad_124 (by decide) (by decide) ⟨C, D, F, I, K, trivial⟩
  · skip
    subst q6
    refine g_aload_n X dX6_readRoad_29 rfl (j := 2) rfl ?_
    refine i_get X F 13 rfl rfl fk_X6_135 dX6_readRoad_30 rfl ?_
    refine g_iload_n X dX6_readRoad_33 rfl (j := 0) rfl ?_
    obtain ⟨n21, hn21, en21⟩ := rg_nat (I 15 n4) (by decide)
    refine i_iald X F 15 rfl rfl dX6_readRoad_34 (vp_in_nI (by omega) (by decide)) (v := nI n21) (by rw [nI_clamp (by omega)]; exact en21) ?_
    refine g_iconst X dX6_readRoad_35 (v := 4) (by decide) ?_
    refine g_icmp_ne X dX6_readRoad_36 (tgt := 44) (by decide) (fun q22 => ?_) (fun q22 => ?_)
    · skip
      have hro : C 1 2 = 0 → (C 15 n4).toInt ≤ 3 := fun _ => by have z := nI_neI (a := n21) (b := 4) (by omega) (by omega) q22; rw [en21, nI_toInt (by omega)]; omega
      refine g_aload_n X dX6_readRoad_44 rfl (j := 1) rfl ?_
      refine g_callVV X (s_X6_take l G F I  ) lk_X6_42 (F.1 1 rfl).2 (F.1 1 rfl).1 rfl rfl dX6_readRoad_45 (Nat.le_of_ble_eq_true rfl) ⟨by decide, by decide⟩ ⟨by decide, by decide⟩ (fun L M hp => ?_)
      obtain ⟨C, D, F, I, K1, hr⟩ := hp
      have K := K.step K1 (by decide)
      have hro : C 1 2 = 0 → (C 15 n4).toInt ≤ 3 := fun z => by rw [(K1 15 (by decide)).1]; exact hro (hr.symm.trans z)
      refine g_aload_n X dX6_readRoad_48 rfl (j := 1) rfl ?_
      refine g_ldcS X (tx := "in") (i := 10) (by decide) dX6_readRoad_49 ?_
      refine g_callVI X (s_X6_isWord l G F I 10 (by decide) ) lk_X6_57 (F.1 1 rfl).2 (F.1 1 rfl).1 rfl rfl dX6_readRoad_51 (Nat.le_of_ble_eq_true rfl) ⟨by decide, by decide⟩ ⟨by decide, by decide⟩ (fun r23 L M hp => ?_)
      obtain ⟨C, D, F, I, K1, hr⟩ := hp
      have K := K.step K1 (by decide)
      have hro : C 1 2 = 0 → (C 15 n4).toInt ≤ 3 := fun z => by rw [(K1 15 (by decide)).1]; exact hro ((congrFun (K1 1 (by decide)).1 2).symm.trans z)
      rcases hr with rfl | rfl
      · skip
        refine g_if_eq X dX6_readRoad_54 (tgt := 79) (by decide) (fun _ => ?_) (fun q => absurd (by decide) q)
        refine g_aload_n X dX6_readRoad_79 rfl (j := 1) rfl ?_
        refine g_ldcS X (tx := "to") (i := 11) (by decide) dX6_readRoad_80 ?_
        refine g_callVV X (s_X6_takeWord l G F I 11 (by decide) ) lk_X6_95 (F.1 1 rfl).2 (F.1 1 rfl).1 rfl rfl dX6_readRoad_82 (Nat.le_of_ble_eq_true rfl) ⟨by decide, by decide⟩ ⟨by decide, by decide⟩ (fun L M hp => ?_)
        obtain ⟨C, D, F, I, K1, hr⟩ := hp
        have K := K.step K1 (by decide)
        have hro : C 1 2 = 0 → (C 15 n4).toInt ≤ 3 := fun z => by rw [(K1 15 (by decide)).1]; exact hro (hr z)
        refine g_aload_n X dX6_readRoad_85 rfl (j := 1) rfl ?_
        refine g_iconst X dX6_readRoad_86 (v := 0) (by decide) ?_
        refine g_aload_n X dX6_readRoad_87 rfl (j := 2) rfl ?_
        obtain ⟨n24, hn24, en24⟩ := rg_nat ((I 13 5).2.2.1 rfl) (by decide)
        refine i_get X F 13 rfl rfl fk_X6_126 dX6_readRoad_88 (v := .int (nI n24)) (congrArg (fun z => some (Value.int z)) en24) ?_
        refine g_iconst X dX6_readRoad_91 (v := 1) (by decide) ?_
        refine g_isub X dX6_readRoad_92 ?_
        have hsn24 := nI_m1 (n := n24) (by omega)
        refine g_callVI X (s_X6_numberHere l G F I (0 : Int32) ((nI n24 - 1)) ) lk_X6_132 (F.1 1 rfl).2 (F.1 1 rfl).1 rfl rfl dX6_readRoad_93 (Nat.le_of_ble_eq_true rfl) ⟨by decide, by decide⟩ ⟨by decide, by decide⟩ (fun r25 L M hp => ?_)
        obtain ⟨C, D, F, I, K1, hr⟩ := hp
        have K := K.step K1 (by decide)
        obtain ⟨hr, hnum⟩ := hr
        have hro : C 1 2 = 0 → (C 15 n4).toInt ≤ 3 := fun z => by rw [(K1 15 (by decide)).1]; exact hro (hr z)
        obtain ⟨n26, hn26, rfl⟩ := num_nat (B := 6) (by decide) hnum (by omega)
        refine g_istore_n X dX6_readRoad_96 rfl (by decide) (lv2 := [(3, .int (nI n26)), (2, .int (nI n4)), (0, .ref (a 1)), (1, .ref (a 13))]) rfl ?_
        refine g_iload_n X dX6_readRoad_97 rfl (j := 0) rfl ?_
        refine g_iload_n X dX6_readRoad_98 rfl (j := 1) rfl ?_
        refine g_icmp_ne X dX6_readRoad_99 (tgt := 107) (by decide) (fun q27 => ?_) (fun q27 => ?_)
        · skip
          have q27 : ¬ n26 = n4 := fun z => q27 ((nI_eq (a := n26) (b := n4) (by omega) (by omega)).mpr z)
          refine g_aload_n X dX6_readRoad_107 rfl (j := 2) rfl ?_
          refine g_callVV X (s_X6_take l G F I  ) lk_X6_42 (F.1 1 rfl).2 (F.1 1 rfl).1 rfl rfl dX6_readRoad_108 (Nat.le_of_ble_eq_true rfl) ⟨by decide, by decide⟩ ⟨by decide, by decide⟩ (fun L M hp => ?_)
          obtain ⟨C, D, F, I, K1, hr⟩ := hp
          have K := K.step K1 (by decide)
          have hro : C 1 2 = 0 → (C 15 n4).toInt ≤ 3 := fun z => by rw [(K1 15 (by decide)).1]; exact hro (hr.symm.trans z)
          refine g_aload_n X dX6_readRoad_111 rfl (j := 2) rfl ?_
          obtain ⟨o28, eo28⟩ : ∃ z, C 1 2 = z := ⟨_, rfl⟩
          refine i_get X F 1 rfl rfl fk_X6_19 dX6_readRoad_112 (v := .int o28) (congrArg (fun z => some (Value.int z)) eo28) ?_
          refine g_if_ne X dX6_readRoad_115 (tgt := 124) (by decide) (fun q29 => ?_) (fun q29 => ?_)
          · skip
            exact g_vret X hrt dX6_readRoad_124 (by decide) (by decide) ⟨C, D, F, I, K, trivial⟩
          · skip
            subst q29
            have hroy := hro eo28
            refine g_aload_n X dX6_readRoad_118 rfl (j := 3) rfl ?_
            refine g_iload_n X dX6_readRoad_119 rfl (j := 1) rfl ?_
            refine g_iload_n X dX6_readRoad_120 rfl (j := 0) rfl ?_
            refine g_callVV X (s_X2_addRoad l G F I n4 (by omega) (by omega) n26 (by omega) hroy) lk_X6_142 (F.1 13 rfl).2 (F.1 13 rfl).1 rfl rfl dX6_readRoad_121 (Nat.le_of_ble_eq_true rfl) ⟨by decide, by decide⟩ ⟨by decide, by decide⟩ (fun L M hp => ?_)
            obtain ⟨C, D, F, I, K1, hr⟩ := hp
            have K := K.step K1 (by decide)
            have eo28 : C 1 2 = 0 := (congrFun (K1 1 (by decide)).1 2).trans eo28
            exact g_vret X hrt dX6_readRoad_124 (by decide) (by decide) ⟨C, D, F, I, K, trivial⟩
        · skip
          have q27 : n26 = n4 := (nI_eq (a := n26) (b := n4) (by omega) (by omega)).mp q27
          refine g_aload_n X dX6_readRoad_102 rfl (j := 2) rfl ?_
          refine g_iconst X dX6_readRoad_103 (v := 2) (by decide) ?_
          refine g_callVV X (s_X6_fail l G F I (2 : Int32) (by decide)) lk_X6_64 (F.1 1 rfl).2 (F.1 1 rfl).1 rfl rfl dX6_readRoad_104 (Nat.le_of_ble_eq_true rfl) ⟨by decide, by decide⟩ ⟨by decide, by decide⟩ (fun L M hp => ?_)
          obtain ⟨C, D, F, I, K1, hr⟩ := hp
          have K := K.step K1 (by decide)
          have hro : C 1 2 = 0 → (C 15 n4).toInt ≤ 3 := fun z => by rw [(K1 15 (by decide)).1]; exact absurd z hr
          refine g_aload_n X dX6_readRoad_107 rfl (j := 2) rfl ?_
          refine g_callVV X (s_X6_take l G F I  ) lk_X6_42 (F.1 1 rfl).2 (F.1 1 rfl).1 rfl rfl dX6_readRoad_108 (Nat.le_of_ble_eq_true rfl) ⟨by decide, by decide⟩ ⟨by decide, by decide⟩ (fun L M hp => ?_)
          obtain ⟨C, D, F, I, K1, hr⟩ := hp
          have K := K.step K1 (by decide)
          have hro : C 1 2 = 0 → (C 15 n4).toInt ≤ 3 := fun z => by rw [(K1 15 (by decide)).1]; exact hro (hr.symm.trans z)
          refine g_aload_n X dX6_readRoad_111 rfl (j := 2) rfl ?_
          obtain ⟨o30, eo30⟩ : ∃ z, C 1 2 = z := ⟨_, rfl⟩
          refine i_get X F 1 rfl rfl fk_X6_19 dX6_readRoad_112 (v := .int o30) (congrArg (fun z => some (Value.int z)) eo30) ?_
          refine g_if_ne X dX6_readRoad_115 (tgt := 124) (by decide) (fun q31 => ?_) (fun q31 => ?_)
          · skip
            exact g_vret X hrt dX6_readRoad_124 (by decide) (by decide) ⟨C, D, F, I, K, trivial⟩
          · skip
            subst q31
            have hroy := hro eo30
            refine g_aload_n X dX6_readRoad_118 rfl (j := 3) rfl ?_
            refine g_iload_n X dX6_readRoad_119 rfl (j := 1) rfl ?_
            refine g_iload_n X dX6_readRoad_120 rfl (j := 0) rfl ?_
            refine g_callVV X (s_X2_addRoad l G F I n4 (by omega) (by omega) n26 (by omega) hroy) lk_X6_142 (F.1 13 rfl).2 (F.1 13 rfl).1 rfl rfl dX6_readRoad_121 (Nat.le_of_ble_eq_true rfl) ⟨by decide, by decide⟩ ⟨by decide, by decide⟩ (fun L M hp => ?_)
            obtain ⟨C, D, F, I, K1, hr⟩ := hp
            have K := K.step K1 (by decide)
            have eo30 : C 1 2 = 0 := (congrFun (K1 1 (by decide)).1 2).trans eo30
            exact g_vret X hrt dX6_readRoad_124 (by decide) (by decide) ⟨C, D, F, I, K, trivial⟩
      · skip
        refine g_if_eq X dX6_readRoad_54 (tgt := 79) (by decide) (fun q => absurd q (by decide)) (fun _ => ?_)
        refine g_aload_n X dX6_readRoad_57 rfl (j := 1) rfl ?_
        refine g_callVV X (s_X6_take l G F I  ) lk_X6_42 (F.1 1 rfl).2 (F.1 1 rfl).1 rfl rfl dX6_readRoad_58 (Nat.le_of_ble_eq_true rfl) ⟨by decide, by decide⟩ ⟨by decide, by decide⟩ (fun L M hp => ?_)
        obtain ⟨C, D, F, I, K1, hr⟩ := hp
        have K := K.step K1 (by decide)
        have hro : C 1 2 = 0 → (C 15 n4).toInt ≤ 3 := fun z => by rw [(K1 15 (by decide)).1]; exact hro (hr.symm.trans z)
        refine g_bipush X dX6_readRoad_61 (v := 10) (by decide) ?_
        refine g_aload_n X dX6_readRoad_63 rfl (j := 1) rfl ?_
        refine g_iconst X dX6_readRoad_64 (v := 0) (by decide) ?_
        refine g_aload_n X dX6_readRoad_65 rfl (j := 2) rfl ?_
        obtain ⟨n32, hn32, en32⟩ := rg_nat ((I 13 4).2.1 rfl) (by decide)
        refine i_get X F 13 rfl rfl fk_X6_113 dX6_readRoad_66 (v := .int (nI n32)) (congrArg (fun z => some (Value.int z)) en32) ?_
        refine g_iconst X dX6_readRoad_69 (v := 1) (by decide) ?_
        refine g_isub X dX6_readRoad_70 ?_
        have hsn32 := nI_m1 (n := n32) (by omega)
        refine g_callVI X (s_X6_takeNumber l G F I (0 : Int32) ((nI n32 - 1)) ) lk_X6_99 (F.1 1 rfl).2 (F.1 1 rfl).1 rfl rfl dX6_readRoad_71 (Nat.le_of_ble_eq_true rfl) ⟨by decide, by decide⟩ ⟨by decide, by decide⟩ (fun r33 L M hp => ?_)
        obtain ⟨C, D, F, I, K1, hr⟩ := hp
        have K := K.step K1 (by decide)
        obtain ⟨hr, hnum⟩ := hr
        have hro : C 1 2 = 0 → (C 15 n4).toInt ≤ 3 := fun z => by rw [(K1 15 (by decide)).1]; exact hro (hr z)
        obtain ⟨n34, hn34, rfl⟩ := num_nat (B := 3) (by decide) hnum (by omega)
        refine g_iadd X dX6_readRoad_74 ?_
        refine Go.top (v := .int (nI (10 + n34))) (congrArg Value.int (nI_add 10 n34)) ?_
        refine g_istore_n X dX6_readRoad_75 rfl (by decide) (lv2 := [(3, .int (nI (10 + n34))), (2, .int (nI n4)), (0, .ref (a 1)), (1, .ref (a 13))]) rfl ?_
        refine g_goto X dX6_readRoad_76 (tgt := 111) (by decide) ?_
        refine g_aload_n X dX6_readRoad_111 rfl (j := 2) rfl ?_
        obtain ⟨o35, eo35⟩ : ∃ z, C 1 2 = z := ⟨_, rfl⟩
        refine i_get X F 1 rfl rfl fk_X6_19 dX6_readRoad_112 (v := .int o35) (congrArg (fun z => some (Value.int z)) eo35) ?_
        refine g_if_ne X dX6_readRoad_115 (tgt := 124) (by decide) (fun q36 => ?_) (fun q36 => ?_)
        · skip
          exact g_vret X hrt dX6_readRoad_124 (by decide) (by decide) ⟨C, D, F, I, K, trivial⟩
        · skip
          subst q36
          have hroy := hro eo35
          refine g_aload_n X dX6_readRoad_118 rfl (j := 3) rfl ?_
          refine g_iload_n X dX6_readRoad_119 rfl (j := 1) rfl ?_
          refine g_iload_n X dX6_readRoad_120 rfl (j := 0) rfl ?_
          refine g_callVV X (s_X2_addRoad l G F I n4 (by omega) (by omega) (10 + n34) (by omega) hroy) lk_X6_142 (F.1 13 rfl).2 (F.1 13 rfl).1 rfl rfl dX6_readRoad_121 (Nat.le_of_ble_eq_true rfl) ⟨by decide, by decide⟩ ⟨by decide, by decide⟩ (fun L M hp => ?_)
          obtain ⟨C, D, F, I, K1, hr⟩ := hp
          have K := K.step K1 (by decide)
          have eo35 : C 1 2 = 0 := (congrFun (K1 1 (by decide)).1 2).trans eo35
          exact g_vret X hrt dX6_readRoad_124 (by decide) (by decide) ⟨C, D, F, I, K, trivial⟩
    · skip
      refine g_aload_n X dX6_readRoad_39 rfl (j := 1) rfl ?_
      refine g_iconst X dX6_readRoad_40 (v := 3) (by decide) ?_
      refine g_callVV X (s_X6_fail l G F I (3 : Int32) (by decide)) lk_X6_64 (F.1 1 rfl).2 (F.1 1 rfl).1 rfl rfl dX6_readRoad_41 (Nat.le_of_ble_eq_true rfl) ⟨by decide, by decide⟩ ⟨by decide, by decide⟩ (fun L M hp => ?_)
      obtain ⟨C, D, F, I, K1, hr⟩ := hp
      have K := K.step K1 (by decide)
      have hro : C 1 2 = 0 → (C 15 n4).toInt ≤ 3 := fun z => absurd z hr
      refine g_aload_n X dX6_readRoad_44 rfl (j := 1) rfl ?_
      refine g_callVV X (s_X6_take l G F I  ) lk_X6_42 (F.1 1 rfl).2 (F.1 1 rfl).1 rfl rfl dX6_readRoad_45 (Nat.le_of_ble_eq_true rfl) ⟨by decide, by decide⟩ ⟨by decide, by decide⟩ (fun L M hp => ?_)
      obtain ⟨C, D, F, I, K1, hr⟩ := hp
      have K := K.step K1 (by decide)
      have hro : C 1 2 = 0 → (C 15 n4).toInt ≤ 3 := fun z => by rw [(K1 15 (by decide)).1]; exact hro (hr.symm.trans z)
      refine g_aload_n X dX6_readRoad_48 rfl (j := 1) rfl ?_
      refine g_ldcS X (tx := "in") (i := 10) (by decide) dX6_readRoad_49 ?_
      refine g_callVI X (s_X6_isWord l G F I 10 (by decide) ) lk_X6_57 (F.1 1 rfl).2 (F.1 1 rfl).1 rfl rfl dX6_readRoad_51 (Nat.le_of_ble_eq_true rfl) ⟨by decide, by decide⟩ ⟨by decide, by decide⟩ (fun r37 L M hp => ?_)
      obtain ⟨C, D, F, I, K1, hr⟩ := hp
      have K := K.step K1 (by decide)
      have hro : C 1 2 = 0 → (C 15 n4).toInt ≤ 3 := fun z => by rw [(K1 15 (by decide)).1]; exact hro ((congrFun (K1 1 (by decide)).1 2).symm.trans z)
      rcases hr with rfl | rfl
      · skip
        refine g_if_eq X dX6_readRoad_54 (tgt := 79) (by decide) (fun _ => ?_) (fun q => absurd (by decide) q)
        refine g_aload_n X dX6_readRoad_79 rfl (j := 1) rfl ?_
        refine g_ldcS X (tx := "to") (i := 11) (by decide) dX6_readRoad_80 ?_
        refine g_callVV X (s_X6_takeWord l G F I 11 (by decide) ) lk_X6_95 (F.1 1 rfl).2 (F.1 1 rfl).1 rfl rfl dX6_readRoad_82 (Nat.le_of_ble_eq_true rfl) ⟨by decide, by decide⟩ ⟨by decide, by decide⟩ (fun L M hp => ?_)
        obtain ⟨C, D, F, I, K1, hr⟩ := hp
        have K := K.step K1 (by decide)
        have hro : C 1 2 = 0 → (C 15 n4).toInt ≤ 3 := fun z => by rw [(K1 15 (by decide)).1]; exact hro (hr z)
        refine g_aload_n X dX6_readRoad_85 rfl (j := 1) rfl ?_
        refine g_iconst X dX6_readRoad_86 (v := 0) (by decide) ?_
        refine g_aload_n X dX6_readRoad_87 rfl (j := 2) rfl ?_
        obtain ⟨n38, hn38, en38⟩ := rg_nat ((I 13 5).2.2.1 rfl) (by decide)
        refine i_get X F 13 rfl rfl fk_X6_126 dX6_readRoad_88 (v := .int (nI n38)) (congrArg (fun z => some (Value.int z)) en38) ?_
        refine g_iconst X dX6_readRoad_91 (v := 1) (by decide) ?_
        refine g_isub X dX6_readRoad_92 ?_
        have hsn38 := nI_m1 (n := n38) (by omega)
        refine g_callVI X (s_X6_numberHere l G F I (0 : Int32) ((nI n38 - 1)) ) lk_X6_132 (F.1 1 rfl).2 (F.1 1 rfl).1 rfl rfl dX6_readRoad_93 (Nat.le_of_ble_eq_true rfl) ⟨by decide, by decide⟩ ⟨by decide, by decide⟩ (fun r39 L M hp => ?_)
        obtain ⟨C, D, F, I, K1, hr⟩ := hp
        have K := K.step K1 (by decide)
        obtain ⟨hr, hnum⟩ := hr
        have hro : C 1 2 = 0 → (C 15 n4).toInt ≤ 3 := fun z => by rw [(K1 15 (by decide)).1]; exact hro (hr z)
        obtain ⟨n40, hn40, rfl⟩ := num_nat (B := 6) (by decide) hnum (by omega)
        refine g_istore_n X dX6_readRoad_96 rfl (by decide) (lv2 := [(3, .int (nI n40)), (2, .int (nI n4)), (0, .ref (a 1)), (1, .ref (a 13))]) rfl ?_
        refine g_iload_n X dX6_readRoad_97 rfl (j := 0) rfl ?_
        refine g_iload_n X dX6_readRoad_98 rfl (j := 1) rfl ?_
        refine g_icmp_ne X dX6_readRoad_99 (tgt := 107) (by decide) (fun q41 => ?_) (fun q41 => ?_)
        · skip
          have q41 : ¬ n40 = n4 := fun z => q41 ((nI_eq (a := n40) (b := n4) (by omega) (by omega)).mpr z)
          refine g_aload_n X dX6_readRoad_107 rfl (j := 2) rfl ?_
          refine g_callVV X (s_X6_take l G F I  ) lk_X6_42 (F.1 1 rfl).2 (F.1 1 rfl).1 rfl rfl dX6_readRoad_108 (Nat.le_of_ble_eq_true rfl) ⟨by decide, by decide⟩ ⟨by decide, by decide⟩ (fun L M hp => ?_)
          obtain ⟨C, D, F, I, K1, hr⟩ := hp
          have K := K.step K1 (by decide)
          have hro : C 1 2 = 0 → (C 15 n4).toInt ≤ 3 := fun z => by rw [(K1 15 (by decide)).1]; exact hro (hr.symm.trans z)
          refine g_aload_n X dX6_readRoad_111 rfl (j := 2) rfl ?_
          obtain ⟨o42, eo42⟩ : ∃ z, C 1 2 = z := ⟨_, rfl⟩
          refine i_get X F 1 rfl rfl fk_X6_19 dX6_readRoad_112 (v := .int o42) (congrArg (fun z => some (Value.int z)) eo42) ?_
          refine g_if_ne X dX6_readRoad_115 (tgt := 124) (by decide) (fun q43 => ?_) (fun q43 => ?_)
          · skip
            exact g_vret X hrt dX6_readRoad_124 (by decide) (by decide) ⟨C, D, F, I, K, trivial⟩
          · skip
            subst q43
            have hroy := hro eo42
            refine g_aload_n X dX6_readRoad_118 rfl (j := 3) rfl ?_
            refine g_iload_n X dX6_readRoad_119 rfl (j := 1) rfl ?_
            refine g_iload_n X dX6_readRoad_120 rfl (j := 0) rfl ?_
            refine g_callVV X (s_X2_addRoad l G F I n4 (by omega) (by omega) n40 (by omega) hroy) lk_X6_142 (F.1 13 rfl).2 (F.1 13 rfl).1 rfl rfl dX6_readRoad_121 (Nat.le_of_ble_eq_true rfl) ⟨by decide, by decide⟩ ⟨by decide, by decide⟩ (fun L M hp => ?_)
            obtain ⟨C, D, F, I, K1, hr⟩ := hp
            have K := K.step K1 (by decide)
            have eo42 : C 1 2 = 0 := (congrFun (K1 1 (by decide)).1 2).trans eo42
            exact g_vret X hrt dX6_readRoad_124 (by decide) (by decide) ⟨C, D, F, I, K, trivial⟩
        · skip
          have q41 : n40 = n4 := (nI_eq (a := n40) (b := n4) (by omega) (by omega)).mp q41
          refine g_aload_n X dX6_readRoad_102 rfl (j := 2) rfl ?_
          refine g_iconst X dX6_readRoad_103 (v := 2) (by decide) ?_
          refine g_callVV X (s_X6_fail l G F I (2 : Int32) (by decide)) lk_X6_64 (F.1 1 rfl).2 (F.1 1 rfl).1 rfl rfl dX6_readRoad_104 (Nat.le_of_ble_eq_true rfl) ⟨by decide, by decide⟩ ⟨by decide, by decide⟩ (fun L M hp => ?_)
          obtain ⟨C, D, F, I, K1, hr⟩ := hp
          have K := K.step K1 (by decide)
          have hro : C 1 2 = 0 → (C 15 n4).toInt ≤ 3 := fun z => by rw [(K1 15 (by decide)).1]; exact absurd z hr
          refine g_aload_n X dX6_readRoad_107 rfl (j := 2) rfl ?_
          refine g_callVV X (s_X6_take l G F I  ) lk_X6_42 (F.1 1 rfl).2 (F.1 1 rfl).1 rfl rfl dX6_readRoad_108 (Nat.le_of_ble_eq_true rfl) ⟨by decide, by decide⟩ ⟨by decide, by decide⟩ (fun L M hp => ?_)
          obtain ⟨C, D, F, I, K1, hr⟩ := hp
          have K := K.step K1 (by decide)
          have hro : C 1 2 = 0 → (C 15 n4).toInt ≤ 3 := fun z => by rw [(K1 15 (by decide)).1]; exact hro (hr.symm.trans z)
          refine g_aload_n X dX6_readRoad_111 rfl (j := 2) rfl ?_
          obtain ⟨o44, eo44⟩ : ∃ z, C 1 2 = z := ⟨_, rfl⟩
          refine i_get X F 1 rfl rfl fk_X6_19 dX6_readRoad_112 (v := .int o44) (congrArg (fun z => some (Value.int z)) eo44) ?_
          refine g_if_ne X dX6_readRoad_115 (tgt := 124) (by decide) (fun q45 => ?_) (fun q45 => ?_)
          · skip
            exact g_vret X hrt dX6_readRoad_124 (by decide) (by decide) ⟨C, D, F, I, K, trivial⟩
          · skip
            subst q45
            have hroy := hro eo44
            refine g_aload_n X dX6_readRoad_118 rfl (j := 3) rfl ?_
            refine g_iload_n X dX6_readRoad_119 rfl (j := 1) rfl ?_
            refine g_iload_n X dX6_readRoad_120 rfl (j := 0) rfl ?_
            refine g_callVV X (s_X2_addRoad l G F I n4 (by omega) (by omega) n40 (by omega) hroy) lk_X6_142 (F.1 13 rfl).2 (F.1 13 rfl).1 rfl rfl dX6_readRoad_121 (Nat.le_of_ble_eq_true rfl) ⟨by decide, by decide⟩ ⟨by decide, by decide⟩ (fun L M hp => ?_)
            obtain ⟨C, D, F, I, K1, hr⟩ := hp
            have K := K.step K1 (by decide)
            have eo44 : C 1 2 = 0 := (congrFun (K1 1 (by decide)).1 2).trans eo44
            exact g_vret X hrt dX6_readRoad_124 (by decide) (by decide) ⟨C, D, F, I, K, trivial⟩
      · skip
        refine g_if_eq X dX6_readRoad_54 (tgt := 79) (by decide) (fun q => absurd q (by decide)) (fun _ => ?_)
        refine g_aload_n X dX6_readRoad_57 rfl (j := 1) rfl ?_
        refine g_callVV X (s_X6_take l G F I  ) lk_X6_42 (F.1 1 rfl).2 (F.1 1 rfl).1 rfl rfl dX6_readRoad_58 (Nat.le_of_ble_eq_true rfl) ⟨by decide, by decide⟩ ⟨by decide, by decide⟩ (fun L M hp => ?_)
        obtain ⟨C, D, F, I, K1, hr⟩ := hp
        have K := K.step K1 (by decide)
        have hro : C 1 2 = 0 → (C 15 n4).toInt ≤ 3 := fun z => by rw [(K1 15 (by decide)).1]; exact hro (hr.symm.trans z)
        refine g_bipush X dX6_readRoad_61 (v := 10) (by decide) ?_
        refine g_aload_n X dX6_readRoad_63 rfl (j := 1) rfl ?_
        refine g_iconst X dX6_readRoad_64 (v := 0) (by decide) ?_
        refine g_aload_n X dX6_readRoad_65 rfl (j := 2) rfl ?_
        obtain ⟨n46, hn46, en46⟩ := rg_nat ((I 13 4).2.1 rfl) (by decide)
        refine i_get X F 13 rfl rfl fk_X6_113 dX6_readRoad_66 (v := .int (nI n46)) (congrArg (fun z => some (Value.int z)) en46) ?_
        refine g_iconst X dX6_readRoad_69 (v := 1) (by decide) ?_
        refine g_isub X dX6_readRoad_70 ?_
        have hsn46 := nI_m1 (n := n46) (by omega)
        refine g_callVI X (s_X6_takeNumber l G F I (0 : Int32) ((nI n46 - 1)) ) lk_X6_99 (F.1 1 rfl).2 (F.1 1 rfl).1 rfl rfl dX6_readRoad_71 (Nat.le_of_ble_eq_true rfl) ⟨by decide, by decide⟩ ⟨by decide, by decide⟩ (fun r47 L M hp => ?_)
        obtain ⟨C, D, F, I, K1, hr⟩ := hp
        have K := K.step K1 (by decide)
        obtain ⟨hr, hnum⟩ := hr
        have hro : C 1 2 = 0 → (C 15 n4).toInt ≤ 3 := fun z => by rw [(K1 15 (by decide)).1]; exact hro (hr z)
        obtain ⟨n48, hn48, rfl⟩ := num_nat (B := 3) (by decide) hnum (by omega)
        refine g_iadd X dX6_readRoad_74 ?_
        refine Go.top (v := .int (nI (10 + n48))) (congrArg Value.int (nI_add 10 n48)) ?_
        refine g_istore_n X dX6_readRoad_75 rfl (by decide) (lv2 := [(3, .int (nI (10 + n48))), (2, .int (nI n4)), (0, .ref (a 1)), (1, .ref (a 13))]) rfl ?_
        refine g_goto X dX6_readRoad_76 (tgt := 111) (by decide) ?_
        refine g_aload_n X dX6_readRoad_111 rfl (j := 2) rfl ?_
        obtain ⟨o49, eo49⟩ : ∃ z, C 1 2 = z := ⟨_, rfl⟩
        refine i_get X F 1 rfl rfl fk_X6_19 dX6_readRoad_112 (v := .int o49) (congrArg (fun z => some (Value.int z)) eo49) ?_
        refine g_if_ne X dX6_readRoad_115 (tgt := 124) (by decide) (fun q50 => ?_) (fun q50 => ?_)
        · skip
          exact g_vret X hrt dX6_readRoad_124 (by decide) (by decide) ⟨C, D, F, I, K, trivial⟩
        · skip
          subst q50
          have hroy := hro eo49
          refine g_aload_n X dX6_readRoad_118 rfl (j := 3) rfl ?_
          refine g_iload_n X dX6_readRoad_119 rfl (j := 1) rfl ?_
          refine g_iload_n X dX6_readRoad_120 rfl (j := 0) rfl ?_
          refine g_callVV X (s_X2_addRoad l G F I n4 (by omega) (by omega) (10 + n48) (by omega) hroy) lk_X6_142 (F.1 13 rfl).2 (F.1 13 rfl).1 rfl rfl dX6_readRoad_121 (Nat.le_of_ble_eq_true rfl) ⟨by decide, by decide⟩ ⟨by decide, by decide⟩ (fun L M hp => ?_)
          obtain ⟨C, D, F, I, K1, hr⟩ := hp
          have K := K.step K1 (by decide)
          have eo49 : C 1 2 = 0 := (congrFun (K1 1 (by decide)).1 2).trans eo49
          exact g_vret X hrt dX6_readRoad_124 (by decide) (by decide) ⟨C, D, F, I, K, trivial⟩
set_option maxHeartbeats 4000000 in
set_option maxRecDepth 100000 in
theorem s_X6_readArm (l : Launch) (G : va_G) {cy : Nat → ClassId} {L : List Nat} {M : Nat → va_E} {a : Nat → Nat} {act : Nat → Bool} {C0 : Nat → Nat → Int32} {D0 : Nat → Nat → Int64} {R : Nat → Nat → Option Nat} (F : WI L M a act (ent cy a C0 D0 R)) (I : Inv C0)   : MV l G cy yX6_readArm cX6_readArm 4 none 3 0 0 [.ref (a 1), .ref (a 13)] L M (fun L2 M2 => ∃ C2 D2, WI L2 M2 a act (ent cy a C2 D2 R) ∧ Inv C2 ∧ Kp [1, 13, 17] C0 D0 C2 D2 ∧ True) := by
  refine MV.of (own := RX6) rfl (by decide) (Nat.le_of_ble_eq_true rfl) ?_
  intro p e s m below meth c A X hrt hnm
  obtain ⟨C, D, hC0, hD0, F, I, K⟩ : ∃ C D, C = C0 ∧ D = D0 ∧ WI L M a act (ent cy a C D R) ∧ Inv C ∧ Kp [1, 13, 17] C0 D0 C D := ⟨C0, D0, rfl, rfl, F, I, Kp.rf⟩
  refine g_aload_n X dX6_readArm_0 rfl (j := 0) rfl ?_
  refine g_aload_n X dX6_readArm_1 rfl (j := 1) rfl ?_
  refine i_get X F 13 rfl rfl fk_X6_145 dX6_readArm_2 rfl ?_
  refine Go.gen (fun o1 => ?_)
  refine g_bipush X dX6_readArm_5 (v := 8) (by decide) ?_
  refine g_callVV X (s_X6_takeWordOfFew l G F I o1 (8 : Int32) ) lk_X6_116 (F.1 1 rfl).2 (F.1 1 rfl).1 rfl rfl dX6_readArm_7 (Nat.le_of_ble_eq_true rfl) ⟨by decide, by decide⟩ ⟨by decide, by decide⟩ (fun L M hp => ?_)
  obtain ⟨C, D, F, I, K1, hr⟩ := hp
  have K := K.step K1 (by decide)
  refine g_aload_n X dX6_readArm_10 rfl (j := 0) rfl ?_
  refine g_iconst X dX6_readArm_11 (v := 0) (by decide) ?_
  refine g_aload_n X dX6_readArm_12 rfl (j := 1) rfl ?_
  obtain ⟨n2, hn2, en2⟩ := rg_nat ((I 13 5).2.2.1 rfl) (by decide)
  refine i_get X F 13 rfl rfl fk_X6_126 dX6_readArm_13 (v := .int (nI n2)) (congrArg (fun z => some (Value.int z)) en2) ?_
  refine g_iconst X dX6_readArm_16 (v := 1) (by decide) ?_
  refine g_isub X dX6_readArm_17 ?_
  have hsn2 := nI_m1 (n := n2) (by omega)
  refine g_callVI X (s_X6_takeNumber l G F I (0 : Int32) ((nI n2 - 1)) ) lk_X6_99 (F.1 1 rfl).2 (F.1 1 rfl).1 rfl rfl dX6_readArm_18 (Nat.le_of_ble_eq_true rfl) ⟨by decide, by decide⟩ ⟨by decide, by decide⟩ (fun r3 L M hp => ?_)
  obtain ⟨C, D, F, I, K1, hr⟩ := hp
  have K := K.step K1 (by decide)
  obtain ⟨hr, hnum⟩ := hr
  obtain ⟨n4, hn4, rfl⟩ := num_nat (B := 6) (by decide) hnum (by omega)
  refine g_istore_n X dX6_readArm_21 rfl (by decide) (lv2 := [(2, .int (nI n4)), (0, .ref (a 1)), (1, .ref (a 13))]) rfl ?_
  refine g_aload_n X dX6_readArm_22 rfl (j := 1) rfl ?_
  refine g_iconst X dX6_readArm_23 (v := 0) (by decide) ?_
  refine g_aload_n X dX6_readArm_24 rfl (j := 1) rfl ?_
  obtain ⟨o5, eo5⟩ : ∃ z, C 1 2 = z := ⟨_, rfl⟩
  refine i_get X F 1 rfl rfl fk_X6_19 dX6_readArm_25 (v := .int o5) (congrArg (fun z => some (Value.int z)) eo5) ?_
  refine g_if_ne X dX6_readArm_28 (tgt := 42) (by decide) (fun q6 => ?_) (fun q6 => ?_)
  · skip
    refine g_iconst X dX6_readArm_42 (v := 0) (by decide) ?_
    refine g_callVI X (s_X6_takeNumber l G F I (0 : Int32) (0 : Int32) ) lk_X6_99 (F.1 1 rfl).2 (F.1 1 rfl).1 rfl rfl dX6_readArm_43 (Nat.le_of_ble_eq_true rfl) ⟨by decide, by decide⟩ ⟨by decide, by decide⟩ (fun r7 L M hp => ?_)
    obtain ⟨C, D, F, I, K1, hr⟩ := hp
    have K := K.step K1 (by decide)
    obtain ⟨hr, hnum⟩ := hr
    obtain ⟨n8, hn8, rfl⟩ := num_nat (B := 0) (by decide) hnum (by have kk : (0 : Int32).toInt = 0 := (by decide); omega)
    refine g_istore_n X dX6_readArm_46 rfl (by decide) (lv2 := [(3, .int (nI n8)), (2, .int (nI n4)), (0, .ref (a 1)), (1, .ref (a 13))]) rfl ?_
    refine g_aload_n X dX6_readArm_47 rfl (j := 2) rfl ?_
    obtain ⟨o9, eo9⟩ : ∃ z, C 1 2 = z := ⟨_, rfl⟩
    refine i_get X F 1 rfl rfl fk_X6_19 dX6_readArm_48 (v := .int o9) (congrArg (fun z => some (Value.int z)) eo9) ?_
    refine g_if_ne X dX6_readArm_51 (tgt := 71) (by decide) (fun q10 => ?_) (fun q10 => ?_)
    · skip
      exact g_vret X hrt dX6_readArm_71 (by decide) (by decide) ⟨C, D, F, I, K, trivial⟩
    · skip
      subst q10
      refine g_aload_n X dX6_readArm_54 rfl (j := 3) rfl ?_
      refine i_get X F 13 rfl rfl fk_X6_148 dX6_readArm_55 rfl ?_
      refine g_iload_n X dX6_readArm_58 rfl (j := 1) rfl ?_
      refine g_iload_n X dX6_readArm_59 rfl (j := 0) rfl ?_
      refine i_iast X F I 17 rfl (fun _ => rfl) dX6_readArm_60 (vp_in_nI (by omega) (by decide)) (rg_of (n := n8) (by omega) (by omega) (by omega)) (fun M C F I K1 hC => ?_)
      have K := K.step K1 (by decide)
      have eo9 : C 1 2 = 0 := (congrFun (K1 1 (by decide)).1 2).trans eo9
      refine g_aload_n X dX6_readArm_61 rfl (j := 3) rfl ?_
      refine g_dup X dX6_readArm_62 rfl ?_
      refine i_get X F 13 rfl rfl fk_X6_145 dX6_readArm_63 rfl ?_
      refine Go.gen (fun o11 => ?_)
      refine g_iconst X dX6_readArm_66 (v := 1) (by decide) ?_
      refine g_iadd X dX6_readArm_67 ?_
      refine Go.gen (fun o12 => ?_)
      refine i_put X F I 13 rfl rfl rfl fk_X6_145 dX6_readArm_68 rfl rfl (Nat.le_of_ble_eq_true rfl) ⟨fun h => absurd h (by decide), fun h => absurd h (by decide), fun h => absurd h (by decide), fun h => absurd h (by decide)⟩ (fun M C F I K1 hC => ?_)
      have K := K.step K1 (by decide)
      have eo9 : C 1 2 = 0 := (congrFun (K1 1 (by decide)).1 2).trans eo9
      exact g_vret X hrt dX6_readArm_71 (by decide) (by decide) ⟨C, D, F, I, K, trivial⟩
  · skip
    subst q6
    refine g_aload_n X dX6_readArm_31 rfl (j := 2) rfl ?_
    refine i_get X F 13 rfl rfl fk_X6_135 dX6_readArm_32 rfl ?_
    refine g_iload_n X dX6_readArm_35 rfl (j := 0) rfl ?_
    obtain ⟨n13, hn13, en13⟩ := rg_nat (I 15 n4) (by decide)
    refine i_iald X F 15 rfl rfl dX6_readArm_36 (vp_in_nI (by omega) (by decide)) (v := nI n13) (by rw [nI_clamp (by omega)]; exact en13) ?_
    refine g_iconst X dX6_readArm_37 (v := 1) (by decide) ?_
    refine g_isub X dX6_readArm_38 ?_
    have hsn13 := nI_m1 (n := n13) (by omega)
    refine g_goto X dX6_readArm_39 (tgt := 43) (by decide) ?_
    refine g_callVI X (s_X6_takeNumber l G F I (0 : Int32) ((nI n13 - 1)) ) lk_X6_99 (F.1 1 rfl).2 (F.1 1 rfl).1 rfl rfl dX6_readArm_43 (Nat.le_of_ble_eq_true rfl) ⟨by decide, by decide⟩ ⟨by decide, by decide⟩ (fun r14 L M hp => ?_)
    obtain ⟨C, D, F, I, K1, hr⟩ := hp
    have K := K.step K1 (by decide)
    obtain ⟨hr, hnum⟩ := hr
    obtain ⟨n15, hn15, rfl⟩ := num_nat (B := 3) (by decide) hnum (by omega)
    refine g_istore_n X dX6_readArm_46 rfl (by decide) (lv2 := [(3, .int (nI n15)), (2, .int (nI n4)), (0, .ref (a 1)), (1, .ref (a 13))]) rfl ?_
    refine g_aload_n X dX6_readArm_47 rfl (j := 2) rfl ?_
    obtain ⟨o16, eo16⟩ : ∃ z, C 1 2 = z := ⟨_, rfl⟩
    refine i_get X F 1 rfl rfl fk_X6_19 dX6_readArm_48 (v := .int o16) (congrArg (fun z => some (Value.int z)) eo16) ?_
    refine g_if_ne X dX6_readArm_51 (tgt := 71) (by decide) (fun q17 => ?_) (fun q17 => ?_)
    · skip
      exact g_vret X hrt dX6_readArm_71 (by decide) (by decide) ⟨C, D, F, I, K, trivial⟩
    · skip
      subst q17
      refine g_aload_n X dX6_readArm_54 rfl (j := 3) rfl ?_
      refine i_get X F 13 rfl rfl fk_X6_148 dX6_readArm_55 rfl ?_
      refine g_iload_n X dX6_readArm_58 rfl (j := 1) rfl ?_
      refine g_iload_n X dX6_readArm_59 rfl (j := 0) rfl ?_
      refine i_iast X F I 17 rfl (fun _ => rfl) dX6_readArm_60 (vp_in_nI (by omega) (by decide)) (rg_of (n := n15) (by omega) (by omega) (by omega)) (fun M C F I K1 hC => ?_)
      have K := K.step K1 (by decide)
      have eo16 : C 1 2 = 0 := (congrFun (K1 1 (by decide)).1 2).trans eo16
      refine g_aload_n X dX6_readArm_61 rfl (j := 3) rfl ?_
      refine g_dup X dX6_readArm_62 rfl ?_
      refine i_get X F 13 rfl rfl fk_X6_145 dX6_readArm_63 rfl ?_
      refine Go.gen (fun o18 => ?_)
      refine g_iconst X dX6_readArm_66 (v := 1) (by decide) ?_
      refine g_iadd X dX6_readArm_67 ?_
      refine Go.gen (fun o19 => ?_)
      refine i_put X F I 13 rfl rfl rfl fk_X6_145 dX6_readArm_68 rfl rfl (Nat.le_of_ble_eq_true rfl) ⟨fun h => absurd h (by decide), fun h => absurd h (by decide), fun h => absurd h (by decide), fun h => absurd h (by decide)⟩ (fun M C F I K1 hC => ?_)
      have K := K.step K1 (by decide)
      have eo16 : C 1 2 = 0 := (congrFun (K1 1 (by decide)).1 2).trans eo16
      exact g_vret X hrt dX6_readArm_71 (by decide) (by decide) ⟨C, D, F, I, K, trivial⟩
set_option maxHeartbeats 4000000 in
set_option maxRecDepth 100000 in
theorem s_X6_readLine (l : Launch) (G : va_G) {cy : Nat → ClassId} {L : List Nat} {M : Nat → va_E} {a : Nat → Nat} {act : Nat → Bool} {C0 : Nat → Nat → Int32} {D0 : Nat → Nat → Int64} {R : Nat → Nat → Option Nat} (F : WI L M a act (ent cy a C0 D0 R)) (I : Inv C0)   : MV l G cy yX6_readLine cX6_readLine 2 none 7 0 0 [.ref (a 1), .ref (a 13)] L M (fun L2 M2 => ∃ C2 D2, WI L2 M2 a act (ent cy a C2 D2 R) ∧ Inv C2 ∧ Kp [1, 13, 14, 15, 16, 17, 18, 19] C0 D0 C2 D2 ∧ True) := by
  refine MV.of (own := RX6) rfl (by decide) (Nat.le_of_ble_eq_true rfl) ?_
  intro p e s m below meth c A X hrt hnm
  obtain ⟨C, D, hC0, hD0, F, I, K⟩ : ∃ C D, C = C0 ∧ D = D0 ∧ WI L M a act (ent cy a C D R) ∧ Inv C ∧ Kp [1, 13, 14, 15, 16, 17, 18, 19] C0 D0 C D := ⟨C0, D0, rfl, rfl, F, I, Kp.rf⟩
  refine g_aload_n X dX6_readLine_0 rfl (j := 0) rfl ?_
  refine g_ldcS X (tx := "heath") (i := 0) (by decide) dX6_readLine_1 ?_
  refine g_callVI X (s_X6_isWord l G F I 0 (by decide) ) lk_X6_57 (F.1 1 rfl).2 (F.1 1 rfl).1 rfl rfl dX6_readLine_3 (Nat.le_of_ble_eq_true rfl) ⟨by decide, by decide⟩ ⟨by decide, by decide⟩ (fun r1 L M hp => ?_)
  obtain ⟨C, D, F, I, K1, hr⟩ := hp
  have K := K.step K1 (by decide)
  rcases hr with rfl | rfl
  · skip
    refine g_if_eq X dX6_readLine_6 (tgt := 24) (by decide) (fun _ => ?_) (fun q => absurd (by decide) q)
    refine g_aload_n X dX6_readLine_24 rfl (j := 1) rfl ?_
    refine i_get X F 13 rfl rfl fk_X6_52 dX6_readLine_25 rfl ?_
    refine Go.gen (fun o2 => ?_)
    refine g_if_ne X dX6_readLine_28 (tgt := 39) (by decide) (fun q3 => ?_) (fun q3 => ?_)
    · skip
      refine g_aload_n X dX6_readLine_39 rfl (j := 0) rfl ?_
      refine g_ldcS X (tx := "inn") (i := 1) (by decide) dX6_readLine_40 ?_
      refine g_callVI X (s_X6_isWord l G F I 1 (by decide) ) lk_X6_57 (F.1 1 rfl).2 (F.1 1 rfl).1 rfl rfl dX6_readLine_42 (Nat.le_of_ble_eq_true rfl) ⟨by decide, by decide⟩ ⟨by decide, by decide⟩ (fun r4 L M hp => ?_)
      obtain ⟨C, D, F, I, K1, hr⟩ := hp
      have K := K.step K1 (by decide)
      rcases hr with rfl | rfl
      · skip
        refine g_if_eq X dX6_readLine_45 (tgt := 56) (by decide) (fun _ => ?_) (fun q => absurd (by decide) q)
        refine g_aload_n X dX6_readLine_56 rfl (j := 0) rfl ?_
        refine g_ldcS X (tx := "post") (i := 2) (by decide) dX6_readLine_57 ?_
        refine g_callVI X (s_X6_isWord l G F I 2 (by decide) ) lk_X6_57 (F.1 1 rfl).2 (F.1 1 rfl).1 rfl rfl dX6_readLine_59 (Nat.le_of_ble_eq_true rfl) ⟨by decide, by decide⟩ ⟨by decide, by decide⟩ (fun r5 L M hp => ?_)
        obtain ⟨C, D, F, I, K1, hr⟩ := hp
        have K := K.step K1 (by decide)
        rcases hr with rfl | rfl
        · skip
          refine g_if_eq X dX6_readLine_62 (tgt := 73) (by decide) (fun _ => ?_) (fun q => absurd (by decide) q)
          refine g_aload_n X dX6_readLine_73 rfl (j := 0) rfl ?_
          refine g_ldcS X (tx := "road") (i := 3) (by decide) dX6_readLine_74 ?_
          refine g_callVI X (s_X6_isWord l G F I 3 (by decide) ) lk_X6_57 (F.1 1 rfl).2 (F.1 1 rfl).1 rfl rfl dX6_readLine_76 (Nat.le_of_ble_eq_true rfl) ⟨by decide, by decide⟩ ⟨by decide, by decide⟩ (fun r6 L M hp => ?_)
          obtain ⟨C, D, F, I, K1, hr⟩ := hp
          have K := K.step K1 (by decide)
          rcases hr with rfl | rfl
          · skip
            refine g_if_eq X dX6_readLine_79 (tgt := 90) (by decide) (fun _ => ?_) (fun q => absurd (by decide) q)
            refine g_aload_n X dX6_readLine_90 rfl (j := 0) rfl ?_
            refine g_ldcS X (tx := "arm") (i := 4) (by decide) dX6_readLine_91 ?_
            refine g_callVI X (s_X6_isWord l G F I 4 (by decide) ) lk_X6_57 (F.1 1 rfl).2 (F.1 1 rfl).1 rfl rfl dX6_readLine_93 (Nat.le_of_ble_eq_true rfl) ⟨by decide, by decide⟩ ⟨by decide, by decide⟩ (fun r7 L M hp => ?_)
            obtain ⟨C, D, F, I, K1, hr⟩ := hp
            have K := K.step K1 (by decide)
            rcases hr with rfl | rfl
            · skip
              refine g_if_eq X dX6_readLine_96 (tgt := 107) (by decide) (fun _ => ?_) (fun q => absurd (by decide) q)
              refine g_aload_n X dX6_readLine_107 rfl (j := 0) rfl ?_
              refine g_ldcS X (tx := "walker") (i := 5) (by decide) dX6_readLine_108 ?_
              refine g_callVI X (s_X6_isWord l G F I 5 (by decide) ) lk_X6_57 (F.1 1 rfl).2 (F.1 1 rfl).1 rfl rfl dX6_readLine_110 (Nat.le_of_ble_eq_true rfl) ⟨by decide, by decide⟩ ⟨by decide, by decide⟩ (fun r8 L M hp => ?_)
              obtain ⟨C, D, F, I, K1, hr⟩ := hp
              have K := K.step K1 (by decide)
              rcases hr with rfl | rfl
              · skip
                refine g_if_eq X dX6_readLine_113 (tgt := 124) (by decide) (fun _ => ?_) (fun q => absurd (by decide) q)
                refine g_aload_n X dX6_readLine_124 rfl (j := 0) rfl ?_
                refine g_iconst X dX6_readLine_125 (v := 1) (by decide) ?_
                refine g_callVV X (s_X6_fail l G F I (1 : Int32) (by decide)) lk_X6_64 (F.1 1 rfl).2 (F.1 1 rfl).1 rfl rfl dX6_readLine_126 (Nat.le_of_ble_eq_true rfl) ⟨by decide, by decide⟩ ⟨by decide, by decide⟩ (fun L M hp => ?_)
                obtain ⟨C, D, F, I, K1, hr⟩ := hp
                have K := K.step K1 (by decide)
                exact g_vret X hrt dX6_readLine_129 (by decide) (by decide) ⟨C, D, F, I, K, trivial⟩
              · skip
                refine g_if_eq X dX6_readLine_113 (tgt := 124) (by decide) (fun q => absurd q (by decide)) (fun _ => ?_)
                refine g_aload_n X dX6_readLine_116 rfl (j := 0) rfl ?_
                refine g_aload_n X dX6_readLine_117 rfl (j := 1) rfl ?_
                refine g_callVV X (s_X6_readWalker l G F I  ) lk_X6_90 (F.1 1 rfl).2 (F.1 1 rfl).1 rfl rfl dX6_readLine_118 (Nat.le_of_ble_eq_true rfl) ⟨by decide, by decide⟩ ⟨by decide, by decide⟩ (fun L M hp => ?_)
                obtain ⟨C, D, F, I, K1, hr⟩ := hp
                have K := K.step K1 (by decide)
                refine g_goto X dX6_readLine_121 (tgt := 129) (by decide) ?_
                exact g_vret X hrt dX6_readLine_129 (by decide) (by decide) ⟨C, D, F, I, K, trivial⟩
            · skip
              refine g_if_eq X dX6_readLine_96 (tgt := 107) (by decide) (fun q => absurd q (by decide)) (fun _ => ?_)
              refine g_aload_n X dX6_readLine_99 rfl (j := 0) rfl ?_
              refine g_aload_n X dX6_readLine_100 rfl (j := 1) rfl ?_
              refine g_callVV X (s_X6_readArm l G F I  ) lk_X6_85 (F.1 1 rfl).2 (F.1 1 rfl).1 rfl rfl dX6_readLine_101 (Nat.le_of_ble_eq_true rfl) ⟨by decide, by decide⟩ ⟨by decide, by decide⟩ (fun L M hp => ?_)
              obtain ⟨C, D, F, I, K1, hr⟩ := hp
              have K := K.step K1 (by decide)
              refine g_goto X dX6_readLine_104 (tgt := 129) (by decide) ?_
              exact g_vret X hrt dX6_readLine_129 (by decide) (by decide) ⟨C, D, F, I, K, trivial⟩
          · skip
            refine g_if_eq X dX6_readLine_79 (tgt := 90) (by decide) (fun q => absurd q (by decide)) (fun _ => ?_)
            refine g_aload_n X dX6_readLine_82 rfl (j := 0) rfl ?_
            refine g_aload_n X dX6_readLine_83 rfl (j := 1) rfl ?_
            refine g_callVV X (s_X6_readRoad l G F I  ) lk_X6_80 (F.1 1 rfl).2 (F.1 1 rfl).1 rfl rfl dX6_readLine_84 (Nat.le_of_ble_eq_true rfl) ⟨by decide, by decide⟩ ⟨by decide, by decide⟩ (fun L M hp => ?_)
            obtain ⟨C, D, F, I, K1, hr⟩ := hp
            have K := K.step K1 (by decide)
            refine g_goto X dX6_readLine_87 (tgt := 129) (by decide) ?_
            exact g_vret X hrt dX6_readLine_129 (by decide) (by decide) ⟨C, D, F, I, K, trivial⟩
        · skip
          refine g_if_eq X dX6_readLine_62 (tgt := 73) (by decide) (fun q => absurd q (by decide)) (fun _ => ?_)
          refine g_aload_n X dX6_readLine_65 rfl (j := 0) rfl ?_
          refine g_aload_n X dX6_readLine_66 rfl (j := 1) rfl ?_
          refine g_callVV X (s_X6_readPost l G F I  ) lk_X6_75 (F.1 1 rfl).2 (F.1 1 rfl).1 rfl rfl dX6_readLine_67 (Nat.le_of_ble_eq_true rfl) ⟨by decide, by decide⟩ ⟨by decide, by decide⟩ (fun L M hp => ?_)
          obtain ⟨C, D, F, I, K1, hr⟩ := hp
          have K := K.step K1 (by decide)
          refine g_goto X dX6_readLine_70 (tgt := 129) (by decide) ?_
          exact g_vret X hrt dX6_readLine_129 (by decide) (by decide) ⟨C, D, F, I, K, trivial⟩
      · skip
        refine g_if_eq X dX6_readLine_45 (tgt := 56) (by decide) (fun q => absurd q (by decide)) (fun _ => ?_)
        refine g_aload_n X dX6_readLine_48 rfl (j := 0) rfl ?_
        refine g_aload_n X dX6_readLine_49 rfl (j := 1) rfl ?_
        refine g_callVV X (s_X6_readInn l G F I  ) lk_X6_70 (F.1 1 rfl).2 (F.1 1 rfl).1 rfl rfl dX6_readLine_50 (Nat.le_of_ble_eq_true rfl) ⟨by decide, by decide⟩ ⟨by decide, by decide⟩ (fun L M hp => ?_)
        obtain ⟨C, D, F, I, K1, hr⟩ := hp
        have K := K.step K1 (by decide)
        refine g_goto X dX6_readLine_53 (tgt := 129) (by decide) ?_
        exact g_vret X hrt dX6_readLine_129 (by decide) (by decide) ⟨C, D, F, I, K, trivial⟩
    · skip
      subst q3
      refine g_aload_n X dX6_readLine_31 rfl (j := 0) rfl ?_
      refine g_iconst X dX6_readLine_32 (v := 1) (by decide) ?_
      refine g_callVV X (s_X6_fail l G F I (1 : Int32) (by decide)) lk_X6_64 (F.1 1 rfl).2 (F.1 1 rfl).1 rfl rfl dX6_readLine_33 (Nat.le_of_ble_eq_true rfl) ⟨by decide, by decide⟩ ⟨by decide, by decide⟩ (fun L M hp => ?_)
      obtain ⟨C, D, F, I, K1, hr⟩ := hp
      have K := K.step K1 (by decide)
      refine g_goto X dX6_readLine_36 (tgt := 129) (by decide) ?_
      exact g_vret X hrt dX6_readLine_129 (by decide) (by decide) ⟨C, D, F, I, K, trivial⟩
  · skip
    refine g_if_eq X dX6_readLine_6 (tgt := 24) (by decide) (fun q => absurd q (by decide)) (fun _ => ?_)
    refine g_aload_n X dX6_readLine_9 rfl (j := 1) rfl ?_
    refine i_get X F 13 rfl rfl fk_X6_52 dX6_readLine_10 rfl ?_
    refine Go.gen (fun o9 => ?_)
    refine g_if_ne X dX6_readLine_13 (tgt := 24) (by decide) (fun q10 => ?_) (fun q10 => ?_)
    · skip
      refine g_aload_n X dX6_readLine_24 rfl (j := 1) rfl ?_
      refine i_get X F 13 rfl rfl fk_X6_52 dX6_readLine_25 rfl ?_
      refine Go.gen (fun o11 => ?_)
      refine g_if_ne X dX6_readLine_28 (tgt := 39) (by decide) (fun q12 => ?_) (fun q12 => ?_)
      · skip
        refine g_aload_n X dX6_readLine_39 rfl (j := 0) rfl ?_
        refine g_ldcS X (tx := "inn") (i := 1) (by decide) dX6_readLine_40 ?_
        refine g_callVI X (s_X6_isWord l G F I 1 (by decide) ) lk_X6_57 (F.1 1 rfl).2 (F.1 1 rfl).1 rfl rfl dX6_readLine_42 (Nat.le_of_ble_eq_true rfl) ⟨by decide, by decide⟩ ⟨by decide, by decide⟩ (fun r13 L M hp => ?_)
        obtain ⟨C, D, F, I, K1, hr⟩ := hp
        have K := K.step K1 (by decide)
        rcases hr with rfl | rfl
        · skip
          refine g_if_eq X dX6_readLine_45 (tgt := 56) (by decide) (fun _ => ?_) (fun q => absurd (by decide) q)
          refine g_aload_n X dX6_readLine_56 rfl (j := 0) rfl ?_
          refine g_ldcS X (tx := "post") (i := 2) (by decide) dX6_readLine_57 ?_
          refine g_callVI X (s_X6_isWord l G F I 2 (by decide) ) lk_X6_57 (F.1 1 rfl).2 (F.1 1 rfl).1 rfl rfl dX6_readLine_59 (Nat.le_of_ble_eq_true rfl) ⟨by decide, by decide⟩ ⟨by decide, by decide⟩ (fun r14 L M hp => ?_)
          obtain ⟨C, D, F, I, K1, hr⟩ := hp
          have K := K.step K1 (by decide)
          rcases hr with rfl | rfl
          · skip
            refine g_if_eq X dX6_readLine_62 (tgt := 73) (by decide) (fun _ => ?_) (fun q => absurd (by decide) q)
            refine g_aload_n X dX6_readLine_73 rfl (j := 0) rfl ?_
            refine g_ldcS X (tx := "road") (i := 3) (by decide) dX6_readLine_74 ?_
            refine g_callVI X (s_X6_isWord l G F I 3 (by decide) ) lk_X6_57 (F.1 1 rfl).2 (F.1 1 rfl).1 rfl rfl dX6_readLine_76 (Nat.le_of_ble_eq_true rfl) ⟨by decide, by decide⟩ ⟨by decide, by decide⟩ (fun r15 L M hp => ?_)
            obtain ⟨C, D, F, I, K1, hr⟩ := hp
            have K := K.step K1 (by decide)
            rcases hr with rfl | rfl
            · skip
              refine g_if_eq X dX6_readLine_79 (tgt := 90) (by decide) (fun _ => ?_) (fun q => absurd (by decide) q)
              refine g_aload_n X dX6_readLine_90 rfl (j := 0) rfl ?_
              refine g_ldcS X (tx := "arm") (i := 4) (by decide) dX6_readLine_91 ?_
              refine g_callVI X (s_X6_isWord l G F I 4 (by decide) ) lk_X6_57 (F.1 1 rfl).2 (F.1 1 rfl).1 rfl rfl dX6_readLine_93 (Nat.le_of_ble_eq_true rfl) ⟨by decide, by decide⟩ ⟨by decide, by decide⟩ (fun r16 L M hp => ?_)
              obtain ⟨C, D, F, I, K1, hr⟩ := hp
              have K := K.step K1 (by decide)
              rcases hr with rfl | rfl
              · skip
                refine g_if_eq X dX6_readLine_96 (tgt := 107) (by decide) (fun _ => ?_) (fun q => absurd (by decide) q)
                refine g_aload_n X dX6_readLine_107 rfl (j := 0) rfl ?_
                refine g_ldcS X (tx := "walker") (i := 5) (by decide) dX6_readLine_108 ?_
                refine g_callVI X (s_X6_isWord l G F I 5 (by decide) ) lk_X6_57 (F.1 1 rfl).2 (F.1 1 rfl).1 rfl rfl dX6_readLine_110 (Nat.le_of_ble_eq_true rfl) ⟨by decide, by decide⟩ ⟨by decide, by decide⟩ (fun r17 L M hp => ?_)
                obtain ⟨C, D, F, I, K1, hr⟩ := hp
                have K := K.step K1 (by decide)
                rcases hr with rfl | rfl
                · skip
                  refine g_if_eq X dX6_readLine_113 (tgt := 124) (by decide) (fun _ => ?_) (fun q => absurd (by decide) q)
                  refine g_aload_n X dX6_readLine_124 rfl (j := 0) rfl ?_
                  refine g_iconst X dX6_readLine_125 (v := 1) (by decide) ?_
                  refine g_callVV X (s_X6_fail l G F I (1 : Int32) (by decide)) lk_X6_64 (F.1 1 rfl).2 (F.1 1 rfl).1 rfl rfl dX6_readLine_126 (Nat.le_of_ble_eq_true rfl) ⟨by decide, by decide⟩ ⟨by decide, by decide⟩ (fun L M hp => ?_)
                  obtain ⟨C, D, F, I, K1, hr⟩ := hp
                  have K := K.step K1 (by decide)
                  exact g_vret X hrt dX6_readLine_129 (by decide) (by decide) ⟨C, D, F, I, K, trivial⟩
                · skip
                  refine g_if_eq X dX6_readLine_113 (tgt := 124) (by decide) (fun q => absurd q (by decide)) (fun _ => ?_)
                  refine g_aload_n X dX6_readLine_116 rfl (j := 0) rfl ?_
                  refine g_aload_n X dX6_readLine_117 rfl (j := 1) rfl ?_
                  refine g_callVV X (s_X6_readWalker l G F I  ) lk_X6_90 (F.1 1 rfl).2 (F.1 1 rfl).1 rfl rfl dX6_readLine_118 (Nat.le_of_ble_eq_true rfl) ⟨by decide, by decide⟩ ⟨by decide, by decide⟩ (fun L M hp => ?_)
                  obtain ⟨C, D, F, I, K1, hr⟩ := hp
                  have K := K.step K1 (by decide)
                  refine g_goto X dX6_readLine_121 (tgt := 129) (by decide) ?_
                  exact g_vret X hrt dX6_readLine_129 (by decide) (by decide) ⟨C, D, F, I, K, trivial⟩
              · skip
                refine g_if_eq X dX6_readLine_96 (tgt := 107) (by decide) (fun q => absurd q (by decide)) (fun _ => ?_)
                refine g_aload_n X dX6_readLine_99 rfl (j := 0) rfl ?_
                refine g_aload_n X dX6_readLine_100 rfl (j := 1) rfl ?_
                refine g_callVV X (s_X6_readArm l G F I  ) lk_X6_85 (F.1 1 rfl).2 (F.1 1 rfl).1 rfl rfl dX6_readLine_101 (Nat.le_of_ble_eq_true rfl) ⟨by decide, by decide⟩ ⟨by decide, by decide⟩ (fun L M hp => ?_)
                obtain ⟨C, D, F, I, K1, hr⟩ := hp
                have K := K.step K1 (by decide)
                refine g_goto X dX6_readLine_104 (tgt := 129) (by decide) ?_
                exact g_vret X hrt dX6_readLine_129 (by decide) (by decide) ⟨C, D, F, I, K, trivial⟩
            · skip
              refine g_if_eq X dX6_readLine_79 (tgt := 90) (by decide) (fun q => absurd q (by decide)) (fun _ => ?_)
              refine g_aload_n X dX6_readLine_82 rfl (j := 0) rfl ?_
              refine g_aload_n X dX6_readLine_83 rfl (j := 1) rfl ?_
              refine g_callVV X (s_X6_readRoad l G F I  ) lk_X6_80 (F.1 1 rfl).2 (F.1 1 rfl).1 rfl rfl dX6_readLine_84 (Nat.le_of_ble_eq_true rfl) ⟨by decide, by decide⟩ ⟨by decide, by decide⟩ (fun L M hp => ?_)
              obtain ⟨C, D, F, I, K1, hr⟩ := hp
              have K := K.step K1 (by decide)
              refine g_goto X dX6_readLine_87 (tgt := 129) (by decide) ?_
              exact g_vret X hrt dX6_readLine_129 (by decide) (by decide) ⟨C, D, F, I, K, trivial⟩
          · skip
            refine g_if_eq X dX6_readLine_62 (tgt := 73) (by decide) (fun q => absurd q (by decide)) (fun _ => ?_)
            refine g_aload_n X dX6_readLine_65 rfl (j := 0) rfl ?_
            refine g_aload_n X dX6_readLine_66 rfl (j := 1) rfl ?_
            refine g_callVV X (s_X6_readPost l G F I  ) lk_X6_75 (F.1 1 rfl).2 (F.1 1 rfl).1 rfl rfl dX6_readLine_67 (Nat.le_of_ble_eq_true rfl) ⟨by decide, by decide⟩ ⟨by decide, by decide⟩ (fun L M hp => ?_)
            obtain ⟨C, D, F, I, K1, hr⟩ := hp
            have K := K.step K1 (by decide)
            refine g_goto X dX6_readLine_70 (tgt := 129) (by decide) ?_
            exact g_vret X hrt dX6_readLine_129 (by decide) (by decide) ⟨C, D, F, I, K, trivial⟩
        · skip
          refine g_if_eq X dX6_readLine_45 (tgt := 56) (by decide) (fun q => absurd q (by decide)) (fun _ => ?_)
          refine g_aload_n X dX6_readLine_48 rfl (j := 0) rfl ?_
          refine g_aload_n X dX6_readLine_49 rfl (j := 1) rfl ?_
          refine g_callVV X (s_X6_readInn l G F I  ) lk_X6_70 (F.1 1 rfl).2 (F.1 1 rfl).1 rfl rfl dX6_readLine_50 (Nat.le_of_ble_eq_true rfl) ⟨by decide, by decide⟩ ⟨by decide, by decide⟩ (fun L M hp => ?_)
          obtain ⟨C, D, F, I, K1, hr⟩ := hp
          have K := K.step K1 (by decide)
          refine g_goto X dX6_readLine_53 (tgt := 129) (by decide) ?_
          exact g_vret X hrt dX6_readLine_129 (by decide) (by decide) ⟨C, D, F, I, K, trivial⟩
      · skip
        subst q12
        refine g_aload_n X dX6_readLine_31 rfl (j := 0) rfl ?_
        refine g_iconst X dX6_readLine_32 (v := 1) (by decide) ?_
        refine g_callVV X (s_X6_fail l G F I (1 : Int32) (by decide)) lk_X6_64 (F.1 1 rfl).2 (F.1 1 rfl).1 rfl rfl dX6_readLine_33 (Nat.le_of_ble_eq_true rfl) ⟨by decide, by decide⟩ ⟨by decide, by decide⟩ (fun L M hp => ?_)
        obtain ⟨C, D, F, I, K1, hr⟩ := hp
        have K := K.step K1 (by decide)
        refine g_goto X dX6_readLine_36 (tgt := 129) (by decide) ?_
        exact g_vret X hrt dX6_readLine_129 (by decide) (by decide) ⟨C, D, F, I, K, trivial⟩
    · skip
      subst q10
      refine g_aload_n X dX6_readLine_16 rfl (j := 0) rfl ?_
      refine g_aload_n X dX6_readLine_17 rfl (j := 1) rfl ?_
      refine g_callVV X (s_X6_readHeath l G F I  ) lk_X6_61 (F.1 1 rfl).2 (F.1 1 rfl).1 rfl rfl dX6_readLine_18 (Nat.le_of_ble_eq_true rfl) ⟨by decide, by decide⟩ ⟨by decide, by decide⟩ (fun L M hp => ?_)
      obtain ⟨C, D, F, I, K1, hr⟩ := hp
      have K := K.step K1 (by decide)
      refine g_goto X dX6_readLine_21 (tgt := 129) (by decide) ?_
      exact g_vret X hrt dX6_readLine_129 (by decide) (by decide) ⟨C, D, F, I, K, trivial⟩
set_option maxHeartbeats 4000000 in
set_option maxRecDepth 100000 in
theorem s_X6_readInto (l : Launch) (G : va_G) {cy : Nat → ClassId} {L : List Nat} {M : Nat → va_E} {a : Nat → Nat} {act : Nat → Bool} {C0 : Nat → Nat → Int32} {D0 : Nat → Nat → Int64} {R : Nat → Nat → Option Nat} (F : WI L M a act (ent cy a C0 D0 R)) (I : Inv C0)   : MV l G cy yX6_readInto cX6_readInto 3 none 8 0 0 [.ref (a 1), .ref (a 13)] L M (fun L2 M2 => ∃ C2 D2, WI L2 M2 a act (ent cy a C2 D2 R) ∧ Inv C2 ∧ Kp [1, 13, 14, 15, 16, 17, 18, 19, 20, 21, 22] C0 D0 C2 D2 ∧ True) := by
  refine MV.of (own := RX6) rfl (by decide) (Nat.le_of_ble_eq_true rfl) ?_
  intro p e s m below meth c A X hrt hnm
  obtain ⟨C, D, hC0, hD0, F, I, K⟩ : ∃ C D, C = C0 ∧ D = D0 ∧ WI L M a act (ent cy a C D R) ∧ Inv C ∧ Kp [1, 13, 14, 15, 16, 17, 18, 19, 20, 21, 22] C0 D0 C D := ⟨C0, D0, rfl, rfl, F, I, Kp.rf⟩
  refine g_aload_n X dX6_readInto_0 rfl (j := 1) rfl ?_
  refine g_callVV X (s_X2_clear l G F I  ) lk_X6_37 (F.1 13 rfl).2 (F.1 13 rfl).1 rfl rfl dX6_readInto_1 (Nat.le_of_ble_eq_true rfl) ⟨by decide, by decide⟩ ⟨by decide, by decide⟩ (fun L M hp => ?_)
  obtain ⟨C, D, F, I, K1, hr⟩ := hp
  have K := K.step K1 (by decide)
  refine g_aload_n X dX6_readInto_4 rfl (j := 0) rfl ?_
  refine g_iconst X dX6_readInto_5 (v := 0) (by decide) ?_
  refine i_put X F I 1 rfl rfl rfl fk_X6_19 dX6_readInto_6 rfl rfl (Nat.le_of_ble_eq_true rfl) (fun h => absurd h (by decide)) (fun M C F I K1 hC => ?_)
  have K := K.step K1 (by decide)
  refine g_aload_n X dX6_readInto_9 rfl (j := 0) rfl ?_
  refine g_iconst X dX6_readInto_10 (v := -1) (by decide) ?_
  refine i_put X F I 1 rfl rfl rfl fk_X6_22 dX6_readInto_11 rfl rfl (Nat.le_of_ble_eq_true rfl) (fun h => absurd h (by decide)) (fun M C F I K1 hC => ?_)
  have K := K.step K1 (by decide)
  refine g_aload_n X dX6_readInto_14 rfl (j := 0) rfl ?_
  refine g_iconst X dX6_readInto_15 (v := 0) (by decide) ?_
  refine i_put X F I 1 rfl rfl rfl fk_X6_31 dX6_readInto_16 rfl rfl (Nat.le_of_ble_eq_true rfl) (fun _ => (rg_of (n := 0) (by omega) (by omega) (by omega))) (fun M C F I K1 hC => ?_)
  have K := K.step K1 (by decide)
  refine g_aload_n X dX6_readInto_19 rfl (j := 0) rfl ?_
  refine g_callVV X (s_X6_take l G F I  ) lk_X6_42 (F.1 1 rfl).2 (F.1 1 rfl).1 rfl rfl dX6_readInto_20 (Nat.le_of_ble_eq_true rfl) ⟨by decide, by decide⟩ ⟨by decide, by decide⟩ (fun L M hp => ?_)
  obtain ⟨C, D, F, I, K1, hr⟩ := hp
  have K := K.step K1 (by decide)
  refine g_iconst X dX6_readInto_23 (v := 0) (by decide) ?_
  refine g_istore_n X dX6_readInto_24 rfl (by decide) (lv2 := [(2, .int 0), (0, .ref (a 1)), (1, .ref (a 13))]) rfl ?_
  refine g_lv [0, 1, 2] (lv2 := [(2, .int 0), (0, .ref (a 1)), (1, .ref (a 13))]) rfl ?_
  refine i_loop (mods := [1, 13, 14, 15, 16, 17, 18, 19, 20, 21, 22]) (fun x : Nat => 801 - x) (fun x => [(2, .int (nI (x))), (0, .ref (a 1)), (1, .ref (a 13))]) (fun x C => 0 ≤ x ∧ x ≤ 801) (fun x L M C D F I K hP ih25 => ?_) ((0) : Nat) F I K ⟨by show _ ≤ _; omega, by show _ ≤ _; omega⟩
  obtain ⟨i25_2, rfl⟩ : ∃ z, z = x := ⟨_, rfl⟩
  obtain ⟨hi25_2a, hi25_2b⟩ := hP
  refine g_lv [0, 1, 2] (lv2 := [(2, .int (nI i25_2)), (0, .ref (a 1)), (1, .ref (a 13))]) rfl ?_
  refine g_iload_n X dX6_readInto_25 rfl (j := 0) rfl ?_
  refine g_sipush X dX6_readInto_26 (v := 800) (by decide) ?_
  refine g_icmp_gt X dX6_readInto_29 (tgt := 71) (by decide) (fun q1 => ?_) (fun q1 => ?_)
  · skip
    have q1 : 800 < i25_2 := (nI_ltI (a := 800) (b := i25_2) (by omega) (by omega)).mp q1
    exact g_vret X hrt dX6_readInto_71 (by decide) (by decide) ⟨C, D, F, I, K, trivial⟩
  · skip
    have q1 : ¬ 800 < i25_2 := fun z => q1 ((nI_ltI (a := 800) (b := i25_2) (by omega) (by omega)).mpr z)
    refine g_aload_n X dX6_readInto_32 rfl (j := 1) rfl ?_
    refine i_get X F 1 rfl rfl fk_X6_19 dX6_readInto_33 rfl ?_
    refine Go.gen (fun o2 => ?_)
    refine g_if_ne X dX6_readInto_36 (tgt := 71) (by decide) (fun q3 => ?_) (fun q3 => ?_)
    · skip
      exact g_vret X hrt dX6_readInto_71 (by decide) (by decide) ⟨C, D, F, I, K, trivial⟩
    · skip
      subst q3
      refine g_aload_n X dX6_readInto_39 rfl (j := 1) rfl ?_
      refine i_get X F 1 rfl rfl fk_X6_25 dX6_readInto_40 rfl ?_
      refine Go.gen (fun o4 => ?_)
      refine g_if_eq X dX6_readInto_43 (tgt := 71) (by decide) (fun q5 => ?_) (fun q5 => ?_)
      · skip
        subst q5
        exact g_vret X hrt dX6_readInto_71 (by decide) (by decide) ⟨C, D, F, I, K, trivial⟩
      · skip
        refine g_aload_n X dX6_readInto_46 rfl (j := 1) rfl ?_
        refine g_aload_n X dX6_readInto_47 rfl (j := 2) rfl ?_
        refine g_callVV X (s_X6_readLine l G F I  ) lk_X6_45 (F.1 1 rfl).2 (F.1 1 rfl).1 rfl rfl dX6_readInto_48 (Nat.le_of_ble_eq_true rfl) ⟨by decide, by decide⟩ ⟨by decide, by decide⟩ (fun L M hp => ?_)
        obtain ⟨C, D, F, I, K1, hr⟩ := hp
        have K := K.step K1 (by decide)
        refine g_aload_n X dX6_readInto_51 rfl (j := 1) rfl ?_
        refine g_callVV X (s_X6_takeSign l G F I  ) lk_X6_49 (F.1 1 rfl).2 (F.1 1 rfl).1 rfl rfl dX6_readInto_52 (Nat.le_of_ble_eq_true rfl) ⟨by decide, by decide⟩ ⟨by decide, by decide⟩ (fun L M hp => ?_)
        obtain ⟨C, D, F, I, K1, hr⟩ := hp
        have K := K.step K1 (by decide)
        refine g_aload_n X dX6_readInto_55 rfl (j := 2) rfl ?_
        refine g_dup X dX6_readInto_56 rfl ?_
        refine i_get X F 13 rfl rfl fk_X6_52 dX6_readInto_57 rfl ?_
        refine Go.gen (fun o6 => ?_)
        refine g_iconst X dX6_readInto_60 (v := 1) (by decide) ?_
        refine g_iadd X dX6_readInto_61 ?_
        refine Go.gen (fun o7 => ?_)
        refine i_put X F I 13 rfl rfl rfl fk_X6_52 dX6_readInto_62 rfl rfl (Nat.le_of_ble_eq_true rfl) ⟨fun h => absurd h (by decide), fun h => absurd h (by decide), fun h => absurd h (by decide), fun h => absurd h (by decide)⟩ (fun M C F I K1 hC => ?_)
        have K := K.step K1 (by decide)
        refine g_iinc X dX6_readInto_65 (j := 0) rfl (v := nI (i25_2 + 1)) (nI_1 i25_2) (by decide) (lv2 := [(2, .int (nI (i25_2 + 1))), (0, .ref (a 1)), (1, .ref (a 13))]) rfl ?_
        refine g_goto X dX6_readInto_68 (tgt := 25) (by decide) ?_
        refine g_lv [0, 1, 2] (lv2 := [(2, .int (nI (i25_2 + 1))), (0, .ref (a 1)), (1, .ref (a 13))]) rfl ?_
        exact ih25 ((i25_2 + 1)) L M C D F I K ⟨by omega, by omega⟩ (by show _ < _; omega)
