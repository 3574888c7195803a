set_option maxHeartbeats 4000000 in
set_option maxRecDepth 100000 in
theorem s_X8_asItIs (l : Launch) (G : va_G) {cy : Nat → ClassId} {L : List Nat} {M : Nat → va_E} {a : Nat → Nat} {act : Nat → Bool} {C0 : Nat → Nat → Int32} {D0 : Nat → Nat → Int64} {R : Nat → Nat → Option Nat} (F : WI L M a act (ent cy a C0 D0 R)) (I : Inv C0)   : MV l G cy yX8_asItIs cX8_asItIs 2 none 1 0 0 [.ref (a 100)] L M (fun L2 M2 => ∃ C2 D2, WI L2 M2 a act (ent cy a C2 D2 R) ∧ Inv C2 ∧ Kp [100, 115, 116] C0 D0 C2 D2 ∧ D2 100 = D0 100) := by
  refine MV.of (own := RX8) rfl (by decide) (Nat.le_of_ble_eq_true rfl) ?_
  intro p e s m below meth c A X hrt hnm
  obtain ⟨C, D, hC0, hD0, F, I, K⟩ : ∃ C D, C = C0 ∧ D = D0 ∧ WI L M a act (ent cy a C D R) ∧ Inv C ∧ Kp [100, 115, 116] C0 D0 C D := ⟨C0, D0, rfl, rfl, F, I, Kp.rf⟩
  obtain ⟨n1, hn1, en1⟩ := rg_nat ((show okw 0 (C 101 0) from I 101 0).1 rfl) (by decide)
  rw [hC0] at en1
  obtain ⟨n2, hn2, en2⟩ := rg_nat ((show okw 4 (C 101 4) from I 101 4).2.2.2.1 rfl) (by decide)
  rw [hC0] at en2
  obtain ⟨n3, hn3, en3⟩ := rg_nat ((show okw 7 (C 101 7) from I 101 7).2.2.2.2.1 rfl) (by decide)
  rw [hC0] at en3
  have qD100 : D 100 = D0 100 := by rw [hD0]
  refine g_aload_n X dX8_asItIs_0 rfl (j := 0) rfl ?_
  refine g_aload_n X dX8_asItIs_1 rfl (j := 0) rfl ?_
  refine i_get X F 100 rfl rfl fk_X8_9 dX8_asItIs_2 rfl ?_
  refine g_iconst X dX8_asItIs_5 (v := 1) (by decide) ?_
  refine i_iald X F 101 rfl rfl dX8_asItIs_6 (vp_in_iff.mpr (by decide)) rfl ?_
  refine Go.gen (fun o4 => ?_)
  refine i_put X F I 100 rfl rfl rfl fk_X8_257 dX8_asItIs_7 rfl rfl (Nat.le_of_ble_eq_true rfl) (fun h => absurd h (by decide)) (fun M C F I K1 hC => ?_)
  have K := K.step K1 (by decide)
  refine g_aload_n X dX8_asItIs_10 rfl (j := 0) rfl ?_
  refine g_iconst X dX8_asItIs_11 (v := 0) (by decide) ?_
  refine i_put X F I 100 rfl rfl rfl fk_X8_260 dX8_asItIs_12 rfl rfl (Nat.le_of_ble_eq_true rfl) (fun h => absurd h (by decide)) (fun M C F I K1 hC => ?_)
  have K := K.step K1 (by decide)
  refine g_aload_n X dX8_asItIs_15 rfl (j := 0) rfl ?_
  refine g_bipush X dX8_asItIs_16 (v := 127) (by decide) ?_
  refine i_put X F I 100 rfl rfl rfl fk_X8_263 dX8_asItIs_18 rfl rfl (Nat.le_of_ble_eq_true rfl) (fun h => absurd h (by decide)) (fun M C F I K1 hC => ?_)
  have K := K.step K1 (by decide)
  refine g_iconst X dX8_asItIs_21 (v := 0) (by decide) ?_
  refine g_istore_n X dX8_asItIs_22 rfl (by decide) (lv2 := [(1, .int 0), (0, .ref (a 100))]) rfl ?_
  refine g_lv [0, 1] (lv2 := [(1, .int 0), (0, .ref (a 100))]) rfl ?_
  refine i_loopD (mods := [100, 115, 116]) (fun x : Nat => 7 - x) (fun x => [(1, .int (nI (x))), (0, .ref (a 100))]) (fun x C D => 0 ≤ x ∧ x ≤ 7 ∧ D 100 = D0 100) (fun x L M C D F I K hP ih23 => ?_) ((0) : Nat) F I K ⟨by show _ ≤ _; omega, by show _ ≤ _; omega, qD100⟩
  obtain ⟨i23_1, rfl⟩ : ∃ z, z = x := ⟨_, rfl⟩
  obtain ⟨hi23_1a, hi23_1b, qD100⟩ := hP
  refine g_lv [0, 1] (lv2 := [(1, .int (nI i23_1)), (0, .ref (a 100))]) rfl ?_
  refine g_iload_n X dX8_asItIs_23 rfl (j := 0) rfl ?_
  refine g_bipush X dX8_asItIs_24 (v := 7) (by decide) ?_
  refine g_icmp_ge X dX8_asItIs_26 (tgt := 46) (by decide) (fun q5 => ?_) (fun q5 => ?_)
  · skip
    have q5 : 7 ≤ i23_1 := (nI_leI (a := 7) (b := i23_1) (by omega) (by omega)).mp q5
    refine g_iconst X dX8_asItIs_46 (v := 0) (by decide) ?_
    refine g_istore_n X dX8_asItIs_47 rfl (by decide) (lv2 := [(1, .int 0), (0, .ref (a 100))]) rfl ?_
    refine g_lv [0, 1] (lv2 := [(1, .int 0), (0, .ref (a 100))]) rfl ?_
    refine i_loopD (mods := [100, 115, 116]) (fun x : Nat => 8 - x) (fun x => [(1, .int (nI (x))), (0, .ref (a 100))]) (fun x C D => 0 ≤ x ∧ x ≤ 8 ∧ D 100 = D0 100) (fun x L M C D F I K hP ih48 => ?_) ((0) : Nat) F I K ⟨by show _ ≤ _; omega, by show _ ≤ _; omega, qD100⟩
    obtain ⟨i48_1, rfl⟩ : ∃ z, z = x := ⟨_, rfl⟩
    obtain ⟨hi48_1a, hi48_1b, qD100⟩ := hP
    refine g_lv [0, 1] (lv2 := [(1, .int (nI i48_1)), (0, .ref (a 100))]) rfl ?_
    refine g_iload_n X dX8_asItIs_48 rfl (j := 0) rfl ?_
    refine g_bipush X dX8_asItIs_49 (v := 8) (by decide) ?_
    refine g_icmp_ge X dX8_asItIs_51 (tgt := 79) (by decide) (fun q6 => ?_) (fun q6 => ?_)
    · skip
      have q6 : 8 ≤ i48_1 := (nI_leI (a := 8) (b := i48_1) (by omega) (by omega)).mp q6
      exact g_vret X hrt dX8_asItIs_79 (by decide) (by decide) ⟨C, D, F, I, K, qD100⟩
    · skip
      have q6 : ¬ 8 ≤ i48_1 := fun z => q6 ((nI_leI (a := 8) (b := i48_1) (by omega) (by omega)).mpr z)
      refine g_aload_n X dX8_asItIs_54 rfl (j := 1) rfl ?_
      refine i_get X F 100 rfl rfl fk_X8_37 dX8_asItIs_55 rfl ?_
      refine g_iload_n X dX8_asItIs_58 rfl (j := 0) rfl ?_
      refine g_aload_n X dX8_asItIs_59 rfl (j := 1) rfl ?_
      refine i_get X F 100 rfl rfl fk_X8_9 dX8_asItIs_60 rfl ?_
      refine g_bipush X dX8_asItIs_63 (v := 56) (by decide) ?_
      refine g_iconst X dX8_asItIs_65 (v := 2) (by decide) ?_
      refine g_iload_n X dX8_asItIs_66 rfl (j := 0) rfl ?_
      refine g_imul X dX8_asItIs_67 ?_
      refine Go.top (v := .int (nI (2 * i48_1))) (congrArg Value.int (pk_mul 2 i48_1)) ?_
      refine g_iadd X dX8_asItIs_68 ?_
      refine Go.top (v := .int (nI (56 + (2 * i48_1)))) (congrArg Value.int (nI_add 56 (2 * i48_1))) ?_
      refine g_iconst X dX8_asItIs_69 (v := 1) (by decide) ?_
      refine g_iadd X dX8_asItIs_70 ?_
      refine Go.top (v := .int (nI ((56 + (2 * i48_1)) + 1))) (congrArg Value.int (nI_add (56 + (2 * i48_1)) 1)) ?_
      refine i_iald X F 101 rfl rfl dX8_asItIs_71 (vp_in_nI (by omega) (by decide)) rfl ?_
      refine Go.gen (fun o7 => ?_)
      refine i_iast X F I 116 rfl (fun _ => rfl) dX8_asItIs_72 (vp_in_nI (by omega) (by decide)) trivial (fun M C F I K1 hC => ?_)
      have K := K.step K1 (by decide)
      have qD100 : D 100 = D0 100 := ((K1 100 (by decide)).2).trans qD100
      refine g_iinc X dX8_asItIs_73 (j := 0) rfl (v := nI (i48_1 + 1)) (nI_1 i48_1) (by decide) (lv2 := [(1, .int (nI (i48_1 + 1))), (0, .ref (a 100))]) rfl ?_
      refine g_goto X dX8_asItIs_76 (tgt := 48) (by decide) ?_
      refine g_lv [0, 1] (lv2 := [(1, .int (nI (i48_1 + 1))), (0, .ref (a 100))]) rfl ?_
      exact ih48 ((i48_1 + 1)) L M C D F I K ⟨by omega, by omega, qD100⟩ (by show _ < _; omega)
  · skip
    have q5 : ¬ 7 ≤ i23_1 := fun z => q5 ((nI_leI (a := 7) (b := i23_1) (by omega) (by omega)).mpr z)
    refine g_aload_n X dX8_asItIs_29 rfl (j := 1) rfl ?_
    refine i_get X F 100 rfl rfl fk_X8_34 dX8_asItIs_30 rfl ?_
    refine g_iload_n X dX8_asItIs_33 rfl (j := 0) rfl ?_
    refine g_aload_n X dX8_asItIs_34 rfl (j := 1) rfl ?_
    refine g_iload_n X dX8_asItIs_35 rfl (j := 0) rfl ?_
    refine g_callVI X (s_X8_armOf l G F I i23_1 (by omega) (by omega) ) lk_X8_251 (F.1 100 rfl).2 (F.1 100 rfl).1 rfl rfl dX8_asItIs_36 (Nat.le_of_ble_eq_true rfl) ⟨by decide, by decide⟩ ⟨by decide, by decide⟩ (fun r8 L M hp => ?_)
    obtain ⟨C, D, F, I, K1, hr⟩ := hp
    have K := K.step K1 (by decide)
    have qD100 : D 100 = D0 100 := ((K1 100 (by decide)).2).trans qD100
    obtain ⟨n9, hn9a, hn9b, rfl⟩ := hr
    refine i_iast X F I 115 rfl (fun _ => rfl) dX8_asItIs_39 (vp_in_nI (by omega) (by decide)) (rg_of (n := n9) (by omega) (by omega) (by omega)) (fun M C F I K1 hC => ?_)
    have K := K.step K1 (by decide)
    have qD100 : D 100 = D0 100 := ((K1 100 (by decide)).2).trans qD100
    refine g_iinc X dX8_asItIs_40 (j := 0) rfl (v := nI (i23_1 + 1)) (nI_1 i23_1) (by decide) (lv2 := [(1, .int (nI (i23_1 + 1))), (0, .ref (a 100))]) rfl ?_
    refine g_goto X dX8_asItIs_43 (tgt := 23) (by decide) ?_
    refine g_lv [0, 1] (lv2 := [(1, .int (nI (i23_1 + 1))), (0, .ref (a 100))]) rfl ?_
    exact ih23 ((i23_1 + 1)) L M C D F I K ⟨by omega, by omega, qD100⟩ (by show _ < _; omega)
set_option maxHeartbeats 4000000 in
set_option maxRecDepth 100000 in
theorem s_X8_turn_p (l : Launch) (G : va_G) {cy : Nat → ClassId} {L : List Nat} {M : Nat → va_E} {a : Nat → Nat} {act : Nat → Bool} {C0 : Nat → Nat → Int32} {D0 : Nat → Nat → Int64} {R : Nat → Nat → Option Nat} (F : WI L M a act (ent cy a C0 D0 R)) (I : Inv C0) (p0 : Nat) (hp0a : 0 ≤ p0) (hp0b : p0 ≤ 6) (gra : 1 ≤ (C0 101 (14 + 6 * p0)).toInt) : MV l G cy yX8_turn cX8_turn 3 none 1 0 0 [.ref (a 100), .int (nI p0), .int 1] L M (fun L2 M2 => ∃ C2 D2, WI L2 M2 a act (ent cy a C2 D2 R) ∧ Inv C2 ∧ Kp [120] C0 D0 C2 D2 ∧ True) := by
  refine MV.of (own := RX8) rfl (by decide) (Nat.le_of_ble_eq_true rfl) ?_
  intro p e s m below meth c A X hrt hnm
  obtain ⟨C, D, hC0, hD0, F, I, K⟩ : ∃ C D, C = C0 ∧ D = D0 ∧ WI L M a act (ent cy a C D R) ∧ Inv C ∧ Kp [120] C0 D0 C D := ⟨C0, D0, rfl, rfl, F, I, Kp.rf⟩
  obtain ⟨n1, hn1, en1⟩ := rg_nat ((show okw 0 (C 101 0) from I 101 0).1 rfl) (by decide)
  rw [hC0] at en1
  obtain ⟨n2, hn2, en2⟩ := rg_nat ((show okw 4 (C 101 4) from I 101 4).2.2.2.1 rfl) (by decide)
  rw [hC0] at en2
  obtain ⟨n3, hn3, en3⟩ := rg_nat ((show okw 7 (C 101 7) from I 101 7).2.2.2.2.1 rfl) (by decide)
  rw [hC0] at en3
  refine g_aload_n X dX8_turn_0 rfl (j := 0) rfl ?_
  refine i_get X F 100 rfl rfl fk_X8_40 dX8_turn_1 rfl ?_
  refine g_iload_n X dX8_turn_4 rfl (j := 1) rfl ?_
  refine g_aload_n X dX8_turn_5 rfl (j := 0) rfl ?_
  refine i_get X F 100 rfl rfl fk_X8_40 dX8_turn_6 rfl ?_
  refine g_iload_n X dX8_turn_9 rfl (j := 1) rfl ?_
  obtain ⟨n4, hn4, en4⟩ := rg_nat (I 120 p0) (by decide)
  refine i_iald X F 120 rfl rfl dX8_turn_10 (vp_in_nI (by omega) (by decide)) (v := nI n4) (by rw [nI_clamp (by omega)]; exact en4) ?_
  refine g_iload_n X dX8_turn_11 rfl (j := 2) rfl ?_
  refine g_iadd X dX8_turn_12 ?_
  refine Go.top (v := .int (nI (n4 + 1))) (congrArg Value.int (nI_add n4 1)) ?_
  refine g_aload_n X dX8_turn_13 rfl (j := 0) rfl ?_
  refine g_iload_n X dX8_turn_14 rfl (j := 1) rfl ?_
  refine g_callVI X (s_X8_roadMany l G F I p0 (by omega) (by omega) ) lk_X8_245 (F.1 100 rfl).2 (F.1 100 rfl).1 rfl rfl dX8_turn_15 (Nat.le_of_ble_eq_true rfl) ⟨by decide, by decide⟩ ⟨by decide, by decide⟩ (fun r5 L M hp => ?_)
  obtain ⟨C, D, F, I, K1, hr⟩ := hp
  have K := K.step K1 (by decide)
  obtain ⟨n6, hn6, en6, rfl⟩ := hr
  have fn6 : C0 101 (14 + 6 * p0) = nI n6 := (congrFun (K 101 (by decide)).1 _).symm.trans en6
  have gn6 : 1 ≤ n6 := by have z := gra; rw [fn6, nI_toInt (by omega)] at z; omega
  refine g_iadd X dX8_turn_18 ?_
  refine Go.top (v := .int (nI ((n4 + 1) + n6))) (congrArg Value.int (nI_add (n4 + 1) n6)) ?_
  refine g_aload_n X dX8_turn_19 rfl (j := 0) rfl ?_
  refine g_iload_n X dX8_turn_20 rfl (j := 1) rfl ?_
  refine g_callVI X (s_X8_roadMany l G F I p0 (by omega) (by omega) ) lk_X8_245 (F.1 100 rfl).2 (F.1 100 rfl).1 rfl rfl dX8_turn_21 (Nat.le_of_ble_eq_true rfl) ⟨by decide, by decide⟩ ⟨by decide, by decide⟩ (fun r7 L M hp => ?_)
  obtain ⟨C, D, F, I, K1, hr⟩ := hp
  have K := K.step K1 (by decide)
  obtain ⟨n8, hn8, en8, rfl⟩ := hr
  have fn8 : C0 101 (14 + 6 * p0) = nI n8 := (congrFun (K 101 (by decide)).1 _).symm.trans en8
  have gn8 : 1 ≤ n8 := by have z := gra; rw [fn8, nI_toInt (by omega)] at z; omega
  refine g_irem X dX8_turn_24 (nI_ne0 (by omega) (by omega)) ?_
  refine Go.top (v := .int (nI (((n4 + 1) + n6) % n8))) (congrArg Value.int (pk_rem (a := ((n4 + 1) + n6)) (d := n8) (by omega) (by omega) (by omega))) ?_
  obtain ⟨n9, en9⟩ : ∃ z : Nat, z = ((n4 + 1) + n6) % n8 := ⟨_, rfl⟩
  refine Go.top (v := .int (nI n9)) (by rw [en9]) ?_
  have hn9 : n9 < n8 := by rw [en9]; exact Nat.mod_lt _ (by omega)
  refine i_iast X F I 120 rfl (fun _ => rfl) dX8_turn_25 (vp_in_nI (by omega) (by decide)) (rg_of (n := n9) (by omega) (by omega) (by omega)) (fun M C F I K1 hC => ?_)
  have K := K.step K1 (by decide)
  exact g_vret X hrt dX8_turn_26 (by decide) (by decide) ⟨C, D, F, I, K, trivial⟩
set_option maxHeartbeats 4000000 in
set_option maxRecDepth 100000 in
theorem s_X8_turn_m (l : Launch) (G : va_G) {cy : Nat → ClassId} {L : List Nat} {M : Nat → va_E} {a : Nat → Nat} {act : Nat → Bool} {C0 : Nat → Nat → Int32} {D0 : Nat → Nat → Int64} {R : Nat → Nat → Option Nat} (F : WI L M a act (ent cy a C0 D0 R)) (I : Inv C0) (p0 : Nat) (hp0a : 0 ≤ p0) (hp0b : p0 ≤ 6) (gra : 1 ≤ (C0 101 (14 + 6 * p0)).toInt) : MV l G cy yX8_turn cX8_turn 3 none 1 0 0 [.ref (a 100), .int (nI p0), .int (-1)] L M (fun L2 M2 => ∃ C2 D2, WI L2 M2 a act (ent cy a C2 D2 R) ∧ Inv C2 ∧ Kp [120] C0 D0 C2 D2 ∧ True) := by
  refine MV.of (own := RX8) rfl (by decide) (Nat.le_of_ble_eq_true rfl) ?_
  intro p e s m below meth c A X hrt hnm
  obtain ⟨C, D, hC0, hD0, F, I, K⟩ : ∃ C D, C = C0 ∧ D = D0 ∧ WI L M a act (ent cy a C D R) ∧ Inv C ∧ Kp [120] C0 D0 C D := ⟨C0, D0, rfl, rfl, F, I, Kp.rf⟩
  obtain ⟨n1, hn1, en1⟩ := rg_nat ((show okw 0 (C 101 0) from I 101 0).1 rfl) (by decide)
  rw [hC0] at en1
  obtain ⟨n2, hn2, en2⟩ := rg_nat ((show okw 4 (C 101 4) from I 101 4).2.2.2.1 rfl) (by decide)
  rw [hC0] at en2
  obtain ⟨n3, hn3, en3⟩ := rg_nat ((show okw 7 (C 101 7) from I 101 7).2.2.2.2.1 rfl) (by decide)
  rw [hC0] at en3
  refine g_aload_n X dX8_turn_0 rfl (j := 0) rfl ?_
  refine i_get X F 100 rfl rfl fk_X8_40 dX8_turn_1 rfl ?_
  refine g_iload_n X dX8_turn_4 rfl (j := 1) rfl ?_
  refine g_aload_n X dX8_turn_5 rfl (j := 0) rfl ?_
  refine i_get X F 100 rfl rfl fk_X8_40 dX8_turn_6 rfl ?_
  refine g_iload_n X dX8_turn_9 rfl (j := 1) rfl ?_
  obtain ⟨n4, hn4, en4⟩ := rg_nat (I 120 p0) (by decide)
  refine i_iald X F 120 rfl rfl dX8_turn_10 (vp_in_nI (by omega) (by decide)) (v := nI n4) (by rw [nI_clamp (by omega)]; exact en4) ?_
  refine g_iload_n X dX8_turn_11 rfl (j := 2) rfl ?_
  refine g_iadd X dX8_turn_12 ?_
  refine g_aload_n X dX8_turn_13 rfl (j := 0) rfl ?_
  refine g_iload_n X dX8_turn_14 rfl (j := 1) rfl ?_
  refine g_callVI X (s_X8_roadMany l G F I p0 (by omega) (by omega) ) lk_X8_245 (F.1 100 rfl).2 (F.1 100 rfl).1 rfl rfl dX8_turn_15 (Nat.le_of_ble_eq_true rfl) ⟨by decide, by decide⟩ ⟨by decide, by decide⟩ (fun r5 L M hp => ?_)
  obtain ⟨C, D, F, I, K1, hr⟩ := hp
  have K := K.step K1 (by decide)
  obtain ⟨n6, hn6, en6, rfl⟩ := hr
  have fn6 : C0 101 (14 + 6 * p0) = nI n6 := (congrFun (K 101 (by decide)).1 _).symm.trans en6
  have gn6 : 1 ≤ n6 := by have z := gra; rw [fn6, nI_toInt (by omega)] at z; omega
  refine g_iadd X dX8_turn_18 ?_
  refine Go.top (v := .int (nI (n4 + n6 - 1))) (congrArg Value.int (tn_m1 (by omega) (by omega) (by omega))) ?_
  refine g_aload_n X dX8_turn_19 rfl (j := 0) rfl ?_
  refine g_iload_n X dX8_turn_20 rfl (j := 1) rfl ?_
  refine g_callVI X (s_X8_roadMany l G F I p0 (by omega) (by omega) ) lk_X8_245 (F.1 100 rfl).2 (F.1 100 rfl).1 rfl rfl dX8_turn_21 (Nat.le_of_ble_eq_true rfl) ⟨by decide, by decide⟩ ⟨by decide, by decide⟩ (fun r7 L M hp => ?_)
  obtain ⟨C, D, F, I, K1, hr⟩ := hp
  have K := K.step K1 (by decide)
  obtain ⟨n8, hn8, en8, rfl⟩ := hr
  have fn8 : C0 101 (14 + 6 * p0) = nI n8 := (congrFun (K 101 (by decide)).1 _).symm.trans en8
  have gn8 : 1 ≤ n8 := by have z := gra; rw [fn8, nI_toInt (by omega)] at z; omega
  refine g_irem X dX8_turn_24 (nI_ne0 (by omega) (by omega)) ?_
  refine Go.top (v := .int (nI ((n4 + n6 - 1) % n8))) (congrArg Value.int (pk_rem (a := (n4 + n6 - 1)) (d := n8) (by omega) (by omega) (by omega))) ?_
  obtain ⟨n9, en9⟩ : ∃ z : Nat, z = (n4 + n6 - 1) % n8 := ⟨_, rfl⟩
  refine Go.top (v := .int (nI n9)) (by rw [en9]) ?_
  have hn9 : n9 < n8 := by rw [en9]; exact Nat.mod_lt _ (by omega)
  refine i_iast X F I 120 rfl (fun _ => rfl) dX8_turn_25 (vp_in_nI (by omega) (by decide)) (rg_of (n := n9) (by omega) (by omega) (by omega)) (fun M C F I K1 hC => ?_)
  have K := K.step K1 (by decide)
  exact g_vret X hrt dX8_turn_26 (by decide) (by decide) ⟨C, D, F, I, K, trivial⟩
set_option maxHeartbeats 4000000 in
set_option maxRecDepth 100000 in
theorem s_X8_sendBy (l : Launch) (G : va_G) {cy : Nat → ClassId} {L : List Nat} {M : Nat → va_E} {a : Nat → Nat} {act : Nat → Bool} {C0 : Nat → Nat → Int32} {D0 : Nat → Nat → Int64} {R : Nat → Nat → Option Nat} (F : WI L M a act (ent cy a C0 D0 R)) (I : Inv C0) (p0 : Nat) (hp0a : 0 ≤ p0) (hp0b : p0 ≤ 6) (gra : 1 ≤ (C0 101 (14 + 6 * p0)).toInt) : MI l G cy yX8_sendBy cX8_sendBy 3 (some .int) 2 0 0 [.ref (a 100), .int (nI p0)] L M (fun r L2 M2 => ∃ C2 D2, WI L2 M2 a act (ent cy a C2 D2 R) ∧ Inv C2 ∧ Kp [120] C0 D0 C2 D2 ∧ ∃ n : Nat, 0 ≤ n ∧ n ≤ 3 ∧ r = nI n) := by
  refine MI.of (own := RX8) rfl (by decide) (Nat.le_of_ble_eq_true rfl) ?_
  intro p e s m below meth c A X hrt hnm
  obtain ⟨C, D, hC0, hD0, F, I, K⟩ : ∃ C D, C = C0 ∧ D = D0 ∧ WI L M a act (ent cy a C D R) ∧ Inv C ∧ Kp [120] C0 D0 C D := ⟨C0, D0, rfl, rfl, F, I, Kp.rf⟩
  obtain ⟨n1, hn1, en1⟩ := rg_nat ((show okw 0 (C 101 0) from I 101 0).1 rfl) (by decide)
  rw [hC0] at en1
  obtain ⟨n2, hn2, en2⟩ := rg_nat ((show okw 4 (C 101 4) from I 101 4).2.2.2.1 rfl) (by decide)
  rw [hC0] at en2
  obtain ⟨n3, hn3, en3⟩ := rg_nat ((show okw 7 (C 101 7) from I 101 7).2.2.2.2.1 rfl) (by decide)
  rw [hC0] at en3
  refine g_aload_n X dX8_sendBy_0 rfl (j := 0) rfl ?_
  refine i_get X F 100 rfl rfl fk_X8_263 dX8_sendBy_1 rfl ?_
  refine Go.gen (fun o4 => ?_)
  refine g_iload_n X dX8_sendBy_4 rfl (j := 1) rfl ?_
  refine g_callSI X (s_X8_bit l G F I o4 (nI p0) ) lk_X8_266 rfl rfl dX8_sendBy_5 (Nat.le_of_ble_eq_true rfl) ⟨by decide, by decide⟩ ⟨by decide, by decide⟩ (fun r5 L M hp => ?_)
  obtain ⟨C, D, F, I, K1, hr⟩ := hp
  have K := K.step K1 (by decide)
  obtain ⟨n6, hn6a, hn6b, rfl⟩ := hr
  refine g_if_ne X dX8_sendBy_8 (tgt := 18) (by decide) (fun q7 => ?_) (fun q7 => ?_)
  · skip
    have q7 : ¬ n6 = 0 := fun z => q7 ((nI_eq (a := n6) (b := 0) (by omega) (by omega)).mpr z)
    refine g_aload_n X dX8_sendBy_18 rfl (j := 0) rfl ?_
    refine i_get X F 100 rfl rfl fk_X8_257 dX8_sendBy_19 rfl ?_
    refine Go.gen (fun o8 => ?_)
    refine g_iconst X dX8_sendBy_22 (v := 1) (by decide) ?_
    refine g_icmp_ne X dX8_sendBy_23 (tgt := 32) (by decide) (fun q9 => ?_) (fun q9 => ?_)
    · skip
      refine g_aload_n X dX8_sendBy_32 rfl (j := 0) rfl ?_
      refine i_get X F 100 rfl rfl fk_X8_40 dX8_sendBy_33 rfl ?_
      refine g_iload_n X dX8_sendBy_36 rfl (j := 1) rfl ?_
      obtain ⟨n10, hn10, en10⟩ := rg_nat (I 120 p0) (by decide)
      refine i_iald X F 120 rfl rfl dX8_sendBy_37 (vp_in_nI (by omega) (by decide)) (v := nI n10) (by rw [nI_clamp (by omega)]; exact en10) ?_
      refine g_istore_n X dX8_sendBy_38 rfl (by decide) (lv2 := [(2, .int (nI n10)), (0, .ref (a 100)), (1, .int (nI p0))]) rfl ?_
      refine g_aload_n X dX8_sendBy_39 rfl (j := 1) rfl ?_
      refine i_get X F 100 rfl rfl fk_X8_257 dX8_sendBy_40 rfl ?_
      refine Go.gen (fun o11 => ?_)
      refine g_if_eq X dX8_sendBy_43 (tgt := 65) (by decide) (fun q12 => ?_) (fun q12 => ?_)
      · skip
        subst q12
        refine g_aload_n X dX8_sendBy_65 rfl (j := 1) rfl ?_
        refine g_iload_n X dX8_sendBy_66 rfl (j := 2) rfl ?_
        refine g_iconst X dX8_sendBy_67 (v := 1) (by decide) ?_
        refine g_callVV X (s_X8_turn_p l G F I p0 (by omega) (by omega) (by rw [(K 101 (by decide)).1]; exact gra)) lk_X8_269 (F.1 100 rfl).2 (F.1 100 rfl).1 rfl rfl dX8_sendBy_68 (Nat.le_of_ble_eq_true rfl) ⟨by decide, by decide⟩ ⟨by decide, by decide⟩ (fun L M hp => ?_)
        obtain ⟨C, D, F, I, K1, hr⟩ := hp
        have K := K.step K1 (by decide)
        refine g_aload_n X dX8_sendBy_71 rfl (j := 1) rfl ?_
        refine i_get X F 100 rfl rfl fk_X8_257 dX8_sendBy_72 rfl ?_
        refine Go.gen (fun o13 => ?_)
        refine g_iconst X dX8_sendBy_75 (v := 2) (by decide) ?_
        refine g_icmp_ne X dX8_sendBy_76 (tgt := 85) (by decide) (fun q14 => ?_) (fun q14 => ?_)
        · skip
          refine g_iload_n X dX8_sendBy_85 rfl (j := 0) rfl ?_
          exact g_iret X hrt dX8_sendBy_86 (by decide) (by decide) ⟨C, D, F, I, K, ⟨n10, by omega, by omega, rfl⟩⟩
        · skip
          subst q14
          refine g_aload_n X dX8_sendBy_79 rfl (j := 1) rfl ?_
          refine g_iload_n X dX8_sendBy_80 rfl (j := 2) rfl ?_
          refine g_iconst X dX8_sendBy_81 (v := -1) (by decide) ?_
          refine g_callVV X (s_X8_turn_m l G F I p0 (by omega) (by omega) (by rw [(K 101 (by decide)).1]; exact gra)) lk_X8_269 (F.1 100 rfl).2 (F.1 100 rfl).1 rfl rfl dX8_sendBy_82 (Nat.le_of_ble_eq_true rfl) ⟨by decide, by decide⟩ ⟨by decide, by decide⟩ (fun L M hp => ?_)
          obtain ⟨C, D, F, I, K1, hr⟩ := hp
          have K := K.step K1 (by decide)
          refine g_iload_n X dX8_sendBy_85 rfl (j := 0) rfl ?_
          exact g_iret X hrt dX8_sendBy_86 (by decide) (by decide) ⟨C, D, F, I, K, ⟨n10, by omega, by omega, rfl⟩⟩
      · skip
        refine g_aload_n X dX8_sendBy_46 rfl (j := 1) rfl ?_
        refine i_get X F 100 rfl rfl fk_X8_257 dX8_sendBy_47 rfl ?_
        refine Go.gen (fun o15 => ?_)
        refine g_iconst X dX8_sendBy_50 (v := 3) (by decide) ?_
        refine g_icmp_ne X dX8_sendBy_51 (tgt := 71) (by decide) (fun q16 => ?_) (fun q16 => ?_)
        · skip
          refine g_aload_n X dX8_sendBy_71 rfl (j := 1) rfl ?_
          refine i_get X F 100 rfl rfl fk_X8_257 dX8_sendBy_72 rfl ?_
          refine Go.gen (fun o17 => ?_)
          refine g_iconst X dX8_sendBy_75 (v := 2) (by decide) ?_
          refine g_icmp_ne X dX8_sendBy_76 (tgt := 85) (by decide) (fun q18 => ?_) (fun q18 => ?_)
          · skip
            refine g_iload_n X dX8_sendBy_85 rfl (j := 0) rfl ?_
            exact g_iret X hrt dX8_sendBy_86 (by decide) (by decide) ⟨C, D, F, I, K, ⟨n10, by omega, by omega, rfl⟩⟩
          · skip
            subst q18
            refine g_aload_n X dX8_sendBy_79 rfl (j := 1) rfl ?_
            refine g_iload_n X dX8_sendBy_80 rfl (j := 2) rfl ?_
            refine g_iconst X dX8_sendBy_81 (v := -1) (by decide) ?_
            refine g_callVV X (s_X8_turn_m l G F I p0 (by omega) (by omega) (by rw [(K 101 (by decide)).1]; exact gra)) lk_X8_269 (F.1 100 rfl).2 (F.1 100 rfl).1 rfl rfl dX8_sendBy_82 (Nat.le_of_ble_eq_true rfl) ⟨by decide, by decide⟩ ⟨by decide, by decide⟩ (fun L M hp => ?_)
            obtain ⟨C, D, F, I, K1, hr⟩ := hp
            have K := K.step K1 (by decide)
            refine g_iload_n X dX8_sendBy_85 rfl (j := 0) rfl ?_
            exact g_iret X hrt dX8_sendBy_86 (by decide) (by decide) ⟨C, D, F, I, K, ⟨n10, by omega, by omega, rfl⟩⟩
        · skip
          subst q16
          refine g_aload_n X dX8_sendBy_54 rfl (j := 1) rfl ?_
          refine g_iload_n X dX8_sendBy_55 rfl (j := 2) rfl ?_
          refine g_iload_n X dX8_sendBy_56 rfl (j := 0) rfl ?_
          refine g_callVI X (s_X8_roadTo l G F I p0 (by omega) (by omega) n10 (by omega) (by omega) ) lk_X8_248 (F.1 100 rfl).2 (F.1 100 rfl).1 rfl rfl dX8_sendBy_57 (Nat.le_of_ble_eq_true rfl) ⟨by decide, by decide⟩ ⟨by decide, by decide⟩ (fun r19 L M hp => ?_)
          obtain ⟨C, D, F, I, K1, hr⟩ := hp
          have K := K.step K1 (by decide)
          obtain ⟨n20, hn20, rfl⟩ := hr
          refine g_bipush X dX8_sendBy_60 (v := 10) (by decide) ?_
          refine g_icmp_ge X dX8_sendBy_62 (tgt := 71) (by decide) (fun q21 => ?_) (fun q21 => ?_)
          · skip
            have q21 : 10 ≤ n20 := (nI_leI (a := 10) (b := n20) (by omega) (by omega)).mp q21
            refine g_aload_n X dX8_sendBy_71 rfl (j := 1) rfl ?_
            refine i_get X F 100 rfl rfl fk_X8_257 dX8_sendBy_72 rfl ?_
            refine Go.gen (fun o22 => ?_)
            refine g_iconst X dX8_sendBy_75 (v := 2) (by decide) ?_
            refine g_icmp_ne X dX8_sendBy_76 (tgt := 85) (by decide) (fun q23 => ?_) (fun q23 => ?_)
            · skip
              refine g_iload_n X dX8_sendBy_85 rfl (j := 0) rfl ?_
              exact g_iret X hrt dX8_sendBy_86 (by decide) (by decide) ⟨C, D, F, I, K, ⟨n10, by omega, by omega, rfl⟩⟩
            · skip
              subst q23
              refine g_aload_n X dX8_sendBy_79 rfl (j := 1) rfl ?_
              refine g_iload_n X dX8_sendBy_80 rfl (j := 2) rfl ?_
              refine g_iconst X dX8_sendBy_81 (v := -1) (by decide) ?_
              refine g_callVV X (s_X8_turn_m l G F I p0 (by omega) (by omega) (by rw [(K 101 (by decide)).1]; exact gra)) lk_X8_269 (F.1 100 rfl).2 (F.1 100 rfl).1 rfl rfl dX8_sendBy_82 (Nat.le_of_ble_eq_true rfl) ⟨by decide, by decide⟩ ⟨by decide, by decide⟩ (fun L M hp => ?_)
              obtain ⟨C, D, F, I, K1, hr⟩ := hp
              have K := K.step K1 (by decide)
              refine g_iload_n X dX8_sendBy_85 rfl (j := 0) rfl ?_
              exact g_iret X hrt dX8_sendBy_86 (by decide) (by decide) ⟨C, D, F, I, K, ⟨n10, by omega, by omega, rfl⟩⟩
          · skip
            have q21 : ¬ 10 ≤ n20 := fun z => q21 ((nI_leI (a := 10) (b := n20) (by omega) (by omega)).mpr z)
            refine g_aload_n X dX8_sendBy_65 rfl (j := 1) rfl ?_
            refine g_iload_n X dX8_sendBy_66 rfl (j := 2) rfl ?_
            refine g_iconst X dX8_sendBy_67 (v := 1) (by decide) ?_
            refine g_callVV X (s_X8_turn_p l G F I p0 (by omega) (by omega) (by rw [(K 101 (by decide)).1]; exact gra)) lk_X8_269 (F.1 100 rfl).2 (F.1 100 rfl).1 rfl rfl dX8_sendBy_68 (Nat.le_of_ble_eq_true rfl) ⟨by decide, by decide⟩ ⟨by decide, by decide⟩ (fun L M hp => ?_)
            obtain ⟨C, D, F, I, K1, hr⟩ := hp
            have K := K.step K1 (by decide)
            refine g_aload_n X dX8_sendBy_71 rfl (j := 1) rfl ?_
            refine i_get X F 100 rfl rfl fk_X8_257 dX8_sendBy_72 rfl ?_
            refine Go.gen (fun o24 => ?_)
            refine g_iconst X dX8_sendBy_75 (v := 2) (by decide) ?_
            refine g_icmp_ne X dX8_sendBy_76 (tgt := 85) (by decide) (fun q25 => ?_) (fun q25 => ?_)
            · skip
              refine g_iload_n X dX8_sendBy_85 rfl (j := 0) rfl ?_
              exact g_iret X hrt dX8_sendBy_86 (by decide) (by decide) ⟨C, D, F, I, K, ⟨n10, by omega, by omega, rfl⟩⟩
            · skip
              subst q25
              refine g_aload_n X dX8_sendBy_79 rfl (j := 1) rfl ?_
              refine g_iload_n X dX8_sendBy_80 rfl (j := 2) rfl ?_
              refine g_iconst X dX8_sendBy_81 (v := -1) (by decide) ?_
              refine g_callVV X (s_X8_turn_m l G F I p0 (by omega) (by omega) (by rw [(K 101 (by decide)).1]; exact gra)) lk_X8_269 (F.1 100 rfl).2 (F.1 100 rfl).1 rfl rfl dX8_sendBy_82 (Nat.le_of_ble_eq_true rfl) ⟨by decide, by decide⟩ ⟨by decide, by decide⟩ (fun L M hp => ?_)
              obtain ⟨C, D, F, I, K1, hr⟩ := hp
              have K := K.step K1 (by decide)
              refine g_iload_n X dX8_sendBy_85 rfl (j := 0) rfl ?_
              exact g_iret X hrt dX8_sendBy_86 (by decide) (by decide) ⟨C, D, F, I, K, ⟨n10, by omega, by omega, rfl⟩⟩
    · skip
      subst q9
      refine g_aload_n X dX8_sendBy_26 rfl (j := 0) rfl ?_
      refine g_iload_n X dX8_sendBy_27 rfl (j := 1) rfl ?_
      refine g_iconst X dX8_sendBy_28 (v := 1) (by decide) ?_
      refine g_callVV X (s_X8_turn_p l G F I p0 (by omega) (by omega) (by rw [(K 101 (by decide)).1]; exact gra)) lk_X8_269 (F.1 100 rfl).2 (F.1 100 rfl).1 rfl rfl dX8_sendBy_29 (Nat.le_of_ble_eq_true rfl) ⟨by decide, by decide⟩ ⟨by decide, by decide⟩ (fun L M hp => ?_)
      obtain ⟨C, D, F, I, K1, hr⟩ := hp
      have K := K.step K1 (by decide)
      refine g_aload_n X dX8_sendBy_32 rfl (j := 0) rfl ?_
      refine i_get X F 100 rfl rfl fk_X8_40 dX8_sendBy_33 rfl ?_
      refine g_iload_n X dX8_sendBy_36 rfl (j := 1) rfl ?_
      obtain ⟨n26, hn26, en26⟩ := rg_nat (I 120 p0) (by decide)
      refine i_iald X F 120 rfl rfl dX8_sendBy_37 (vp_in_nI (by omega) (by decide)) (v := nI n26) (by rw [nI_clamp (by omega)]; exact en26) ?_
      refine g_istore_n X dX8_sendBy_38 rfl (by decide) (lv2 := [(2, .int (nI n26)), (0, .ref (a 100)), (1, .int (nI p0))]) rfl ?_
      refine g_aload_n X dX8_sendBy_39 rfl (j := 1) rfl ?_
      refine i_get X F 100 rfl rfl fk_X8_257 dX8_sendBy_40 rfl ?_
      refine Go.gen (fun o27 => ?_)
      refine g_if_eq X dX8_sendBy_43 (tgt := 65) (by decide) (fun q28 => ?_) (fun q28 => ?_)
      · skip
        subst q28
        refine g_aload_n X dX8_sendBy_65 rfl (j := 1) rfl ?_
        refine g_iload_n X dX8_sendBy_66 rfl (j := 2) rfl ?_
        refine g_iconst X dX8_sendBy_67 (v := 1) (by decide) ?_
        refine g_callVV X (s_X8_turn_p l G F I p0 (by omega) (by omega) (by rw [(K 101 (by decide)).1]; exact gra)) lk_X8_269 (F.1 100 rfl).2 (F.1 100 rfl).1 rfl rfl dX8_sendBy_68 (Nat.le_of_ble_eq_true rfl) ⟨by decide, by decide⟩ ⟨by decide, by decide⟩ (fun L M hp => ?_)
        obtain ⟨C, D, F, I, K1, hr⟩ := hp
        have K := K.step K1 (by decide)
        refine g_aload_n X dX8_sendBy_71 rfl (j := 1) rfl ?_
        refine i_get X F 100 rfl rfl fk_X8_257 dX8_sendBy_72 rfl ?_
        refine Go.gen (fun o29 => ?_)
        refine g_iconst X dX8_sendBy_75 (v := 2) (by decide) ?_
        refine g_icmp_ne X dX8_sendBy_76 (tgt := 85) (by decide) (fun q30 => ?_) (fun q30 => ?_)
        · skip
          refine g_iload_n X dX8_sendBy_85 rfl (j := 0) rfl ?_
          exact g_iret X hrt dX8_sendBy_86 (by decide) (by decide) ⟨C, D, F, I, K, ⟨n26, by omega, by omega, rfl⟩⟩
        · skip
          subst q30
          refine g_aload_n X dX8_sendBy_79 rfl (j := 1) rfl ?_
          refine g_iload_n X dX8_sendBy_80 rfl (j := 2) rfl ?_
          refine g_iconst X dX8_sendBy_81 (v := -1) (by decide) ?_
          refine g_callVV X (s_X8_turn_m l G F I p0 (by omega) (by omega) (by rw [(K 101 (by decide)).1]; exact gra)) lk_X8_269 (F.1 100 rfl).2 (F.1 100 rfl).1 rfl rfl dX8_sendBy_82 (Nat.le_of_ble_eq_true rfl) ⟨by decide, by decide⟩ ⟨by decide, by decide⟩ (fun L M hp => ?_)
          obtain ⟨C, D, F, I, K1, hr⟩ := hp
          have K := K.step K1 (by decide)
          refine g_iload_n X dX8_sendBy_85 rfl (j := 0) rfl ?_
          exact g_iret X hrt dX8_sendBy_86 (by decide) (by decide) ⟨C, D, F, I, K, ⟨n26, by omega, by omega, rfl⟩⟩
      · skip
        refine g_aload_n X dX8_sendBy_46 rfl (j := 1) rfl ?_
        refine i_get X F 100 rfl rfl fk_X8_257 dX8_sendBy_47 rfl ?_
        refine Go.gen (fun o31 => ?_)
        refine g_iconst X dX8_sendBy_50 (v := 3) (by decide) ?_
        refine g_icmp_ne X dX8_sendBy_51 (tgt := 71) (by decide) (fun q32 => ?_) (fun q32 => ?_)
        · skip
          refine g_aload_n X dX8_sendBy_71 rfl (j := 1) rfl ?_
          refine i_get X F 100 rfl rfl fk_X8_257 dX8_sendBy_72 rfl ?_
          refine Go.gen (fun o33 => ?_)
          refine g_iconst X dX8_sendBy_75 (v := 2) (by decide) ?_
          refine g_icmp_ne X dX8_sendBy_76 (tgt := 85) (by decide) (fun q34 => ?_) (fun q34 => ?_)
          · skip
            refine g_iload_n X dX8_sendBy_85 rfl (j := 0) rfl ?_
            exact g_iret X hrt dX8_sendBy_86 (by decide) (by decide) ⟨C, D, F, I, K, ⟨n26, by omega, by omega, rfl⟩⟩
          · skip
            subst q34
            refine g_aload_n X dX8_sendBy_79 rfl (j := 1) rfl ?_
            refine g_iload_n X dX8_sendBy_80 rfl (j := 2) rfl ?_
            refine g_iconst X dX8_sendBy_81 (v := -1) (by decide) ?_
            refine g_callVV X (s_X8_turn_m l G F I p0 (by omega) (by omega) (by rw [(K 101 (by decide)).1]; exact gra)) lk_X8_269 (F.1 100 rfl).2 (F.1 100 rfl).1 rfl rfl dX8_sendBy_82 (Nat.le_of_ble_eq_true rfl) ⟨by decide, by decide⟩ ⟨by decide, by decide⟩ (fun L M hp => ?_)
            obtain ⟨C, D, F, I, K1, hr⟩ := hp
            have K := K.step K1 (by decide)
            refine g_iload_n X dX8_sendBy_85 rfl (j := 0) rfl ?_
            exact g_iret X hrt dX8_sendBy_86 (by decide) (by decide) ⟨C, D, F, I, K, ⟨n26, by omega, by omega, rfl⟩⟩
        · skip
          subst q32
          refine g_aload_n X dX8_sendBy_54 rfl (j := 1) rfl ?_
          refine g_iload_n X dX8_sendBy_55 rfl (j := 2) rfl ?_
          refine g_iload_n X dX8_sendBy_56 rfl (j := 0) rfl ?_
          refine g_callVI X (s_X8_roadTo l G F I p0 (by omega) (by omega) n26 (by omega) (by omega) ) lk_X8_248 (F.1 100 rfl).2 (F.1 100 rfl).1 rfl rfl dX8_sendBy_57 (Nat.le_of_ble_eq_true rfl) ⟨by decide, by decide⟩ ⟨by decide, by decide⟩ (fun r35 L M hp => ?_)
          obtain ⟨C, D, F, I, K1, hr⟩ := hp
          have K := K.step K1 (by decide)
          obtain ⟨n36, hn36, rfl⟩ := hr
          refine g_bipush X dX8_sendBy_60 (v := 10) (by decide) ?_
          refine g_icmp_ge X dX8_sendBy_62 (tgt := 71) (by decide) (fun q37 => ?_) (fun q37 => ?_)
          · skip
            have q37 : 10 ≤ n36 := (nI_leI (a := 10) (b := n36) (by omega) (by omega)).mp q37
            refine g_aload_n X dX8_sendBy_71 rfl (j := 1) rfl ?_
            refine i_get X F 100 rfl rfl fk_X8_257 dX8_sendBy_72 rfl ?_
            refine Go.gen (fun o38 => ?_)
            refine g_iconst X dX8_sendBy_75 (v := 2) (by decide) ?_
            refine g_icmp_ne X dX8_sendBy_76 (tgt := 85) (by decide) (fun q39 => ?_) (fun q39 => ?_)
            · skip
              refine g_iload_n X dX8_sendBy_85 rfl (j := 0) rfl ?_
              exact g_iret X hrt dX8_sendBy_86 (by decide) (by decide) ⟨C, D, F, I, K, ⟨n26, by omega, by omega, rfl⟩⟩
            · skip
              subst q39
              refine g_aload_n X dX8_sendBy_79 rfl (j := 1) rfl ?_
              refine g_iload_n X dX8_sendBy_80 rfl (j := 2) rfl ?_
              refine g_iconst X dX8_sendBy_81 (v := -1) (by decide) ?_
              refine g_callVV X (s_X8_turn_m l G F I p0 (by omega) (by omega) (by rw [(K 101 (by decide)).1]; exact gra)) lk_X8_269 (F.1 100 rfl).2 (F.1 100 rfl).1 rfl rfl dX8_sendBy_82 (Nat.le_of_ble_eq_true rfl) ⟨by decide, by decide⟩ ⟨by decide, by decide⟩ (fun L M hp => ?_)
              obtain ⟨C, D, F, I, K1, hr⟩ := hp
              have K := K.step K1 (by decide)
              refine g_iload_n X dX8_sendBy_85 rfl (j := 0) rfl ?_
              exact g_iret X hrt dX8_sendBy_86 (by decide) (by decide) ⟨C, D, F, I, K, ⟨n26, by omega, by omega, rfl⟩⟩
          · skip
            have q37 : ¬ 10 ≤ n36 := fun z => q37 ((nI_leI (a := 10) (b := n36) (by omega) (by omega)).mpr z)
            refine g_aload_n X dX8_sendBy_65 rfl (j := 1) rfl ?_
            refine g_iload_n X dX8_sendBy_66 rfl (j := 2) rfl ?_
            refine g_iconst X dX8_sendBy_67 (v := 1) (by decide) ?_
            refine g_callVV X (s_X8_turn_p l G F I p0 (by omega) (by omega) (by rw [(K 101 (by decide)).1]; exact gra)) lk_X8_269 (F.1 100 rfl).2 (F.1 100 rfl).1 rfl rfl dX8_sendBy_68 (Nat.le_of_ble_eq_true rfl) ⟨by decide, by decide⟩ ⟨by decide, by decide⟩ (fun L M hp => ?_)
            obtain ⟨C, D, F, I, K1, hr⟩ := hp
            have K := K.step K1 (by decide)
            refine g_aload_n X dX8_sendBy_71 rfl (j := 1) rfl ?_
            refine i_get X F 100 rfl rfl fk_X8_257 dX8_sendBy_72 rfl ?_
            refine Go.gen (fun o40 => ?_)
            refine g_iconst X dX8_sendBy_75 (v := 2) (by decide) ?_
            refine g_icmp_ne X dX8_sendBy_76 (tgt := 85) (by decide) (fun q41 => ?_) (fun q41 => ?_)
            · skip
              refine g_iload_n X dX8_sendBy_85 rfl (j := 0) rfl ?_
              exact g_iret X hrt dX8_sendBy_86 (by decide) (by decide) ⟨C, D, F, I, K, ⟨n26, by omega, by omega, rfl⟩⟩
            · skip
              subst q41
              refine g_aload_n X dX8_sendBy_79 rfl (j := 1) rfl ?_
              refine g_iload_n X dX8_sendBy_80 rfl (j := 2) rfl ?_
              refine g_iconst X dX8_sendBy_81 (v := -1) (by decide) ?_
              refine g_callVV X (s_X8_turn_m l G F I p0 (by omega) (by omega) (by rw [(K 101 (by decide)).1]; exact gra)) lk_X8_269 (F.1 100 rfl).2 (F.1 100 rfl).1 rfl rfl dX8_sendBy_82 (Nat.le_of_ble_eq_true rfl) ⟨by decide, by decide⟩ ⟨by decide, by decide⟩ (fun L M hp => ?_)
              obtain ⟨C, D, F, I, K1, hr⟩ := hp
              have K := K.step K1 (by decide)
              refine g_iload_n X dX8_sendBy_85 rfl (j := 0) rfl ?_
              exact g_iret X hrt dX8_sendBy_86 (by decide) (by decide) ⟨C, D, F, I, K, ⟨n26, by omega, by omega, rfl⟩⟩
  · skip
    have q7 : n6 = 0 := (nI_eq (a := n6) (b := 0) (by omega) (by omega)).mp q7
    refine g_aload_n X dX8_sendBy_11 rfl (j := 0) rfl ?_
    refine i_get X F 100 rfl rfl fk_X8_40 dX8_sendBy_12 rfl ?_
    refine g_iload_n X dX8_sendBy_15 rfl (j := 1) rfl ?_
    obtain ⟨n42, hn42, en42⟩ := rg_nat (I 120 p0) (by decide)
    refine i_iald X F 120 rfl rfl dX8_sendBy_16 (vp_in_nI (by omega) (by decide)) (v := nI n42) (by rw [nI_clamp (by omega)]; exact en42) ?_
    exact g_iret X hrt dX8_sendBy_17 (by decide) (by decide) ⟨C, D, F, I, K, ⟨n42, by omega, by omega, rfl⟩⟩
set_option maxHeartbeats 4000000 in
set_option maxRecDepth 100000 in
theorem s_X8_isHeld (l : Launch) (G : va_G) {cy : Nat → ClassId} {L : List Nat} {M : Nat → va_E} {a : Nat → Nat} {act : Nat → Bool} {C0 : Nat → Nat → Int32} {D0 : Nat → Nat → Int64} {R : Nat → Nat → Option Nat} (F : WI L M a act (ent cy a C0 D0 R)) (I : Inv C0) (p0 : Nat) (hp0a : 0 ≤ p0) (hp0b : p0 ≤ 7) (p1 : Nat) (hp1a : 0 ≤ p1) (hp1b : p1 ≤ 15)  : MI l G cy yX8_isHeld cX8_isHeld 5 (some .boolean) 0 0 0 [.ref (a 100), .int (nI p0), .int (nI p1)] L M (fun r L2 M2 => ∃ C2 D2, WI L2 M2 a act (ent cy a C2 D2 R) ∧ Inv C2 ∧ Kp [] C0 D0 C2 D2 ∧ (r = 0 ∨ r = 1)) := by
  refine MI.of (own := RX8) rfl (by decide) (Nat.le_of_ble_eq_true rfl) ?_
  intro p e s m below meth c A X hrt hnm
  obtain ⟨C, D, hC0, hD0, F, I, K⟩ : ∃ C D, C = C0 ∧ D = D0 ∧ WI L M a act (ent cy a C D R) ∧ Inv C ∧ Kp [] C0 D0 C D := ⟨C0, D0, rfl, rfl, F, I, Kp.rf⟩
  obtain ⟨n1, hn1, en1⟩ := rg_nat ((show okw 0 (C 101 0) from I 101 0).1 rfl) (by decide)
  rw [hC0] at en1
  obtain ⟨n2, hn2, en2⟩ := rg_nat ((show okw 4 (C 101 4) from I 101 4).2.2.2.1 rfl) (by decide)
  rw [hC0] at en2
  obtain ⟨n3, hn3, en3⟩ := rg_nat ((show okw 7 (C 101 7) from I 101 7).2.2.2.2.1 rfl) (by decide)
  rw [hC0] at en3
  refine g_iconst X dX8_isHeld_0 (v := 0) (by decide) ?_
  refine g_istore_n X dX8_isHeld_1 rfl (by decide) (lv2 := [(3, .int 0), (0, .ref (a 100)), (1, .int (nI p0)), (2, .int (nI p1))]) rfl ?_
  refine g_iconst X dX8_isHeld_2 (v := 0) (by decide) ?_
  refine g_istore X dX8_isHeld_3 (by decide) (lv2 := [(4, .int 0), (3, .int 0), (0, .ref (a 100)), (1, .int (nI p0)), (2, .int (nI p1))]) rfl ?_
  refine g_lv [0, 1, 2, 3, 4] (lv2 := [(4, .int 0), (3, .int 0), (0, .ref (a 100)), (1, .int (nI p0)), (2, .int (nI p1))]) rfl ?_
  refine i_loop (mods := []) (fun x : Nat × Int32 => 30 - x.1) (fun x => [(4, .int (nI (x.1))), (3, .int (x.2)), (0, .ref (a 100)), (1, .int (nI p0)), (2, .int (nI p1))]) (fun x C => 0 ≤ x.1 ∧ x.1 ≤ 30 ∧ (x.2 = 0 ∨ x.2 = 1)) (fun x L M C D F I K hP ih5 => ?_) ((0, 0) : Nat × Int32) F I K ⟨by show _ ≤ _; omega, by show _ ≤ _; omega, Or.inl rfl⟩
  rcases x with ⟨i5_4, v5_3⟩
  obtain ⟨hi5_4a, hi5_4b, hb5_3⟩ := hP
  try dsimp only at hb5_3
  refine g_lv [0, 1, 2, 3, 4] (lv2 := [(4, .int (nI i5_4)), (3, .int v5_3), (0, .ref (a 100)), (1, .int (nI p0)), (2, .int (nI p1))]) rfl ?_
  refine g_iload X dX8_isHeld_5 (j := 0) rfl ?_
  refine g_aload_n X dX8_isHeld_7 rfl (j := 2) rfl ?_
  refine i_get X F 100 rfl rfl fk_X8_9 dX8_isHeld_8 rfl ?_
  refine g_bipush X dX8_isHeld_11 (v := 8) (by decide) ?_
  obtain ⟨n4, hn4, en4⟩ := rg_nat ((show okw (8) (C 101 (8)) from I 101 (8)).2.2.2.2.2.1 rfl) (by decide)
  refine i_iald X F 101 rfl rfl dX8_isHeld_13 (vp_in_iff.mpr (by decide)) (v := nI n4) (by exact en4) ?_
  refine g_icmp_ge X dX8_isHeld_14 (tgt := 56) (by decide) (fun q5 => ?_) (fun q5 => ?_)
  · skip
    have q5 : n4 ≤ i5_4 := (nI_leI (a := n4) (b := i5_4) (by omega) (by omega)).mp q5
    rcases hb5_3 with rfl | rfl
    · skip
      refine g_iload_n X dX8_isHeld_56 rfl (j := 1) rfl ?_
      exact g_zret X hrt rfl dX8_isHeld_57 (by decide) (by decide) ⟨C, D, F, I, K, Or.inl rfl⟩
    · skip
      refine g_iload_n X dX8_isHeld_56 rfl (j := 1) rfl ?_
      exact g_zret X hrt rfl dX8_isHeld_57 (by decide) (by decide) ⟨C, D, F, I, K, Or.inr rfl⟩
  · skip
    have q5 : ¬ n4 ≤ i5_4 := fun z => q5 ((nI_leI (a := n4) (b := i5_4) (by omega) (by omega)).mpr z)
    refine g_iload_n X dX8_isHeld_17 rfl (j := 1) rfl ?_
    refine g_if_ne X dX8_isHeld_18 (tgt := 44) (by decide) (fun q6 => ?_) (fun q6 => ?_)
    · skip
      refine g_iconst X dX8_isHeld_44 (v := 1) (by decide) ?_
      refine g_goto X dX8_isHeld_45 (tgt := 49) (by decide) ?_
      refine g_istore_n X dX8_isHeld_49 rfl (by decide) (lv2 := [(3, .int 1), (4, .int (nI i5_4)), (0, .ref (a 100)), (1, .int (nI p0)), (2, .int (nI p1))]) rfl ?_
      refine g_iinc X dX8_isHeld_50 (j := 1) rfl (v := nI (i5_4 + 1)) (nI_1 i5_4) (by decide) (lv2 := [(4, .int (nI (i5_4 + 1))), (3, .int 1), (0, .ref (a 100)), (1, .int (nI p0)), (2, .int (nI p1))]) rfl ?_
      refine g_goto X dX8_isHeld_53 (tgt := 5) (by decide) ?_
      refine g_lv [0, 1, 2, 3, 4] (lv2 := [(4, .int (nI (i5_4 + 1))), (3, .int 1), (0, .ref (a 100)), (1, .int (nI p0)), (2, .int (nI p1))]) rfl ?_
      exact ih5 ((i5_4 + 1), 1) L M C D F I K ⟨by omega, by omega, Or.inr rfl⟩ (by show _ < _; omega)
    · skip
      subst q6
      refine g_aload_n X dX8_isHeld_21 rfl (j := 2) rfl ?_
      refine i_get X F 100 rfl rfl fk_X8_9 dX8_isHeld_22 rfl ?_
      refine g_bipush X dX8_isHeld_25 (v := 72) (by decide) ?_
      refine g_iload X dX8_isHeld_27 (j := 0) rfl ?_
      refine g_iadd X dX8_isHeld_29 ?_
      refine Go.top (v := .int (nI (72 + i5_4))) (congrArg Value.int (nI_add 72 i5_4)) ?_
      refine i_iald X F 101 rfl rfl dX8_isHeld_30 (vp_in_nI (by omega) (by decide)) rfl ?_
      refine Go.gen (fun o7 => ?_)
      refine g_sipush X dX8_isHeld_31 (v := 10000) (by decide) ?_
      refine g_bipush X dX8_isHeld_34 (v := 100) (by decide) ?_
      refine g_iload_n X dX8_isHeld_36 rfl (j := 3) rfl ?_
      refine g_imul X dX8_isHeld_37 ?_
      refine Go.top (v := .int (nI (100 * p0))) (congrArg Value.int (pk_mul 100 p0)) ?_
      refine g_iadd X dX8_isHeld_38 ?_
      refine Go.top (v := .int (nI (10000 + (100 * p0)))) (congrArg Value.int (nI_add 10000 (100 * p0))) ?_
      refine g_iload_n X dX8_isHeld_39 rfl (j := 4) rfl ?_
      refine g_iadd X dX8_isHeld_40 ?_
      refine Go.top (v := .int (nI ((10000 + (100 * p0)) + p1))) (congrArg Value.int (nI_add (10000 + (100 * p0)) p1)) ?_
      refine g_icmp_ne X dX8_isHeld_41 (tgt := 48) (by decide) (fun q8 => ?_) (fun q8 => ?_)
      · skip
        refine g_iconst X dX8_isHeld_48 (v := 0) (by decide) ?_
        refine g_istore_n X dX8_isHeld_49 rfl (by decide) (lv2 := [(3, .int 0), (4, .int (nI i5_4)), (0, .ref (a 100)), (1, .int (nI p0)), (2, .int (nI p1))]) rfl ?_
        refine g_iinc X dX8_isHeld_50 (j := 1) rfl (v := nI (i5_4 + 1)) (nI_1 i5_4) (by decide) (lv2 := [(4, .int (nI (i5_4 + 1))), (3, .int 0), (0, .ref (a 100)), (1, .int (nI p0)), (2, .int (nI p1))]) rfl ?_
        refine g_goto X dX8_isHeld_53 (tgt := 5) (by decide) ?_
        refine g_lv [0, 1, 2, 3, 4] (lv2 := [(4, .int (nI (i5_4 + 1))), (3, .int 0), (0, .ref (a 100)), (1, .int (nI p0)), (2, .int (nI p1))]) rfl ?_
        exact ih5 ((i5_4 + 1), 0) L M C D F I K ⟨by omega, by omega, Or.inl rfl⟩ (by show _ < _; omega)
      · skip
        refine g_iconst X dX8_isHeld_44 (v := 1) (by decide) ?_
        refine g_goto X dX8_isHeld_45 (tgt := 49) (by decide) ?_
        refine g_istore_n X dX8_isHeld_49 rfl (by decide) (lv2 := [(3, .int 1), (4, .int (nI i5_4)), (0, .ref (a 100)), (1, .int (nI p0)), (2, .int (nI p1))]) rfl ?_
        refine g_iinc X dX8_isHeld_50 (j := 1) rfl (v := nI (i5_4 + 1)) (nI_1 i5_4) (by decide) (lv2 := [(4, .int (nI (i5_4 + 1))), (3, .int 1), (0, .ref (a 100)), (1, .int (nI p0)), (2, .int (nI p1))]) rfl ?_
        refine g_goto X dX8_isHeld_53 (tgt := 5) (by decide) ?_
        refine g_lv [0, 1, 2, 3, 4] (lv2 := [(4, .int (nI (i5_4 + 1))), (3, .int 1), (0, .ref (a 100)), (1, .int (nI p0)), (2, .int (nI p1))]) rfl ?_
        exact ih5 ((i5_4 + 1), 1) L M C D F I K ⟨by omega, by omega, Or.inr rfl⟩ (by show _ < _; omega)
set_option maxHeartbeats 4000000 in
set_option maxRecDepth 100000 in
theorem s_X8_sendOne (l : Launch) (G : va_G) {cy : Nat → ClassId} {L : List Nat} {M : Nat → va_E} {a : Nat → Nat} {act : Nat → Bool} {C0 : Nat → Nat → Int32} {D0 : Nat → Nat → Int64} {R : Nat → Nat → Option Nat} (F : WI L M a act (ent cy a C0 D0 R)) (I : Inv C0) (p0 : Nat) (hp0a : 0 ≤ p0) (hp0b : p0 ≤ 7) (p1 : Nat) (hp1a : 0 ≤ p1) (hp1b : p1 ≤ 15) (gpl : ∃ n : Nat, n < 7 ∧ C0 121 p0 = nI n ∧ 1 ≤ (C0 101 (14 + 6 * n)).toInt) : MV l G cy yX8_sendOne cX8_sendOne 6 none 3 0 0 [.ref (a 100), .int (nI p0), .int (nI p1)] L M (fun L2 M2 => ∃ C2 D2, WI L2 M2 a act (ent cy a C2 D2 R) ∧ Inv C2 ∧ Kp [120, 121, 124, 125, 126, 127, 128] C0 D0 C2 D2 ∧ True) := by
  refine MV.of (own := RX8) rfl (by decide) (Nat.le_of_ble_eq_true rfl) ?_
  intro p e s m below meth c A X hrt hnm
  obtain ⟨C, D, hC0, hD0, F, I, K⟩ : ∃ C D, C = C0 ∧ D = D0 ∧ WI L M a act (ent cy a C D R) ∧ Inv C ∧ Kp [120, 121, 124, 125, 126, 127, 128] C0 D0 C D := ⟨C0, D0, rfl, rfl, F, I, Kp.rf⟩
  obtain ⟨n1, hn1, en1⟩ := rg_nat ((show okw 0 (C 101 0) from I 101 0).1 rfl) (by decide)
  rw [hC0] at en1
  obtain ⟨n2, hn2, en2⟩ := rg_nat ((show okw 4 (C 101 4) from I 101 4).2.2.2.1 rfl) (by decide)
  rw [hC0] at en2
  obtain ⟨n3, hn3, en3⟩ := rg_nat ((show okw 7 (C 101 7) from I 101 7).2.2.2.2.1 rfl) (by decide)
  rw [hC0] at en3
  obtain ⟨ns, hns, ens, gra⟩ := gpl
  refine g_aload_n X dX8_sendOne_0 rfl (j := 0) rfl ?_
  refine i_get X F 100 rfl rfl fk_X8_43 dX8_sendOne_1 rfl ?_
  refine g_iload_n X dX8_sendOne_4 rfl (j := 1) rfl ?_
  rcases okp_nat (I 121 p0) with en4 | ⟨n4, hn4, en4⟩
  · skip
    refine i_iald X F 121 rfl rfl dX8_sendOne_5 (vp_in_nI (by omega) (by decide)) (v := -1) (by rw [nI_clamp (by omega)]; exact en4) ?_
    exact absurd (en4.symm.trans ((congrFun (by rw [hC0]) _).trans ens)) (fun z => nI_nm1 (by omega) z.symm)
  · skip
    refine i_iald X F 121 rfl rfl dX8_sendOne_5 (vp_in_nI (by omega) (by decide)) (v := nI n4) (by rw [nI_clamp (by omega)]; exact en4) ?_
    obtain rfl : n4 = ns := (nI_eq (by omega) (by omega)).mp (en4.symm.trans (by rw [hC0]; exact ens))
    refine g_istore_n X dX8_sendOne_6 rfl (by decide) (lv2 := [(3, .int (nI n4)), (0, .ref (a 100)), (1, .int (nI p0)), (2, .int (nI p1))]) rfl ?_
    refine g_aload_n X dX8_sendOne_7 rfl (j := 1) rfl ?_
    refine g_iload_n X dX8_sendOne_8 rfl (j := 0) rfl ?_
    refine g_callVI X (s_X8_sendBy l G F I n4 (by omega) (by omega) (by rw [(K 101 (by decide)).1]; exact gra)) lk_X8_273 (F.1 100 rfl).2 (F.1 100 rfl).1 rfl rfl dX8_sendOne_9 (Nat.le_of_ble_eq_true rfl) ⟨by decide, by decide⟩ ⟨by decide, by decide⟩ (fun r5 L M hp => ?_)
    obtain ⟨C, D, F, I, K1, hr⟩ := hp
    have K := K.step K1 (by decide)
    have en4 : C 121 (p0) = nI n4 := by rw [(K1 121 (by decide)).1]; exact en4
    obtain ⟨n6, hn6a, hn6b, rfl⟩ := hr
    refine g_istore X dX8_sendOne_12 (by decide) (lv2 := [(4, .int (nI n6)), (3, .int (nI n4)), (0, .ref (a 100)), (1, .int (nI p0)), (2, .int (nI p1))]) rfl ?_
    refine g_aload_n X dX8_sendOne_14 rfl (j := 2) rfl ?_
    refine g_iload_n X dX8_sendOne_15 rfl (j := 1) rfl ?_
    refine g_iload X dX8_sendOne_16 (j := 0) rfl ?_
    refine g_callVI X (s_X8_roadTo l G F I n4 (by omega) (by omega) n6 (by omega) (by omega) ) lk_X8_248 (F.1 100 rfl).2 (F.1 100 rfl).1 rfl rfl dX8_sendOne_18 (Nat.le_of_ble_eq_true rfl) ⟨by decide, by decide⟩ ⟨by decide, by decide⟩ (fun r7 L M hp => ?_)
    obtain ⟨C, D, F, I, K1, hr⟩ := hp
    have K := K.step K1 (by decide)
    have en4 : C 121 (p0) = nI n4 := by rw [(K1 121 (by decide)).1]; exact en4
    obtain ⟨n8, hn8, rfl⟩ := hr
    refine g_istore X dX8_sendOne_21 (by decide) (lv2 := [(5, .int (nI n8)), (4, .int (nI n6)), (3, .int (nI n4)), (0, .ref (a 100)), (1, .int (nI p0)), (2, .int (nI p1))]) rfl ?_
    refine g_aload_n X dX8_sendOne_23 rfl (j := 3) rfl ?_
    refine i_get X F 100 rfl rfl fk_X8_52 dX8_sendOne_24 rfl ?_
    refine g_iload_n X dX8_sendOne_27 rfl (j := 5) rfl ?_
    refine g_dup2 X dX8_sendOne_28 rfl rfl ?_
    refine i_iald X F 124 rfl rfl dX8_sendOne_29 (vp_in_nI (by omega) (by decide)) rfl ?_
    refine Go.gen (fun o9 => ?_)
    refine g_iconst X dX8_sendOne_30 (v := 1) (by decide) ?_
    refine g_iload_n X dX8_sendOne_31 rfl (j := 4) rfl ?_
    refine g_ishl X dX8_sendOne_32 ?_
    refine Go.gen (fun o10 => ?_)
    refine g_ior X dX8_sendOne_33 ?_
    refine Go.gen (fun o11 => ?_)
    refine i_iast X F I 124 rfl (fun _ => rfl) dX8_sendOne_34 (vp_in_nI (by omega) (by decide)) trivial (fun M C F I K1 hC => ?_)
    have K := K.step K1 (by decide)
    have en4 : C 121 (p0) = nI n4 := by rw [(K1 121 (by decide)).1]; exact en4
    refine g_aload_n X dX8_sendOne_35 rfl (j := 3) rfl ?_
    refine i_get X F 100 rfl rfl fk_X8_55 dX8_sendOne_36 rfl ?_
    refine g_iconst X dX8_sendOne_39 (v := 4) (by decide) ?_
    refine g_iload_n X dX8_sendOne_40 rfl (j := 2) rfl ?_
    refine g_imul X dX8_sendOne_41 ?_
    refine Go.top (v := .int (nI (4 * n4))) (congrArg Value.int (pk_mul 4 n4)) ?_
    refine g_iload X dX8_sendOne_42 (j := 1) rfl ?_
    refine g_iadd X dX8_sendOne_44 ?_
    refine Go.top (v := .int (nI ((4 * n4) + n6))) (congrArg Value.int (nI_add (4 * n4) n6)) ?_
    refine g_dup2 X dX8_sendOne_45 rfl rfl ?_
    refine i_iald X F 125 rfl rfl dX8_sendOne_46 (vp_in_nI (by omega) (by decide)) rfl ?_
    refine Go.gen (fun o12 => ?_)
    refine g_iconst X dX8_sendOne_47 (v := 1) (by decide) ?_
    refine g_iadd X dX8_sendOne_48 ?_
    refine Go.gen (fun o13 => ?_)
    refine i_iast X F I 125 rfl (fun _ => rfl) dX8_sendOne_49 (vp_in_nI (by omega) (by decide)) trivial (fun M C F I K1 hC => ?_)
    have K := K.step K1 (by decide)
    have en4 : C 121 (p0) = nI n4 := by rw [(K1 121 (by decide)).1]; exact en4
    refine g_aload_n X dX8_sendOne_50 rfl (j := 3) rfl ?_
    refine i_get X F 100 rfl rfl fk_X8_58 dX8_sendOne_51 rfl ?_
    refine g_iload_n X dX8_sendOne_54 rfl (j := 4) rfl ?_
    refine g_dup2 X dX8_sendOne_55 rfl rfl ?_
    refine i_iald X F 126 rfl rfl dX8_sendOne_56 (vp_in_nI (by omega) (by decide)) rfl ?_
    refine Go.gen (fun o14 => ?_)
    refine g_iconst X dX8_sendOne_57 (v := 1) (by decide) ?_
    refine g_iadd X dX8_sendOne_58 ?_
    refine Go.gen (fun o15 => ?_)
    refine i_iast X F I 126 rfl (fun _ => rfl) dX8_sendOne_59 (vp_in_nI (by omega) (by decide)) trivial (fun M C F I K1 hC => ?_)
    have K := K.step K1 (by decide)
    have en4 : C 121 (p0) = nI n4 := by rw [(K1 121 (by decide)).1]; exact en4
    refine g_iload X dX8_sendOne_60 (j := 0) rfl ?_
    refine g_bipush X dX8_sendOne_62 (v := 10) (by decide) ?_
    refine g_icmp_ge X dX8_sendOne_64 (tgt := 78) (by decide) (fun q16 => ?_) (fun q16 => ?_)
    · skip
      have q16 : 10 ≤ n8 := (nI_leI (a := 10) (b := n8) (by omega) (by omega)).mp q16
      refine g_aload_n X dX8_sendOne_78 rfl (j := 3) rfl ?_
      refine i_get X F 100 rfl rfl fk_X8_61 dX8_sendOne_79 rfl ?_
      refine g_iload X dX8_sendOne_82 (j := 0) rfl ?_
      refine g_bipush X dX8_sendOne_84 (v := 10) (by decide) ?_
      refine g_isub X dX8_sendOne_86 ?_
      refine Go.top (v := .int (nI (n8 - 10))) (congrArg Value.int (pk_sub (a := n8) (b := 10) (by omega))) ?_
      refine i_iald X F 127 rfl rfl dX8_sendOne_87 (vp_in_nI (by omega) (by decide)) rfl ?_
      refine Go.gen (fun o17 => ?_)
      refine g_aload_n X dX8_sendOne_88 rfl (j := 3) rfl ?_
      refine i_get X F 100 rfl rfl fk_X8_9 dX8_sendOne_89 rfl ?_
      refine g_bipush X dX8_sendOne_92 (v := 10) (by decide) ?_
      refine g_iload X dX8_sendOne_94 (j := 0) rfl ?_
      refine g_iadd X dX8_sendOne_96 ?_
      refine Go.top (v := .int (nI (10 + n8))) (congrArg Value.int (nI_add 10 n8)) ?_
      refine g_bipush X dX8_sendOne_97 (v := 10) (by decide) ?_
      refine g_isub X dX8_sendOne_99 ?_
      refine Go.top (v := .int (nI ((10 + n8) - 10))) (congrArg Value.int (pk_sub (a := (10 + n8)) (b := 10) (by omega))) ?_
      refine i_iald X F 101 rfl rfl dX8_sendOne_100 (vp_in_nI (by omega) (by decide)) rfl ?_
      refine Go.gen (fun o18 => ?_)
      refine g_icmp_ge X dX8_sendOne_101 (tgt := 129) (by decide) (fun q19 => ?_) (fun q19 => ?_)
      · skip
        refine g_aload_n X dX8_sendOne_129 rfl (j := 3) rfl ?_
        refine i_get X F 100 rfl rfl fk_X8_64 dX8_sendOne_130 rfl ?_
        refine g_iload X dX8_sendOne_133 (j := 0) rfl ?_
        refine g_bipush X dX8_sendOne_135 (v := 10) (by decide) ?_
        refine g_isub X dX8_sendOne_137 ?_
        refine Go.top (v := .int (nI (n8 - 10))) (congrArg Value.int (pk_sub (a := n8) (b := 10) (by omega))) ?_
        refine g_dup2 X dX8_sendOne_138 rfl rfl ?_
        refine i_iald X F 128 rfl rfl dX8_sendOne_139 (vp_in_nI (by omega) (by decide)) rfl ?_
        refine Go.gen (fun o20 => ?_)
        refine g_iconst X dX8_sendOne_140 (v := 1) (by decide) ?_
        refine g_iadd X dX8_sendOne_141 ?_
        refine Go.gen (fun o21 => ?_)
        refine i_iast X F I 128 rfl (fun _ => rfl) dX8_sendOne_142 (vp_in_nI (by omega) (by decide)) trivial (fun M C F I K1 hC => ?_)
        have K := K.step K1 (by decide)
        have en4 : C 121 (p0) = nI n4 := by rw [(K1 121 (by decide)).1]; exact en4
        exact g_vret X hrt dX8_sendOne_143 (by decide) (by decide) ⟨C, D, F, I, K, trivial⟩
      · skip
        refine g_aload_n X dX8_sendOne_104 rfl (j := 3) rfl ?_
        refine i_get X F 100 rfl rfl fk_X8_43 dX8_sendOne_105 rfl ?_
        refine g_iload_n X dX8_sendOne_108 rfl (j := 4) rfl ?_
        refine g_iload X dX8_sendOne_109 (j := 0) rfl ?_
        refine i_iast X F I 121 rfl (fun _ => rfl) dX8_sendOne_111 (vp_in_nI (by omega) (by decide)) (okp_of (n := n8) (by omega)) (fun M C F I K1 hC => ?_)
        have K := K.step K1 (by decide)
        refine g_aload_n X dX8_sendOne_112 rfl (j := 3) rfl ?_
        refine i_get X F 100 rfl rfl fk_X8_61 dX8_sendOne_113 rfl ?_
        refine g_iload X dX8_sendOne_116 (j := 0) rfl ?_
        refine g_bipush X dX8_sendOne_118 (v := 10) (by decide) ?_
        refine g_isub X dX8_sendOne_120 ?_
        refine Go.top (v := .int (nI (n8 - 10))) (congrArg Value.int (pk_sub (a := n8) (b := 10) (by omega))) ?_
        refine g_dup2 X dX8_sendOne_121 rfl rfl ?_
        refine i_iald X F 127 rfl rfl dX8_sendOne_122 (vp_in_nI (by omega) (by decide)) rfl ?_
        refine Go.gen (fun o22 => ?_)
        refine g_iconst X dX8_sendOne_123 (v := 1) (by decide) ?_
        refine g_iadd X dX8_sendOne_124 ?_
        refine Go.gen (fun o23 => ?_)
        refine i_iast X F I 127 rfl (fun _ => rfl) dX8_sendOne_125 (vp_in_nI (by omega) (by decide)) trivial (fun M C F I K1 hC => ?_)
        have K := K.step K1 (by decide)
        refine g_goto X dX8_sendOne_126 (tgt := 143) (by decide) ?_
        exact g_vret X hrt dX8_sendOne_143 (by decide) (by decide) ⟨C, D, F, I, K, trivial⟩
    · skip
      have q16 : ¬ 10 ≤ n8 := fun z => q16 ((nI_leI (a := 10) (b := n8) (by omega) (by omega)).mpr z)
      refine g_aload_n X dX8_sendOne_67 rfl (j := 3) rfl ?_
      refine i_get X F 100 rfl rfl fk_X8_43 dX8_sendOne_68 rfl ?_
      refine g_iload_n X dX8_sendOne_71 rfl (j := 4) rfl ?_
      refine g_iload X dX8_sendOne_72 (j := 0) rfl ?_
      refine i_iast X F I 121 rfl (fun _ => rfl) dX8_sendOne_74 (vp_in_nI (by omega) (by decide)) (okp_of (n := n8) (by omega)) (fun M C F I K1 hC => ?_)
      have K := K.step K1 (by decide)
      refine g_goto X dX8_sendOne_75 (tgt := 143) (by decide) ?_
      exact g_vret X hrt dX8_sendOne_143 (by decide) (by decide) ⟨C, D, F, I, K, trivial⟩
set_option maxHeartbeats 4000000 in
set_option maxRecDepth 100000 in
theorem s_X8_goHour (l : Launch) (G : va_G) {cy : Nat → ClassId} {L : List Nat} {M : Nat → va_E} {a : Nat → Nat} {act : Nat → Bool} {C0 : Nat → Nat → Int32} {D0 : Nat → Nat → Int64} {R : Nat → Nat → Option Nat} (F : WI L M a act (ent cy a C0 D0 R)) (I : Inv C0) (p0 : Nat) (hp0a : 0 ≤ p0) (hp0b : p0 ≤ 15)  : MV l G cy yX8_goHour cX8_goHour 4 none 4 0 0 [.ref (a 100), .int (nI p0)] L M (fun L2 M2 => ∃ C2 D2, WI L2 M2 a act (ent cy a C2 D2 R) ∧ Inv C2 ∧ Kp [120, 121, 124, 125, 126, 127, 128] C0 D0 C2 D2 ∧ True) := by
  refine MV.of (own := RX8) rfl (by decide) (Nat.le_of_ble_eq_true rfl) ?_
  intro p e s m below meth c A X hrt hnm
  obtain ⟨C, D, hC0, hD0, F, I, K⟩ : ∃ C D, C = C0 ∧ D = D0 ∧ WI L M a act (ent cy a C D R) ∧ Inv C ∧ Kp [120, 121, 124, 125, 126, 127, 128] C0 D0 C D := ⟨C0, D0, rfl, rfl, F, I, Kp.rf⟩
  obtain ⟨n1, hn1, en1⟩ := rg_nat ((show okw 0 (C 101 0) from I 101 0).1 rfl) (by decide)
  rw [hC0] at en1
  obtain ⟨n2, hn2, en2⟩ := rg_nat ((show okw 4 (C 101 4) from I 101 4).2.2.2.1 rfl) (by decide)
  rw [hC0] at en2
  obtain ⟨n3, hn3, en3⟩ := rg_nat ((show okw 7 (C 101 7) from I 101 7).2.2.2.2.1 rfl) (by decide)
  rw [hC0] at en3
  refine g_iconst X dX8_goHour_0 (v := 0) (by decide) ?_
  refine g_istore_n X dX8_goHour_1 rfl (by decide) (lv2 := [(2, .int 0), (0, .ref (a 100)), (1, .int (nI p0))]) rfl ?_
  refine g_lv [0, 1, 2] (lv2 := [(2, .int 0), (0, .ref (a 100)), (1, .int (nI p0))]) rfl ?_
  refine i_loop (mods := [120, 121, 124, 125, 126, 127, 128]) (fun x : Nat => 30 - x) (fun x => [(2, .int (nI (x))), (0, .ref (a 100)), (1, .int (nI p0))]) (fun x C => 0 ≤ x ∧ x ≤ 30) (fun x L M C D F I K hP ih2 => ?_) ((0) : Nat) F I K ⟨by show _ ≤ _; omega, by show _ ≤ _; omega⟩
  obtain ⟨i2_2, rfl⟩ : ∃ z, z = x := ⟨_, rfl⟩
  obtain ⟨hi2_2a, hi2_2b⟩ := hP
  refine g_lv [0, 1, 2] (lv2 := [(2, .int (nI i2_2)), (0, .ref (a 100)), (1, .int (nI p0))]) rfl ?_
  refine g_iload_n X dX8_goHour_2 rfl (j := 0) rfl ?_
  refine g_aload_n X dX8_goHour_3 rfl (j := 1) rfl ?_
  refine i_get X F 100 rfl rfl fk_X8_9 dX8_goHour_4 rfl ?_
  refine g_bipush X dX8_goHour_7 (v := 8) (by decide) ?_
  obtain ⟨n4, hn4, en4⟩ := rg_nat ((show okw (8) (C 101 (8)) from I 101 (8)).2.2.2.2.2.1 rfl) (by decide)
  refine i_iald X F 101 rfl rfl dX8_goHour_9 (vp_in_iff.mpr (by decide)) (v := nI n4) (by exact en4) ?_
  refine g_icmp_ge X dX8_goHour_10 (tgt := 64) (by decide) (fun q5 => ?_) (fun q5 => ?_)
  · skip
    have q5 : n4 ≤ i2_2 := (nI_leI (a := n4) (b := i2_2) (by omega) (by omega)).mp q5
    refine g_iconst X dX8_goHour_64 (v := 0) (by decide) ?_
    refine g_istore_n X dX8_goHour_65 rfl (by decide) (lv2 := [(2, .int 0), (0, .ref (a 100)), (1, .int (nI p0))]) rfl ?_
    refine g_lv [0, 1, 2] (lv2 := [(2, .int 0), (0, .ref (a 100)), (1, .int (nI p0))]) rfl ?_
    refine i_loop (mods := [120, 121, 124, 125, 126, 127, 128]) (fun x : Nat => 8 - x) (fun x => [(2, .int (nI (x))), (0, .ref (a 100)), (1, .int (nI p0))]) (fun x C => 0 ≤ x ∧ x ≤ 8) (fun x L M C D F I K hP ih66 => ?_) ((0) : Nat) F I K ⟨by show _ ≤ _; omega, by show _ ≤ _; omega⟩
    obtain ⟨i66_2, rfl⟩ : ∃ z, z = x := ⟨_, rfl⟩
    obtain ⟨hi66_2a, hi66_2b⟩ := hP
    refine g_lv [0, 1, 2] (lv2 := [(2, .int (nI i66_2)), (0, .ref (a 100)), (1, .int (nI p0))]) rfl ?_
    refine g_iload_n X dX8_goHour_66 rfl (j := 0) rfl ?_
    refine g_aload_n X dX8_goHour_67 rfl (j := 1) rfl ?_
    refine g_callVI X (s_X8_walkers l G F I  ) lk_X8_109 (F.1 100 rfl).2 (F.1 100 rfl).1 rfl rfl dX8_goHour_68 (Nat.le_of_ble_eq_true rfl) ⟨by decide, by decide⟩ ⟨by decide, by decide⟩ (fun r6 L M hp => ?_)
    obtain ⟨C, D, F, I, K1, hr⟩ := hp
    have K := K.step K1 (by decide)
    obtain ⟨n7, hn7, en7, rfl⟩ := hr
    obtain rfl : n3 = n7 := ((nI_eq (by omega) (by omega)).mp (en7.symm.trans ((congrFun (K 101 (by decide)).1 7).trans en3))).symm
    refine g_icmp_ge X dX8_goHour_71 (tgt := 135) (by decide) (fun q8 => ?_) (fun q8 => ?_)
    · skip
      have q8 : n3 ≤ i66_2 := (nI_leI (a := n3) (b := i66_2) (by omega) (by omega)).mp q8
      exact g_vret X hrt dX8_goHour_135 (by decide) (by decide) ⟨C, D, F, I, K, trivial⟩
    · skip
      have q8 : ¬ n3 ≤ i66_2 := fun z => q8 ((nI_leI (a := n3) (b := i66_2) (by omega) (by omega)).mpr z)
      refine g_aload_n X dX8_goHour_74 rfl (j := 1) rfl ?_
      refine i_get X F 100 rfl rfl fk_X8_260 dX8_goHour_75 rfl ?_
      refine Go.gen (fun o9 => ?_)
      refine g_iload_n X dX8_goHour_78 rfl (j := 2) rfl ?_
      refine g_callSI X (s_X8_bit l G F I o9 (nI p0) ) lk_X8_266 rfl rfl dX8_goHour_79 (Nat.le_of_ble_eq_true rfl) ⟨by decide, by decide⟩ ⟨by decide, by decide⟩ (fun r10 L M hp => ?_)
      obtain ⟨C, D, F, I, K1, hr⟩ := hp
      have K := K.step K1 (by decide)
      obtain ⟨n11, hn11a, hn11b, rfl⟩ := hr
      refine g_if_ne X dX8_goHour_82 (tgt := 135) (by decide) (fun q12 => ?_) (fun q12 => ?_)
      · skip
        have q12 : ¬ n11 = 0 := fun z => q12 ((nI_eq (a := n11) (b := 0) (by omega) (by omega)).mpr z)
        exact g_vret X hrt dX8_goHour_135 (by decide) (by decide) ⟨C, D, F, I, K, trivial⟩
      · skip
        have q12 : n11 = 0 := (nI_eq (a := n11) (b := 0) (by omega) (by omega)).mp q12
        refine g_aload_n X dX8_goHour_85 rfl (j := 1) rfl ?_
        refine i_get X F 100 rfl rfl fk_X8_43 dX8_goHour_86 rfl ?_
        refine g_iload_n X dX8_goHour_89 rfl (j := 0) rfl ?_
        rcases okp_nat (I 121 i66_2) with en13 | ⟨n13, hn13, en13⟩
        · skip
          refine i_iald X F 121 rfl rfl dX8_goHour_90 (vp_in_nI (by omega) (by decide)) (v := -1) (by rw [nI_clamp (by omega)]; exact en13) ?_
          refine g_istore_n X dX8_goHour_91 rfl (by decide) (lv2 := [(3, .int (-1)), (2, .int (nI i66_2)), (0, .ref (a 100)), (1, .int (nI p0))]) rfl ?_
          refine g_iload_n X dX8_goHour_92 rfl (j := 0) rfl ?_
          refine g_iconst X dX8_goHour_93 (v := -1) (by decide) ?_
          refine g_icmp_eq X dX8_goHour_94 (tgt := 129) (by decide) (fun _ => ?_) (fun q => absurd (by decide) q)
          refine g_iinc X dX8_goHour_129 (j := 1) rfl (v := nI (i66_2 + 1)) (nI_1 i66_2) (by decide) (lv2 := [(2, .int (nI (i66_2 + 1))), (3, .int (-1)), (0, .ref (a 100)), (1, .int (nI p0))]) rfl ?_
          refine g_goto X dX8_goHour_132 (tgt := 66) (by decide) ?_
          refine g_lv [0, 2, 3] (lv2 := [(2, .int (nI (i66_2 + 1))), (0, .ref (a 100)), (1, .int (nI p0))]) rfl ?_
          exact ih66 ((i66_2 + 1)) L M C D F I K ⟨by omega, by omega⟩ (by show _ < _; omega)
        · skip
          refine i_iald X F 121 rfl rfl dX8_goHour_90 (vp_in_nI (by omega) (by decide)) (v := nI n13) (by rw [nI_clamp (by omega)]; exact en13) ?_
          refine g_istore_n X dX8_goHour_91 rfl (by decide) (lv2 := [(3, .int (nI n13)), (2, .int (nI i66_2)), (0, .ref (a 100)), (1, .int (nI p0))]) rfl ?_
          refine g_iload_n X dX8_goHour_92 rfl (j := 0) rfl ?_
          refine g_iconst X dX8_goHour_93 (v := -1) (by decide) ?_
          refine g_icmp_eq X dX8_goHour_94 (tgt := 129) (by decide) (fun q => absurd q (nI_nm1 (by omega))) (fun _ => ?_)
          refine g_iload_n X dX8_goHour_97 rfl (j := 0) rfl ?_
          refine g_bipush X dX8_goHour_98 (v := 10) (by decide) ?_
          refine g_icmp_ge X dX8_goHour_100 (tgt := 129) (by decide) (fun q15 => ?_) (fun q15 => ?_)
          · skip
            have q15 : 10 ≤ n13 := (nI_leI (a := 10) (b := n13) (by omega) (by omega)).mp q15
            refine g_iinc X dX8_goHour_129 (j := 1) rfl (v := nI (i66_2 + 1)) (nI_1 i66_2) (by decide) (lv2 := [(2, .int (nI (i66_2 + 1))), (3, .int (nI n13)), (0, .ref (a 100)), (1, .int (nI p0))]) rfl ?_
            refine g_goto X dX8_goHour_132 (tgt := 66) (by decide) ?_
            refine g_lv [0, 2, 3] (lv2 := [(2, .int (nI (i66_2 + 1))), (0, .ref (a 100)), (1, .int (nI p0))]) rfl ?_
            exact ih66 ((i66_2 + 1)) L M C D F I K ⟨by omega, by omega⟩ (by show _ < _; omega)
          · skip
            have q15 : ¬ 10 ≤ n13 := fun z => q15 ((nI_leI (a := 10) (b := n13) (by omega) (by omega)).mpr z)
            refine g_aload_n X dX8_goHour_103 rfl (j := 2) rfl ?_
            refine g_iload_n X dX8_goHour_104 rfl (j := 0) rfl ?_
            refine g_callVI X (s_X8_roadMany l G F I n13 (by omega) (by omega) ) lk_X8_245 (F.1 100 rfl).2 (F.1 100 rfl).1 rfl rfl dX8_goHour_105 (Nat.le_of_ble_eq_true rfl) ⟨by decide, by decide⟩ ⟨by decide, by decide⟩ (fun r16 L M hp => ?_)
            obtain ⟨C, D, F, I, K1, hr⟩ := hp
            have K := K.step K1 (by decide)
            have en13 : C 121 (i66_2) = nI n13 := by rw [(K1 121 (by decide)).1]; exact en13
            obtain ⟨n17, hn17, en17, rfl⟩ := hr
            have fn17 : C0 101 (14 + 6 * n13) = nI n17 := (congrFun (K 101 (by decide)).1 _).symm.trans en17
            refine g_if_eq X dX8_goHour_108 (tgt := 129) (by decide) (fun q18 => ?_) (fun q18 => ?_)
            · skip
              have q18 : n17 = 0 := (nI_eq (a := n17) (b := 0) (by omega) (by omega)).mp q18
              refine g_iinc X dX8_goHour_129 (j := 1) rfl (v := nI (i66_2 + 1)) (nI_1 i66_2) (by decide) (lv2 := [(2, .int (nI (i66_2 + 1))), (3, .int (nI n13)), (0, .ref (a 100)), (1, .int (nI p0))]) rfl ?_
              refine g_goto X dX8_goHour_132 (tgt := 66) (by decide) ?_
              refine g_lv [0, 2, 3] (lv2 := [(2, .int (nI (i66_2 + 1))), (0, .ref (a 100)), (1, .int (nI p0))]) rfl ?_
              exact ih66 ((i66_2 + 1)) L M C D F I K ⟨by omega, by omega⟩ (by show _ < _; omega)
            · skip
              have q18 : ¬ n17 = 0 := fun z => q18 ((nI_eq (a := n17) (b := 0) (by omega) (by omega)).mpr z)
              refine g_aload_n X dX8_goHour_111 rfl (j := 2) rfl ?_
              refine g_iload_n X dX8_goHour_112 rfl (j := 1) rfl ?_
              refine g_iload_n X dX8_goHour_113 rfl (j := 3) rfl ?_
              refine g_callVI X (s_X8_isHeld l G F I i66_2 (by omega) (by omega) p0 (by omega) (by omega) ) lk_X8_276 (F.1 100 rfl).2 (F.1 100 rfl).1 rfl rfl dX8_goHour_114 (Nat.le_of_ble_eq_true rfl) ⟨by decide, by decide⟩ ⟨by decide, by decide⟩ (fun r19 L M hp => ?_)
              obtain ⟨C, D, F, I, K1, hr⟩ := hp
              have K := K.step K1 (by decide)
              have en13 : C 121 (i66_2) = nI n13 := by rw [(K1 121 (by decide)).1]; exact en13
              rcases hr with rfl | rfl
              · skip
                refine g_if_eq X dX8_goHour_117 (tgt := 123) (by decide) (fun _ => ?_) (fun q => absurd (by decide) q)
                refine g_aload_n X dX8_goHour_123 rfl (j := 2) rfl ?_
                refine g_iload_n X dX8_goHour_124 rfl (j := 1) rfl ?_
                refine g_iload_n X dX8_goHour_125 rfl (j := 3) rfl ?_
                refine g_callVV X (s_X8_sendOne l G F I i66_2 (by omega) (by omega) p0 (by omega) (by omega) ⟨n13, by omega, en13, by rw [(K 101 (by decide)).1, fn17, nI_toInt (by omega)]; omega⟩) lk_X8_280 (F.1 100 rfl).2 (F.1 100 rfl).1 rfl rfl dX8_goHour_126 (Nat.le_of_ble_eq_true rfl) ⟨by decide, by decide⟩ ⟨by decide, by decide⟩ (fun L M hp => ?_)
                obtain ⟨C, D, F, I, K1, hr⟩ := hp
                have K := K.step K1 (by decide)
                refine g_iinc X dX8_goHour_129 (j := 1) rfl (v := nI (i66_2 + 1)) (nI_1 i66_2) (by decide) (lv2 := [(2, .int (nI (i66_2 + 1))), (3, .int (nI n13)), (0, .ref (a 100)), (1, .int (nI p0))]) rfl ?_
                refine g_goto X dX8_goHour_132 (tgt := 66) (by decide) ?_
                refine g_lv [0, 2, 3] (lv2 := [(2, .int (nI (i66_2 + 1))), (0, .ref (a 100)), (1, .int (nI p0))]) rfl ?_
                exact ih66 ((i66_2 + 1)) L M C D F I K ⟨by omega, by omega⟩ (by show _ < _; omega)
              · skip
                refine g_if_eq X dX8_goHour_117 (tgt := 123) (by decide) (fun q => absurd q (by decide)) (fun _ => ?_)
                refine g_goto X dX8_goHour_120 (tgt := 129) (by decide) ?_
                refine g_iinc X dX8_goHour_129 (j := 1) rfl (v := nI (i66_2 + 1)) (nI_1 i66_2) (by decide) (lv2 := [(2, .int (nI (i66_2 + 1))), (3, .int (nI n13)), (0, .ref (a 100)), (1, .int (nI p0))]) rfl ?_
                refine g_goto X dX8_goHour_132 (tgt := 66) (by decide) ?_
                refine g_lv [0, 2, 3] (lv2 := [(2, .int (nI (i66_2 + 1))), (0, .ref (a 100)), (1, .int (nI p0))]) rfl ?_
                exact ih66 ((i66_2 + 1)) L M C D F I K ⟨by omega, by omega⟩ (by show _ < _; omega)
  · skip
    have q5 : ¬ n4 ≤ i2_2 := fun z => q5 ((nI_leI (a := n4) (b := i2_2) (by omega) (by omega)).mpr z)
    refine g_aload_n X dX8_goHour_13 rfl (j := 1) rfl ?_
    refine i_get X F 100 rfl rfl fk_X8_9 dX8_goHour_14 rfl ?_
    refine g_bipush X dX8_goHour_17 (v := 72) (by decide) ?_
    refine g_iload_n X dX8_goHour_19 rfl (j := 0) rfl ?_
    refine g_iadd X dX8_goHour_20 ?_
    refine Go.top (v := .int (nI (72 + i2_2))) (congrArg Value.int (nI_add 72 i2_2)) ?_
    obtain ⟨n20, hn20, hbn20, en20⟩ := act_nat ((show okw (72 + i2_2) (C 101 (72 + i2_2)) from I 101 (72 + i2_2)).2.2.2.2.2.2.2.2.2.2 (by omega) (by omega))
    refine i_iald X F 101 rfl rfl dX8_goHour_21 (vp_in_nI (by omega) (by decide)) (v := nI n20) (by rw [nI_clamp (by omega)]; exact en20) ?_
    refine g_istore_n X dX8_goHour_22 rfl (by decide) (lv2 := [(3, .int (nI n20)), (2, .int (nI i2_2)), (0, .ref (a 100)), (1, .int (nI p0))]) rfl ?_
    refine g_iload_n X dX8_goHour_23 rfl (j := 0) rfl ?_
    refine g_sipush X dX8_goHour_24 (v := 10000) (by decide) ?_
    refine g_icmp_ge X dX8_goHour_27 (tgt := 58) (by decide) (fun q21 => ?_) (fun q21 => ?_)
    · skip
      have q21 : 10000 ≤ n20 := (nI_leI (a := 10000) (b := n20) (by omega) (by omega)).mp q21
      refine g_iinc X dX8_goHour_58 (j := 1) rfl (v := nI (i2_2 + 1)) (nI_1 i2_2) (by decide) (lv2 := [(2, .int (nI (i2_2 + 1))), (3, .int (nI n20)), (0, .ref (a 100)), (1, .int (nI p0))]) rfl ?_
      refine g_goto X dX8_goHour_61 (tgt := 2) (by decide) ?_
      refine g_lv [0, 2, 3] (lv2 := [(2, .int (nI (i2_2 + 1))), (0, .ref (a 100)), (1, .int (nI p0))]) rfl ?_
      exact ih2 ((i2_2 + 1)) L M C D F I K ⟨by omega, by omega⟩ (by show _ < _; omega)
    · skip
      have q21 : ¬ 10000 ≤ n20 := fun z => q21 ((nI_leI (a := 10000) (b := n20) (by omega) (by omega)).mpr z)
      refine g_iload_n X dX8_goHour_30 rfl (j := 0) rfl ?_
      refine g_bipush X dX8_goHour_31 (v := 100) (by decide) ?_
      refine g_irem X dX8_goHour_33 (by decide) ?_
      refine Go.top (v := .int (nI (n20 % 100))) (congrArg Value.int (pk_rem (a := n20) (d := 100) (by omega) (by omega) (by omega))) ?_
      obtain ⟨n22, en22⟩ : ∃ z : Nat, z = n20 % 100 := ⟨_, rfl⟩
      refine Go.top (v := .int (nI n22)) (by rw [en22]) ?_
      have hn22 : n22 < 100 := by rw [en22]; exact Nat.mod_lt _ (by omega)
      refine g_iload_n X dX8_goHour_34 rfl (j := 3) rfl ?_
      refine g_icmp_ne X dX8_goHour_35 (tgt := 58) (by decide) (fun q23 => ?_) (fun q23 => ?_)
      · skip
        have q23 : ¬ n22 = p0 := fun z => q23 ((nI_eq (a := n22) (b := p0) (by omega) (by omega)).mpr z)
        refine g_iinc X dX8_goHour_58 (j := 1) rfl (v := nI (i2_2 + 1)) (nI_1 i2_2) (by decide) (lv2 := [(2, .int (nI (i2_2 + 1))), (3, .int (nI n20)), (0, .ref (a 100)), (1, .int (nI p0))]) rfl ?_
        refine g_goto X dX8_goHour_61 (tgt := 2) (by decide) ?_
        refine g_lv [0, 2, 3] (lv2 := [(2, .int (nI (i2_2 + 1))), (0, .ref (a 100)), (1, .int (nI p0))]) rfl ?_
        exact ih2 ((i2_2 + 1)) L M C D F I K ⟨by omega, by omega⟩ (by show _ < _; omega)
      · skip
        have q23 : n22 = p0 := (nI_eq (a := n22) (b := p0) (by omega) (by omega)).mp q23
        refine g_aload_n X dX8_goHour_38 rfl (j := 2) rfl ?_
        refine g_iload_n X dX8_goHour_39 rfl (j := 0) rfl ?_
        refine g_bipush X dX8_goHour_40 (v := 100) (by decide) ?_
        refine g_idiv X dX8_goHour_42 (by decide) ?_
        refine Go.top (v := .int (nI (n20 / 100))) (congrArg Value.int (pk_div (a := n20) (d := 100) (by omega) (by omega) (by omega))) ?_
        obtain ⟨n24, en24⟩ : ∃ z : Nat, z = n20 / 100 := ⟨_, rfl⟩
        refine Go.top (v := .int (nI n24)) (by rw [en24]) ?_
        have hn24 : n24 ≤ n20 := by rw [en24]; exact Nat.div_le_self _ _
        refine g_callVI X (s_X8_roadMany l G F I n24 (by omega) (by omega) ) lk_X8_245 (F.1 100 rfl).2 (F.1 100 rfl).1 rfl rfl dX8_goHour_43 (Nat.le_of_ble_eq_true rfl) ⟨by decide, by decide⟩ ⟨by decide, by decide⟩ (fun r25 L M hp => ?_)
        obtain ⟨C, D, F, I, K1, hr⟩ := hp
        have K := K.step K1 (by decide)
        obtain ⟨n26, hn26, en26, rfl⟩ := hr
        have fn26 : C0 101 (14 + 6 * n24) = nI n26 := (congrFun (K 101 (by decide)).1 _).symm.trans en26
        refine g_if_le X dX8_goHour_46 (tgt := 58) (by decide) (fun q27 => ?_) (fun q27 => ?_)
        · skip
          have q27 : n26 ≤ 0 := (nI_leI (a := n26) (b := 0) (by omega) (by omega)).mp q27
          refine g_iinc X dX8_goHour_58 (j := 1) rfl (v := nI (i2_2 + 1)) (nI_1 i2_2) (by decide) (lv2 := [(2, .int (nI (i2_2 + 1))), (3, .int (nI n20)), (0, .ref (a 100)), (1, .int (nI p0))]) rfl ?_
          refine g_goto X dX8_goHour_61 (tgt := 2) (by decide) ?_
          refine g_lv [0, 2, 3] (lv2 := [(2, .int (nI (i2_2 + 1))), (0, .ref (a 100)), (1, .int (nI p0))]) rfl ?_
          exact ih2 ((i2_2 + 1)) L M C D F I K ⟨by omega, by omega⟩ (by show _ < _; omega)
        · skip
          have q27 : ¬ n26 ≤ 0 := fun z => q27 ((nI_leI (a := n26) (b := 0) (by omega) (by omega)).mpr z)
          refine g_aload_n X dX8_goHour_49 rfl (j := 2) rfl ?_
          refine g_iload_n X dX8_goHour_50 rfl (j := 0) rfl ?_
          refine g_bipush X dX8_goHour_51 (v := 100) (by decide) ?_
          refine g_idiv X dX8_goHour_53 (by decide) ?_
          refine Go.top (v := .int (nI (n20 / 100))) (congrArg Value.int (pk_div (a := n20) (d := 100) (by omega) (by omega) (by omega))) ?_
          refine Go.top (v := .int (nI n24)) (by rw [en24]) ?_
          refine g_iconst X dX8_goHour_54 (v := 1) (by decide) ?_
          refine g_callVV X (s_X8_turn_p l G F I n24 (by omega) (by omega) (by rw [(K 101 (by decide)).1, fn26, nI_toInt (by omega)]; omega)) lk_X8_269 (F.1 100 rfl).2 (F.1 100 rfl).1 rfl rfl dX8_goHour_55 (Nat.le_of_ble_eq_true rfl) ⟨by decide, by decide⟩ ⟨by decide, by decide⟩ (fun L M hp => ?_)
          obtain ⟨C, D, F, I, K1, hr⟩ := hp
          have K := K.step K1 (by decide)
          refine g_iinc X dX8_goHour_58 (j := 1) rfl (v := nI (i2_2 + 1)) (nI_1 i2_2) (by decide) (lv2 := [(2, .int (nI (i2_2 + 1))), (3, .int (nI n20)), (0, .ref (a 100)), (1, .int (nI p0))]) rfl ?_
          refine g_goto X dX8_goHour_61 (tgt := 2) (by decide) ?_
          refine g_lv [0, 2, 3] (lv2 := [(2, .int (nI (i2_2 + 1))), (0, .ref (a 100)), (1, .int (nI p0))]) rfl ?_
          exact ih2 ((i2_2 + 1)) L M C D F I K ⟨by omega, by omega⟩ (by show _ < _; omega)
set_option maxHeartbeats 4000000 in
set_option maxRecDepth 100000 in
theorem s_X8_goAll (l : Launch) (G : va_G) {cy : Nat → ClassId} {L : List Nat} {M : Nat → va_E} {a : Nat → Nat} {act : Nat → Bool} {C0 : Nat → Nat → Int32} {D0 : Nat → Nat → Int64} {R : Nat → Nat → Option Nat} (F : WI L M a act (ent cy a C0 D0 R)) (I : Inv C0)   : MV l G cy yX8_goAll cX8_goAll 3 none 5 0 0 [.ref (a 100)] L M (fun L2 M2 => ∃ C2 D2, WI L2 M2 a act (ent cy a C2 D2 R) ∧ Inv C2 ∧ Kp [120, 121, 122, 123, 124, 125, 126, 127, 128] C0 D0 C2 D2 ∧ True) := by
  refine MV.of (own := RX8) rfl (by decide) (Nat.le_of_ble_eq_true rfl) ?_
  intro p e s m below meth c A X hrt hnm
  obtain ⟨C, D, hC0, hD0, F, I, K⟩ : ∃ C D, C = C0 ∧ D = D0 ∧ WI L M a act (ent cy a C D R) ∧ Inv C ∧ Kp [120, 121, 122, 123, 124, 125, 126, 127, 128] C0 D0 C D := ⟨C0, D0, rfl, rfl, F, I, Kp.rf⟩
  obtain ⟨n1, hn1, en1⟩ := rg_nat ((show okw 0 (C 101 0) from I 101 0).1 rfl) (by decide)
  rw [hC0] at en1
  obtain ⟨n2, hn2, en2⟩ := rg_nat ((show okw 4 (C 101 4) from I 101 4).2.2.2.1 rfl) (by decide)
  rw [hC0] at en2
  obtain ⟨n3, hn3, en3⟩ := rg_nat ((show okw 7 (C 101 7) from I 101 7).2.2.2.2.1 rfl) (by decide)
  rw [hC0] at en3
  refine g_iconst X dX8_goAll_0 (v := 0) (by decide) ?_
  refine g_istore_n X dX8_goAll_1 rfl (by decide) (lv2 := [(1, .int 0), (0, .ref (a 100))]) rfl ?_
  refine g_lv [0, 1] (lv2 := [(1, .int 0), (0, .ref (a 100))]) rfl ?_
  refine i_loop (mods := [120, 121, 122, 123, 124, 125, 126, 127, 128]) (fun x : Nat => 7 - x) (fun x => [(1, .int (nI (x))), (0, .ref (a 100))]) (fun x C => 0 ≤ x ∧ x ≤ 7) (fun x L M C D F I K hP ih2 => ?_) ((0) : Nat) F I K ⟨by show _ ≤ _; omega, by show _ ≤ _; omega⟩
  obtain ⟨i2_1, rfl⟩ : ∃ z, z = x := ⟨_, rfl⟩
  obtain ⟨hi2_1a, hi2_1b⟩ := hP
  refine g_lv [0, 1] (lv2 := [(1, .int (nI i2_1)), (0, .ref (a 100))]) rfl ?_
  refine g_iload_n X dX8_goAll_2 rfl (j := 0) rfl ?_
  refine g_bipush X dX8_goAll_3 (v := 7) (by decide) ?_
  refine g_icmp_ge X dX8_goAll_5 (tgt := 26) (by decide) (fun q4 => ?_) (fun q4 => ?_)
  · skip
    have q4 : 7 ≤ i2_1 := (nI_leI (a := 7) (b := i2_1) (by omega) (by omega)).mp q4
    refine g_iconst X dX8_goAll_26 (v := 0) (by decide) ?_
    refine g_istore_n X dX8_goAll_27 rfl (by decide) (lv2 := [(1, .int 0), (0, .ref (a 100))]) rfl ?_
    refine g_lv [0, 1] (lv2 := [(1, .int 0), (0, .ref (a 100))]) rfl ?_
    refine i_loop (mods := [120, 121, 122, 123, 124, 125, 126, 127, 128]) (fun x : Nat => 28 - x) (fun x => [(1, .int (nI (x))), (0, .ref (a 100))]) (fun x C => 0 ≤ x ∧ x ≤ 28) (fun x L M C D F I K hP ih28 => ?_) ((0) : Nat) F I K ⟨by show _ ≤ _; omega, by show _ ≤ _; omega⟩
    obtain ⟨i28_1, rfl⟩ : ∃ z, z = x := ⟨_, rfl⟩
    obtain ⟨hi28_1a, hi28_1b⟩ := hP
    refine g_lv [0, 1] (lv2 := [(1, .int (nI i28_1)), (0, .ref (a 100))]) rfl ?_
    refine g_iload_n X dX8_goAll_28 rfl (j := 0) rfl ?_
    refine g_bipush X dX8_goAll_29 (v := 28) (by decide) ?_
    refine g_icmp_ge X dX8_goAll_31 (tgt := 47) (by decide) (fun q5 => ?_) (fun q5 => ?_)
    · skip
      have q5 : 28 ≤ i28_1 := (nI_leI (a := 28) (b := i28_1) (by omega) (by omega)).mp q5
      refine g_iconst X dX8_goAll_47 (v := 0) (by decide) ?_
      refine g_istore_n X dX8_goAll_48 rfl (by decide) (lv2 := [(1, .int 0), (0, .ref (a 100))]) rfl ?_
      refine g_lv [0, 1] (lv2 := [(1, .int 0), (0, .ref (a 100))]) rfl ?_
      refine i_loop (mods := [120, 121, 122, 123, 124, 125, 126, 127, 128]) (fun x : Nat => 4 - x) (fun x => [(1, .int (nI (x))), (0, .ref (a 100))]) (fun x C => 0 ≤ x ∧ x ≤ 4) (fun x L M C D F I K hP ih49 => ?_) ((0) : Nat) F I K ⟨by show _ ≤ _; omega, by show _ ≤ _; omega⟩
      obtain ⟨i49_1, rfl⟩ : ∃ z, z = x := ⟨_, rfl⟩
      obtain ⟨hi49_1a, hi49_1b⟩ := hP
      refine g_lv [0, 1] (lv2 := [(1, .int (nI i49_1)), (0, .ref (a 100))]) rfl ?_
      refine g_iload_n X dX8_goAll_49 rfl (j := 0) rfl ?_
      refine g_iconst X dX8_goAll_50 (v := 4) (by decide) ?_
      refine g_icmp_ge X dX8_goAll_51 (tgt := 74) (by decide) (fun q6 => ?_) (fun q6 => ?_)
      · skip
        have q6 : 4 ≤ i49_1 := (nI_leI (a := 4) (b := i49_1) (by omega) (by omega)).mp q6
        refine g_iconst X dX8_goAll_74 (v := 0) (by decide) ?_
        refine g_istore_n X dX8_goAll_75 rfl (by decide) (lv2 := [(1, .int 0), (0, .ref (a 100))]) rfl ?_
        refine g_lv [0, 1] (lv2 := [(1, .int 0), (0, .ref (a 100))]) rfl ?_
        refine i_loop (mods := [120, 121, 122, 123, 124, 125, 126, 127, 128]) (fun x : Nat => 8 - x) (fun x => [(1, .int (nI (x))), (0, .ref (a 100))]) (fun x C => 0 ≤ x ∧ x ≤ 8) (fun x L M C D F I K hP ih76 => ?_) ((0) : Nat) F I K ⟨by show _ ≤ _; omega, by show _ ≤ _; omega⟩
        obtain ⟨i76_1, rfl⟩ : ∃ z, z = x := ⟨_, rfl⟩
        obtain ⟨hi76_1a, hi76_1b⟩ := hP
        refine g_lv [0, 1] (lv2 := [(1, .int (nI i76_1)), (0, .ref (a 100))]) rfl ?_
        refine g_iload_n X dX8_goAll_76 rfl (j := 0) rfl ?_
        refine g_bipush X dX8_goAll_77 (v := 8) (by decide) ?_
        refine g_icmp_ge X dX8_goAll_79 (tgt := 102) (by decide) (fun q7 => ?_) (fun q7 => ?_)
        · skip
          have q7 : 8 ≤ i76_1 := (nI_leI (a := 8) (b := i76_1) (by omega) (by omega)).mp q7
          refine g_iconst X dX8_goAll_102 (v := 0) (by decide) ?_
          refine g_istore_n X dX8_goAll_103 rfl (by decide) (lv2 := [(1, .int 0), (0, .ref (a 100))]) rfl ?_
          refine g_lv [0, 1] (lv2 := [(1, .int 0), (0, .ref (a 100))]) rfl ?_
          refine i_loop (mods := [120, 121, 122, 123, 124, 125, 126, 127, 128]) (fun x : Nat => 17 - x) (fun x => [(1, .int (nI (x))), (0, .ref (a 100))]) (fun x C => 0 ≤ x ∧ x ≤ 17) (fun x L M C D F I K hP ih104 => ?_) ((0) : Nat) F I K ⟨by show _ ≤ _; omega, by show _ ≤ _; omega⟩
          obtain ⟨i104_1, rfl⟩ : ∃ z, z = x := ⟨_, rfl⟩
          obtain ⟨hi104_1a, hi104_1b⟩ := hP
          refine g_lv [0, 1] (lv2 := [(1, .int (nI i104_1)), (0, .ref (a 100))]) rfl ?_
          refine g_iload_n X dX8_goAll_104 rfl (j := 0) rfl ?_
          refine g_aload_n X dX8_goAll_105 rfl (j := 1) rfl ?_
          refine g_callVI X (s_X8_hours l G F I  ) lk_X8_106 (F.1 100 rfl).2 (F.1 100 rfl).1 rfl rfl dX8_goAll_106 (Nat.le_of_ble_eq_true rfl) ⟨by decide, by decide⟩ ⟨by decide, by decide⟩ (fun r8 L M hp => ?_)
          obtain ⟨C, D, F, I, K1, hr⟩ := hp
          have K := K.step K1 (by decide)
          obtain ⟨n9, hn9, en9, rfl⟩ := hr
          obtain rfl : n1 = n9 := ((nI_eq (by omega) (by omega)).mp (en9.symm.trans ((congrFun (K 101 (by decide)).1 0).trans en1))).symm
          refine g_icmp_gt X dX8_goAll_109 (tgt := 230) (by decide) (fun q10 => ?_) (fun q10 => ?_)
          · skip
            have q10 : n1 < i104_1 := (nI_ltI (a := n1) (b := i104_1) (by omega) (by omega)).mp q10
            exact g_vret X hrt dX8_goAll_230 (by decide) (by decide) ⟨C, D, F, I, K, trivial⟩
          · skip
            have q10 : ¬ n1 < i104_1 := fun z => q10 ((nI_ltI (a := n1) (b := i104_1) (by omega) (by omega)).mpr z)
            refine g_iconst X dX8_goAll_112 (v := 0) (by decide) ?_
            refine g_istore_n X dX8_goAll_113 rfl (by decide) (lv2 := [(2, .int 0), (1, .int (nI i104_1)), (0, .ref (a 100))]) rfl ?_
            refine g_lv [0, 1, 2] (lv2 := [(2, .int 0), (1, .int (nI i104_1)), (0, .ref (a 100))]) rfl ?_
            refine i_loop (mods := [120, 121, 122, 123, 124, 125, 126, 127, 128]) (fun x : Nat => 8 - x) (fun x => [(2, .int (nI (x))), (1, .int (nI i104_1)), (0, .ref (a 100))]) (fun x C => 0 ≤ x ∧ x ≤ 8) (fun x L M C D F I K hP ih114 => ?_) ((0) : Nat) F I K ⟨by show _ ≤ _; omega, by show _ ≤ _; omega⟩
            obtain ⟨i114_2, rfl⟩ : ∃ z, z = x := ⟨_, rfl⟩
            obtain ⟨hi114_2a, hi114_2b⟩ := hP
            refine g_lv [0, 1, 2] (lv2 := [(2, .int (nI i114_2)), (1, .int (nI i104_1)), (0, .ref (a 100))]) rfl ?_
            refine g_iload_n X dX8_goAll_114 rfl (j := 0) rfl ?_
            refine g_aload_n X dX8_goAll_115 rfl (j := 2) rfl ?_
            refine g_callVI X (s_X8_walkers l G F I  ) lk_X8_109 (F.1 100 rfl).2 (F.1 100 rfl).1 rfl rfl dX8_goAll_116 (Nat.le_of_ble_eq_true rfl) ⟨by decide, by decide⟩ ⟨by decide, by decide⟩ (fun r11 L M hp => ?_)
            obtain ⟨C, D, F, I, K1, hr⟩ := hp
            have K := K.step K1 (by decide)
            obtain ⟨n12, hn12, en12, rfl⟩ := hr
            obtain rfl : n3 = n12 := ((nI_eq (by omega) (by omega)).mp (en12.symm.trans ((congrFun (K 101 (by decide)).1 7).trans en3))).symm
            refine g_icmp_ge X dX8_goAll_119 (tgt := 172) (by decide) (fun q13 => ?_) (fun q13 => ?_)
            · skip
              have q13 : n3 ≤ i114_2 := (nI_leI (a := n3) (b := i114_2) (by omega) (by omega)).mp q13
              refine g_iconst X dX8_goAll_172 (v := 0) (by decide) ?_
              refine g_istore_n X dX8_goAll_173 rfl (by decide) (lv2 := [(2, .int 0), (1, .int (nI i104_1)), (0, .ref (a 100))]) rfl ?_
              refine g_lv [0, 1, 2] (lv2 := [(2, .int 0), (1, .int (nI i104_1)), (0, .ref (a 100))]) rfl ?_
              refine i_loop (mods := [120, 121, 122, 123, 124, 125, 126, 127, 128]) (fun x : Nat => 7 - x) (fun x => [(2, .int (nI (x))), (1, .int (nI i104_1)), (0, .ref (a 100))]) (fun x C => 0 ≤ x ∧ x ≤ 7) (fun x L M C D F I K hP ih174 => ?_) ((0) : Nat) F I K ⟨by show _ ≤ _; omega, by show _ ≤ _; omega⟩
              obtain ⟨i174_2, rfl⟩ : ∃ z, z = x := ⟨_, rfl⟩
              obtain ⟨hi174_2a, hi174_2b⟩ := hP
              refine g_lv [0, 1, 2] (lv2 := [(2, .int (nI i174_2)), (1, .int (nI i104_1)), (0, .ref (a 100))]) rfl ?_
              refine g_iload_n X dX8_goAll_174 rfl (j := 0) rfl ?_
              refine g_bipush X dX8_goAll_175 (v := 7) (by decide) ?_
              refine g_icmp_ge X dX8_goAll_177 (tgt := 203) (by decide) (fun q14 => ?_) (fun q14 => ?_)
              · skip
                have q14 : 7 ≤ i174_2 := (nI_leI (a := 7) (b := i174_2) (by omega) (by omega)).mp q14
                refine g_iload_n X dX8_goAll_203 rfl (j := 1) rfl ?_
                refine g_aload_n X dX8_goAll_204 rfl (j := 2) rfl ?_
                refine g_callVI X (s_X8_hours l G F I  ) lk_X8_106 (F.1 100 rfl).2 (F.1 100 rfl).1 rfl rfl dX8_goAll_205 (Nat.le_of_ble_eq_true rfl) ⟨by decide, by decide⟩ ⟨by decide, by decide⟩ (fun r15 L M hp => ?_)
                obtain ⟨C, D, F, I, K1, hr⟩ := hp
                have K := K.step K1 (by decide)
                obtain ⟨n16, hn16, en16, rfl⟩ := hr
                obtain rfl : n1 = n16 := ((nI_eq (by omega) (by omega)).mp (en16.symm.trans ((congrFun (K 101 (by decide)).1 0).trans en1))).symm
                refine g_icmp_ne X dX8_goAll_208 (tgt := 212) (by decide) (fun q17 => ?_) (fun q17 => ?_)
                · skip
                  have q17 : ¬ i104_1 = n1 := fun z => q17 ((nI_eq (a := i104_1) (b := n1) (by omega) (by omega)).mpr z)
                  refine g_aload_n X dX8_goAll_212 rfl (j := 2) rfl ?_
                  refine i_get X F 100 rfl rfl fk_X8_52 dX8_goAll_213 rfl ?_
                  refine g_iload_n X dX8_goAll_216 rfl (j := 1) rfl ?_
                  refine g_iconst X dX8_goAll_217 (v := 0) (by decide) ?_
                  refine i_iast X F I 124 rfl (fun _ => rfl) dX8_goAll_218 (vp_in_nI (by omega) (by decide)) trivial (fun M C F I K1 hC => ?_)
                  have K := K.step K1 (by decide)
                  refine g_aload_n X dX8_goAll_219 rfl (j := 2) rfl ?_
                  refine g_iload_n X dX8_goAll_220 rfl (j := 1) rfl ?_
                  refine g_callVV X (s_X8_goHour l G F I i104_1 (by omega) (by omega) ) lk_X8_283 (F.1 100 rfl).2 (F.1 100 rfl).1 rfl rfl dX8_goAll_221 (Nat.le_of_ble_eq_true rfl) ⟨by decide, by decide⟩ ⟨by decide, by decide⟩ (fun L M hp => ?_)
                  obtain ⟨C, D, F, I, K1, hr⟩ := hp
                  have K := K.step K1 (by decide)
                  refine g_iinc X dX8_goAll_224 (j := 1) rfl (v := nI (i104_1 + 1)) (nI_1 i104_1) (by decide) (lv2 := [(1, .int (nI (i104_1 + 1))), (2, .int (nI i174_2)), (0, .ref (a 100))]) rfl ?_
                  refine g_goto X dX8_goAll_227 (tgt := 104) (by decide) ?_
                  refine g_lv [0, 2] (lv2 := [(1, .int (nI (i104_1 + 1))), (0, .ref (a 100))]) rfl ?_
                  exact ih104 ((i104_1 + 1)) L M C D F I K ⟨by omega, by omega⟩ (by show _ < _; omega)
                · skip
                  have q17 : i104_1 = n1 := (nI_eq (a := i104_1) (b := n1) (by omega) (by omega)).mp q17
                  exact g_vret X hrt dX8_goAll_211 (by decide) (by decide) ⟨C, D, F, I, K, trivial⟩
              · skip
                have q14 : ¬ 7 ≤ i174_2 := fun z => q14 ((nI_leI (a := 7) (b := i174_2) (by omega) (by omega)).mpr z)
                refine g_aload_n X dX8_goAll_180 rfl (j := 2) rfl ?_
                refine i_get X F 100 rfl rfl fk_X8_49 dX8_goAll_181 rfl ?_
                refine g_bipush X dX8_goAll_184 (v := 7) (by decide) ?_
                refine g_iload_n X dX8_goAll_186 rfl (j := 1) rfl ?_
                refine g_imul X dX8_goAll_187 ?_
                refine Go.top (v := .int (nI (7 * i104_1))) (congrArg Value.int (pk_mul 7 i104_1)) ?_
                refine g_iload_n X dX8_goAll_188 rfl (j := 0) rfl ?_
                refine g_iadd X dX8_goAll_189 ?_
                refine Go.top (v := .int (nI ((7 * i104_1) + i174_2))) (congrArg Value.int (nI_add (7 * i104_1) i174_2)) ?_
                refine g_aload_n X dX8_goAll_190 rfl (j := 2) rfl ?_
                refine i_get X F 100 rfl rfl fk_X8_40 dX8_goAll_191 rfl ?_
                refine g_iload_n X dX8_goAll_194 rfl (j := 0) rfl ?_
                obtain ⟨n18, hn18, en18⟩ := rg_nat (I 120 i174_2) (by decide)
                refine i_iald X F 120 rfl rfl dX8_goAll_195 (vp_in_nI (by omega) (by decide)) (v := nI n18) (by rw [nI_clamp (by omega)]; exact en18) ?_
                refine i_iast X F I 123 rfl (fun _ => rfl) dX8_goAll_196 (vp_in_nI (by omega) (by decide)) (rg_of (n := n18) (by omega) (by omega) (by omega)) (fun M C F I K1 hC => ?_)
                have K := K.step K1 (by decide)
                refine g_iinc X dX8_goAll_197 (j := 0) rfl (v := nI (i174_2 + 1)) (nI_1 i174_2) (by decide) (lv2 := [(2, .int (nI (i174_2 + 1))), (1, .int (nI i104_1)), (0, .ref (a 100))]) rfl ?_
                refine g_goto X dX8_goAll_200 (tgt := 174) (by decide) ?_
                refine g_lv [0, 1, 2] (lv2 := [(2, .int (nI (i174_2 + 1))), (1, .int (nI i104_1)), (0, .ref (a 100))]) rfl ?_
                exact ih174 ((i174_2 + 1)) L M C D F I K ⟨by omega, by omega⟩ (by show _ < _; omega)
            · skip
              have q13 : ¬ n3 ≤ i114_2 := fun z => q13 ((nI_leI (a := n3) (b := i114_2) (by omega) (by omega)).mpr z)
              refine g_aload_n X dX8_goAll_122 rfl (j := 2) rfl ?_
              refine i_get X F 100 rfl rfl fk_X8_37 dX8_goAll_123 rfl ?_
              refine g_iload_n X dX8_goAll_126 rfl (j := 0) rfl ?_
              refine i_iald X F 116 rfl rfl dX8_goAll_127 (vp_in_nI (by omega) (by decide)) rfl ?_
              refine Go.gen (fun o19 => ?_)
              refine g_iload_n X dX8_goAll_128 rfl (j := 1) rfl ?_
              refine g_icmp_ne X dX8_goAll_129 (tgt := 149) (by decide) (fun q20 => ?_) (fun q20 => ?_)
              · skip
                refine g_aload_n X dX8_goAll_149 rfl (j := 2) rfl ?_
                refine i_get X F 100 rfl rfl fk_X8_46 dX8_goAll_150 rfl ?_
                refine g_bipush X dX8_goAll_153 (v := 8) (by decide) ?_
                refine g_iload_n X dX8_goAll_155 rfl (j := 1) rfl ?_
                refine g_imul X dX8_goAll_156 ?_
                refine Go.top (v := .int (nI (8 * i104_1))) (congrArg Value.int (pk_mul 8 i104_1)) ?_
                refine g_iload_n X dX8_goAll_157 rfl (j := 0) rfl ?_
                refine g_iadd X dX8_goAll_158 ?_
                refine Go.top (v := .int (nI ((8 * i104_1) + i114_2))) (congrArg Value.int (nI_add (8 * i104_1) i114_2)) ?_
                refine g_aload_n X dX8_goAll_159 rfl (j := 2) rfl ?_
                refine i_get X F 100 rfl rfl fk_X8_43 dX8_goAll_160 rfl ?_
                refine g_iload_n X dX8_goAll_163 rfl (j := 0) rfl ?_
                rcases okp_nat (I 121 i114_2) with en21 | ⟨n21, hn21, en21⟩
                · skip
                  refine i_iald X F 121 rfl rfl dX8_goAll_164 (vp_in_nI (by omega) (by decide)) (v := -1) (by rw [nI_clamp (by omega)]; exact en21) ?_
                  refine i_iast X F I 122 rfl (fun _ => rfl) dX8_goAll_165 (vp_in_nI (by omega) (by decide)) okp_m1 (fun M C F I K1 hC => ?_)
                  have K := K.step K1 (by decide)
                  have en21 : C 121 (i114_2) = -1 := by rw [(K1 121 (by decide)).1]; exact en21
                  refine g_iinc X dX8_goAll_166 (j := 0) rfl (v := nI (i114_2 + 1)) (nI_1 i114_2) (by decide) (lv2 := [(2, .int (nI (i114_2 + 1))), (1, .int (nI i104_1)), (0, .ref (a 100))]) rfl ?_
                  refine g_goto X dX8_goAll_169 (tgt := 114) (by decide) ?_
                  refine g_lv [0, 1, 2] (lv2 := [(2, .int (nI (i114_2 + 1))), (1, .int (nI i104_1)), (0, .ref (a 100))]) rfl ?_
                  exact ih114 ((i114_2 + 1)) L M C D F I K ⟨by omega, by omega⟩ (by show _ < _; omega)
                · skip
                  refine i_iald X F 121 rfl rfl dX8_goAll_164 (vp_in_nI (by omega) (by decide)) (v := nI n21) (by rw [nI_clamp (by omega)]; exact en21) ?_
                  refine i_iast X F I 122 rfl (fun _ => rfl) dX8_goAll_165 (vp_in_nI (by omega) (by decide)) (okp_of (n := n21) (by omega)) (fun M C F I K1 hC => ?_)
                  have K := K.step K1 (by decide)
                  have en21 : C 121 (i114_2) = nI n21 := by rw [(K1 121 (by decide)).1]; exact en21
                  refine g_iinc X dX8_goAll_166 (j := 0) rfl (v := nI (i114_2 + 1)) (nI_1 i114_2) (by decide) (lv2 := [(2, .int (nI (i114_2 + 1))), (1, .int (nI i104_1)), (0, .ref (a 100))]) rfl ?_
                  refine g_goto X dX8_goAll_169 (tgt := 114) (by decide) ?_
                  refine g_lv [0, 1, 2] (lv2 := [(2, .int (nI (i114_2 + 1))), (1, .int (nI i104_1)), (0, .ref (a 100))]) rfl ?_
                  exact ih114 ((i114_2 + 1)) L M C D F I K ⟨by omega, by omega⟩ (by show _ < _; omega)
              · skip
                refine g_aload_n X dX8_goAll_132 rfl (j := 2) rfl ?_
                refine i_get X F 100 rfl rfl fk_X8_43 dX8_goAll_133 rfl ?_
                refine g_iload_n X dX8_goAll_136 rfl (j := 0) rfl ?_
                refine g_aload_n X dX8_goAll_137 rfl (j := 2) rfl ?_
                refine i_get X F 100 rfl rfl fk_X8_9 dX8_goAll_138 rfl ?_
                refine g_bipush X dX8_goAll_141 (v := 56) (by decide) ?_
                refine g_iconst X dX8_goAll_143 (v := 2) (by decide) ?_
                refine g_iload_n X dX8_goAll_144 rfl (j := 0) rfl ?_
                refine g_imul X dX8_goAll_145 ?_
                refine Go.top (v := .int (nI (2 * i114_2))) (congrArg Value.int (pk_mul 2 i114_2)) ?_
                refine g_iadd X dX8_goAll_146 ?_
                refine Go.top (v := .int (nI (56 + (2 * i114_2)))) (congrArg Value.int (nI_add 56 (2 * i114_2))) ?_
                obtain ⟨n22, hn22, en22⟩ := rg_nat ((show okw (56 + (2 * i114_2)) (C 101 (56 + (2 * i114_2))) from I 101 (56 + (2 * i114_2))).2.2.2.2.2.2.2.2.2.1 (by omega) (by omega) (by omega)) (by decide)
                refine i_iald X F 101 rfl rfl dX8_goAll_147 (vp_in_nI (by omega) (by decide)) (v := nI n22) (by rw [nI_clamp (by omega)]; exact en22) ?_
                refine i_iast X F I 121 rfl (fun _ => rfl) dX8_goAll_148 (vp_in_nI (by omega) (by decide)) (okp_of (n := n22) (by omega)) (fun M C F I K1 hC => ?_)
                have K := K.step K1 (by decide)
                refine g_aload_n X dX8_goAll_149 rfl (j := 2) rfl ?_
                refine i_get X F 100 rfl rfl fk_X8_46 dX8_goAll_150 rfl ?_
                refine g_bipush X dX8_goAll_153 (v := 8) (by decide) ?_
                refine g_iload_n X dX8_goAll_155 rfl (j := 1) rfl ?_
                refine g_imul X dX8_goAll_156 ?_
                refine Go.top (v := .int (nI (8 * i104_1))) (congrArg Value.int (pk_mul 8 i104_1)) ?_
                refine g_iload_n X dX8_goAll_157 rfl (j := 0) rfl ?_
                refine g_iadd X dX8_goAll_158 ?_
                refine Go.top (v := .int (nI ((8 * i104_1) + i114_2))) (congrArg Value.int (nI_add (8 * i104_1) i114_2)) ?_
                refine g_aload_n X dX8_goAll_159 rfl (j := 2) rfl ?_
                refine i_get X F 100 rfl rfl fk_X8_43 dX8_goAll_160 rfl ?_
                refine g_iload_n X dX8_goAll_163 rfl (j := 0) rfl ?_
                rcases okp_nat (I 121 i114_2) with en23 | ⟨n23, hn23, en23⟩
                · skip
                  refine i_iald X F 121 rfl rfl dX8_goAll_164 (vp_in_nI (by omega) (by decide)) (v := -1) (by rw [nI_clamp (by omega)]; exact en23) ?_
                  refine i_iast X F I 122 rfl (fun _ => rfl) dX8_goAll_165 (vp_in_nI (by omega) (by decide)) okp_m1 (fun M C F I K1 hC => ?_)
                  have K := K.step K1 (by decide)
                  have en23 : C 121 (i114_2) = -1 := by rw [(K1 121 (by decide)).1]; exact en23
                  refine g_iinc X dX8_goAll_166 (j := 0) rfl (v := nI (i114_2 + 1)) (nI_1 i114_2) (by decide) (lv2 := [(2, .int (nI (i114_2 + 1))), (1, .int (nI i104_1)), (0, .ref (a 100))]) rfl ?_
                  refine g_goto X dX8_goAll_169 (tgt := 114) (by decide) ?_
                  refine g_lv [0, 1, 2] (lv2 := [(2, .int (nI (i114_2 + 1))), (1, .int (nI i104_1)), (0, .ref (a 100))]) rfl ?_
                  exact ih114 ((i114_2 + 1)) L M C D F I K ⟨by omega, by omega⟩ (by show _ < _; omega)
                · skip
                  refine i_iald X F 121 rfl rfl dX8_goAll_164 (vp_in_nI (by omega) (by decide)) (v := nI n23) (by rw [nI_clamp (by omega)]; exact en23) ?_
                  refine i_iast X F I 122 rfl (fun _ => rfl) dX8_goAll_165 (vp_in_nI (by omega) (by decide)) (okp_of (n := n23) (by omega)) (fun M C F I K1 hC => ?_)
                  have K := K.step K1 (by decide)
                  have en23 : C 121 (i114_2) = nI n23 := by rw [(K1 121 (by decide)).1]; exact en23
                  refine g_iinc X dX8_goAll_166 (j := 0) rfl (v := nI (i114_2 + 1)) (nI_1 i114_2) (by decide) (lv2 := [(2, .int (nI (i114_2 + 1))), (1, .int (nI i104_1)), (0, .ref (a 100))]) rfl ?_
                  refine g_goto X dX8_goAll_169 (tgt := 114) (by decide) ?_
                  refine g_lv [0, 1, 2] (lv2 := [(2, .int (nI (i114_2 + 1))), (1, .int (nI i104_1)), (0, .ref (a 100))]) rfl ?_
                  exact ih114 ((i114_2 + 1)) L M C D F I K ⟨by omega, by omega⟩ (by show _ < _; omega)
        · skip
          have q7 : ¬ 8 ≤ i76_1 := fun z => q7 ((nI_leI (a := 8) (b := i76_1) (by omega) (by omega)).mpr z)
          refine g_aload_n X dX8_goAll_82 rfl (j := 1) rfl ?_
          refine i_get X F 100 rfl rfl fk_X8_43 dX8_goAll_83 rfl ?_
          refine g_iload_n X dX8_goAll_86 rfl (j := 0) rfl ?_
          refine g_iconst X dX8_goAll_87 (v := -1) (by decide) ?_
          refine i_iast X F I 121 rfl (fun _ => rfl) dX8_goAll_88 (vp_in_nI (by omega) (by decide)) okp_m1 (fun M C F I K1 hC => ?_)
          have K := K.step K1 (by decide)
          refine g_aload_n X dX8_goAll_89 rfl (j := 1) rfl ?_
          refine i_get X F 100 rfl rfl fk_X8_58 dX8_goAll_90 rfl ?_
          refine g_iload_n X dX8_goAll_93 rfl (j := 0) rfl ?_
          refine g_iconst X dX8_goAll_94 (v := 0) (by decide) ?_
          refine i_iast X F I 126 rfl (fun _ => rfl) dX8_goAll_95 (vp_in_nI (by omega) (by decide)) trivial (fun M C F I K1 hC => ?_)
          have K := K.step K1 (by decide)
          refine g_iinc X dX8_goAll_96 (j := 0) rfl (v := nI (i76_1 + 1)) (nI_1 i76_1) (by decide) (lv2 := [(1, .int (nI (i76_1 + 1))), (0, .ref (a 100))]) rfl ?_
          refine g_goto X dX8_goAll_99 (tgt := 76) (by decide) ?_
          refine g_lv [0, 1] (lv2 := [(1, .int (nI (i76_1 + 1))), (0, .ref (a 100))]) rfl ?_
          exact ih76 ((i76_1 + 1)) L M C D F I K ⟨by omega, by omega⟩ (by show _ < _; omega)
      · skip
        have q6 : ¬ 4 ≤ i49_1 := fun z => q6 ((nI_leI (a := 4) (b := i49_1) (by omega) (by omega)).mpr z)
        refine g_aload_n X dX8_goAll_54 rfl (j := 1) rfl ?_
        refine i_get X F 100 rfl rfl fk_X8_61 dX8_goAll_55 rfl ?_
        refine g_iload_n X dX8_goAll_58 rfl (j := 0) rfl ?_
        refine g_iconst X dX8_goAll_59 (v := 0) (by decide) ?_
        refine i_iast X F I 127 rfl (fun _ => rfl) dX8_goAll_60 (vp_in_nI (by omega) (by decide)) trivial (fun M C F I K1 hC => ?_)
        have K := K.step K1 (by decide)
        refine g_aload_n X dX8_goAll_61 rfl (j := 1) rfl ?_
        refine i_get X F 100 rfl rfl fk_X8_64 dX8_goAll_62 rfl ?_
        refine g_iload_n X dX8_goAll_65 rfl (j := 0) rfl ?_
        refine g_iconst X dX8_goAll_66 (v := 0) (by decide) ?_
        refine i_iast X F I 128 rfl (fun _ => rfl) dX8_goAll_67 (vp_in_nI (by omega) (by decide)) trivial (fun M C F I K1 hC => ?_)
        have K := K.step K1 (by decide)
        refine g_iinc X dX8_goAll_68 (j := 0) rfl (v := nI (i49_1 + 1)) (nI_1 i49_1) (by decide) (lv2 := [(1, .int (nI (i49_1 + 1))), (0, .ref (a 100))]) rfl ?_
        refine g_goto X dX8_goAll_71 (tgt := 49) (by decide) ?_
        refine g_lv [0, 1] (lv2 := [(1, .int (nI (i49_1 + 1))), (0, .ref (a 100))]) rfl ?_
        exact ih49 ((i49_1 + 1)) L M C D F I K ⟨by omega, by omega⟩ (by show _ < _; omega)
    · skip
      have q5 : ¬ 28 ≤ i28_1 := fun z => q5 ((nI_leI (a := 28) (b := i28_1) (by omega) (by omega)).mpr z)
      refine g_aload_n X dX8_goAll_34 rfl (j := 1) rfl ?_
      refine i_get X F 100 rfl rfl fk_X8_55 dX8_goAll_35 rfl ?_
      refine g_iload_n X dX8_goAll_38 rfl (j := 0) rfl ?_
      refine g_iconst X dX8_goAll_39 (v := 0) (by decide) ?_
      refine i_iast X F I 125 rfl (fun _ => rfl) dX8_goAll_40 (vp_in_nI (by omega) (by decide)) trivial (fun M C F I K1 hC => ?_)
      have K := K.step K1 (by decide)
      refine g_iinc X dX8_goAll_41 (j := 0) rfl (v := nI (i28_1 + 1)) (nI_1 i28_1) (by decide) (lv2 := [(1, .int (nI (i28_1 + 1))), (0, .ref (a 100))]) rfl ?_
      refine g_goto X dX8_goAll_44 (tgt := 28) (by decide) ?_
      refine g_lv [0, 1] (lv2 := [(1, .int (nI (i28_1 + 1))), (0, .ref (a 100))]) rfl ?_
      exact ih28 ((i28_1 + 1)) L M C D F I K ⟨by omega, by omega⟩ (by show _ < _; omega)
  · skip
    have q4 : ¬ 7 ≤ i2_1 := fun z => q4 ((nI_leI (a := 7) (b := i2_1) (by omega) (by omega)).mpr z)
    refine g_aload_n X dX8_goAll_8 rfl (j := 1) rfl ?_
    refine i_get X F 100 rfl rfl fk_X8_40 dX8_goAll_9 rfl ?_
    refine g_iload_n X dX8_goAll_12 rfl (j := 0) rfl ?_
    refine g_aload_n X dX8_goAll_13 rfl (j := 1) rfl ?_
    refine i_get X F 100 rfl rfl fk_X8_34 dX8_goAll_14 rfl ?_
    refine g_iload_n X dX8_goAll_17 rfl (j := 0) rfl ?_
    obtain ⟨n24, hn24, en24⟩ := rg_nat (I 115 i2_1) (by decide)
    refine i_iald X F 115 rfl rfl dX8_goAll_18 (vp_in_nI (by omega) (by decide)) (v := nI n24) (by rw [nI_clamp (by omega)]; exact en24) ?_
    refine i_iast X F I 120 rfl (fun _ => rfl) dX8_goAll_19 (vp_in_nI (by omega) (by decide)) (rg_of (n := n24) (by omega) (by omega) (by omega)) (fun M C F I K1 hC => ?_)
    have K := K.step K1 (by decide)
    refine g_iinc X dX8_goAll_20 (j := 0) rfl (v := nI (i2_1 + 1)) (nI_1 i2_1) (by decide) (lv2 := [(1, .int (nI (i2_1 + 1))), (0, .ref (a 100))]) rfl ?_
    refine g_goto X dX8_goAll_23 (tgt := 2) (by decide) ?_
    refine g_lv [0, 1] (lv2 := [(1, .int (nI (i2_1 + 1))), (0, .ref (a 100))]) rfl ?_
    exact ih2 ((i2_1 + 1)) L M C D F I K ⟨by omega, by omega⟩ (by show _ < _; omega)
