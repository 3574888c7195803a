set_option maxHeartbeats 4000000 in
set_option maxRecDepth 100000 in
theorem s_J7_fill_53178_5 (l : Launch) (G : va_G) {cy : Nat → ClassId} {L : List Nat} {M : Nat → va_E} {a : Nat → Nat} {act : Nat → Bool} {C0 : Nat → Nat → Int32} {D0 : Nat → Nat → Int64} {R : Nat → Nat → Option Nat} (F : WI L M a act (ent cy a C0 D0 R)) (I : Inv C0)   : MV l G cy yJ7_fill_53178 cJ7_fill_53178 4 none 0 0 0 [.ref (a 5), .int 0] L M (fun L2 M2 => ∃ C2 D2, WI L2 M2 a act (ent cy a C2 D2 R) ∧ Inv C2 ∧ Kp [5] C0 D0 C2 D2 ∧ True) := by
  refine MV.of (own := RJ7) rfl (by decide) (Nat.le_of_ble_eq_true rfl) ?_
  intro p e s m below meth c A X hrt hnm
  obtain ⟨C, D, hC0, hD0, F, I, K⟩ : ∃ C D, C = C0 ∧ D = D0 ∧ WI L M a act (ent cy a C D R) ∧ Inv C ∧ Kp [5] C0 D0 C D := ⟨C0, D0, rfl, rfl, F, I, Kp.rf⟩
  refine g_iconst X dJ7_fill_53178_0 (v := 0) (by decide) ?_
  refine g_istore_n X dJ7_fill_53178_1 rfl (by decide) (lv2 := [(2, .int 0), (0, .ref (a 5)), (1, .int 0)]) rfl ?_
  refine g_aload_n X dJ7_fill_53178_2 rfl (j := 1) rfl ?_
  refine i_alen X F 5 rfl rfl (t0 := 1) rfl dJ7_fill_53178_3 (v := 7) rfl ?_
  refine g_istore_n X dJ7_fill_53178_4 rfl (by decide) (lv2 := [(3, .int 7), (2, .int 0), (0, .ref (a 5)), (1, .int 0)]) rfl ?_
  refine g_lv [1, 0, 2, 3] (lv2 := [(2, .int 0), (3, .int 7), (0, .ref (a 5)), (1, .int 0)]) rfl ?_
  refine i_loop (mods := [5]) (fun x : Nat => 7 - x) (fun x => [(2, .int (nI (x))), (3, .int 7), (0, .ref (a 5)), (1, .int 0)]) (fun x C => 0 ≤ x ∧ x ≤ 7) (fun x L M C D F I K hP ih5 => ?_) ((0) : Nat) F I K ⟨by show _ ≤ _; omega, by show _ ≤ _; omega⟩
  obtain ⟨i5_2, rfl⟩ : ∃ z, z = x := ⟨_, rfl⟩
  obtain ⟨hi5_2a, hi5_2b⟩ := hP
  refine g_lv [0, 1, 2, 3] (lv2 := [(2, .int (nI i5_2)), (3, .int 7), (0, .ref (a 5)), (1, .int 0)]) rfl ?_
  refine g_iload_n X dJ7_fill_53178_5 rfl (j := 0) rfl ?_
  refine g_iload_n X dJ7_fill_53178_6 rfl (j := 1) rfl ?_
  refine g_icmp_ge X dJ7_fill_53178_7 (tgt := 20) (by decide) (fun q1 => ?_) (fun q1 => ?_)
  · skip
    have q1 : 7 ≤ i5_2 := (nI_leI (a := 7) (b := i5_2) (by omega) (by omega)).mp q1
    exact g_vret X hrt dJ7_fill_53178_20 (by decide) (by decide) ⟨C, D, F, I, K, trivial⟩
  · skip
    have q1 : ¬ 7 ≤ i5_2 := fun z => q1 ((nI_leI (a := 7) (b := i5_2) (by omega) (by omega)).mpr z)
    refine g_aload_n X dJ7_fill_53178_10 rfl (j := 2) rfl ?_
    refine g_iload_n X dJ7_fill_53178_11 rfl (j := 0) rfl ?_
    refine g_iload_n X dJ7_fill_53178_12 rfl (j := 3) rfl ?_
    refine i_iast X F I 5 rfl (fun _ => rfl) dJ7_fill_53178_13 (vp_in_nI (by omega) (by decide)) (rg_of (n := 0) (by omega) (by omega) (by omega)) (fun M C F I K1 hC => ?_)
    have K := K.step K1 (by decide)
    refine g_iinc X dJ7_fill_53178_14 (j := 0) rfl (v := nI (i5_2 + 1)) (nI_1 i5_2) (by decide) (lv2 := [(2, .int (nI (i5_2 + 1))), (3, .int 7), (0, .ref (a 5)), (1, .int 0)]) rfl ?_
    refine g_goto X dJ7_fill_53178_17 (tgt := 5) (by decide) ?_
    refine g_lv [0, 1, 2, 3] (lv2 := [(2, .int (nI (i5_2 + 1))), (3, .int 7), (0, .ref (a 5)), (1, .int 0)]) rfl ?_
    exact ih5 ((i5_2 + 1)) L M C D F I K ⟨by omega, by omega⟩ (by show _ < _; omega)
set_option maxHeartbeats 4000000 in
set_option maxRecDepth 100000 in
theorem s_J7_fill_53178_7 (l : Launch) (G : va_G) {cy : Nat → ClassId} {L : List Nat} {M : Nat → va_E} {a : Nat → Nat} {act : Nat → Bool} {C0 : Nat → Nat → Int32} {D0 : Nat → Nat → Int64} {R : Nat → Nat → Option Nat} (F : WI L M a act (ent cy a C0 D0 R)) (I : Inv C0)   : MV l G cy yJ7_fill_53178 cJ7_fill_53178 4 none 0 0 0 [.ref (a 7), .int 0] L M (fun L2 M2 => ∃ C2 D2, WI L2 M2 a act (ent cy a C2 D2 R) ∧ Inv C2 ∧ Kp [7] C0 D0 C2 D2 ∧ True) := by
  refine MV.of (own := RJ7) rfl (by decide) (Nat.le_of_ble_eq_true rfl) ?_
  intro p e s m below meth c A X hrt hnm
  obtain ⟨C, D, hC0, hD0, F, I, K⟩ : ∃ C D, C = C0 ∧ D = D0 ∧ WI L M a act (ent cy a C D R) ∧ Inv C ∧ Kp [7] C0 D0 C D := ⟨C0, D0, rfl, rfl, F, I, Kp.rf⟩
  refine g_iconst X dJ7_fill_53178_0 (v := 0) (by decide) ?_
  refine g_istore_n X dJ7_fill_53178_1 rfl (by decide) (lv2 := [(2, .int 0), (0, .ref (a 7)), (1, .int 0)]) rfl ?_
  refine g_aload_n X dJ7_fill_53178_2 rfl (j := 1) rfl ?_
  refine i_alen X F 7 rfl rfl (t0 := 1) rfl dJ7_fill_53178_3 (v := 7) rfl ?_
  refine g_istore_n X dJ7_fill_53178_4 rfl (by decide) (lv2 := [(3, .int 7), (2, .int 0), (0, .ref (a 7)), (1, .int 0)]) rfl ?_
  refine g_lv [1, 0, 2, 3] (lv2 := [(2, .int 0), (3, .int 7), (0, .ref (a 7)), (1, .int 0)]) rfl ?_
  refine i_loop (mods := [7]) (fun x : Nat => 7 - x) (fun x => [(2, .int (nI (x))), (3, .int 7), (0, .ref (a 7)), (1, .int 0)]) (fun x C => 0 ≤ x ∧ x ≤ 7) (fun x L M C D F I K hP ih5 => ?_) ((0) : Nat) F I K ⟨by show _ ≤ _; omega, by show _ ≤ _; omega⟩
  obtain ⟨i5_2, rfl⟩ : ∃ z, z = x := ⟨_, rfl⟩
  obtain ⟨hi5_2a, hi5_2b⟩ := hP
  refine g_lv [0, 1, 2, 3] (lv2 := [(2, .int (nI i5_2)), (3, .int 7), (0, .ref (a 7)), (1, .int 0)]) rfl ?_
  refine g_iload_n X dJ7_fill_53178_5 rfl (j := 0) rfl ?_
  refine g_iload_n X dJ7_fill_53178_6 rfl (j := 1) rfl ?_
  refine g_icmp_ge X dJ7_fill_53178_7 (tgt := 20) (by decide) (fun q1 => ?_) (fun q1 => ?_)
  · skip
    have q1 : 7 ≤ i5_2 := (nI_leI (a := 7) (b := i5_2) (by omega) (by omega)).mp q1
    exact g_vret X hrt dJ7_fill_53178_20 (by decide) (by decide) ⟨C, D, F, I, K, trivial⟩
  · skip
    have q1 : ¬ 7 ≤ i5_2 := fun z => q1 ((nI_leI (a := 7) (b := i5_2) (by omega) (by omega)).mpr z)
    refine g_aload_n X dJ7_fill_53178_10 rfl (j := 2) rfl ?_
    refine g_iload_n X dJ7_fill_53178_11 rfl (j := 0) rfl ?_
    refine g_iload_n X dJ7_fill_53178_12 rfl (j := 3) rfl ?_
    refine i_iast X F I 7 rfl (fun _ => rfl) dJ7_fill_53178_13 (vp_in_nI (by omega) (by decide)) (rg_of (n := 0) (by omega) (by omega) (by omega)) (fun M C F I K1 hC => ?_)
    have K := K.step K1 (by decide)
    refine g_iinc X dJ7_fill_53178_14 (j := 0) rfl (v := nI (i5_2 + 1)) (nI_1 i5_2) (by decide) (lv2 := [(2, .int (nI (i5_2 + 1))), (3, .int 7), (0, .ref (a 7)), (1, .int 0)]) rfl ?_
    refine g_goto X dJ7_fill_53178_17 (tgt := 5) (by decide) ?_
    refine g_lv [0, 1, 2, 3] (lv2 := [(2, .int (nI (i5_2 + 1))), (3, .int 7), (0, .ref (a 7)), (1, .int 0)]) rfl ?_
    exact ih5 ((i5_2 + 1)) L M C D F I K ⟨by omega, by omega⟩ (by show _ < _; omega)
set_option maxHeartbeats 4000000 in
set_option maxRecDepth 100000 in
theorem s_J7_fill_53178_12 (l : Launch) (G : va_G) {cy : Nat → ClassId} {L : List Nat} {M : Nat → va_E} {a : Nat → Nat} {act : Nat → Bool} {C0 : Nat → Nat → Int32} {D0 : Nat → Nat → Int64} {R : Nat → Nat → Option Nat} (F : WI L M a act (ent cy a C0 D0 R)) (I : Inv C0)   : MV l G cy yJ7_fill_53178 cJ7_fill_53178 4 none 0 0 0 [.ref (a 12), .int 0] L M (fun L2 M2 => ∃ C2 D2, WI L2 M2 a act (ent cy a C2 D2 R) ∧ Inv C2 ∧ Kp [12] C0 D0 C2 D2 ∧ True) := by
  refine MV.of (own := RJ7) rfl (by decide) (Nat.le_of_ble_eq_true rfl) ?_
  intro p e s m below meth c A X hrt hnm
  obtain ⟨C, D, hC0, hD0, F, I, K⟩ : ∃ C D, C = C0 ∧ D = D0 ∧ WI L M a act (ent cy a C D R) ∧ Inv C ∧ Kp [12] C0 D0 C D := ⟨C0, D0, rfl, rfl, F, I, Kp.rf⟩
  refine g_iconst X dJ7_fill_53178_0 (v := 0) (by decide) ?_
  refine g_istore_n X dJ7_fill_53178_1 rfl (by decide) (lv2 := [(2, .int 0), (0, .ref (a 12)), (1, .int 0)]) rfl ?_
  refine g_aload_n X dJ7_fill_53178_2 rfl (j := 1) rfl ?_
  refine i_alen X F 12 rfl rfl (t0 := 1) rfl dJ7_fill_53178_3 (v := 240) rfl ?_
  refine g_istore_n X dJ7_fill_53178_4 rfl (by decide) (lv2 := [(3, .int 240), (2, .int 0), (0, .ref (a 12)), (1, .int 0)]) rfl ?_
  refine g_lv [1, 0, 2, 3] (lv2 := [(2, .int 0), (3, .int 240), (0, .ref (a 12)), (1, .int 0)]) rfl ?_
  refine i_loop (mods := [12]) (fun x : Nat => 240 - x) (fun x => [(2, .int (nI (x))), (3, .int 240), (0, .ref (a 12)), (1, .int 0)]) (fun x C => 0 ≤ x ∧ x ≤ 240) (fun x L M C D F I K hP ih5 => ?_) ((0) : Nat) F I K ⟨by show _ ≤ _; omega, by show _ ≤ _; omega⟩
  obtain ⟨i5_2, rfl⟩ : ∃ z, z = x := ⟨_, rfl⟩
  obtain ⟨hi5_2a, hi5_2b⟩ := hP
  refine g_lv [0, 1, 2, 3] (lv2 := [(2, .int (nI i5_2)), (3, .int 240), (0, .ref (a 12)), (1, .int 0)]) rfl ?_
  refine g_iload_n X dJ7_fill_53178_5 rfl (j := 0) rfl ?_
  refine g_iload_n X dJ7_fill_53178_6 rfl (j := 1) rfl ?_
  refine g_icmp_ge X dJ7_fill_53178_7 (tgt := 20) (by decide) (fun q1 => ?_) (fun q1 => ?_)
  · skip
    have q1 : 240 ≤ i5_2 := (nI_leI (a := 240) (b := i5_2) (by omega) (by omega)).mp q1
    exact g_vret X hrt dJ7_fill_53178_20 (by decide) (by decide) ⟨C, D, F, I, K, trivial⟩
  · skip
    have q1 : ¬ 240 ≤ i5_2 := fun z => q1 ((nI_leI (a := 240) (b := i5_2) (by omega) (by omega)).mpr z)
    refine g_aload_n X dJ7_fill_53178_10 rfl (j := 2) rfl ?_
    refine g_iload_n X dJ7_fill_53178_11 rfl (j := 0) rfl ?_
    refine g_iload_n X dJ7_fill_53178_12 rfl (j := 3) rfl ?_
    refine i_iast X F I 12 rfl (fun _ => rfl) dJ7_fill_53178_13 (vp_in_nI (by omega) (by decide)) trivial (fun M C F I K1 hC => ?_)
    have K := K.step K1 (by decide)
    refine g_iinc X dJ7_fill_53178_14 (j := 0) rfl (v := nI (i5_2 + 1)) (nI_1 i5_2) (by decide) (lv2 := [(2, .int (nI (i5_2 + 1))), (3, .int 240), (0, .ref (a 12)), (1, .int 0)]) rfl ?_
    refine g_goto X dJ7_fill_53178_17 (tgt := 5) (by decide) ?_
    refine g_lv [0, 1, 2, 3] (lv2 := [(2, .int (nI (i5_2 + 1))), (3, .int 240), (0, .ref (a 12)), (1, .int 0)]) rfl ?_
    exact ih5 ((i5_2 + 1)) L M C D F I K ⟨by omega, by omega⟩ (by show _ < _; omega)
set_option maxHeartbeats 4000000 in
set_option maxRecDepth 100000 in
theorem s_J7_fill_53178_15 (l : Launch) (G : va_G) {cy : Nat → ClassId} {L : List Nat} {M : Nat → va_E} {a : Nat → Nat} {act : Nat → Bool} {C0 : Nat → Nat → Int32} {D0 : Nat → Nat → Int64} {R : Nat → Nat → Option Nat} (F : WI L M a act (ent cy a C0 D0 R)) (I : Inv C0)   : MV l G cy yJ7_fill_53178 cJ7_fill_53178 4 none 0 0 0 [.ref (a 15), .int 0] L M (fun L2 M2 => ∃ C2 D2, WI L2 M2 a act (ent cy a C2 D2 R) ∧ Inv C2 ∧ Kp [15] C0 D0 C2 D2 ∧ True) := by
  refine MV.of (own := RJ7) rfl (by decide) (Nat.le_of_ble_eq_true rfl) ?_
  intro p e s m below meth c A X hrt hnm
  obtain ⟨C, D, hC0, hD0, F, I, K⟩ : ∃ C D, C = C0 ∧ D = D0 ∧ WI L M a act (ent cy a C D R) ∧ Inv C ∧ Kp [15] C0 D0 C D := ⟨C0, D0, rfl, rfl, F, I, Kp.rf⟩
  refine g_iconst X dJ7_fill_53178_0 (v := 0) (by decide) ?_
  refine g_istore_n X dJ7_fill_53178_1 rfl (by decide) (lv2 := [(2, .int 0), (0, .ref (a 15)), (1, .int 0)]) rfl ?_
  refine g_aload_n X dJ7_fill_53178_2 rfl (j := 1) rfl ?_
  refine i_alen X F 15 rfl rfl (t0 := 1) rfl dJ7_fill_53178_3 (v := 7) rfl ?_
  refine g_istore_n X dJ7_fill_53178_4 rfl (by decide) (lv2 := [(3, .int 7), (2, .int 0), (0, .ref (a 15)), (1, .int 0)]) rfl ?_
  refine g_lv [1, 0, 2, 3] (lv2 := [(2, .int 0), (3, .int 7), (0, .ref (a 15)), (1, .int 0)]) rfl ?_
  refine i_loop (mods := [15]) (fun x : Nat => 7 - x) (fun x => [(2, .int (nI (x))), (3, .int 7), (0, .ref (a 15)), (1, .int 0)]) (fun x C => 0 ≤ x ∧ x ≤ 7) (fun x L M C D F I K hP ih5 => ?_) ((0) : Nat) F I K ⟨by show _ ≤ _; omega, by show _ ≤ _; omega⟩
  obtain ⟨i5_2, rfl⟩ : ∃ z, z = x := ⟨_, rfl⟩
  obtain ⟨hi5_2a, hi5_2b⟩ := hP
  refine g_lv [0, 1, 2, 3] (lv2 := [(2, .int (nI i5_2)), (3, .int 7), (0, .ref (a 15)), (1, .int 0)]) rfl ?_
  refine g_iload_n X dJ7_fill_53178_5 rfl (j := 0) rfl ?_
  refine g_iload_n X dJ7_fill_53178_6 rfl (j := 1) rfl ?_
  refine g_icmp_ge X dJ7_fill_53178_7 (tgt := 20) (by decide) (fun q1 => ?_) (fun q1 => ?_)
  · skip
    have q1 : 7 ≤ i5_2 := (nI_leI (a := 7) (b := i5_2) (by omega) (by omega)).mp q1
    exact g_vret X hrt dJ7_fill_53178_20 (by decide) (by decide) ⟨C, D, F, I, K, trivial⟩
  · skip
    have q1 : ¬ 7 ≤ i5_2 := fun z => q1 ((nI_leI (a := 7) (b := i5_2) (by omega) (by omega)).mpr z)
    refine g_aload_n X dJ7_fill_53178_10 rfl (j := 2) rfl ?_
    refine g_iload_n X dJ7_fill_53178_11 rfl (j := 0) rfl ?_
    refine g_iload_n X dJ7_fill_53178_12 rfl (j := 3) rfl ?_
    refine i_iast X F I 15 rfl (fun _ => rfl) dJ7_fill_53178_13 (vp_in_nI (by omega) (by decide)) (rg_of (n := 0) (by omega) (by omega) (by omega)) (fun M C F I K1 hC => ?_)
    have K := K.step K1 (by decide)
    refine g_iinc X dJ7_fill_53178_14 (j := 0) rfl (v := nI (i5_2 + 1)) (nI_1 i5_2) (by decide) (lv2 := [(2, .int (nI (i5_2 + 1))), (3, .int 7), (0, .ref (a 15)), (1, .int 0)]) rfl ?_
    refine g_goto X dJ7_fill_53178_17 (tgt := 5) (by decide) ?_
    refine g_lv [0, 1, 2, 3] (lv2 := [(2, .int (nI (i5_2 + 1))), (3, .int 7), (0, .ref (a 15)), (1, .int 0)]) rfl ?_
    exact ih5 ((i5_2 + 1)) L M C D F I K ⟨by omega, by omega⟩ (by show _ < _; omega)
set_option maxHeartbeats 4000000 in
set_option maxRecDepth 100000 in
theorem s_J7_fill_53178_17 (l : Launch) (G : va_G) {cy : Nat → ClassId} {L : List Nat} {M : Nat → va_E} {a : Nat → Nat} {act : Nat → Bool} {C0 : Nat → Nat → Int32} {D0 : Nat → Nat → Int64} {R : Nat → Nat → Option Nat} (F : WI L M a act (ent cy a C0 D0 R)) (I : Inv C0)   : MV l G cy yJ7_fill_53178 cJ7_fill_53178 4 none 0 0 0 [.ref (a 17), .int 0] L M (fun L2 M2 => ∃ C2 D2, WI L2 M2 a act (ent cy a C2 D2 R) ∧ Inv C2 ∧ Kp [17] C0 D0 C2 D2 ∧ True) := by
  refine MV.of (own := RJ7) rfl (by decide) (Nat.le_of_ble_eq_true rfl) ?_
  intro p e s m below meth c A X hrt hnm
  obtain ⟨C, D, hC0, hD0, F, I, K⟩ : ∃ C D, C = C0 ∧ D = D0 ∧ WI L M a act (ent cy a C D R) ∧ Inv C ∧ Kp [17] C0 D0 C D := ⟨C0, D0, rfl, rfl, F, I, Kp.rf⟩
  refine g_iconst X dJ7_fill_53178_0 (v := 0) (by decide) ?_
  refine g_istore_n X dJ7_fill_53178_1 rfl (by decide) (lv2 := [(2, .int 0), (0, .ref (a 17)), (1, .int 0)]) rfl ?_
  refine g_aload_n X dJ7_fill_53178_2 rfl (j := 1) rfl ?_
  refine i_alen X F 17 rfl rfl (t0 := 1) rfl dJ7_fill_53178_3 (v := 7) rfl ?_
  refine g_istore_n X dJ7_fill_53178_4 rfl (by decide) (lv2 := [(3, .int 7), (2, .int 0), (0, .ref (a 17)), (1, .int 0)]) rfl ?_
  refine g_lv [1, 0, 2, 3] (lv2 := [(2, .int 0), (3, .int 7), (0, .ref (a 17)), (1, .int 0)]) rfl ?_
  refine i_loop (mods := [17]) (fun x : Nat => 7 - x) (fun x => [(2, .int (nI (x))), (3, .int 7), (0, .ref (a 17)), (1, .int 0)]) (fun x C => 0 ≤ x ∧ x ≤ 7) (fun x L M C D F I K hP ih5 => ?_) ((0) : Nat) F I K ⟨by show _ ≤ _; omega, by show _ ≤ _; omega⟩
  obtain ⟨i5_2, rfl⟩ : ∃ z, z = x := ⟨_, rfl⟩
  obtain ⟨hi5_2a, hi5_2b⟩ := hP
  refine g_lv [0, 1, 2, 3] (lv2 := [(2, .int (nI i5_2)), (3, .int 7), (0, .ref (a 17)), (1, .int 0)]) rfl ?_
  refine g_iload_n X dJ7_fill_53178_5 rfl (j := 0) rfl ?_
  refine g_iload_n X dJ7_fill_53178_6 rfl (j := 1) rfl ?_
  refine g_icmp_ge X dJ7_fill_53178_7 (tgt := 20) (by decide) (fun q1 => ?_) (fun q1 => ?_)
  · skip
    have q1 : 7 ≤ i5_2 := (nI_leI (a := 7) (b := i5_2) (by omega) (by omega)).mp q1
    exact g_vret X hrt dJ7_fill_53178_20 (by decide) (by decide) ⟨C, D, F, I, K, trivial⟩
  · skip
    have q1 : ¬ 7 ≤ i5_2 := fun z => q1 ((nI_leI (a := 7) (b := i5_2) (by omega) (by omega)).mpr z)
    refine g_aload_n X dJ7_fill_53178_10 rfl (j := 2) rfl ?_
    refine g_iload_n X dJ7_fill_53178_11 rfl (j := 0) rfl ?_
    refine g_iload_n X dJ7_fill_53178_12 rfl (j := 3) rfl ?_
    refine i_iast X F I 17 rfl (fun _ => rfl) dJ7_fill_53178_13 (vp_in_nI (by omega) (by decide)) (rg_of (n := 0) (by omega) (by omega) (by omega)) (fun M C F I K1 hC => ?_)
    have K := K.step K1 (by decide)
    refine g_iinc X dJ7_fill_53178_14 (j := 0) rfl (v := nI (i5_2 + 1)) (nI_1 i5_2) (by decide) (lv2 := [(2, .int (nI (i5_2 + 1))), (3, .int 7), (0, .ref (a 17)), (1, .int 0)]) rfl ?_
    refine g_goto X dJ7_fill_53178_17 (tgt := 5) (by decide) ?_
    refine g_lv [0, 1, 2, 3] (lv2 := [(2, .int (nI (i5_2 + 1))), (3, .int 7), (0, .ref (a 17)), (1, .int 0)]) rfl ?_
    exact ih5 ((i5_2 + 1)) L M C D F I K ⟨by omega, by omega⟩ (by show _ < _; omega)
set_option maxHeartbeats 4000000 in
set_option maxRecDepth 100000 in
theorem s_J7_fill_53178_22 (l : Launch) (G : va_G) {cy : Nat → ClassId} {L : List Nat} {M : Nat → va_E} {a : Nat → Nat} {act : Nat → Bool} {C0 : Nat → Nat → Int32} {D0 : Nat → Nat → Int64} {R : Nat → Nat → Option Nat} (F : WI L M a act (ent cy a C0 D0 R)) (I : Inv C0)   : MV l G cy yJ7_fill_53178 cJ7_fill_53178 4 none 0 0 0 [.ref (a 22), .int 0] L M (fun L2 M2 => ∃ C2 D2, WI L2 M2 a act (ent cy a C2 D2 R) ∧ Inv C2 ∧ Kp [22] C0 D0 C2 D2 ∧ True) := by
  refine MV.of (own := RJ7) rfl (by decide) (Nat.le_of_ble_eq_true rfl) ?_
  intro p e s m below meth c A X hrt hnm
  obtain ⟨C, D, hC0, hD0, F, I, K⟩ : ∃ C D, C = C0 ∧ D = D0 ∧ WI L M a act (ent cy a C D R) ∧ Inv C ∧ Kp [22] C0 D0 C D := ⟨C0, D0, rfl, rfl, F, I, Kp.rf⟩
  refine g_iconst X dJ7_fill_53178_0 (v := 0) (by decide) ?_
  refine g_istore_n X dJ7_fill_53178_1 rfl (by decide) (lv2 := [(2, .int 0), (0, .ref (a 22)), (1, .int 0)]) rfl ?_
  refine g_aload_n X dJ7_fill_53178_2 rfl (j := 1) rfl ?_
  refine i_alen X F 22 rfl rfl (t0 := 1) rfl dJ7_fill_53178_3 (v := 240) rfl ?_
  refine g_istore_n X dJ7_fill_53178_4 rfl (by decide) (lv2 := [(3, .int 240), (2, .int 0), (0, .ref (a 22)), (1, .int 0)]) rfl ?_
  refine g_lv [1, 0, 2, 3] (lv2 := [(2, .int 0), (3, .int 240), (0, .ref (a 22)), (1, .int 0)]) rfl ?_
  refine i_loop (mods := [22]) (fun x : Nat => 240 - x) (fun x => [(2, .int (nI (x))), (3, .int 240), (0, .ref (a 22)), (1, .int 0)]) (fun x C => 0 ≤ x ∧ x ≤ 240) (fun x L M C D F I K hP ih5 => ?_) ((0) : Nat) F I K ⟨by show _ ≤ _; omega, by show _ ≤ _; omega⟩
  obtain ⟨i5_2, rfl⟩ : ∃ z, z = x := ⟨_, rfl⟩
  obtain ⟨hi5_2a, hi5_2b⟩ := hP
  refine g_lv [0, 1, 2, 3] (lv2 := [(2, .int (nI i5_2)), (3, .int 240), (0, .ref (a 22)), (1, .int 0)]) rfl ?_
  refine g_iload_n X dJ7_fill_53178_5 rfl (j := 0) rfl ?_
  refine g_iload_n X dJ7_fill_53178_6 rfl (j := 1) rfl ?_
  refine g_icmp_ge X dJ7_fill_53178_7 (tgt := 20) (by decide) (fun q1 => ?_) (fun q1 => ?_)
  · skip
    have q1 : 240 ≤ i5_2 := (nI_leI (a := 240) (b := i5_2) (by omega) (by omega)).mp q1
    exact g_vret X hrt dJ7_fill_53178_20 (by decide) (by decide) ⟨C, D, F, I, K, trivial⟩
  · skip
    have q1 : ¬ 240 ≤ i5_2 := fun z => q1 ((nI_leI (a := 240) (b := i5_2) (by omega) (by omega)).mpr z)
    refine g_aload_n X dJ7_fill_53178_10 rfl (j := 2) rfl ?_
    refine g_iload_n X dJ7_fill_53178_11 rfl (j := 0) rfl ?_
    refine g_iload_n X dJ7_fill_53178_12 rfl (j := 3) rfl ?_
    refine i_iast X F I 22 rfl (fun _ => rfl) dJ7_fill_53178_13 (vp_in_nI (by omega) (by decide)) trivial (fun M C F I K1 hC => ?_)
    have K := K.step K1 (by decide)
    refine g_iinc X dJ7_fill_53178_14 (j := 0) rfl (v := nI (i5_2 + 1)) (nI_1 i5_2) (by decide) (lv2 := [(2, .int (nI (i5_2 + 1))), (3, .int 240), (0, .ref (a 22)), (1, .int 0)]) rfl ?_
    refine g_goto X dJ7_fill_53178_17 (tgt := 5) (by decide) ?_
    refine g_lv [0, 1, 2, 3] (lv2 := [(2, .int (nI (i5_2 + 1))), (3, .int 240), (0, .ref (a 22)), (1, .int 0)]) rfl ?_
    exact ih5 ((i5_2 + 1)) L M C D F I K ⟨by omega, by omega⟩ (by show _ < _; omega)
set_option maxHeartbeats 4000000 in
set_option maxRecDepth 100000 in
theorem s_J7_fill_53178_30 (l : Launch) (G : va_G) {cy : Nat → ClassId} {L : List Nat} {M : Nat → va_E} {a : Nat → Nat} {act : Nat → Bool} {C0 : Nat → Nat → Int32} {D0 : Nat → Nat → Int64} {R : Nat → Nat → Option Nat} (F : WI L M a act (ent cy a C0 D0 R)) (I : Inv C0)   : MV l G cy yJ7_fill_53178 cJ7_fill_53178 4 none 0 0 0 [.ref (a 30), .int 0] L M (fun L2 M2 => ∃ C2 D2, WI L2 M2 a act (ent cy a C2 D2 R) ∧ Inv C2 ∧ Kp [30] C0 D0 C2 D2 ∧ True) := by
  refine MV.of (own := RJ7) rfl (by decide) (Nat.le_of_ble_eq_true rfl) ?_
  intro p e s m below meth c A X hrt hnm
  obtain ⟨C, D, hC0, hD0, F, I, K⟩ : ∃ C D, C = C0 ∧ D = D0 ∧ WI L M a act (ent cy a C D R) ∧ Inv C ∧ Kp [30] C0 D0 C D := ⟨C0, D0, rfl, rfl, F, I, Kp.rf⟩
  refine g_iconst X dJ7_fill_53178_0 (v := 0) (by decide) ?_
  refine g_istore_n X dJ7_fill_53178_1 rfl (by decide) (lv2 := [(2, .int 0), (0, .ref (a 30)), (1, .int 0)]) rfl ?_
  refine g_aload_n X dJ7_fill_53178_2 rfl (j := 1) rfl ?_
  refine i_alen X F 30 rfl rfl (t0 := 1) rfl dJ7_fill_53178_3 (v := 4) rfl ?_
  refine g_istore_n X dJ7_fill_53178_4 rfl (by decide) (lv2 := [(3, .int 4), (2, .int 0), (0, .ref (a 30)), (1, .int 0)]) rfl ?_
  refine g_lv [1, 0, 2, 3] (lv2 := [(2, .int 0), (3, .int 4), (0, .ref (a 30)), (1, .int 0)]) rfl ?_
  refine i_loop (mods := [30]) (fun x : Nat => 4 - x) (fun x => [(2, .int (nI (x))), (3, .int 4), (0, .ref (a 30)), (1, .int 0)]) (fun x C => 0 ≤ x ∧ x ≤ 4) (fun x L M C D F I K hP ih5 => ?_) ((0) : Nat) F I K ⟨by show _ ≤ _; omega, by show _ ≤ _; omega⟩
  obtain ⟨i5_2, rfl⟩ : ∃ z, z = x := ⟨_, rfl⟩
  obtain ⟨hi5_2a, hi5_2b⟩ := hP
  refine g_lv [0, 1, 2, 3] (lv2 := [(2, .int (nI i5_2)), (3, .int 4), (0, .ref (a 30)), (1, .int 0)]) rfl ?_
  refine g_iload_n X dJ7_fill_53178_5 rfl (j := 0) rfl ?_
  refine g_iload_n X dJ7_fill_53178_6 rfl (j := 1) rfl ?_
  refine g_icmp_ge X dJ7_fill_53178_7 (tgt := 20) (by decide) (fun q1 => ?_) (fun q1 => ?_)
  · skip
    have q1 : 4 ≤ i5_2 := (nI_leI (a := 4) (b := i5_2) (by omega) (by omega)).mp q1
    exact g_vret X hrt dJ7_fill_53178_20 (by decide) (by decide) ⟨C, D, F, I, K, trivial⟩
  · skip
    have q1 : ¬ 4 ≤ i5_2 := fun z => q1 ((nI_leI (a := 4) (b := i5_2) (by omega) (by omega)).mpr z)
    refine g_aload_n X dJ7_fill_53178_10 rfl (j := 2) rfl ?_
    refine g_iload_n X dJ7_fill_53178_11 rfl (j := 0) rfl ?_
    refine g_iload_n X dJ7_fill_53178_12 rfl (j := 3) rfl ?_
    refine i_iast X F I 30 rfl (fun _ => rfl) dJ7_fill_53178_13 (vp_in_nI (by omega) (by decide)) trivial (fun M C F I K1 hC => ?_)
    have K := K.step K1 (by decide)
    refine g_iinc X dJ7_fill_53178_14 (j := 0) rfl (v := nI (i5_2 + 1)) (nI_1 i5_2) (by decide) (lv2 := [(2, .int (nI (i5_2 + 1))), (3, .int 4), (0, .ref (a 30)), (1, .int 0)]) rfl ?_
    refine g_goto X dJ7_fill_53178_17 (tgt := 5) (by decide) ?_
    refine g_lv [0, 1, 2, 3] (lv2 := [(2, .int (nI (i5_2 + 1))), (3, .int 4), (0, .ref (a 30)), (1, .int 0)]) rfl ?_
    exact ih5 ((i5_2 + 1)) L M C D F I K ⟨by omega, by omega⟩ (by show _ < _; omega)
set_option maxHeartbeats 4000000 in
set_option maxRecDepth 100000 in
theorem s_J7_fill_53178_36 (l : Launch) (G : va_G) {cy : Nat → ClassId} {L : List Nat} {M : Nat → va_E} {a : Nat → Nat} {act : Nat → Bool} {C0 : Nat → Nat → Int32} {D0 : Nat → Nat → Int64} {R : Nat → Nat → Option Nat} (F : WI L M a act (ent cy a C0 D0 R)) (I : Inv C0)   : MV l G cy yJ7_fill_53178 cJ7_fill_53178 4 none 0 0 0 [.ref (a 36), .int 0] L M (fun L2 M2 => ∃ C2 D2, WI L2 M2 a act (ent cy a C2 D2 R) ∧ Inv C2 ∧ Kp [36] C0 D0 C2 D2 ∧ True) := by
  refine MV.of (own := RJ7) rfl (by decide) (Nat.le_of_ble_eq_true rfl) ?_
  intro p e s m below meth c A X hrt hnm
  obtain ⟨C, D, hC0, hD0, F, I, K⟩ : ∃ C D, C = C0 ∧ D = D0 ∧ WI L M a act (ent cy a C D R) ∧ Inv C ∧ Kp [36] C0 D0 C D := ⟨C0, D0, rfl, rfl, F, I, Kp.rf⟩
  refine g_iconst X dJ7_fill_53178_0 (v := 0) (by decide) ?_
  refine g_istore_n X dJ7_fill_53178_1 rfl (by decide) (lv2 := [(2, .int 0), (0, .ref (a 36)), (1, .int 0)]) rfl ?_
  refine g_aload_n X dJ7_fill_53178_2 rfl (j := 1) rfl ?_
  refine i_alen X F 36 rfl rfl (t0 := 1) rfl dJ7_fill_53178_3 (v := 4) rfl ?_
  refine g_istore_n X dJ7_fill_53178_4 rfl (by decide) (lv2 := [(3, .int 4), (2, .int 0), (0, .ref (a 36)), (1, .int 0)]) rfl ?_
  refine g_lv [1, 0, 2, 3] (lv2 := [(2, .int 0), (3, .int 4), (0, .ref (a 36)), (1, .int 0)]) rfl ?_
  refine i_loop (mods := [36]) (fun x : Nat => 4 - x) (fun x => [(2, .int (nI (x))), (3, .int 4), (0, .ref (a 36)), (1, .int 0)]) (fun x C => 0 ≤ x ∧ x ≤ 4) (fun x L M C D F I K hP ih5 => ?_) ((0) : Nat) F I K ⟨by show _ ≤ _; omega, by show _ ≤ _; omega⟩
  obtain ⟨i5_2, rfl⟩ : ∃ z, z = x := ⟨_, rfl⟩
  obtain ⟨hi5_2a, hi5_2b⟩ := hP
  refine g_lv [0, 1, 2, 3] (lv2 := [(2, .int (nI i5_2)), (3, .int 4), (0, .ref (a 36)), (1, .int 0)]) rfl ?_
  refine g_iload_n X dJ7_fill_53178_5 rfl (j := 0) rfl ?_
  refine g_iload_n X dJ7_fill_53178_6 rfl (j := 1) rfl ?_
  refine g_icmp_ge X dJ7_fill_53178_7 (tgt := 20) (by decide) (fun q1 => ?_) (fun q1 => ?_)
  · skip
    have q1 : 4 ≤ i5_2 := (nI_leI (a := 4) (b := i5_2) (by omega) (by omega)).mp q1
    exact g_vret X hrt dJ7_fill_53178_20 (by decide) (by decide) ⟨C, D, F, I, K, trivial⟩
  · skip
    have q1 : ¬ 4 ≤ i5_2 := fun z => q1 ((nI_leI (a := 4) (b := i5_2) (by omega) (by omega)).mpr z)
    refine g_aload_n X dJ7_fill_53178_10 rfl (j := 2) rfl ?_
    refine g_iload_n X dJ7_fill_53178_11 rfl (j := 0) rfl ?_
    refine g_iload_n X dJ7_fill_53178_12 rfl (j := 3) rfl ?_
    refine i_iast X F I 36 rfl (fun _ => rfl) dJ7_fill_53178_13 (vp_in_nI (by omega) (by decide)) trivial (fun M C F I K1 hC => ?_)
    have K := K.step K1 (by decide)
    refine g_iinc X dJ7_fill_53178_14 (j := 0) rfl (v := nI (i5_2 + 1)) (nI_1 i5_2) (by decide) (lv2 := [(2, .int (nI (i5_2 + 1))), (3, .int 4), (0, .ref (a 36)), (1, .int 0)]) rfl ?_
    refine g_goto X dJ7_fill_53178_17 (tgt := 5) (by decide) ?_
    refine g_lv [0, 1, 2, 3] (lv2 := [(2, .int (nI (i5_2 + 1))), (3, .int 4), (0, .ref (a 36)), (1, .int 0)]) rfl ?_
    exact ih5 ((i5_2 + 1)) L M C D F I K ⟨by omega, by omega⟩ (by show _ < _; omega)
set_option maxHeartbeats 4000000 in
set_option maxRecDepth 100000 in
theorem s_X0_timesTurned_10 (l : Launch) (G : va_G) {cy : Nat → ClassId} {L : List Nat} {M : Nat → va_E} {a : Nat → Nat} {act : Nat → Bool} {C0 : Nat → Nat → Int32} {D0 : Nat → Nat → Int64} {R : Nat → Nat → Option Nat} (F : WI L M a act (ent cy a C0 D0 R)) (I : Inv C0) (p0 : Nat) (hp0a : 0 ≤ p0) (hp0b : p0 ≤ 6) (p1 : Nat) (hp1a : 0 ≤ p1) (hp1b : p1 ≤ 15)  : MI l G cy yX0_timesTurned cX0_timesTurned 3 (some .int) 0 0 0 [.ref (a 10), .int (nI p0), .int (nI p1)] L M (fun r L2 M2 => ∃ C2 D2, WI L2 M2 a act (ent cy a C2 D2 R) ∧ Inv C2 ∧ Kp [] C0 D0 C2 D2 ∧ True) := by
  refine MI.of (own := RX0) rfl (by decide) (Nat.le_of_ble_eq_true rfl) ?_
  intro p e s m below meth c A X hrt hnm
  obtain ⟨C, D, hC0, hD0, F, I, K⟩ : ∃ C D, C = C0 ∧ D = D0 ∧ WI L M a act (ent cy a C D R) ∧ Inv C ∧ Kp [] C0 D0 C D := ⟨C0, D0, rfl, rfl, F, I, Kp.rf⟩
  refine g_aload_n X dX0_timesTurned_0 rfl (j := 0) rfl ?_
  refine i_get X F 10 rfl rfl fk_X0_19 dX0_timesTurned_1 rfl ?_
  refine g_iconst X dX0_timesTurned_4 (v := 0) (by decide) ?_
  refine g_iload_n X dX0_timesTurned_5 rfl (j := 1) rfl ?_
  refine g_bipush X dX0_timesTurned_6 (v := 16) (by decide) ?_
  refine g_imul X dX0_timesTurned_8 ?_
  refine Go.top (v := .int (nI (p0 * 16))) (congrArg Value.int (pk_mul p0 16)) ?_
  refine g_iadd X dX0_timesTurned_9 ?_
  refine Go.top (v := .int (nI (0 + (p0 * 16)))) (congrArg Value.int (nI_add 0 (p0 * 16))) ?_
  refine g_iload_n X dX0_timesTurned_10 rfl (j := 2) rfl ?_
  refine g_iadd X dX0_timesTurned_11 ?_
  refine Go.top (v := .int (nI ((0 + (p0 * 16)) + p1))) (congrArg Value.int (nI_add (0 + (p0 * 16)) p1)) ?_
  refine i_iald X F 12 rfl rfl dX0_timesTurned_12 (vp_in_nI (by omega) (by decide)) rfl ?_
  refine Go.gen (fun o1 => ?_)
  exact g_iret X hrt dX0_timesTurned_13 (by decide) (by decide) ⟨C, D, F, I, K, trivial⟩
set_option maxHeartbeats 4000000 in
set_option maxRecDepth 100000 in
theorem s_X0_isHeld_10 (l : Launch) (G : va_G) {cy : Nat → ClassId} {L : List Nat} {M : Nat → va_E} {a : Nat → Nat} {act : Nat → Bool} {C0 : Nat → Nat → Int32} {D0 : Nat → Nat → Int64} {R : Nat → Nat → Option Nat} (F : WI L M a act (ent cy a C0 D0 R)) (I : Inv C0) (p0 : Nat) (hp0a : 0 ≤ p0) (hp0b : p0 ≤ 7) (p1 : Nat) (hp1a : 0 ≤ p1) (hp1b : p1 ≤ 15)  : MI l G cy yX0_isHeld cX0_isHeld 3 (some .boolean) 0 0 0 [.ref (a 10), .int (nI p0), .int (nI p1)] L M (fun r L2 M2 => ∃ C2 D2, WI L2 M2 a act (ent cy a C2 D2 R) ∧ Inv C2 ∧ Kp [] C0 D0 C2 D2 ∧ (r = 0 ∨ r = 1)) := by
  refine MI.of (own := RX0) rfl (by decide) (Nat.le_of_ble_eq_true rfl) ?_
  intro p e s m below meth c A X hrt hnm
  obtain ⟨C, D, hC0, hD0, F, I, K⟩ : ∃ C D, C = C0 ∧ D = D0 ∧ WI L M a act (ent cy a C D R) ∧ Inv C ∧ Kp [] C0 D0 C D := ⟨C0, D0, rfl, rfl, F, I, Kp.rf⟩
  refine g_aload_n X dX0_isHeld_0 rfl (j := 0) rfl ?_
  refine i_get X F 10 rfl rfl fk_X0_19 dX0_isHeld_1 rfl ?_
  refine g_bipush X dX0_isHeld_4 (v := 112) (by decide) ?_
  refine g_iload_n X dX0_isHeld_6 rfl (j := 1) rfl ?_
  refine g_bipush X dX0_isHeld_7 (v := 16) (by decide) ?_
  refine g_imul X dX0_isHeld_9 ?_
  refine Go.top (v := .int (nI (p0 * 16))) (congrArg Value.int (pk_mul p0 16)) ?_
  refine g_iadd X dX0_isHeld_10 ?_
  refine Go.top (v := .int (nI (112 + (p0 * 16)))) (congrArg Value.int (nI_add 112 (p0 * 16))) ?_
  refine g_iload_n X dX0_isHeld_11 rfl (j := 2) rfl ?_
  refine g_iadd X dX0_isHeld_12 ?_
  refine Go.top (v := .int (nI ((112 + (p0 * 16)) + p1))) (congrArg Value.int (nI_add (112 + (p0 * 16)) p1)) ?_
  refine i_iald X F 12 rfl rfl dX0_isHeld_13 (vp_in_nI (by omega) (by decide)) rfl ?_
  refine Go.gen (fun o1 => ?_)
  refine g_if_le X dX0_isHeld_14 (tgt := 21) (by decide) (fun q2 => ?_) (fun q2 => ?_)
  · skip
    have q2t : o1.toInt ≤ (0 : Int32).toInt := Int32.le_iff_toInt_le.mp q2
    have q2k : (0 : Int32).toInt = 0 := (by decide)
    have q2b := Int32.toInt_lt o1
    refine g_iconst X dX0_isHeld_21 (v := 0) (by decide) ?_
    exact g_zret X hrt rfl dX0_isHeld_22 (by decide) (by decide) ⟨C, D, F, I, K, Or.inl rfl⟩
  · skip
    have q2t : ¬ o1.toInt ≤ (0 : Int32).toInt := fun z => q2 (Int32.le_iff_toInt_le.mpr z)
    have q2k : (0 : Int32).toInt = 0 := (by decide)
    have q2b := Int32.toInt_lt o1
    obtain ⟨n3, hn3, rfl⟩ := nI_of (x := o1) (fun z => by have z2 := Int32.lt_iff_toInt_lt.mp z; have z3 : (0 : Int32).toInt = 0 := (by decide); omega)
    rw [nI_toInt (by omega)] at q2t
    have tn3 := nI_toInt (n := n3) (by omega)
    refine g_iconst X dX0_isHeld_17 (v := 1) (by decide) ?_
    refine g_goto X dX0_isHeld_18 (tgt := 22) (by decide) ?_
    exact g_zret X hrt rfl dX0_isHeld_22 (by decide) (by decide) ⟨C, D, F, I, K, Or.inr rfl⟩
set_option maxHeartbeats 4000000 in
set_option maxRecDepth 100000 in
theorem s_X4_placeOf_25 (l : Launch) (G : va_G) {cy : Nat → ClassId} {L : List Nat} {M : Nat → va_E} {a : Nat → Nat} {act : Nat → Bool} {C0 : Nat → Nat → Int32} {D0 : Nat → Nat → Int64} {R : Nat → Nat → Option Nat} (F : WI L M a act (ent cy a C0 D0 R)) (I : Inv C0) (p0 : Nat) (hp0a : 0 ≤ p0) (hp0b : p0 ≤ 7) (p1 : Nat) (hp1a : 0 ≤ p1) (hp1b : p1 ≤ 16)  : MI l G cy yX4_placeOf cX4_placeOf 3 (some .int) 0 0 0 [.ref (a 25), .int (nI p0), .int (nI p1)] L M (fun r L2 M2 => ∃ C2 D2, WI L2 M2 a act (ent cy a C2 D2 R) ∧ Inv C2 ∧ Kp [] C0 D0 C2 D2 ∧ okp r ∧ r = C2 27 (p1 * 8 + p0)) := by
  refine MI.of (own := RX4) rfl (by decide) (Nat.le_of_ble_eq_true rfl) ?_
  intro p e s m below meth c A X hrt hnm
  obtain ⟨C, D, hC0, hD0, F, I, K⟩ : ∃ C D, C = C0 ∧ D = D0 ∧ WI L M a act (ent cy a C D R) ∧ Inv C ∧ Kp [] C0 D0 C D := ⟨C0, D0, rfl, rfl, F, I, Kp.rf⟩
  refine g_aload_n X dX4_placeOf_0 rfl (j := 0) rfl ?_
  refine i_get X F 25 rfl rfl fk_X4_25 dX4_placeOf_1 rfl ?_
  refine g_iload_n X dX4_placeOf_4 rfl (j := 2) rfl ?_
  refine g_bipush X dX4_placeOf_5 (v := 8) (by decide) ?_
  refine g_imul X dX4_placeOf_7 ?_
  refine Go.top (v := .int (nI (p1 * 8))) (congrArg Value.int (pk_mul p1 8)) ?_
  refine g_iload_n X dX4_placeOf_8 rfl (j := 1) rfl ?_
  refine g_iadd X dX4_placeOf_9 ?_
  refine Go.top (v := .int (nI ((p1 * 8) + p0))) (congrArg Value.int (nI_add (p1 * 8) p0)) ?_
  rcases okp_nat (I 27 ((p1 * 8) + p0)) with en1 | ⟨n1, hn1, en1⟩
  · skip
    refine i_iald X F 27 rfl rfl dX4_placeOf_10 (vp_in_nI (by omega) (by decide)) (v := -1) (by rw [nI_clamp (by omega)]; exact en1) ?_
    exact g_iret X hrt dX4_placeOf_11 (by decide) (by decide) ⟨C, D, F, I, K, ⟨okp_m1, en1.symm⟩⟩
  · skip
    refine i_iald X F 27 rfl rfl dX4_placeOf_10 (vp_in_nI (by omega) (by decide)) (v := nI n1) (by rw [nI_clamp (by omega)]; exact en1) ?_
    exact g_iret X hrt dX4_placeOf_11 (by decide) (by decide) ⟨C, D, F, I, K, ⟨(okp_of (n := n1) (by omega)), en1.symm⟩⟩
set_option maxHeartbeats 4000000 in
set_option maxRecDepth 100000 in
theorem s_X4_armOf_25 (l : Launch) (G : va_G) {cy : Nat → ClassId} {L : List Nat} {M : Nat → va_E} {a : Nat → Nat} {act : Nat → Bool} {C0 : Nat → Nat → Int32} {D0 : Nat → Nat → Int64} {R : Nat → Nat → Option Nat} (F : WI L M a act (ent cy a C0 D0 R)) (I : Inv C0) (p0 : Nat) (hp0a : 0 ≤ p0) (hp0b : p0 ≤ 6) (p1 : Nat) (hp1a : 0 ≤ p1) (hp1b : p1 ≤ 16)  : MI l G cy yX4_armOf cX4_armOf 3 (some .int) 1 0 0 [.ref (a 25), .int (nI p0), .int (nI p1)] L M (fun r L2 M2 => ∃ C2 D2, WI L2 M2 a act (ent cy a C2 D2 R) ∧ Inv C2 ∧ Kp [] C0 D0 C2 D2 ∧ True) := by
  refine MI.of (own := RX4) rfl (by decide) (Nat.le_of_ble_eq_true rfl) ?_
  intro p e s m below meth c A X hrt hnm
  obtain ⟨C, D, hC0, hD0, F, I, K⟩ : ∃ C D, C = C0 ∧ D = D0 ∧ WI L M a act (ent cy a C D R) ∧ Inv C ∧ Kp [] C0 D0 C D := ⟨C0, D0, rfl, rfl, F, I, Kp.rf⟩
  refine g_aload_n X dX4_armOf_0 rfl (j := 0) rfl ?_
  refine i_get X F 25 rfl rfl fk_X4_37 dX4_armOf_1 rfl ?_
  refine g_iload_n X dX4_armOf_4 rfl (j := 1) rfl ?_
  refine g_callVI X (s_X2_hasArm l G F I p0 (by omega) (by omega) ) lk_X4_90 (F.1 3 rfl).2 (F.1 3 rfl).1 rfl rfl dX4_armOf_5 (Nat.le_of_ble_eq_true rfl) ⟨by decide, by decide⟩ ⟨by decide, by decide⟩ (fun r1 L M hp => ?_)
  obtain ⟨C, D, F, I, K1, hr⟩ := hp
  have K := K.step K1 (by decide)
  rcases hr with rfl | ⟨rfl, ra2⟩
  · skip
    refine g_if_eq X dX4_armOf_8 (tgt := 25) (by decide) (fun _ => ?_) (fun q => absurd (by decide) q)
    refine g_iconst X dX4_armOf_25 (v := -1) (by decide) ?_
    exact g_iret X hrt dX4_armOf_26 (by decide) (by decide) ⟨C, D, F, I, K, trivial⟩
  · skip
    refine g_if_eq X dX4_armOf_8 (tgt := 25) (by decide) (fun q => absurd q (by decide)) (fun _ => ?_)
    refine g_aload_n X dX4_armOf_11 rfl (j := 0) rfl ?_
    refine i_get X F 25 rfl rfl fk_X4_28 dX4_armOf_12 rfl ?_
    refine g_iload_n X dX4_armOf_15 rfl (j := 2) rfl ?_
    refine g_bipush X dX4_armOf_16 (v := 7) (by decide) ?_
    refine g_imul X dX4_armOf_18 ?_
    refine Go.top (v := .int (nI (p1 * 7))) (congrArg Value.int (pk_mul p1 7)) ?_
    refine g_iload_n X dX4_armOf_19 rfl (j := 1) rfl ?_
    refine g_iadd X dX4_armOf_20 ?_
    refine Go.top (v := .int (nI ((p1 * 7) + p0))) (congrArg Value.int (nI_add (p1 * 7) p0)) ?_
    obtain ⟨n3, hn3, en3⟩ := rg_nat (I 28 ((p1 * 7) + p0)) (by decide)
    refine i_iald X F 28 rfl rfl dX4_armOf_21 (vp_in_nI (by omega) (by decide)) (v := nI n3) (by rw [nI_clamp (by omega)]; exact en3) ?_
    refine g_goto X dX4_armOf_22 (tgt := 26) (by decide) ?_
    exact g_iret X hrt dX4_armOf_26 (by decide) (by decide) ⟨C, D, F, I, K, trivial⟩
set_option maxHeartbeats 4000000 in
set_option maxRecDepth 100000 in
theorem s_X4_isSent_25 (l : Launch) (G : va_G) {cy : Nat → ClassId} {L : List Nat} {M : Nat → va_E} {a : Nat → Nat} {act : Nat → Bool} {C0 : Nat → Nat → Int32} {D0 : Nat → Nat → Int64} {R : Nat → Nat → Option Nat} (F : WI L M a act (ent cy a C0 D0 R)) (I : Inv C0) (p0 : Nat) (hp0a : 0 ≤ p0) (hp0b : p0 ≤ 7) (p1 : Nat) (hp1a : 0 ≤ p1) (hp1b : p1 ≤ 15)  : MI l G cy yX4_isSent cX4_isSent 3 (some .boolean) 0 0 0 [.ref (a 25), .int (nI p0), .int (nI p1)] L M (fun r L2 M2 => ∃ C2 D2, WI L2 M2 a act (ent cy a C2 D2 R) ∧ Inv C2 ∧ Kp [] C0 D0 C2 D2 ∧ (r = 0 ∨ (r = 1 ∧ ¬ C2 29 (p1 * 8 + p0) = -1))) := by
  refine MI.of (own := RX4) rfl (by decide) (Nat.le_of_ble_eq_true rfl) ?_
  intro p e s m below meth c A X hrt hnm
  obtain ⟨C, D, hC0, hD0, F, I, K⟩ : ∃ C D, C = C0 ∧ D = D0 ∧ WI L M a act (ent cy a C D R) ∧ Inv C ∧ Kp [] C0 D0 C D := ⟨C0, D0, rfl, rfl, F, I, Kp.rf⟩
  refine g_aload_n X dX4_isSent_0 rfl (j := 0) rfl ?_
  refine i_get X F 25 rfl rfl fk_X4_31 dX4_isSent_1 rfl ?_
  refine g_iload_n X dX4_isSent_4 rfl (j := 2) rfl ?_
  refine g_bipush X dX4_isSent_5 (v := 8) (by decide) ?_
  refine g_imul X dX4_isSent_7 ?_
  refine Go.top (v := .int (nI (p1 * 8))) (congrArg Value.int (pk_mul p1 8)) ?_
  refine g_iload_n X dX4_isSent_8 rfl (j := 1) rfl ?_
  refine g_iadd X dX4_isSent_9 ?_
  refine Go.top (v := .int (nI ((p1 * 8) + p0))) (congrArg Value.int (nI_add (p1 * 8) p0)) ?_
  obtain ⟨o1, eo1⟩ : ∃ z, C 29 (((p1 * 8) + p0)) = z := ⟨_, rfl⟩
  refine i_iald X F 29 rfl rfl dX4_isSent_10 (vp_in_nI (by omega) (by decide)) (v := o1) (by rw [nI_clamp (by omega)]; exact eo1) ?_
  refine g_iconst X dX4_isSent_11 (v := -1) (by decide) ?_
  refine g_icmp_eq X dX4_isSent_12 (tgt := 19) (by decide) (fun q2 => ?_) (fun q2 => ?_)
  · skip
    subst q2
    refine g_iconst X dX4_isSent_19 (v := 0) (by decide) ?_
    exact g_zret X hrt rfl dX4_isSent_20 (by decide) (by decide) ⟨C, D, F, I, K, Or.inl rfl⟩
  · skip
    refine g_iconst X dX4_isSent_15 (v := 1) (by decide) ?_
    refine g_goto X dX4_isSent_16 (tgt := 20) (by decide) ?_
    exact g_zret X hrt rfl dX4_isSent_20 (by decide) (by decide) ⟨C, D, F, I, K, Or.inr ⟨rfl, fun z => q2 (eo1.symm.trans z)⟩⟩
set_option maxHeartbeats 4000000 in
set_option maxRecDepth 100000 in
theorem s_X4_walkersAt_25 (l : Launch) (G : va_G) {cy : Nat → ClassId} {L : List Nat} {M : Nat → va_E} {a : Nat → Nat} {act : Nat → Bool} {C0 : Nat → Nat → Int32} {D0 : Nat → Nat → Int64} {R : Nat → Nat → Option Nat} (F : WI L M a act (ent cy a C0 D0 R)) (I : Inv C0) (p0 : Int32) (p1 : Nat) (hp1a : 0 ≤ p1) (hp1b : p1 ≤ 16)  : MI l G cy yX4_walkersAt cX4_walkersAt 5 (some .int) 1 0 0 [.ref (a 25), .int p0, .int (nI p1)] L M (fun r L2 M2 => ∃ C2 D2, WI L2 M2 a act (ent cy a C2 D2 R) ∧ Inv C2 ∧ Kp [] C0 D0 C2 D2 ∧ True) := by
  refine MI.of (own := RX4) rfl (by decide) (Nat.le_of_ble_eq_true rfl) ?_
  intro p e s m below meth c A X hrt hnm
  obtain ⟨C, D, hC0, hD0, F, I, K⟩ : ∃ C D, C = C0 ∧ D = D0 ∧ WI L M a act (ent cy a C D R) ∧ Inv C ∧ Kp [] C0 D0 C D := ⟨C0, D0, rfl, rfl, F, I, Kp.rf⟩
  refine g_iconst X dX4_walkersAt_0 (v := 0) (by decide) ?_
  refine g_istore_n X dX4_walkersAt_1 rfl (by decide) (lv2 := [(3, .int 0), (0, .ref (a 25)), (1, .int p0), (2, .int (nI p1))]) rfl ?_
  refine g_iconst X dX4_walkersAt_2 (v := 0) (by decide) ?_
  refine g_istore X dX4_walkersAt_3 (by decide) (lv2 := [(4, .int 0), (3, .int 0), (0, .ref (a 25)), (1, .int p0), (2, .int (nI p1))]) rfl ?_
  refine g_lv [0, 1, 2, 3, 4] (lv2 := [(4, .int 0), (3, .int 0), (0, .ref (a 25)), (1, .int p0), (2, .int (nI p1))]) rfl ?_
  refine i_loop (mods := []) (fun x : Nat × Int32 => 8 - x.1) (fun x => [(4, .int (nI (x.1))), (3, .int (x.2)), (0, .ref (a 25)), (1, .int p0), (2, .int (nI p1))]) (fun x C => 0 ≤ x.1 ∧ x.1 ≤ 8) (fun x L M C D F I K hP ih5 => ?_) ((0, 0) : Nat × Int32) F I K ⟨by show _ ≤ _; omega, by show _ ≤ _; omega⟩
  rcases x with ⟨i5_4, v5_3⟩
  obtain ⟨hi5_4a, hi5_4b⟩ := hP
  refine g_lv [0, 1, 2, 3, 4] (lv2 := [(4, .int (nI i5_4)), (3, .int v5_3), (0, .ref (a 25)), (1, .int p0), (2, .int (nI p1))]) rfl ?_
  refine g_iload X dX4_walkersAt_5 (j := 0) rfl ?_
  refine g_aload_n X dX4_walkersAt_7 rfl (j := 2) rfl ?_
  refine i_get X F 25 rfl rfl fk_X4_37 dX4_walkersAt_8 rfl ?_
  obtain ⟨n1, hn1, en1⟩ := rg_nat ((I 3 8).2.2.2 rfl) (by decide)
  refine i_get X F 3 rfl rfl fk_X4_64 dX4_walkersAt_11 (v := .int (nI n1)) (congrArg (fun z => some (Value.int z)) en1) ?_
  refine g_icmp_ge X dX4_walkersAt_14 (tgt := 41) (by decide) (fun q2 => ?_) (fun q2 => ?_)
  · skip
    have q2 : n1 ≤ i5_4 := (nI_leI (a := n1) (b := i5_4) (by omega) (by omega)).mp q2
    refine g_iload_n X dX4_walkersAt_41 rfl (j := 1) rfl ?_
    exact g_iret X hrt dX4_walkersAt_42 (by decide) (by decide) ⟨C, D, F, I, K, trivial⟩
  · skip
    have q2 : ¬ n1 ≤ i5_4 := fun z => q2 ((nI_leI (a := n1) (b := i5_4) (by omega) (by omega)).mpr z)
    refine g_aload_n X dX4_walkersAt_17 rfl (j := 2) rfl ?_
    refine g_iload X dX4_walkersAt_18 (j := 0) rfl ?_
    refine g_iload_n X dX4_walkersAt_20 rfl (j := 4) rfl ?_
    refine g_callVI X (s_X4_placeOf_25 l G F I i5_4 (by omega) (by omega) p1 (by omega) (by omega) ) lk_X4_113 (F.1 25 rfl).2 (F.1 25 rfl).1 rfl rfl dX4_walkersAt_21 (Nat.le_of_ble_eq_true rfl) ⟨by decide, by decide⟩ ⟨by decide, by decide⟩ (fun r3 L M hp => ?_)
    obtain ⟨C, D, F, I, K1, hr⟩ := hp
    have K := K.step K1 (by decide)
    obtain ⟨hr, hpln4⟩ := hr
    rcases okp_nat hr with rfl | ⟨n4, hn4, rfl⟩
    · skip
      refine g_iload_n X dX4_walkersAt_24 rfl (j := 3) rfl ?_
      refine g_icmp_ne X dX4_walkersAt_25 (tgt := 35) (by decide) (fun q5 => ?_) (fun q5 => ?_)
      · skip
        refine g_iinc X dX4_walkersAt_35 (j := 0) rfl (v := nI (i5_4 + 1)) (nI_1 i5_4) (by decide) (lv2 := [(4, .int (nI (i5_4 + 1))), (3, .int v5_3), (0, .ref (a 25)), (1, .int p0), (2, .int (nI p1))]) rfl ?_
        refine g_goto X dX4_walkersAt_38 (tgt := 5) (by decide) ?_
        refine g_lv [0, 1, 2, 3, 4] (lv2 := [(4, .int (nI (i5_4 + 1))), (3, .int v5_3), (0, .ref (a 25)), (1, .int p0), (2, .int (nI p1))]) rfl ?_
        exact ih5 ((i5_4 + 1), v5_3) L M C D F I K ⟨by omega, by omega⟩ (by show _ < _; omega)
      · skip
        refine g_iload_n X dX4_walkersAt_28 rfl (j := 1) rfl ?_
        refine g_iconst X dX4_walkersAt_29 (v := 1) (by decide) ?_
        refine g_iload X dX4_walkersAt_30 (j := 0) rfl ?_
        refine g_ishl X dX4_walkersAt_32 ?_
        refine Go.gen (fun o6 => ?_)
        refine g_ior X dX4_walkersAt_33 ?_
        refine Go.gen (fun o7 => ?_)
        refine g_istore_n X dX4_walkersAt_34 rfl (by decide) (lv2 := [(3, .int o7), (4, .int (nI i5_4)), (0, .ref (a 25)), (1, .int p0), (2, .int (nI p1))]) rfl ?_
        refine g_iinc X dX4_walkersAt_35 (j := 1) rfl (v := nI (i5_4 + 1)) (nI_1 i5_4) (by decide) (lv2 := [(4, .int (nI (i5_4 + 1))), (3, .int o7), (0, .ref (a 25)), (1, .int p0), (2, .int (nI p1))]) rfl ?_
        refine g_goto X dX4_walkersAt_38 (tgt := 5) (by decide) ?_
        refine g_lv [0, 1, 2, 3, 4] (lv2 := [(4, .int (nI (i5_4 + 1))), (3, .int o7), (0, .ref (a 25)), (1, .int p0), (2, .int (nI p1))]) rfl ?_
        exact ih5 ((i5_4 + 1), o7) L M C D F I K ⟨by omega, by omega⟩ (by show _ < _; omega)
    · skip
      refine g_iload_n X dX4_walkersAt_24 rfl (j := 3) rfl ?_
      refine g_icmp_ne X dX4_walkersAt_25 (tgt := 35) (by decide) (fun q8 => ?_) (fun q8 => ?_)
      · skip
        refine g_iinc X dX4_walkersAt_35 (j := 0) rfl (v := nI (i5_4 + 1)) (nI_1 i5_4) (by decide) (lv2 := [(4, .int (nI (i5_4 + 1))), (3, .int v5_3), (0, .ref (a 25)), (1, .int p0), (2, .int (nI p1))]) rfl ?_
        refine g_goto X dX4_walkersAt_38 (tgt := 5) (by decide) ?_
        refine g_lv [0, 1, 2, 3, 4] (lv2 := [(4, .int (nI (i5_4 + 1))), (3, .int v5_3), (0, .ref (a 25)), (1, .int p0), (2, .int (nI p1))]) rfl ?_
        exact ih5 ((i5_4 + 1), v5_3) L M C D F I K ⟨by omega, by omega⟩ (by show _ < _; omega)
      · skip
        refine g_iload_n X dX4_walkersAt_28 rfl (j := 1) rfl ?_
        refine g_iconst X dX4_walkersAt_29 (v := 1) (by decide) ?_
        refine g_iload X dX4_walkersAt_30 (j := 0) rfl ?_
        refine g_ishl X dX4_walkersAt_32 ?_
        refine Go.gen (fun o9 => ?_)
        refine g_ior X dX4_walkersAt_33 ?_
        refine Go.gen (fun o10 => ?_)
        refine g_istore_n X dX4_walkersAt_34 rfl (by decide) (lv2 := [(3, .int o10), (4, .int (nI i5_4)), (0, .ref (a 25)), (1, .int p0), (2, .int (nI p1))]) rfl ?_
        refine g_iinc X dX4_walkersAt_35 (j := 1) rfl (v := nI (i5_4 + 1)) (nI_1 i5_4) (by decide) (lv2 := [(4, .int (nI (i5_4 + 1))), (3, .int o10), (0, .ref (a 25)), (1, .int p0), (2, .int (nI p1))]) rfl ?_
        refine g_goto X dX4_walkersAt_38 (tgt := 5) (by decide) ?_
        refine g_lv [0, 1, 2, 3, 4] (lv2 := [(4, .int (nI (i5_4 + 1))), (3, .int o10), (0, .ref (a 25)), (1, .int p0), (2, .int (nI p1))]) rfl ?_
        exact ih5 ((i5_4 + 1), o10) L M C D F I K ⟨by omega, by omega⟩ (by show _ < _; omega)
set_option maxHeartbeats 4000000 in
set_option maxRecDepth 100000 in
theorem s_X4_walkersSent_25 (l : Launch) (G : va_G) {cy : Nat → ClassId} {L : List Nat} {M : Nat → va_E} {a : Nat → Nat} {act : Nat → Bool} {C0 : Nat → Nat → Int32} {D0 : Nat → Nat → Int64} {R : Nat → Nat → Option Nat} (F : WI L M a act (ent cy a C0 D0 R)) (I : Inv C0) (p0 : Nat) (hp0a : 0 ≤ p0) (hp0b : p0 ≤ 15)  : MI l G cy yX4_walkersSent cX4_walkersSent 4 (some .int) 1 0 0 [.ref (a 25), .int (nI p0)] L M (fun r L2 M2 => ∃ C2 D2, WI L2 M2 a act (ent cy a C2 D2 R) ∧ Inv C2 ∧ Kp [] C0 D0 C2 D2 ∧ True) := by
  refine MI.of (own := RX4) rfl (by decide) (Nat.le_of_ble_eq_true rfl) ?_
  intro p e s m below meth c A X hrt hnm
  obtain ⟨C, D, hC0, hD0, F, I, K⟩ : ∃ C D, C = C0 ∧ D = D0 ∧ WI L M a act (ent cy a C D R) ∧ Inv C ∧ Kp [] C0 D0 C D := ⟨C0, D0, rfl, rfl, F, I, Kp.rf⟩
  refine g_iconst X dX4_walkersSent_0 (v := 0) (by decide) ?_
  refine g_istore_n X dX4_walkersSent_1 rfl (by decide) (lv2 := [(2, .int 0), (0, .ref (a 25)), (1, .int (nI p0))]) rfl ?_
  refine g_iconst X dX4_walkersSent_2 (v := 0) (by decide) ?_
  refine g_istore_n X dX4_walkersSent_3 rfl (by decide) (lv2 := [(3, .int 0), (2, .int 0), (0, .ref (a 25)), (1, .int (nI p0))]) rfl ?_
  refine g_lv [0, 1, 2, 3] (lv2 := [(3, .int 0), (2, .int 0), (0, .ref (a 25)), (1, .int (nI p0))]) rfl ?_
  refine i_loop (mods := []) (fun x : Nat × Int32 => 8 - x.1) (fun x => [(3, .int (nI (x.1))), (2, .int (x.2)), (0, .ref (a 25)), (1, .int (nI p0))]) (fun x C => 0 ≤ x.1 ∧ x.1 ≤ 8) (fun x L M C D F I K hP ih4 => ?_) ((0, 0) : Nat × Int32) F I K ⟨by show _ ≤ _; omega, by show _ ≤ _; omega⟩
  rcases x with ⟨i4_3, v4_2⟩
  obtain ⟨hi4_3a, hi4_3b⟩ := hP
  refine g_lv [0, 1, 2, 3] (lv2 := [(3, .int (nI i4_3)), (2, .int v4_2), (0, .ref (a 25)), (1, .int (nI p0))]) rfl ?_
  refine g_iload_n X dX4_walkersSent_4 rfl (j := 0) rfl ?_
  refine g_aload_n X dX4_walkersSent_5 rfl (j := 2) rfl ?_
  refine i_get X F 25 rfl rfl fk_X4_37 dX4_walkersSent_6 rfl ?_
  obtain ⟨n1, hn1, en1⟩ := rg_nat ((I 3 8).2.2.2 rfl) (by decide)
  refine i_get X F 3 rfl rfl fk_X4_64 dX4_walkersSent_9 (v := .int (nI n1)) (congrArg (fun z => some (Value.int z)) en1) ?_
  refine g_icmp_ge X dX4_walkersSent_12 (tgt := 36) (by decide) (fun q2 => ?_) (fun q2 => ?_)
  · skip
    have q2 : n1 ≤ i4_3 := (nI_leI (a := n1) (b := i4_3) (by omega) (by omega)).mp q2
    refine g_iload_n X dX4_walkersSent_36 rfl (j := 1) rfl ?_
    exact g_iret X hrt dX4_walkersSent_37 (by decide) (by decide) ⟨C, D, F, I, K, trivial⟩
  · skip
    have q2 : ¬ n1 ≤ i4_3 := fun z => q2 ((nI_leI (a := n1) (b := i4_3) (by omega) (by omega)).mpr z)
    refine g_aload_n X dX4_walkersSent_15 rfl (j := 2) rfl ?_
    refine g_iload_n X dX4_walkersSent_16 rfl (j := 0) rfl ?_
    refine g_iload_n X dX4_walkersSent_17 rfl (j := 3) rfl ?_
    refine g_callVI X (s_X4_isSent_25 l G F I i4_3 (by omega) (by omega) p0 (by omega) (by omega) ) lk_X4_132 (F.1 25 rfl).2 (F.1 25 rfl).1 rfl rfl dX4_walkersSent_18 (Nat.le_of_ble_eq_true rfl) ⟨by decide, by decide⟩ ⟨by decide, by decide⟩ (fun r3 L M hp => ?_)
    obtain ⟨C, D, F, I, K1, hr⟩ := hp
    have K := K.step K1 (by decide)
    rcases hr with rfl | ⟨rfl, hi4⟩
    · skip
      refine g_if_eq X dX4_walkersSent_21 (tgt := 30) (by decide) (fun _ => ?_) (fun q => absurd (by decide) q)
      refine g_iinc X dX4_walkersSent_30 (j := 0) rfl (v := nI (i4_3 + 1)) (nI_1 i4_3) (by decide) (lv2 := [(3, .int (nI (i4_3 + 1))), (2, .int v4_2), (0, .ref (a 25)), (1, .int (nI p0))]) rfl ?_
      refine g_goto X dX4_walkersSent_33 (tgt := 4) (by decide) ?_
      refine g_lv [0, 1, 2, 3] (lv2 := [(3, .int (nI (i4_3 + 1))), (2, .int v4_2), (0, .ref (a 25)), (1, .int (nI p0))]) rfl ?_
      exact ih4 ((i4_3 + 1), v4_2) L M C D F I K ⟨by omega, by omega⟩ (by show _ < _; omega)
    · skip
      refine g_if_eq X dX4_walkersSent_21 (tgt := 30) (by decide) (fun q => absurd q (by decide)) (fun _ => ?_)
      refine g_iload_n X dX4_walkersSent_24 rfl (j := 1) rfl ?_
      refine g_iconst X dX4_walkersSent_25 (v := 1) (by decide) ?_
      refine g_iload_n X dX4_walkersSent_26 rfl (j := 0) rfl ?_
      refine g_ishl X dX4_walkersSent_27 ?_
      refine Go.gen (fun o5 => ?_)
      refine g_ior X dX4_walkersSent_28 ?_
      refine Go.gen (fun o6 => ?_)
      refine g_istore_n X dX4_walkersSent_29 rfl (by decide) (lv2 := [(2, .int o6), (3, .int (nI i4_3)), (0, .ref (a 25)), (1, .int (nI p0))]) rfl ?_
      refine g_iinc X dX4_walkersSent_30 (j := 1) rfl (v := nI (i4_3 + 1)) (nI_1 i4_3) (by decide) (lv2 := [(3, .int (nI (i4_3 + 1))), (2, .int o6), (0, .ref (a 25)), (1, .int (nI p0))]) rfl ?_
      refine g_goto X dX4_walkersSent_33 (tgt := 4) (by decide) ?_
      refine g_lv [0, 1, 2, 3] (lv2 := [(3, .int (nI (i4_3 + 1))), (2, .int o6), (0, .ref (a 25)), (1, .int (nI p0))]) rfl ?_
      exact ih4 ((i4_3 + 1), o6) L M C D F I K ⟨by omega, by omega⟩ (by show _ < _; omega)
set_option maxHeartbeats 4000000 in
set_option maxRecDepth 100000 in
theorem s_X4_walkersInside_25 (l : Launch) (G : va_G) {cy : Nat → ClassId} {L : List Nat} {M : Nat → va_E} {a : Nat → Nat} {act : Nat → Bool} {C0 : Nat → Nat → Int32} {D0 : Nat → Nat → Int64} {R : Nat → Nat → Option Nat} (F : WI L M a act (ent cy a C0 D0 R)) (I : Inv C0) (p0 : Nat) (hp0a : 0 ≤ p0) (hp0b : p0 ≤ 16)  : MI l G cy yX4_walkersInside cX4_walkersInside 4 (some .int) 1 0 0 [.ref (a 25), .int (nI p0)] L M (fun r L2 M2 => ∃ C2 D2, WI L2 M2 a act (ent cy a C2 D2 R) ∧ Inv C2 ∧ Kp [] C0 D0 C2 D2 ∧ True) := by
  refine MI.of (own := RX4) rfl (by decide) (Nat.le_of_ble_eq_true rfl) ?_
  intro p e s m below meth c A X hrt hnm
  obtain ⟨C, D, hC0, hD0, F, I, K⟩ : ∃ C D, C = C0 ∧ D = D0 ∧ WI L M a act (ent cy a C D R) ∧ Inv C ∧ Kp [] C0 D0 C D := ⟨C0, D0, rfl, rfl, F, I, Kp.rf⟩
  refine g_iconst X dX4_walkersInside_0 (v := 0) (by decide) ?_
  refine g_istore_n X dX4_walkersInside_1 rfl (by decide) (lv2 := [(2, .int 0), (0, .ref (a 25)), (1, .int (nI p0))]) rfl ?_
  refine g_iconst X dX4_walkersInside_2 (v := 0) (by decide) ?_
  refine g_istore_n X dX4_walkersInside_3 rfl (by decide) (lv2 := [(3, .int 0), (2, .int 0), (0, .ref (a 25)), (1, .int (nI p0))]) rfl ?_
  refine g_lv [0, 1, 2, 3] (lv2 := [(3, .int 0), (2, .int 0), (0, .ref (a 25)), (1, .int (nI p0))]) rfl ?_
  refine i_loop (mods := []) (fun x : Nat × Int32 => 8 - x.1) (fun x => [(3, .int (nI (x.1))), (2, .int (x.2)), (0, .ref (a 25)), (1, .int (nI p0))]) (fun x C => 0 ≤ x.1 ∧ x.1 ≤ 8) (fun x L M C D F I K hP ih4 => ?_) ((0, 0) : Nat × Int32) F I K ⟨by show _ ≤ _; omega, by show _ ≤ _; omega⟩
  rcases x with ⟨i4_3, v4_2⟩
  obtain ⟨hi4_3a, hi4_3b⟩ := hP
  refine g_lv [0, 1, 2, 3] (lv2 := [(3, .int (nI i4_3)), (2, .int v4_2), (0, .ref (a 25)), (1, .int (nI p0))]) rfl ?_
  refine g_iload_n X dX4_walkersInside_4 rfl (j := 0) rfl ?_
  refine g_aload_n X dX4_walkersInside_5 rfl (j := 2) rfl ?_
  refine i_get X F 25 rfl rfl fk_X4_37 dX4_walkersInside_6 rfl ?_
  obtain ⟨n1, hn1, en1⟩ := rg_nat ((I 3 8).2.2.2 rfl) (by decide)
  refine i_get X F 3 rfl rfl fk_X4_64 dX4_walkersInside_9 (v := .int (nI n1)) (congrArg (fun z => some (Value.int z)) en1) ?_
  refine g_icmp_ge X dX4_walkersInside_12 (tgt := 38) (by decide) (fun q2 => ?_) (fun q2 => ?_)
  · skip
    have q2 : n1 ≤ i4_3 := (nI_leI (a := n1) (b := i4_3) (by omega) (by omega)).mp q2
    refine g_iload_n X dX4_walkersInside_38 rfl (j := 1) rfl ?_
    exact g_iret X hrt dX4_walkersInside_39 (by decide) (by decide) ⟨C, D, F, I, K, trivial⟩
  · skip
    have q2 : ¬ n1 ≤ i4_3 := fun z => q2 ((nI_leI (a := n1) (b := i4_3) (by omega) (by omega)).mpr z)
    refine g_aload_n X dX4_walkersInside_15 rfl (j := 2) rfl ?_
    refine g_iload_n X dX4_walkersInside_16 rfl (j := 0) rfl ?_
    refine g_iload_n X dX4_walkersInside_17 rfl (j := 3) rfl ?_
    refine g_callVI X (s_X4_placeOf_25 l G F I i4_3 (by omega) (by omega) p0 (by omega) (by omega) ) lk_X4_113 (F.1 25 rfl).2 (F.1 25 rfl).1 rfl rfl dX4_walkersInside_18 (Nat.le_of_ble_eq_true rfl) ⟨by decide, by decide⟩ ⟨by decide, by decide⟩ (fun r3 L M hp => ?_)
    obtain ⟨C, D, F, I, K1, hr⟩ := hp
    have K := K.step K1 (by decide)
    obtain ⟨hr, hpln4⟩ := hr
    rcases okp_nat hr with rfl | ⟨n4, hn4, rfl⟩
    · skip
      refine g_bipush X dX4_walkersInside_21 (v := 10) (by decide) ?_
      refine g_icmp_lt X dX4_walkersInside_23 (tgt := 32) (by decide) (fun _ => ?_) (fun q => absurd (by decide) q)
      refine g_iinc X dX4_walkersInside_32 (j := 0) rfl (v := nI (i4_3 + 1)) (nI_1 i4_3) (by decide) (lv2 := [(3, .int (nI (i4_3 + 1))), (2, .int v4_2), (0, .ref (a 25)), (1, .int (nI p0))]) rfl ?_
      refine g_goto X dX4_walkersInside_35 (tgt := 4) (by decide) ?_
      refine g_lv [0, 1, 2, 3] (lv2 := [(3, .int (nI (i4_3 + 1))), (2, .int v4_2), (0, .ref (a 25)), (1, .int (nI p0))]) rfl ?_
      exact ih4 ((i4_3 + 1), v4_2) L M C D F I K ⟨by omega, by omega⟩ (by show _ < _; omega)
    · skip
      refine g_bipush X dX4_walkersInside_21 (v := 10) (by decide) ?_
      refine g_icmp_lt X dX4_walkersInside_23 (tgt := 32) (by decide) (fun q5 => ?_) (fun q5 => ?_)
      · skip
        have q5 : n4 < 10 := (nI_ltI (a := n4) (b := 10) (by omega) (by omega)).mp q5
        refine g_iinc X dX4_walkersInside_32 (j := 0) rfl (v := nI (i4_3 + 1)) (nI_1 i4_3) (by decide) (lv2 := [(3, .int (nI (i4_3 + 1))), (2, .int v4_2), (0, .ref (a 25)), (1, .int (nI p0))]) rfl ?_
        refine g_goto X dX4_walkersInside_35 (tgt := 4) (by decide) ?_
        refine g_lv [0, 1, 2, 3] (lv2 := [(3, .int (nI (i4_3 + 1))), (2, .int v4_2), (0, .ref (a 25)), (1, .int (nI p0))]) rfl ?_
        exact ih4 ((i4_3 + 1), v4_2) L M C D F I K ⟨by omega, by omega⟩ (by show _ < _; omega)
      · skip
        have q5 : ¬ n4 < 10 := fun z => q5 ((nI_ltI (a := n4) (b := 10) (by omega) (by omega)).mpr z)
        refine g_iload_n X dX4_walkersInside_26 rfl (j := 1) rfl ?_
        refine g_iconst X dX4_walkersInside_27 (v := 1) (by decide) ?_
        refine g_iload_n X dX4_walkersInside_28 rfl (j := 0) rfl ?_
        refine g_ishl X dX4_walkersInside_29 ?_
        refine Go.gen (fun o6 => ?_)
        refine g_ior X dX4_walkersInside_30 ?_
        refine Go.gen (fun o7 => ?_)
        refine g_istore_n X dX4_walkersInside_31 rfl (by decide) (lv2 := [(2, .int o7), (3, .int (nI i4_3)), (0, .ref (a 25)), (1, .int (nI p0))]) rfl ?_
        refine g_iinc X dX4_walkersInside_32 (j := 1) rfl (v := nI (i4_3 + 1)) (nI_1 i4_3) (by decide) (lv2 := [(3, .int (nI (i4_3 + 1))), (2, .int o7), (0, .ref (a 25)), (1, .int (nI p0))]) rfl ?_
        refine g_goto X dX4_walkersInside_35 (tgt := 4) (by decide) ?_
        refine g_lv [0, 1, 2, 3] (lv2 := [(3, .int (nI (i4_3 + 1))), (2, .int o7), (0, .ref (a 25)), (1, .int (nI p0))]) rfl ?_
        exact ih4 ((i4_3 + 1), o7) L M C D F I K ⟨by omega, by omega⟩ (by show _ < _; omega)
set_option maxHeartbeats 4000000 in
set_option maxRecDepth 100000 in
theorem s_X4_walkersOutside_25 (l : Launch) (G : va_G) {cy : Nat → ClassId} {L : List Nat} {M : Nat → va_E} {a : Nat → Nat} {act : Nat → Bool} {C0 : Nat → Nat → Int32} {D0 : Nat → Nat → Int64} {R : Nat → Nat → Option Nat} (F : WI L M a act (ent cy a C0 D0 R)) (I : Inv C0) (p0 : Nat) (hp0a : 0 ≤ p0) (hp0b : p0 ≤ 16)  : MI l G cy yX4_walkersOutside cX4_walkersOutside 5 (some .int) 1 0 0 [.ref (a 25), .int (nI p0)] L M (fun r L2 M2 => ∃ C2 D2, WI L2 M2 a act (ent cy a C2 D2 R) ∧ Inv C2 ∧ Kp [] C0 D0 C2 D2 ∧ True) := by
  refine MI.of (own := RX4) rfl (by decide) (Nat.le_of_ble_eq_true rfl) ?_
  intro p e s m below meth c A X hrt hnm
  obtain ⟨C, D, hC0, hD0, F, I, K⟩ : ∃ C D, C = C0 ∧ D = D0 ∧ WI L M a act (ent cy a C D R) ∧ Inv C ∧ Kp [] C0 D0 C D := ⟨C0, D0, rfl, rfl, F, I, Kp.rf⟩
  refine g_iconst X dX4_walkersOutside_0 (v := 0) (by decide) ?_
  refine g_istore_n X dX4_walkersOutside_1 rfl (by decide) (lv2 := [(2, .int 0), (0, .ref (a 25)), (1, .int (nI p0))]) rfl ?_
  refine g_iconst X dX4_walkersOutside_2 (v := 0) (by decide) ?_
  refine g_istore_n X dX4_walkersOutside_3 rfl (by decide) (lv2 := [(3, .int 0), (2, .int 0), (0, .ref (a 25)), (1, .int (nI p0))]) rfl ?_
  refine g_lv [0, 1, 2, 3] (lv2 := [(3, .int 0), (2, .int 0), (0, .ref (a 25)), (1, .int (nI p0))]) rfl ?_
  refine i_loop (mods := []) (fun x : Nat × Int32 => 8 - x.1) (fun x => [(3, .int (nI (x.1))), (2, .int (x.2)), (0, .ref (a 25)), (1, .int (nI p0))]) (fun x C => 0 ≤ x.1 ∧ x.1 ≤ 8) (fun x L M C D F I K hP ih4 => ?_) ((0, 0) : Nat × Int32) F I K ⟨by show _ ≤ _; omega, by show _ ≤ _; omega⟩
  rcases x with ⟨i4_3, v4_2⟩
  obtain ⟨hi4_3a, hi4_3b⟩ := hP
  refine g_lv [0, 1, 2, 3] (lv2 := [(3, .int (nI i4_3)), (2, .int v4_2), (0, .ref (a 25)), (1, .int (nI p0))]) rfl ?_
  refine g_iload_n X dX4_walkersOutside_4 rfl (j := 0) rfl ?_
  refine g_aload_n X dX4_walkersOutside_5 rfl (j := 2) rfl ?_
  refine i_get X F 25 rfl rfl fk_X4_37 dX4_walkersOutside_6 rfl ?_
  obtain ⟨n1, hn1, en1⟩ := rg_nat ((I 3 8).2.2.2 rfl) (by decide)
  refine i_get X F 3 rfl rfl fk_X4_64 dX4_walkersOutside_9 (v := .int (nI n1)) (congrArg (fun z => some (Value.int z)) en1) ?_
  refine g_icmp_ge X dX4_walkersOutside_12 (tgt := 48) (by decide) (fun q2 => ?_) (fun q2 => ?_)
  · skip
    have q2 : n1 ≤ i4_3 := (nI_leI (a := n1) (b := i4_3) (by omega) (by omega)).mp q2
    refine g_iload_n X dX4_walkersOutside_48 rfl (j := 1) rfl ?_
    exact g_iret X hrt dX4_walkersOutside_49 (by decide) (by decide) ⟨C, D, F, I, K, trivial⟩
  · skip
    have q2 : ¬ n1 ≤ i4_3 := fun z => q2 ((nI_leI (a := n1) (b := i4_3) (by omega) (by omega)).mpr z)
    refine g_aload_n X dX4_walkersOutside_15 rfl (j := 2) rfl ?_
    refine g_iload_n X dX4_walkersOutside_16 rfl (j := 0) rfl ?_
    refine g_iload_n X dX4_walkersOutside_17 rfl (j := 3) rfl ?_
    refine g_callVI X (s_X4_placeOf_25 l G F I i4_3 (by omega) (by omega) p0 (by omega) (by omega) ) lk_X4_113 (F.1 25 rfl).2 (F.1 25 rfl).1 rfl rfl dX4_walkersOutside_18 (Nat.le_of_ble_eq_true rfl) ⟨by decide, by decide⟩ ⟨by decide, by decide⟩ (fun r3 L M hp => ?_)
    obtain ⟨C, D, F, I, K1, hr⟩ := hp
    have K := K.step K1 (by decide)
    obtain ⟨hr, hpln4⟩ := hr
    rcases okp_nat hr with rfl | ⟨n4, hn4, rfl⟩
    · skip
      refine g_istore X dX4_walkersOutside_21 (by decide) (lv2 := [(4, .int (-1)), (3, .int (nI i4_3)), (2, .int v4_2), (0, .ref (a 25)), (1, .int (nI p0))]) rfl ?_
      refine g_iload X dX4_walkersOutside_23 (j := 0) rfl ?_
      refine g_iconst X dX4_walkersOutside_25 (v := -1) (by decide) ?_
      refine g_icmp_eq X dX4_walkersOutside_26 (tgt := 42) (by decide) (fun _ => ?_) (fun q => absurd (by decide) q)
      refine g_iinc X dX4_walkersOutside_42 (j := 1) rfl (v := nI (i4_3 + 1)) (nI_1 i4_3) (by decide) (lv2 := [(3, .int (nI (i4_3 + 1))), (4, .int (-1)), (2, .int v4_2), (0, .ref (a 25)), (1, .int (nI p0))]) rfl ?_
      refine g_goto X dX4_walkersOutside_45 (tgt := 4) (by decide) ?_
      refine g_lv [0, 2, 3, 4] (lv2 := [(3, .int (nI (i4_3 + 1))), (2, .int v4_2), (0, .ref (a 25)), (1, .int (nI p0))]) rfl ?_
      exact ih4 ((i4_3 + 1), v4_2) L M C D F I K ⟨by omega, by omega⟩ (by show _ < _; omega)
    · skip
      refine g_istore X dX4_walkersOutside_21 (by decide) (lv2 := [(4, .int (nI n4)), (3, .int (nI i4_3)), (2, .int v4_2), (0, .ref (a 25)), (1, .int (nI p0))]) rfl ?_
      refine g_iload X dX4_walkersOutside_23 (j := 0) rfl ?_
      refine g_iconst X dX4_walkersOutside_25 (v := -1) (by decide) ?_
      refine g_icmp_eq X dX4_walkersOutside_26 (tgt := 42) (by decide) (fun q => absurd q (nI_nm1 (by omega))) (fun _ => ?_)
      refine g_iload X dX4_walkersOutside_29 (j := 0) rfl ?_
      refine g_bipush X dX4_walkersOutside_31 (v := 10) (by decide) ?_
      refine g_icmp_ge X dX4_walkersOutside_33 (tgt := 42) (by decide) (fun q6 => ?_) (fun q6 => ?_)
      · skip
        have q6 : 10 ≤ n4 := (nI_leI (a := 10) (b := n4) (by omega) (by omega)).mp q6
        refine g_iinc X dX4_walkersOutside_42 (j := 1) rfl (v := nI (i4_3 + 1)) (nI_1 i4_3) (by decide) (lv2 := [(3, .int (nI (i4_3 + 1))), (4, .int (nI n4)), (2, .int v4_2), (0, .ref (a 25)), (1, .int (nI p0))]) rfl ?_
        refine g_goto X dX4_walkersOutside_45 (tgt := 4) (by decide) ?_
        refine g_lv [0, 2, 3, 4] (lv2 := [(3, .int (nI (i4_3 + 1))), (2, .int v4_2), (0, .ref (a 25)), (1, .int (nI p0))]) rfl ?_
        exact ih4 ((i4_3 + 1), v4_2) L M C D F I K ⟨by omega, by omega⟩ (by show _ < _; omega)
      · skip
        have q6 : ¬ 10 ≤ n4 := fun z => q6 ((nI_leI (a := 10) (b := n4) (by omega) (by omega)).mpr z)
        refine g_iload_n X dX4_walkersOutside_36 rfl (j := 2) rfl ?_
        refine g_iconst X dX4_walkersOutside_37 (v := 1) (by decide) ?_
        refine g_iload_n X dX4_walkersOutside_38 rfl (j := 1) rfl ?_
        refine g_ishl X dX4_walkersOutside_39 ?_
        refine Go.gen (fun o7 => ?_)
        refine g_ior X dX4_walkersOutside_40 ?_
        refine Go.gen (fun o8 => ?_)
        refine g_istore_n X dX4_walkersOutside_41 rfl (by decide) (lv2 := [(2, .int o8), (4, .int (nI n4)), (3, .int (nI i4_3)), (0, .ref (a 25)), (1, .int (nI p0))]) rfl ?_
        refine g_iinc X dX4_walkersOutside_42 (j := 2) rfl (v := nI (i4_3 + 1)) (nI_1 i4_3) (by decide) (lv2 := [(3, .int (nI (i4_3 + 1))), (2, .int o8), (4, .int (nI n4)), (0, .ref (a 25)), (1, .int (nI p0))]) rfl ?_
        refine g_goto X dX4_walkersOutside_45 (tgt := 4) (by decide) ?_
        refine g_lv [0, 1, 3, 4] (lv2 := [(3, .int (nI (i4_3 + 1))), (2, .int o8), (0, .ref (a 25)), (1, .int (nI p0))]) rfl ?_
        exact ih4 ((i4_3 + 1), o8) L M C D F I K ⟨by omega, by omega⟩ (by show _ < _; omega)
set_option maxHeartbeats 4000000 in
set_option maxRecDepth 100000 in
theorem s_X4_timesRoadUsed_25 (l : Launch) (G : va_G) {cy : Nat → ClassId} {L : List Nat} {M : Nat → va_E} {a : Nat → Nat} {act : Nat → Bool} {C0 : Nat → Nat → Int32} {D0 : Nat → Nat → Int64} {R : Nat → Nat → Option Nat} (F : WI L M a act (ent cy a C0 D0 R)) (I : Inv C0) (p0 : Int32) (p1 : Int32)  : MI l G cy yX4_timesRoadUsed cX4_timesRoadUsed 6 (some .int) 1 0 0 [.ref (a 25), .int p0, .int p1] L M (fun r L2 M2 => ∃ C2 D2, WI L2 M2 a act (ent cy a C2 D2 R) ∧ Inv C2 ∧ Kp [] C0 D0 C2 D2 ∧ True) := by
  refine MI.of (own := RX4) rfl (by decide) (Nat.le_of_ble_eq_true rfl) ?_
  intro p e s m below meth c A X hrt hnm
  obtain ⟨C, D, hC0, hD0, F, I, K⟩ : ∃ C D, C = C0 ∧ D = D0 ∧ WI L M a act (ent cy a C D R) ∧ Inv C ∧ Kp [] C0 D0 C D := ⟨C0, D0, rfl, rfl, F, I, Kp.rf⟩
  refine g_iconst X dX4_timesRoadUsed_0 (v := 0) (by decide) ?_
  refine g_istore_n X dX4_timesRoadUsed_1 rfl (by decide) (lv2 := [(3, .int 0), (0, .ref (a 25)), (1, .int p0), (2, .int p1)]) rfl ?_
  refine g_iconst X dX4_timesRoadUsed_2 (v := 0) (by decide) ?_
  refine g_istore X dX4_timesRoadUsed_3 (by decide) (lv2 := [(4, .int 0), (3, .int 0), (0, .ref (a 25)), (1, .int p0), (2, .int p1)]) rfl ?_
  refine g_lv [0, 1, 2, 3, 4] (lv2 := [(4, .int 0), (3, .int 0), (0, .ref (a 25)), (1, .int p0), (2, .int p1)]) rfl ?_
  refine i_loop (mods := []) (fun x : Nat × Int32 => 16 - x.1) (fun x => [(4, .int (nI (x.1))), (3, .int (x.2)), (0, .ref (a 25)), (1, .int p0), (2, .int p1)]) (fun x C => 0 ≤ x.1 ∧ x.1 ≤ 16) (fun x L M C D F I K hP ih5 => ?_) ((0, 0) : Nat × Int32) F I K ⟨by show _ ≤ _; omega, by show _ ≤ _; omega⟩
  rcases x with ⟨i5_4, v5_3⟩
  obtain ⟨hi5_4a, hi5_4b⟩ := hP
  refine g_lv [0, 1, 2, 3, 4] (lv2 := [(4, .int (nI i5_4)), (3, .int v5_3), (0, .ref (a 25)), (1, .int p0), (2, .int p1)]) rfl ?_
  refine g_iload X dX4_timesRoadUsed_5 (j := 0) rfl ?_
  refine g_aload_n X dX4_timesRoadUsed_7 rfl (j := 2) rfl ?_
  refine i_get X F 25 rfl rfl fk_X4_37 dX4_timesRoadUsed_8 rfl ?_
  obtain ⟨n1, hn1, en1⟩ := rg_nat ((I 3 1).1 rfl) (by decide)
  refine i_get X F 3 rfl rfl fk_X4_57 dX4_timesRoadUsed_11 (v := .int (nI n1)) (congrArg (fun z => some (Value.int z)) en1) ?_
  refine g_icmp_ge X dX4_timesRoadUsed_14 (tgt := 76) (by decide) (fun q2 => ?_) (fun q2 => ?_)
  · skip
    have q2 : n1 ≤ i5_4 := (nI_leI (a := n1) (b := i5_4) (by omega) (by omega)).mp q2
    refine g_iload_n X dX4_timesRoadUsed_76 rfl (j := 1) rfl ?_
    exact g_iret X hrt dX4_timesRoadUsed_77 (by decide) (by decide) ⟨C, D, F, I, K, trivial⟩
  · skip
    have q2 : ¬ n1 ≤ i5_4 := fun z => q2 ((nI_leI (a := n1) (b := i5_4) (by omega) (by omega)).mpr z)
    refine g_iconst X dX4_timesRoadUsed_17 (v := 0) (by decide) ?_
    refine g_istore X dX4_timesRoadUsed_18 (by decide) (lv2 := [(5, .int 0), (4, .int (nI i5_4)), (3, .int v5_3), (0, .ref (a 25)), (1, .int p0), (2, .int p1)]) rfl ?_
    refine g_lv [0, 2, 1, 3, 4, 5] (lv2 := [(5, .int 0), (3, .int v5_3), (4, .int (nI i5_4)), (0, .ref (a 25)), (1, .int p0), (2, .int p1)]) rfl ?_
    refine i_loop (mods := []) (fun x : Nat × Int32 => 8 - x.1) (fun x => [(5, .int (nI (x.1))), (3, .int (x.2)), (4, .int (nI i5_4)), (0, .ref (a 25)), (1, .int p0), (2, .int p1)]) (fun x C => 0 ≤ x.1 ∧ x.1 ≤ 8) (fun x L M C D F I K hP ih20 => ?_) ((0, v5_3) : Nat × Int32) F I K ⟨by show _ ≤ _; omega, by show _ ≤ _; omega⟩
    rcases x with ⟨i20_5, v20_3⟩
    obtain ⟨hi20_5a, hi20_5b⟩ := hP
    refine g_lv [0, 1, 2, 3, 4, 5] (lv2 := [(5, .int (nI i20_5)), (3, .int v20_3), (4, .int (nI i5_4)), (0, .ref (a 25)), (1, .int p0), (2, .int p1)]) rfl ?_
    refine g_iload X dX4_timesRoadUsed_20 (j := 0) rfl ?_
    refine g_aload_n X dX4_timesRoadUsed_22 rfl (j := 3) rfl ?_
    refine i_get X F 25 rfl rfl fk_X4_37 dX4_timesRoadUsed_23 rfl ?_
    obtain ⟨n3, hn3, en3⟩ := rg_nat ((I 3 8).2.2.2 rfl) (by decide)
    refine i_get X F 3 rfl rfl fk_X4_64 dX4_timesRoadUsed_26 (v := .int (nI n3)) (congrArg (fun z => some (Value.int z)) en3) ?_
    refine g_icmp_ge X dX4_timesRoadUsed_29 (tgt := 70) (by decide) (fun q4 => ?_) (fun q4 => ?_)
    · skip
      have q4 : n3 ≤ i20_5 := (nI_leI (a := n3) (b := i20_5) (by omega) (by omega)).mp q4
      refine g_iinc X dX4_timesRoadUsed_70 (j := 2) rfl (v := nI (i5_4 + 1)) (nI_1 i5_4) (by decide) (lv2 := [(4, .int (nI (i5_4 + 1))), (5, .int (nI i20_5)), (3, .int v20_3), (0, .ref (a 25)), (1, .int p0), (2, .int p1)]) rfl ?_
      refine g_goto X dX4_timesRoadUsed_73 (tgt := 5) (by decide) ?_
      refine g_lv [0, 2, 3, 4, 5] (lv2 := [(4, .int (nI (i5_4 + 1))), (3, .int v20_3), (0, .ref (a 25)), (1, .int p0), (2, .int p1)]) rfl ?_
      exact ih5 ((i5_4 + 1), v20_3) L M C D F I K ⟨by omega, by omega⟩ (by show _ < _; omega)
    · skip
      have q4 : ¬ n3 ≤ i20_5 := fun z => q4 ((nI_leI (a := n3) (b := i20_5) (by omega) (by omega)).mpr z)
      refine g_aload_n X dX4_timesRoadUsed_32 rfl (j := 3) rfl ?_
      refine g_iload X dX4_timesRoadUsed_33 (j := 0) rfl ?_
      refine g_iload X dX4_timesRoadUsed_35 (j := 2) rfl ?_
      refine g_callVI X (s_X4_placeOf_25 l G F I i20_5 (by omega) (by omega) i5_4 (by omega) (by omega) ) lk_X4_113 (F.1 25 rfl).2 (F.1 25 rfl).1 rfl rfl dX4_timesRoadUsed_37 (Nat.le_of_ble_eq_true rfl) ⟨by decide, by decide⟩ ⟨by decide, by decide⟩ (fun r5 L M hp => ?_)
      obtain ⟨C, D, F, I, K1, hr⟩ := hp
      have K := K.step K1 (by decide)
      obtain ⟨hr, hpln6⟩ := hr
      rcases okp_nat hr with rfl | ⟨n6, hn6, rfl⟩
      · skip
        refine g_iload_n X dX4_timesRoadUsed_40 rfl (j := 4) rfl ?_
        refine g_icmp_ne X dX4_timesRoadUsed_41 (tgt := 64) (by decide) (fun q7 => ?_) (fun q7 => ?_)
        · skip
          refine g_iinc X dX4_timesRoadUsed_64 (j := 0) rfl (v := nI (i20_5 + 1)) (nI_1 i20_5) (by decide) (lv2 := [(5, .int (nI (i20_5 + 1))), (3, .int v20_3), (4, .int (nI i5_4)), (0, .ref (a 25)), (1, .int p0), (2, .int p1)]) rfl ?_
          refine g_goto X dX4_timesRoadUsed_67 (tgt := 20) (by decide) ?_
          refine g_lv [0, 1, 2, 3, 4, 5] (lv2 := [(5, .int (nI (i20_5 + 1))), (3, .int v20_3), (4, .int (nI i5_4)), (0, .ref (a 25)), (1, .int p0), (2, .int p1)]) rfl ?_
          exact ih20 ((i20_5 + 1), v20_3) L M C D F I K ⟨by omega, by omega⟩ (by show _ < _; omega)
        · skip
          refine g_aload_n X dX4_timesRoadUsed_44 rfl (j := 3) rfl ?_
          refine i_get X F 25 rfl rfl fk_X4_31 dX4_timesRoadUsed_45 rfl ?_
          refine g_iload X dX4_timesRoadUsed_48 (j := 2) rfl ?_
          refine g_bipush X dX4_timesRoadUsed_50 (v := 8) (by decide) ?_
          refine g_imul X dX4_timesRoadUsed_52 ?_
          refine Go.top (v := .int (nI (i5_4 * 8))) (congrArg Value.int (pk_mul i5_4 8)) ?_
          refine g_iload X dX4_timesRoadUsed_53 (j := 0) rfl ?_
          refine g_iadd X dX4_timesRoadUsed_55 ?_
          refine Go.top (v := .int (nI ((i5_4 * 8) + i20_5))) (congrArg Value.int (nI_add (i5_4 * 8) i20_5)) ?_
          refine i_iald X F 29 rfl rfl dX4_timesRoadUsed_56 (vp_in_nI (by omega) (by decide)) rfl ?_
          refine Go.gen (fun o8 => ?_)
          refine g_iload_n X dX4_timesRoadUsed_57 rfl (j := 5) rfl ?_
          refine g_icmp_ne X dX4_timesRoadUsed_58 (tgt := 64) (by decide) (fun q9 => ?_) (fun q9 => ?_)
          · skip
            refine g_iinc X dX4_timesRoadUsed_64 (j := 0) rfl (v := nI (i20_5 + 1)) (nI_1 i20_5) (by decide) (lv2 := [(5, .int (nI (i20_5 + 1))), (3, .int v20_3), (4, .int (nI i5_4)), (0, .ref (a 25)), (1, .int p0), (2, .int p1)]) rfl ?_
            refine g_goto X dX4_timesRoadUsed_67 (tgt := 20) (by decide) ?_
            refine g_lv [0, 1, 2, 3, 4, 5] (lv2 := [(5, .int (nI (i20_5 + 1))), (3, .int v20_3), (4, .int (nI i5_4)), (0, .ref (a 25)), (1, .int p0), (2, .int p1)]) rfl ?_
            exact ih20 ((i20_5 + 1), v20_3) L M C D F I K ⟨by omega, by omega⟩ (by show _ < _; omega)
          · skip
            refine g_iinc X dX4_timesRoadUsed_61 (j := 1) rfl (v := (v20_3 + 1)) rfl (by decide) (lv2 := [(3, .int ((v20_3 + 1))), (5, .int (nI i20_5)), (4, .int (nI i5_4)), (0, .ref (a 25)), (1, .int p0), (2, .int p1)]) rfl ?_
            refine g_iinc X dX4_timesRoadUsed_64 (j := 1) rfl (v := nI (i20_5 + 1)) (nI_1 i20_5) (by decide) (lv2 := [(5, .int (nI (i20_5 + 1))), (3, .int ((v20_3 + 1))), (4, .int (nI i5_4)), (0, .ref (a 25)), (1, .int p0), (2, .int p1)]) rfl ?_
            refine g_goto X dX4_timesRoadUsed_67 (tgt := 20) (by decide) ?_
            refine g_lv [0, 1, 2, 3, 4, 5] (lv2 := [(5, .int (nI (i20_5 + 1))), (3, .int ((v20_3 + 1))), (4, .int (nI i5_4)), (0, .ref (a 25)), (1, .int p0), (2, .int p1)]) rfl ?_
            exact ih20 ((i20_5 + 1), (v20_3 + 1)) L M C D F I K ⟨by omega, by omega⟩ (by show _ < _; omega)
      · skip
        refine g_iload_n X dX4_timesRoadUsed_40 rfl (j := 4) rfl ?_
        refine g_icmp_ne X dX4_timesRoadUsed_41 (tgt := 64) (by decide) (fun q10 => ?_) (fun q10 => ?_)
        · skip
          refine g_iinc X dX4_timesRoadUsed_64 (j := 0) rfl (v := nI (i20_5 + 1)) (nI_1 i20_5) (by decide) (lv2 := [(5, .int (nI (i20_5 + 1))), (3, .int v20_3), (4, .int (nI i5_4)), (0, .ref (a 25)), (1, .int p0), (2, .int p1)]) rfl ?_
          refine g_goto X dX4_timesRoadUsed_67 (tgt := 20) (by decide) ?_
          refine g_lv [0, 1, 2, 3, 4, 5] (lv2 := [(5, .int (nI (i20_5 + 1))), (3, .int v20_3), (4, .int (nI i5_4)), (0, .ref (a 25)), (1, .int p0), (2, .int p1)]) rfl ?_
          exact ih20 ((i20_5 + 1), v20_3) L M C D F I K ⟨by omega, by omega⟩ (by show _ < _; omega)
        · skip
          refine g_aload_n X dX4_timesRoadUsed_44 rfl (j := 3) rfl ?_
          refine i_get X F 25 rfl rfl fk_X4_31 dX4_timesRoadUsed_45 rfl ?_
          refine g_iload X dX4_timesRoadUsed_48 (j := 2) rfl ?_
          refine g_bipush X dX4_timesRoadUsed_50 (v := 8) (by decide) ?_
          refine g_imul X dX4_timesRoadUsed_52 ?_
          refine Go.top (v := .int (nI (i5_4 * 8))) (congrArg Value.int (pk_mul i5_4 8)) ?_
          refine g_iload X dX4_timesRoadUsed_53 (j := 0) rfl ?_
          refine g_iadd X dX4_timesRoadUsed_55 ?_
          refine Go.top (v := .int (nI ((i5_4 * 8) + i20_5))) (congrArg Value.int (nI_add (i5_4 * 8) i20_5)) ?_
          refine i_iald X F 29 rfl rfl dX4_timesRoadUsed_56 (vp_in_nI (by omega) (by decide)) rfl ?_
          refine Go.gen (fun o11 => ?_)
          refine g_iload_n X dX4_timesRoadUsed_57 rfl (j := 5) rfl ?_
          refine g_icmp_ne X dX4_timesRoadUsed_58 (tgt := 64) (by decide) (fun q12 => ?_) (fun q12 => ?_)
          · skip
            refine g_iinc X dX4_timesRoadUsed_64 (j := 0) rfl (v := nI (i20_5 + 1)) (nI_1 i20_5) (by decide) (lv2 := [(5, .int (nI (i20_5 + 1))), (3, .int v20_3), (4, .int (nI i5_4)), (0, .ref (a 25)), (1, .int p0), (2, .int p1)]) rfl ?_
            refine g_goto X dX4_timesRoadUsed_67 (tgt := 20) (by decide) ?_
            refine g_lv [0, 1, 2, 3, 4, 5] (lv2 := [(5, .int (nI (i20_5 + 1))), (3, .int v20_3), (4, .int (nI i5_4)), (0, .ref (a 25)), (1, .int p0), (2, .int p1)]) rfl ?_
            exact ih20 ((i20_5 + 1), v20_3) L M C D F I K ⟨by omega, by omega⟩ (by show _ < _; omega)
          · skip
            refine g_iinc X dX4_timesRoadUsed_61 (j := 1) rfl (v := (v20_3 + 1)) rfl (by decide) (lv2 := [(3, .int ((v20_3 + 1))), (5, .int (nI i20_5)), (4, .int (nI i5_4)), (0, .ref (a 25)), (1, .int p0), (2, .int p1)]) rfl ?_
            refine g_iinc X dX4_timesRoadUsed_64 (j := 1) rfl (v := nI (i20_5 + 1)) (nI_1 i20_5) (by decide) (lv2 := [(5, .int (nI (i20_5 + 1))), (3, .int ((v20_3 + 1))), (4, .int (nI i5_4)), (0, .ref (a 25)), (1, .int p0), (2, .int p1)]) rfl ?_
            refine g_goto X dX4_timesRoadUsed_67 (tgt := 20) (by decide) ?_
            refine g_lv [0, 1, 2, 3, 4, 5] (lv2 := [(5, .int (nI (i20_5 + 1))), (3, .int ((v20_3 + 1))), (4, .int (nI i5_4)), (0, .ref (a 25)), (1, .int p0), (2, .int p1)]) rfl ?_
            exact ih20 ((i20_5 + 1), (v20_3 + 1)) L M C D F I K ⟨by omega, by omega⟩ (by show _ < _; omega)
set_option maxHeartbeats 4000000 in
set_option maxRecDepth 100000 in
theorem s_X4_timesPostSent_25 (l : Launch) (G : va_G) {cy : Nat → ClassId} {L : List Nat} {M : Nat → va_E} {a : Nat → Nat} {act : Nat → Bool} {C0 : Nat → Nat → Int32} {D0 : Nat → Nat → Int64} {R : Nat → Nat → Option Nat} (F : WI L M a act (ent cy a C0 D0 R)) (I : Inv C0) (p0 : Nat) (hp0a : 0 ≤ p0) (hp0b : p0 ≤ 6)  : MI l G cy yX4_timesPostSent cX4_timesPostSent 4 (some .int) 2 0 0 [.ref (a 25), .int (nI p0)] L M (fun r L2 M2 => ∃ C2 D2, WI L2 M2 a act (ent cy a C2 D2 R) ∧ Inv C2 ∧ Kp [] C0 D0 C2 D2 ∧ True) := by
  refine MI.of (own := RX4) rfl (by decide) (Nat.le_of_ble_eq_true rfl) ?_
  intro p e s m below meth c A X hrt hnm
  obtain ⟨C, D, hC0, hD0, F, I, K⟩ : ∃ C D, C = C0 ∧ D = D0 ∧ WI L M a act (ent cy a C D R) ∧ Inv C ∧ Kp [] C0 D0 C D := ⟨C0, D0, rfl, rfl, F, I, Kp.rf⟩
  refine g_iconst X dX4_timesPostSent_0 (v := 0) (by decide) ?_
  refine g_istore_n X dX4_timesPostSent_1 rfl (by decide) (lv2 := [(2, .int 0), (0, .ref (a 25)), (1, .int (nI p0))]) rfl ?_
  refine g_iconst X dX4_timesPostSent_2 (v := 0) (by decide) ?_
  refine g_istore_n X dX4_timesPostSent_3 rfl (by decide) (lv2 := [(3, .int 0), (2, .int 0), (0, .ref (a 25)), (1, .int (nI p0))]) rfl ?_
  refine g_lv [0, 1, 2, 3] (lv2 := [(3, .int 0), (2, .int 0), (0, .ref (a 25)), (1, .int (nI p0))]) rfl ?_
  refine i_loop (mods := []) (fun x : Nat × Int32 => 4 - x.1) (fun x => [(3, .int (nI (x.1))), (2, .int (x.2)), (0, .ref (a 25)), (1, .int (nI p0))]) (fun x C => 0 ≤ x.1 ∧ x.1 ≤ 4) (fun x L M C D F I K hP ih4 => ?_) ((0, 0) : Nat × Int32) F I K ⟨by show _ ≤ _; omega, by show _ ≤ _; omega⟩
  rcases x with ⟨i4_3, v4_2⟩
  obtain ⟨hi4_3a, hi4_3b⟩ := hP
  refine g_lv [0, 1, 2, 3] (lv2 := [(3, .int (nI i4_3)), (2, .int v4_2), (0, .ref (a 25)), (1, .int (nI p0))]) rfl ?_
  refine g_iload_n X dX4_timesPostSent_4 rfl (j := 0) rfl ?_
  refine g_aload_n X dX4_timesPostSent_5 rfl (j := 2) rfl ?_
  refine i_get X F 25 rfl rfl fk_X4_37 dX4_timesPostSent_6 rfl ?_
  refine i_get X F 3 rfl rfl fk_X4_135 dX4_timesPostSent_9 rfl ?_
  refine g_iload_n X dX4_timesPostSent_12 rfl (j := 3) rfl ?_
  obtain ⟨n1, hn1, en1⟩ := rg_nat (I 5 p0) (by decide)
  refine i_iald X F 5 rfl rfl dX4_timesPostSent_13 (vp_in_nI (by omega) (by decide)) (v := nI n1) (by rw [nI_clamp (by omega)]; exact en1) ?_
  refine g_icmp_ge X dX4_timesPostSent_14 (tgt := 32) (by decide) (fun q2 => ?_) (fun q2 => ?_)
  · skip
    have q2 : n1 ≤ i4_3 := (nI_leI (a := n1) (b := i4_3) (by omega) (by omega)).mp q2
    refine g_iload_n X dX4_timesPostSent_32 rfl (j := 1) rfl ?_
    exact g_iret X hrt dX4_timesPostSent_33 (by decide) (by decide) ⟨C, D, F, I, K, trivial⟩
  · skip
    have q2 : ¬ n1 ≤ i4_3 := fun z => q2 ((nI_leI (a := n1) (b := i4_3) (by omega) (by omega)).mpr z)
    refine g_iload_n X dX4_timesPostSent_17 rfl (j := 1) rfl ?_
    refine g_aload_n X dX4_timesPostSent_18 rfl (j := 2) rfl ?_
    refine g_iload_n X dX4_timesPostSent_19 rfl (j := 3) rfl ?_
    refine g_iload_n X dX4_timesPostSent_20 rfl (j := 0) rfl ?_
    refine g_callVI X (s_X4_timesRoadUsed_25 l G F I (nI p0) (nI i4_3) ) lk_X4_138 (F.1 25 rfl).2 (F.1 25 rfl).1 rfl rfl dX4_timesPostSent_21 (Nat.le_of_ble_eq_true rfl) ⟨by decide, by decide⟩ ⟨by decide, by decide⟩ (fun r3 L M hp => ?_)
    obtain ⟨C, D, F, I, K1, hr⟩ := hp
    have K := K.step K1 (by decide)
    refine g_iadd X dX4_timesPostSent_24 ?_
    refine Go.gen (fun o4 => ?_)
    refine g_istore_n X dX4_timesPostSent_25 rfl (by decide) (lv2 := [(2, .int o4), (3, .int (nI i4_3)), (0, .ref (a 25)), (1, .int (nI p0))]) rfl ?_
    refine g_iinc X dX4_timesPostSent_26 (j := 1) rfl (v := nI (i4_3 + 1)) (nI_1 i4_3) (by decide) (lv2 := [(3, .int (nI (i4_3 + 1))), (2, .int o4), (0, .ref (a 25)), (1, .int (nI p0))]) rfl ?_
    refine g_goto X dX4_timesPostSent_29 (tgt := 4) (by decide) ?_
    refine g_lv [0, 1, 2, 3] (lv2 := [(3, .int (nI (i4_3 + 1))), (2, .int o4), (0, .ref (a 25)), (1, .int (nI p0))]) rfl ?_
    exact ih4 ((i4_3 + 1), o4) L M C D F I K ⟨by omega, by omega⟩ (by show _ < _; omega)
set_option maxHeartbeats 4000000 in
set_option maxRecDepth 100000 in
theorem s_X4_timesWalked_25 (l : Launch) (G : va_G) {cy : Nat → ClassId} {L : List Nat} {M : Nat → va_E} {a : Nat → Nat} {act : Nat → Bool} {C0 : Nat → Nat → Int32} {D0 : Nat → Nat → Int64} {R : Nat → Nat → Option Nat} (F : WI L M a act (ent cy a C0 D0 R)) (I : Inv C0) (p0 : Nat) (hp0a : 0 ≤ p0) (hp0b : p0 ≤ 7)  : MI l G cy yX4_timesWalked cX4_timesWalked 4 (some .int) 1 0 0 [.ref (a 25), .int (nI p0)] L M (fun r L2 M2 => ∃ C2 D2, WI L2 M2 a act (ent cy a C2 D2 R) ∧ Inv C2 ∧ Kp [] C0 D0 C2 D2 ∧ True) := by
  refine MI.of (own := RX4) rfl (by decide) (Nat.le_of_ble_eq_true rfl) ?_
  intro p e s m below meth c A X hrt hnm
  obtain ⟨C, D, hC0, hD0, F, I, K⟩ : ∃ C D, C = C0 ∧ D = D0 ∧ WI L M a act (ent cy a C D R) ∧ Inv C ∧ Kp [] C0 D0 C D := ⟨C0, D0, rfl, rfl, F, I, Kp.rf⟩
  refine g_iconst X dX4_timesWalked_0 (v := 0) (by decide) ?_
  refine g_istore_n X dX4_timesWalked_1 rfl (by decide) (lv2 := [(2, .int 0), (0, .ref (a 25)), (1, .int (nI p0))]) rfl ?_
  refine g_iconst X dX4_timesWalked_2 (v := 0) (by decide) ?_
  refine g_istore_n X dX4_timesWalked_3 rfl (by decide) (lv2 := [(3, .int 0), (2, .int 0), (0, .ref (a 25)), (1, .int (nI p0))]) rfl ?_
  refine g_lv [0, 1, 2, 3] (lv2 := [(3, .int 0), (2, .int 0), (0, .ref (a 25)), (1, .int (nI p0))]) rfl ?_
  refine i_loop (mods := []) (fun x : Nat × Int32 => 16 - x.1) (fun x => [(3, .int (nI (x.1))), (2, .int (x.2)), (0, .ref (a 25)), (1, .int (nI p0))]) (fun x C => 0 ≤ x.1 ∧ x.1 ≤ 16) (fun x L M C D F I K hP ih4 => ?_) ((0, 0) : Nat × Int32) F I K ⟨by show _ ≤ _; omega, by show _ ≤ _; omega⟩
  rcases x with ⟨i4_3, v4_2⟩
  obtain ⟨hi4_3a, hi4_3b⟩ := hP
  refine g_lv [0, 1, 2, 3] (lv2 := [(3, .int (nI i4_3)), (2, .int v4_2), (0, .ref (a 25)), (1, .int (nI p0))]) rfl ?_
  refine g_iload_n X dX4_timesWalked_4 rfl (j := 0) rfl ?_
  refine g_aload_n X dX4_timesWalked_5 rfl (j := 2) rfl ?_
  refine i_get X F 25 rfl rfl fk_X4_37 dX4_timesWalked_6 rfl ?_
  obtain ⟨n1, hn1, en1⟩ := rg_nat ((I 3 1).1 rfl) (by decide)
  refine i_get X F 3 rfl rfl fk_X4_57 dX4_timesWalked_9 (v := .int (nI n1)) (congrArg (fun z => some (Value.int z)) en1) ?_
  refine g_icmp_ge X dX4_timesWalked_12 (tgt := 33) (by decide) (fun q2 => ?_) (fun q2 => ?_)
  · skip
    have q2 : n1 ≤ i4_3 := (nI_leI (a := n1) (b := i4_3) (by omega) (by omega)).mp q2
    refine g_iload_n X dX4_timesWalked_33 rfl (j := 1) rfl ?_
    exact g_iret X hrt dX4_timesWalked_34 (by decide) (by decide) ⟨C, D, F, I, K, trivial⟩
  · skip
    have q2 : ¬ n1 ≤ i4_3 := fun z => q2 ((nI_leI (a := n1) (b := i4_3) (by omega) (by omega)).mpr z)
    refine g_aload_n X dX4_timesWalked_15 rfl (j := 2) rfl ?_
    refine g_iload_n X dX4_timesWalked_16 rfl (j := 3) rfl ?_
    refine g_iload_n X dX4_timesWalked_17 rfl (j := 0) rfl ?_
    refine g_callVI X (s_X4_isSent_25 l G F I p0 (by omega) (by omega) i4_3 (by omega) (by omega) ) lk_X4_132 (F.1 25 rfl).2 (F.1 25 rfl).1 rfl rfl dX4_timesWalked_18 (Nat.le_of_ble_eq_true rfl) ⟨by decide, by decide⟩ ⟨by decide, by decide⟩ (fun r3 L M hp => ?_)
    obtain ⟨C, D, F, I, K1, hr⟩ := hp
    have K := K.step K1 (by decide)
    rcases hr with rfl | ⟨rfl, hi4⟩
    · skip
      refine g_if_eq X dX4_timesWalked_21 (tgt := 27) (by decide) (fun _ => ?_) (fun q => absurd (by decide) q)
      refine g_iinc X dX4_timesWalked_27 (j := 0) rfl (v := nI (i4_3 + 1)) (nI_1 i4_3) (by decide) (lv2 := [(3, .int (nI (i4_3 + 1))), (2, .int v4_2), (0, .ref (a 25)), (1, .int (nI p0))]) rfl ?_
      refine g_goto X dX4_timesWalked_30 (tgt := 4) (by decide) ?_
      refine g_lv [0, 1, 2, 3] (lv2 := [(3, .int (nI (i4_3 + 1))), (2, .int v4_2), (0, .ref (a 25)), (1, .int (nI p0))]) rfl ?_
      exact ih4 ((i4_3 + 1), v4_2) L M C D F I K ⟨by omega, by omega⟩ (by show _ < _; omega)
    · skip
      refine g_if_eq X dX4_timesWalked_21 (tgt := 27) (by decide) (fun q => absurd q (by decide)) (fun _ => ?_)
      refine g_iinc X dX4_timesWalked_24 (j := 1) rfl (v := (v4_2 + 1)) rfl (by decide) (lv2 := [(2, .int ((v4_2 + 1))), (3, .int (nI i4_3)), (0, .ref (a 25)), (1, .int (nI p0))]) rfl ?_
      refine g_iinc X dX4_timesWalked_27 (j := 1) rfl (v := nI (i4_3 + 1)) (nI_1 i4_3) (by decide) (lv2 := [(3, .int (nI (i4_3 + 1))), (2, .int ((v4_2 + 1))), (0, .ref (a 25)), (1, .int (nI p0))]) rfl ?_
      refine g_goto X dX4_timesWalked_30 (tgt := 4) (by decide) ?_
      refine g_lv [0, 1, 2, 3] (lv2 := [(3, .int (nI (i4_3 + 1))), (2, .int ((v4_2 + 1))), (0, .ref (a 25)), (1, .int (nI p0))]) rfl ?_
      exact ih4 ((i4_3 + 1), (v4_2 + 1)) L M C D F I K ⟨by omega, by omega⟩ (by show _ < _; omega)
set_option maxHeartbeats 4000000 in
set_option maxRecDepth 100000 in
theorem s_X4_firstHourHome_25 (l : Launch) (G : va_G) {cy : Nat → ClassId} {L : List Nat} {M : Nat → va_E} {a : Nat → Nat} {act : Nat → Bool} {C0 : Nat → Nat → Int32} {D0 : Nat → Nat → Int64} {R : Nat → Nat → Option Nat} (F : WI L M a act (ent cy a C0 D0 R)) (I : Inv C0) (p0 : Nat) (hp0a : 0 ≤ p0) (hp0b : p0 ≤ 7)  : MI l G cy yX4_firstHourHome cX4_firstHourHome 3 (some .int) 1 0 0 [.ref (a 25), .int (nI p0)] L M (fun r L2 M2 => ∃ C2 D2, WI L2 M2 a act (ent cy a C2 D2 R) ∧ Inv C2 ∧ Kp [] C0 D0 C2 D2 ∧ True) := by
  refine MI.of (own := RX4) rfl (by decide) (Nat.le_of_ble_eq_true rfl) ?_
  intro p e s m below meth c A X hrt hnm
  obtain ⟨C, D, hC0, hD0, F, I, K⟩ : ∃ C D, C = C0 ∧ D = D0 ∧ WI L M a act (ent cy a C D R) ∧ Inv C ∧ Kp [] C0 D0 C D := ⟨C0, D0, rfl, rfl, F, I, Kp.rf⟩
  refine g_iconst X dX4_firstHourHome_0 (v := 0) (by decide) ?_
  refine g_istore_n X dX4_firstHourHome_1 rfl (by decide) (lv2 := [(2, .int 0), (0, .ref (a 25)), (1, .int (nI p0))]) rfl ?_
  refine g_lv [0, 1, 2] (lv2 := [(2, .int 0), (0, .ref (a 25)), (1, .int (nI p0))]) rfl ?_
  refine i_loop (mods := []) (fun x : Nat => 17 - x) (fun x => [(2, .int (nI (x))), (0, .ref (a 25)), (1, .int (nI p0))]) (fun x C => 0 ≤ x ∧ x ≤ 17) (fun x L M C D F I K hP ih2 => ?_) ((0) : Nat) F I K ⟨by show _ ≤ _; omega, by show _ ≤ _; omega⟩
  obtain ⟨i2_2, rfl⟩ : ∃ z, z = x := ⟨_, rfl⟩
  obtain ⟨hi2_2a, hi2_2b⟩ := hP
  refine g_lv [0, 1, 2] (lv2 := [(2, .int (nI i2_2)), (0, .ref (a 25)), (1, .int (nI p0))]) rfl ?_
  refine g_iload_n X dX4_firstHourHome_2 rfl (j := 0) rfl ?_
  refine g_aload_n X dX4_firstHourHome_3 rfl (j := 1) rfl ?_
  refine i_get X F 25 rfl rfl fk_X4_37 dX4_firstHourHome_4 rfl ?_
  obtain ⟨n1, hn1, en1⟩ := rg_nat ((I 3 1).1 rfl) (by decide)
  refine i_get X F 3 rfl rfl fk_X4_57 dX4_firstHourHome_7 (v := .int (nI n1)) (congrArg (fun z => some (Value.int z)) en1) ?_
  refine g_icmp_gt X dX4_firstHourHome_10 (tgt := 32) (by decide) (fun q2 => ?_) (fun q2 => ?_)
  · skip
    have q2 : n1 < i2_2 := (nI_ltI (a := n1) (b := i2_2) (by omega) (by omega)).mp q2
    refine g_iconst X dX4_firstHourHome_32 (v := -1) (by decide) ?_
    exact g_iret X hrt dX4_firstHourHome_33 (by decide) (by decide) ⟨C, D, F, I, K, trivial⟩
  · skip
    have q2 : ¬ n1 < i2_2 := fun z => q2 ((nI_ltI (a := n1) (b := i2_2) (by omega) (by omega)).mpr z)
    refine g_aload_n X dX4_firstHourHome_13 rfl (j := 1) rfl ?_
    refine g_iload_n X dX4_firstHourHome_14 rfl (j := 2) rfl ?_
    refine g_iload_n X dX4_firstHourHome_15 rfl (j := 0) rfl ?_
    refine g_callVI X (s_X4_placeOf_25 l G F I p0 (by omega) (by omega) i2_2 (by omega) (by omega) ) lk_X4_113 (F.1 25 rfl).2 (F.1 25 rfl).1 rfl rfl dX4_firstHourHome_16 (Nat.le_of_ble_eq_true rfl) ⟨by decide, by decide⟩ ⟨by decide, by decide⟩ (fun r3 L M hp => ?_)
    obtain ⟨C, D, F, I, K1, hr⟩ := hp
    have K := K.step K1 (by decide)
    obtain ⟨hr, hpln4⟩ := hr
    rcases okp_nat hr with rfl | ⟨n4, hn4, rfl⟩
    · skip
      refine g_bipush X dX4_firstHourHome_19 (v := 10) (by decide) ?_
      refine g_icmp_lt X dX4_firstHourHome_21 (tgt := 26) (by decide) (fun _ => ?_) (fun q => absurd (by decide) q)
      refine g_iinc X dX4_firstHourHome_26 (j := 0) rfl (v := nI (i2_2 + 1)) (nI_1 i2_2) (by decide) (lv2 := [(2, .int (nI (i2_2 + 1))), (0, .ref (a 25)), (1, .int (nI p0))]) rfl ?_
      refine g_goto X dX4_firstHourHome_29 (tgt := 2) (by decide) ?_
      refine g_lv [0, 1, 2] (lv2 := [(2, .int (nI (i2_2 + 1))), (0, .ref (a 25)), (1, .int (nI p0))]) rfl ?_
      exact ih2 ((i2_2 + 1)) L M C D F I K ⟨by omega, by omega⟩ (by show _ < _; omega)
    · skip
      refine g_bipush X dX4_firstHourHome_19 (v := 10) (by decide) ?_
      refine g_icmp_lt X dX4_firstHourHome_21 (tgt := 26) (by decide) (fun q5 => ?_) (fun q5 => ?_)
      · skip
        have q5 : n4 < 10 := (nI_ltI (a := n4) (b := 10) (by omega) (by omega)).mp q5
        refine g_iinc X dX4_firstHourHome_26 (j := 0) rfl (v := nI (i2_2 + 1)) (nI_1 i2_2) (by decide) (lv2 := [(2, .int (nI (i2_2 + 1))), (0, .ref (a 25)), (1, .int (nI p0))]) rfl ?_
        refine g_goto X dX4_firstHourHome_29 (tgt := 2) (by decide) ?_
        refine g_lv [0, 1, 2] (lv2 := [(2, .int (nI (i2_2 + 1))), (0, .ref (a 25)), (1, .int (nI p0))]) rfl ?_
        exact ih2 ((i2_2 + 1)) L M C D F I K ⟨by omega, by omega⟩ (by show _ < _; omega)
      · skip
        have q5 : ¬ n4 < 10 := fun z => q5 ((nI_ltI (a := n4) (b := 10) (by omega) (by omega)).mpr z)
        refine g_iload_n X dX4_firstHourHome_24 rfl (j := 0) rfl ?_
        exact g_iret X hrt dX4_firstHourHome_25 (by decide) (by decide) ⟨C, D, F, I, K, trivial⟩
set_option maxHeartbeats 4000000 in
set_option maxRecDepth 100000 in
theorem s_X4_firstHourIn_25 (l : Launch) (G : va_G) {cy : Nat → ClassId} {L : List Nat} {M : Nat → va_E} {a : Nat → Nat} {act : Nat → Bool} {C0 : Nat → Nat → Int32} {D0 : Nat → Nat → Int64} {R : Nat → Nat → Option Nat} (F : WI L M a act (ent cy a C0 D0 R)) (I : Inv C0) (p0 : Nat) (hp0a : 0 ≤ p0) (hp0b : p0 ≤ 7) (p1 : Int32)  : MI l G cy yX4_firstHourIn cX4_firstHourIn 4 (some .int) 1 0 0 [.ref (a 25), .int (nI p0), .int p1] L M (fun r L2 M2 => ∃ C2 D2, WI L2 M2 a act (ent cy a C2 D2 R) ∧ Inv C2 ∧ Kp [] C0 D0 C2 D2 ∧ True) := by
  refine MI.of (own := RX4) rfl (by decide) (Nat.le_of_ble_eq_true rfl) ?_
  intro p e s m below meth c A X hrt hnm
  obtain ⟨C, D, hC0, hD0, F, I, K⟩ : ∃ C D, C = C0 ∧ D = D0 ∧ WI L M a act (ent cy a C D R) ∧ Inv C ∧ Kp [] C0 D0 C D := ⟨C0, D0, rfl, rfl, F, I, Kp.rf⟩
  refine g_iconst X dX4_firstHourIn_0 (v := 0) (by decide) ?_
  refine g_istore_n X dX4_firstHourIn_1 rfl (by decide) (lv2 := [(3, .int 0), (0, .ref (a 25)), (1, .int (nI p0)), (2, .int p1)]) rfl ?_
  refine g_lv [0, 1, 2, 3] (lv2 := [(3, .int 0), (0, .ref (a 25)), (1, .int (nI p0)), (2, .int p1)]) rfl ?_
  refine i_loop (mods := []) (fun x : Nat => 17 - x) (fun x => [(3, .int (nI (x))), (0, .ref (a 25)), (1, .int (nI p0)), (2, .int p1)]) (fun x C => 0 ≤ x ∧ x ≤ 17) (fun x L M C D F I K hP ih2 => ?_) ((0) : Nat) F I K ⟨by show _ ≤ _; omega, by show _ ≤ _; omega⟩
  obtain ⟨i2_3, rfl⟩ : ∃ z, z = x := ⟨_, rfl⟩
  obtain ⟨hi2_3a, hi2_3b⟩ := hP
  refine g_lv [0, 1, 2, 3] (lv2 := [(3, .int (nI i2_3)), (0, .ref (a 25)), (1, .int (nI p0)), (2, .int p1)]) rfl ?_
  refine g_iload_n X dX4_firstHourIn_2 rfl (j := 0) rfl ?_
  refine g_aload_n X dX4_firstHourIn_3 rfl (j := 1) rfl ?_
  refine i_get X F 25 rfl rfl fk_X4_37 dX4_firstHourIn_4 rfl ?_
  obtain ⟨n1, hn1, en1⟩ := rg_nat ((I 3 1).1 rfl) (by decide)
  refine i_get X F 3 rfl rfl fk_X4_57 dX4_firstHourIn_7 (v := .int (nI n1)) (congrArg (fun z => some (Value.int z)) en1) ?_
  refine g_icmp_gt X dX4_firstHourIn_10 (tgt := 31) (by decide) (fun q2 => ?_) (fun q2 => ?_)
  · skip
    have q2 : n1 < i2_3 := (nI_ltI (a := n1) (b := i2_3) (by omega) (by omega)).mp q2
    refine g_iconst X dX4_firstHourIn_31 (v := -1) (by decide) ?_
    exact g_iret X hrt dX4_firstHourIn_32 (by decide) (by decide) ⟨C, D, F, I, K, trivial⟩
  · skip
    have q2 : ¬ n1 < i2_3 := fun z => q2 ((nI_ltI (a := n1) (b := i2_3) (by omega) (by omega)).mpr z)
    refine g_aload_n X dX4_firstHourIn_13 rfl (j := 1) rfl ?_
    refine g_iload_n X dX4_firstHourIn_14 rfl (j := 2) rfl ?_
    refine g_iload_n X dX4_firstHourIn_15 rfl (j := 0) rfl ?_
    refine g_callVI X (s_X4_placeOf_25 l G F I p0 (by omega) (by omega) i2_3 (by omega) (by omega) ) lk_X4_113 (F.1 25 rfl).2 (F.1 25 rfl).1 rfl rfl dX4_firstHourIn_16 (Nat.le_of_ble_eq_true rfl) ⟨by decide, by decide⟩ ⟨by decide, by decide⟩ (fun r3 L M hp => ?_)
    obtain ⟨C, D, F, I, K1, hr⟩ := hp
    have K := K.step K1 (by decide)
    obtain ⟨hr, hpln4⟩ := hr
    rcases okp_nat hr with rfl | ⟨n4, hn4, rfl⟩
    · skip
      refine g_iload_n X dX4_firstHourIn_19 rfl (j := 3) rfl ?_
      refine g_icmp_ne X dX4_firstHourIn_20 (tgt := 25) (by decide) (fun q5 => ?_) (fun q5 => ?_)
      · skip
        refine g_iinc X dX4_firstHourIn_25 (j := 0) rfl (v := nI (i2_3 + 1)) (nI_1 i2_3) (by decide) (lv2 := [(3, .int (nI (i2_3 + 1))), (0, .ref (a 25)), (1, .int (nI p0)), (2, .int p1)]) rfl ?_
        refine g_goto X dX4_firstHourIn_28 (tgt := 2) (by decide) ?_
        refine g_lv [0, 1, 2, 3] (lv2 := [(3, .int (nI (i2_3 + 1))), (0, .ref (a 25)), (1, .int (nI p0)), (2, .int p1)]) rfl ?_
        exact ih2 ((i2_3 + 1)) L M C D F I K ⟨by omega, by omega⟩ (by show _ < _; omega)
      · skip
        refine g_iload_n X dX4_firstHourIn_23 rfl (j := 0) rfl ?_
        exact g_iret X hrt dX4_firstHourIn_24 (by decide) (by decide) ⟨C, D, F, I, K, trivial⟩
    · skip
      refine g_iload_n X dX4_firstHourIn_19 rfl (j := 3) rfl ?_
      refine g_icmp_ne X dX4_firstHourIn_20 (tgt := 25) (by decide) (fun q6 => ?_) (fun q6 => ?_)
      · skip
        refine g_iinc X dX4_firstHourIn_25 (j := 0) rfl (v := nI (i2_3 + 1)) (nI_1 i2_3) (by decide) (lv2 := [(3, .int (nI (i2_3 + 1))), (0, .ref (a 25)), (1, .int (nI p0)), (2, .int p1)]) rfl ?_
        refine g_goto X dX4_firstHourIn_28 (tgt := 2) (by decide) ?_
        refine g_lv [0, 1, 2, 3] (lv2 := [(3, .int (nI (i2_3 + 1))), (0, .ref (a 25)), (1, .int (nI p0)), (2, .int p1)]) rfl ?_
        exact ih2 ((i2_3 + 1)) L M C D F I K ⟨by omega, by omega⟩ (by show _ < _; omega)
      · skip
        refine g_iload_n X dX4_firstHourIn_23 rfl (j := 0) rfl ?_
        exact g_iret X hrt dX4_firstHourIn_24 (by decide) (by decide) ⟨C, D, F, I, K, trivial⟩
set_option maxHeartbeats 4000000 in
set_option maxRecDepth 100000 in
theorem s_X4_postBit_25 (l : Launch) (G : va_G) {cy : Nat → ClassId} {L : List Nat} {M : Nat → va_E} {a : Nat → Nat} {act : Nat → Bool} {C0 : Nat → Nat → Int32} {D0 : Nat → Nat → Int64} {R : Nat → Nat → Option Nat} (F : WI L M a act (ent cy a C0 D0 R)) (I : Inv C0) (p0 : Nat) (hp0a : 0 ≤ p0) (hp0b : p0 ≤ 7) (p1 : Nat) (hp1a : 0 ≤ p1) (hp1b : p1 ≤ 16)  : MI l G cy yX4_postBit cX4_postBit 4 (some .int) 1 0 0 [.ref (a 25), .int (nI p0), .int (nI p1)] L M (fun r L2 M2 => ∃ C2 D2, WI L2 M2 a act (ent cy a C2 D2 R) ∧ Inv C2 ∧ Kp [] C0 D0 C2 D2 ∧ True) := by
  refine MI.of (own := RX4) rfl (by decide) (Nat.le_of_ble_eq_true rfl) ?_
  intro p e s m below meth c A X hrt hnm
  obtain ⟨C, D, hC0, hD0, F, I, K⟩ : ∃ C D, C = C0 ∧ D = D0 ∧ WI L M a act (ent cy a C D R) ∧ Inv C ∧ Kp [] C0 D0 C D := ⟨C0, D0, rfl, rfl, F, I, Kp.rf⟩
  refine g_aload_n X dX4_postBit_0 rfl (j := 0) rfl ?_
  refine g_iload_n X dX4_postBit_1 rfl (j := 1) rfl ?_
  refine g_iload_n X dX4_postBit_2 rfl (j := 2) rfl ?_
  refine g_callVI X (s_X4_placeOf_25 l G F I p0 (by omega) (by omega) p1 (by omega) (by omega) ) lk_X4_113 (F.1 25 rfl).2 (F.1 25 rfl).1 rfl rfl dX4_postBit_3 (Nat.le_of_ble_eq_true rfl) ⟨by decide, by decide⟩ ⟨by decide, by decide⟩ (fun r1 L M hp => ?_)
  obtain ⟨C, D, F, I, K1, hr⟩ := hp
  have K := K.step K1 (by decide)
  obtain ⟨hr, hpln2⟩ := hr
  rcases okp_nat hr with rfl | ⟨n2, hn2, rfl⟩
  · skip
    refine g_istore_n X dX4_postBit_6 rfl (by decide) (lv2 := [(3, .int (-1)), (0, .ref (a 25)), (1, .int (nI p0)), (2, .int (nI p1))]) rfl ?_
    refine g_iload_n X dX4_postBit_7 rfl (j := 0) rfl ?_
    refine g_iconst X dX4_postBit_8 (v := -1) (by decide) ?_
    refine g_icmp_eq X dX4_postBit_9 (tgt := 18) (by decide) (fun _ => ?_) (fun q => absurd (by decide) q)
    refine g_iconst X dX4_postBit_18 (v := 0) (by decide) ?_
    refine g_goto X dX4_postBit_19 (tgt := 25) (by decide) ?_
    exact g_iret X hrt dX4_postBit_25 (by decide) (by decide) ⟨C, D, F, I, K, trivial⟩
  · skip
    refine g_istore_n X dX4_postBit_6 rfl (by decide) (lv2 := [(3, .int (nI n2)), (0, .ref (a 25)), (1, .int (nI p0)), (2, .int (nI p1))]) rfl ?_
    refine g_iload_n X dX4_postBit_7 rfl (j := 0) rfl ?_
    refine g_iconst X dX4_postBit_8 (v := -1) (by decide) ?_
    refine g_icmp_eq X dX4_postBit_9 (tgt := 18) (by decide) (fun q => absurd q (nI_nm1 (by omega))) (fun _ => ?_)
    refine g_iload_n X dX4_postBit_12 rfl (j := 0) rfl ?_
    refine g_bipush X dX4_postBit_13 (v := 10) (by decide) ?_
    refine g_icmp_lt X dX4_postBit_15 (tgt := 22) (by decide) (fun q4 => ?_) (fun q4 => ?_)
    · skip
      have q4 : n2 < 10 := (nI_ltI (a := n2) (b := 10) (by omega) (by omega)).mp q4
      refine g_iconst X dX4_postBit_22 (v := 1) (by decide) ?_
      refine g_iload_n X dX4_postBit_23 rfl (j := 0) rfl ?_
      refine g_ishl X dX4_postBit_24 ?_
      refine Go.gen (fun o5 => ?_)
      exact g_iret X hrt dX4_postBit_25 (by decide) (by decide) ⟨C, D, F, I, K, trivial⟩
    · skip
      have q4 : ¬ n2 < 10 := fun z => q4 ((nI_ltI (a := n2) (b := 10) (by omega) (by omega)).mpr z)
      refine g_iconst X dX4_postBit_18 (v := 0) (by decide) ?_
      refine g_goto X dX4_postBit_19 (tgt := 25) (by decide) ?_
      exact g_iret X hrt dX4_postBit_25 (by decide) (by decide) ⟨C, D, F, I, K, trivial⟩
set_option maxHeartbeats 4000000 in
set_option maxRecDepth 100000 in
theorem s_X4_postsVisited_25 (l : Launch) (G : va_G) {cy : Nat → ClassId} {L : List Nat} {M : Nat → va_E} {a : Nat → Nat} {act : Nat → Bool} {C0 : Nat → Nat → Int32} {D0 : Nat → Nat → Int64} {R : Nat → Nat → Option Nat} (F : WI L M a act (ent cy a C0 D0 R)) (I : Inv C0) (p0 : Nat) (hp0a : 0 ≤ p0) (hp0b : p0 ≤ 7)  : MI l G cy yX4_postsVisited cX4_postsVisited 4 (some .int) 2 0 0 [.ref (a 25), .int (nI p0)] L M (fun r L2 M2 => ∃ C2 D2, WI L2 M2 a act (ent cy a C2 D2 R) ∧ Inv C2 ∧ Kp [] C0 D0 C2 D2 ∧ True) := by
  refine MI.of (own := RX4) rfl (by decide) (Nat.le_of_ble_eq_true rfl) ?_
  intro p e s m below meth c A X hrt hnm
  obtain ⟨C, D, hC0, hD0, F, I, K⟩ : ∃ C D, C = C0 ∧ D = D0 ∧ WI L M a act (ent cy a C D R) ∧ Inv C ∧ Kp [] C0 D0 C D := ⟨C0, D0, rfl, rfl, F, I, Kp.rf⟩
  refine g_iconst X dX4_postsVisited_0 (v := 0) (by decide) ?_
  refine g_istore_n X dX4_postsVisited_1 rfl (by decide) (lv2 := [(2, .int 0), (0, .ref (a 25)), (1, .int (nI p0))]) rfl ?_
  refine g_iconst X dX4_postsVisited_2 (v := 0) (by decide) ?_
  refine g_istore_n X dX4_postsVisited_3 rfl (by decide) (lv2 := [(3, .int 0), (2, .int 0), (0, .ref (a 25)), (1, .int (nI p0))]) rfl ?_
  refine g_lv [0, 1, 2, 3] (lv2 := [(3, .int 0), (2, .int 0), (0, .ref (a 25)), (1, .int (nI p0))]) rfl ?_
  refine i_loop (mods := []) (fun x : Nat × Int32 => 17 - x.1) (fun x => [(3, .int (nI (x.1))), (2, .int (x.2)), (0, .ref (a 25)), (1, .int (nI p0))]) (fun x C => 0 ≤ x.1 ∧ x.1 ≤ 17) (fun x L M C D F I K hP ih4 => ?_) ((0, 0) : Nat × Int32) F I K ⟨by show _ ≤ _; omega, by show _ ≤ _; omega⟩
  rcases x with ⟨i4_3, v4_2⟩
  obtain ⟨hi4_3a, hi4_3b⟩ := hP
  refine g_lv [0, 1, 2, 3] (lv2 := [(3, .int (nI i4_3)), (2, .int v4_2), (0, .ref (a 25)), (1, .int (nI p0))]) rfl ?_
  refine g_iload_n X dX4_postsVisited_4 rfl (j := 0) rfl ?_
  refine g_aload_n X dX4_postsVisited_5 rfl (j := 2) rfl ?_
  refine i_get X F 25 rfl rfl fk_X4_37 dX4_postsVisited_6 rfl ?_
  obtain ⟨n1, hn1, en1⟩ := rg_nat ((I 3 1).1 rfl) (by decide)
  refine i_get X F 3 rfl rfl fk_X4_57 dX4_postsVisited_9 (v := .int (nI n1)) (congrArg (fun z => some (Value.int z)) en1) ?_
  refine g_icmp_gt X dX4_postsVisited_12 (tgt := 30) (by decide) (fun q2 => ?_) (fun q2 => ?_)
  · skip
    have q2 : n1 < i4_3 := (nI_ltI (a := n1) (b := i4_3) (by omega) (by omega)).mp q2
    refine g_iload_n X dX4_postsVisited_30 rfl (j := 1) rfl ?_
    exact g_iret X hrt dX4_postsVisited_31 (by decide) (by decide) ⟨C, D, F, I, K, trivial⟩
  · skip
    have q2 : ¬ n1 < i4_3 := fun z => q2 ((nI_ltI (a := n1) (b := i4_3) (by omega) (by omega)).mpr z)
    refine g_iload_n X dX4_postsVisited_15 rfl (j := 1) rfl ?_
    refine g_aload_n X dX4_postsVisited_16 rfl (j := 2) rfl ?_
    refine g_iload_n X dX4_postsVisited_17 rfl (j := 3) rfl ?_
    refine g_iload_n X dX4_postsVisited_18 rfl (j := 0) rfl ?_
    refine g_callVI X (s_X4_postBit_25 l G F I p0 (by omega) (by omega) i4_3 (by omega) (by omega) ) lk_X4_141 (F.1 25 rfl).2 (F.1 25 rfl).1 rfl rfl dX4_postsVisited_19 (Nat.le_of_ble_eq_true rfl) ⟨by decide, by decide⟩ ⟨by decide, by decide⟩ (fun r3 L M hp => ?_)
    obtain ⟨C, D, F, I, K1, hr⟩ := hp
    have K := K.step K1 (by decide)
    refine g_ior X dX4_postsVisited_22 ?_
    refine Go.gen (fun o4 => ?_)
    refine g_istore_n X dX4_postsVisited_23 rfl (by decide) (lv2 := [(2, .int o4), (3, .int (nI i4_3)), (0, .ref (a 25)), (1, .int (nI p0))]) rfl ?_
    refine g_iinc X dX4_postsVisited_24 (j := 1) rfl (v := nI (i4_3 + 1)) (nI_1 i4_3) (by decide) (lv2 := [(3, .int (nI (i4_3 + 1))), (2, .int o4), (0, .ref (a 25)), (1, .int (nI p0))]) rfl ?_
    refine g_goto X dX4_postsVisited_27 (tgt := 4) (by decide) ?_
    refine g_lv [0, 1, 2, 3] (lv2 := [(3, .int (nI (i4_3 + 1))), (2, .int o4), (0, .ref (a 25)), (1, .int (nI p0))]) rfl ?_
    exact ih4 ((i4_3 + 1), o4) L M C D F I K ⟨by omega, by omega⟩ (by show _ < _; omega)
set_option maxHeartbeats 4000000 in
set_option maxRecDepth 100000 in
theorem s_X4_timesReturned_25 (l : Launch) (G : va_G) {cy : Nat → ClassId} {L : List Nat} {M : Nat → va_E} {a : Nat → Nat} {act : Nat → Bool} {C0 : Nat → Nat → Int32} {D0 : Nat → Nat → Int64} {R : Nat → Nat → Option Nat} (F : WI L M a act (ent cy a C0 D0 R)) (I : Inv C0) (p0 : Nat) (hp0a : 0 ≤ p0) (hp0b : p0 ≤ 7)  : MI l G cy yX4_timesReturned cX4_timesReturned 6 (some .int) 2 0 0 [.ref (a 25), .int (nI p0)] L M (fun r L2 M2 => ∃ C2 D2, WI L2 M2 a act (ent cy a C2 D2 R) ∧ Inv C2 ∧ Kp [] C0 D0 C2 D2 ∧ True) := by
  refine MI.of (own := RX4) rfl (by decide) (Nat.le_of_ble_eq_true rfl) ?_
  intro p e s m below meth c A X hrt hnm
  obtain ⟨C, D, hC0, hD0, F, I, K⟩ : ∃ C D, C = C0 ∧ D = D0 ∧ WI L M a act (ent cy a C D R) ∧ Inv C ∧ Kp [] C0 D0 C D := ⟨C0, D0, rfl, rfl, F, I, Kp.rf⟩
  refine g_iconst X dX4_timesReturned_0 (v := 0) (by decide) ?_
  refine g_istore_n X dX4_timesReturned_1 rfl (by decide) (lv2 := [(2, .int 0), (0, .ref (a 25)), (1, .int (nI p0))]) rfl ?_
  refine g_aload_n X dX4_timesReturned_2 rfl (j := 1) rfl ?_
  refine g_iload_n X dX4_timesReturned_3 rfl (j := 2) rfl ?_
  refine g_iconst X dX4_timesReturned_4 (v := 0) (by decide) ?_
  refine g_callVI X (s_X4_postBit_25 l G F I p0 (by omega) (by omega) 0 (by omega) (by omega) ) lk_X4_141 (F.1 25 rfl).2 (F.1 25 rfl).1 rfl rfl dX4_timesReturned_5 (Nat.le_of_ble_eq_true rfl) ⟨by decide, by decide⟩ ⟨by decide, by decide⟩ (fun r1 L M hp => ?_)
  obtain ⟨C, D, F, I, K1, hr⟩ := hp
  have K := K.step K1 (by decide)
  refine g_istore_n X dX4_timesReturned_8 rfl (by decide) (lv2 := [(3, .int r1), (2, .int 0), (0, .ref (a 25)), (1, .int (nI p0))]) rfl ?_
  refine g_iconst X dX4_timesReturned_9 (v := 1) (by decide) ?_
  refine g_istore X dX4_timesReturned_10 (by decide) (lv2 := [(4, .int 1), (3, .int r1), (2, .int 0), (0, .ref (a 25)), (1, .int (nI p0))]) rfl ?_
  refine g_lv [0, 2, 1, 3, 4] (lv2 := [(4, .int 1), (2, .int 0), (3, .int r1), (0, .ref (a 25)), (1, .int (nI p0))]) rfl ?_
  refine i_loop (mods := []) (fun x : Nat × Int32 × Int32 => 17 - x.1) (fun x => [(4, .int (nI (x.1))), (2, .int (x.2.1)), (3, .int (x.2.2)), (0, .ref (a 25)), (1, .int (nI p0))]) (fun x C => 1 ≤ x.1 ∧ x.1 ≤ 17) (fun x L M C D F I K hP ih12 => ?_) ((1, 0, r1) : Nat × Int32 × Int32) F I K ⟨by show _ ≤ _; omega, by show _ ≤ _; omega⟩
  rcases x with ⟨i12_4, v12_2, v12_3⟩
  obtain ⟨hi12_4a, hi12_4b⟩ := hP
  refine g_lv [0, 1, 2, 3, 4] (lv2 := [(4, .int (nI i12_4)), (2, .int v12_2), (3, .int v12_3), (0, .ref (a 25)), (1, .int (nI p0))]) rfl ?_
  refine g_iload X dX4_timesReturned_12 (j := 0) rfl ?_
  refine g_aload_n X dX4_timesReturned_14 rfl (j := 3) rfl ?_
  refine i_get X F 25 rfl rfl fk_X4_37 dX4_timesReturned_15 rfl ?_
  obtain ⟨n2, hn2, en2⟩ := rg_nat ((I 3 1).1 rfl) (by decide)
  refine i_get X F 3 rfl rfl fk_X4_57 dX4_timesReturned_18 (v := .int (nI n2)) (congrArg (fun z => some (Value.int z)) en2) ?_
  refine g_icmp_gt X dX4_timesReturned_21 (tgt := 68) (by decide) (fun q3 => ?_) (fun q3 => ?_)
  · skip
    have q3 : n2 < i12_4 := (nI_ltI (a := n2) (b := i12_4) (by omega) (by omega)).mp q3
    refine g_iload_n X dX4_timesReturned_68 rfl (j := 1) rfl ?_
    exact g_iret X hrt dX4_timesReturned_69 (by decide) (by decide) ⟨C, D, F, I, K, trivial⟩
  · skip
    have q3 : ¬ n2 < i12_4 := fun z => q3 ((nI_ltI (a := n2) (b := i12_4) (by omega) (by omega)).mpr z)
    refine g_aload_n X dX4_timesReturned_24 rfl (j := 3) rfl ?_
    refine g_iload_n X dX4_timesReturned_25 rfl (j := 4) rfl ?_
    refine g_iload X dX4_timesReturned_26 (j := 0) rfl ?_
    refine g_callVI X (s_X4_postBit_25 l G F I p0 (by omega) (by omega) i12_4 (by omega) (by omega) ) lk_X4_141 (F.1 25 rfl).2 (F.1 25 rfl).1 rfl rfl dX4_timesReturned_28 (Nat.le_of_ble_eq_true rfl) ⟨by decide, by decide⟩ ⟨by decide, by decide⟩ (fun r4 L M hp => ?_)
    obtain ⟨C, D, F, I, K1, hr⟩ := hp
    have K := K.step K1 (by decide)
    refine g_istore X dX4_timesReturned_31 (by decide) (lv2 := [(5, .int r4), (4, .int (nI i12_4)), (2, .int v12_2), (3, .int v12_3), (0, .ref (a 25)), (1, .int (nI p0))]) rfl ?_
    refine g_iload_n X dX4_timesReturned_33 rfl (j := 3) rfl ?_
    refine g_iload X dX4_timesReturned_34 (j := 0) rfl ?_
    refine g_iand X dX4_timesReturned_36 ?_
    refine Go.gen (fun o5 => ?_)
    refine g_if_eq X dX4_timesReturned_37 (tgt := 57) (by decide) (fun q6 => ?_) (fun q6 => ?_)
    · skip
      subst q6
      refine g_iload_n X dX4_timesReturned_57 rfl (j := 3) rfl ?_
      refine g_iload X dX4_timesReturned_58 (j := 0) rfl ?_
      refine g_ior X dX4_timesReturned_60 ?_
      refine Go.gen (fun o7 => ?_)
      refine g_istore_n X dX4_timesReturned_61 rfl (by decide) (lv2 := [(3, .int o7), (5, .int r4), (4, .int (nI i12_4)), (2, .int v12_2), (0, .ref (a 25)), (1, .int (nI p0))]) rfl ?_
      refine g_iinc X dX4_timesReturned_62 (j := 2) rfl (v := nI (i12_4 + 1)) (nI_1 i12_4) (by decide) (lv2 := [(4, .int (nI (i12_4 + 1))), (3, .int o7), (5, .int r4), (2, .int v12_2), (0, .ref (a 25)), (1, .int (nI p0))]) rfl ?_
      refine g_goto X dX4_timesReturned_65 (tgt := 12) (by decide) ?_
      refine g_lv [0, 3, 1, 4, 5] (lv2 := [(4, .int (nI (i12_4 + 1))), (2, .int v12_2), (3, .int o7), (0, .ref (a 25)), (1, .int (nI p0))]) rfl ?_
      exact ih12 ((i12_4 + 1), v12_2, o7) L M C D F I K ⟨by omega, by omega⟩ (by show _ < _; omega)
    · skip
      refine g_iload X dX4_timesReturned_40 (j := 0) rfl ?_
      refine g_aload_n X dX4_timesReturned_42 rfl (j := 4) rfl ?_
      refine g_iload_n X dX4_timesReturned_43 rfl (j := 5) rfl ?_
      refine g_iload X dX4_timesReturned_44 (j := 1) rfl ?_
      refine g_iconst X dX4_timesReturned_46 (v := 1) (by decide) ?_
      refine g_isub X dX4_timesReturned_47 ?_
      refine Go.top (v := .int (nI (i12_4 - 1))) (congrArg Value.int (pk_sub (a := i12_4) (b := 1) (by omega))) ?_
      refine g_callVI X (s_X4_postBit_25 l G F I p0 (by omega) (by omega) (i12_4 - 1) (by omega) (by omega) ) lk_X4_141 (F.1 25 rfl).2 (F.1 25 rfl).1 rfl rfl dX4_timesReturned_48 (Nat.le_of_ble_eq_true rfl) ⟨by decide, by decide⟩ ⟨by decide, by decide⟩ (fun r8 L M hp => ?_)
      obtain ⟨C, D, F, I, K1, hr⟩ := hp
      have K := K.step K1 (by decide)
      refine g_icmp_eq X dX4_timesReturned_51 (tgt := 57) (by decide) (fun q9 => ?_) (fun q9 => ?_)
      · skip
        refine g_iload_n X dX4_timesReturned_57 rfl (j := 3) rfl ?_
        refine g_iload X dX4_timesReturned_58 (j := 0) rfl ?_
        refine g_ior X dX4_timesReturned_60 ?_
        refine Go.gen (fun o10 => ?_)
        refine g_istore_n X dX4_timesReturned_61 rfl (by decide) (lv2 := [(3, .int o10), (5, .int r4), (4, .int (nI i12_4)), (2, .int v12_2), (0, .ref (a 25)), (1, .int (nI p0))]) rfl ?_
        refine g_iinc X dX4_timesReturned_62 (j := 2) rfl (v := nI (i12_4 + 1)) (nI_1 i12_4) (by decide) (lv2 := [(4, .int (nI (i12_4 + 1))), (3, .int o10), (5, .int r4), (2, .int v12_2), (0, .ref (a 25)), (1, .int (nI p0))]) rfl ?_
        refine g_goto X dX4_timesReturned_65 (tgt := 12) (by decide) ?_
        refine g_lv [0, 3, 1, 4, 5] (lv2 := [(4, .int (nI (i12_4 + 1))), (2, .int v12_2), (3, .int o10), (0, .ref (a 25)), (1, .int (nI p0))]) rfl ?_
        exact ih12 ((i12_4 + 1), v12_2, o10) L M C D F I K ⟨by omega, by omega⟩ (by show _ < _; omega)
      · skip
        refine g_iinc X dX4_timesReturned_54 (j := 2) rfl (v := (v12_2 + 1)) rfl (by decide) (lv2 := [(2, .int ((v12_2 + 1))), (5, .int r4), (4, .int (nI i12_4)), (3, .int v12_3), (0, .ref (a 25)), (1, .int (nI p0))]) rfl ?_
        refine g_iload_n X dX4_timesReturned_57 rfl (j := 3) rfl ?_
        refine g_iload X dX4_timesReturned_58 (j := 1) rfl ?_
        refine g_ior X dX4_timesReturned_60 ?_
        refine Go.gen (fun o11 => ?_)
        refine g_istore_n X dX4_timesReturned_61 rfl (by decide) (lv2 := [(3, .int o11), (2, .int ((v12_2 + 1))), (5, .int r4), (4, .int (nI i12_4)), (0, .ref (a 25)), (1, .int (nI p0))]) rfl ?_
        refine g_iinc X dX4_timesReturned_62 (j := 3) rfl (v := nI (i12_4 + 1)) (nI_1 i12_4) (by decide) (lv2 := [(4, .int (nI (i12_4 + 1))), (3, .int o11), (2, .int ((v12_2 + 1))), (5, .int r4), (0, .ref (a 25)), (1, .int (nI p0))]) rfl ?_
        refine g_goto X dX4_timesReturned_65 (tgt := 12) (by decide) ?_
        refine g_lv [0, 2, 1, 4, 5] (lv2 := [(4, .int (nI (i12_4 + 1))), (2, .int ((v12_2 + 1))), (3, .int o11), (0, .ref (a 25)), (1, .int (nI p0))]) rfl ?_
        exact ih12 ((i12_4 + 1), (v12_2 + 1), o11) L M C D F I K ⟨by omega, by omega⟩ (by show _ < _; omega)
set_option maxHeartbeats 4000000 in
set_option maxRecDepth 100000 in
theorem s_X4_hoursLingered_25 (l : Launch) (G : va_G) {cy : Nat → ClassId} {L : List Nat} {M : Nat → va_E} {a : Nat → Nat} {act : Nat → Bool} {C0 : Nat → Nat → Int32} {D0 : Nat → Nat → Int64} {R : Nat → Nat → Option Nat} (F : WI L M a act (ent cy a C0 D0 R)) (I : Inv C0) (p0 : Nat) (hp0a : 0 ≤ p0) (hp0b : p0 ≤ 7)  : MI l G cy yX4_hoursLingered cX4_hoursLingered 5 (some .int) 2 0 0 [.ref (a 25), .int (nI p0)] L M (fun r L2 M2 => ∃ C2 D2, WI L2 M2 a act (ent cy a C2 D2 R) ∧ Inv C2 ∧ Kp [] C0 D0 C2 D2 ∧ True) := by
  refine MI.of (own := RX4) rfl (by decide) (Nat.le_of_ble_eq_true rfl) ?_
  intro p e s m below meth c A X hrt hnm
  obtain ⟨C, D, hC0, hD0, F, I, K⟩ : ∃ C D, C = C0 ∧ D = D0 ∧ WI L M a act (ent cy a C D R) ∧ Inv C ∧ Kp [] C0 D0 C D := ⟨C0, D0, rfl, rfl, F, I, Kp.rf⟩
  refine g_iconst X dX4_hoursLingered_0 (v := 0) (by decide) ?_
  refine g_istore_n X dX4_hoursLingered_1 rfl (by decide) (lv2 := [(2, .int 0), (0, .ref (a 25)), (1, .int (nI p0))]) rfl ?_
  refine g_iconst X dX4_hoursLingered_2 (v := 1) (by decide) ?_
  refine g_istore_n X dX4_hoursLingered_3 rfl (by decide) (lv2 := [(3, .int 1), (2, .int 0), (0, .ref (a 25)), (1, .int (nI p0))]) rfl ?_
  refine g_lv [0, 1, 2, 3] (lv2 := [(3, .int 1), (2, .int 0), (0, .ref (a 25)), (1, .int (nI p0))]) rfl ?_
  refine i_loop (mods := []) (fun x : Nat × Int32 => 17 - x.1) (fun x => [(3, .int (nI (x.1))), (2, .int (x.2)), (0, .ref (a 25)), (1, .int (nI p0))]) (fun x C => 1 ≤ x.1 ∧ x.1 ≤ 17) (fun x L M C D F I K hP ih4 => ?_) ((1, 0) : Nat × Int32) F I K ⟨by show _ ≤ _; omega, by show _ ≤ _; omega⟩
  rcases x with ⟨i4_3, v4_2⟩
  obtain ⟨hi4_3a, hi4_3b⟩ := hP
  refine g_lv [0, 1, 2, 3] (lv2 := [(3, .int (nI i4_3)), (2, .int v4_2), (0, .ref (a 25)), (1, .int (nI p0))]) rfl ?_
  refine g_iload_n X dX4_hoursLingered_4 rfl (j := 0) rfl ?_
  refine g_aload_n X dX4_hoursLingered_5 rfl (j := 2) rfl ?_
  refine i_get X F 25 rfl rfl fk_X4_37 dX4_hoursLingered_6 rfl ?_
  obtain ⟨n1, hn1, en1⟩ := rg_nat ((I 3 1).1 rfl) (by decide)
  refine i_get X F 3 rfl rfl fk_X4_57 dX4_hoursLingered_9 (v := .int (nI n1)) (congrArg (fun z => some (Value.int z)) en1) ?_
  refine g_icmp_gt X dX4_hoursLingered_12 (tgt := 50) (by decide) (fun q2 => ?_) (fun q2 => ?_)
  · skip
    have q2 : n1 < i4_3 := (nI_ltI (a := n1) (b := i4_3) (by omega) (by omega)).mp q2
    refine g_iload_n X dX4_hoursLingered_50 rfl (j := 1) rfl ?_
    exact g_iret X hrt dX4_hoursLingered_51 (by decide) (by decide) ⟨C, D, F, I, K, trivial⟩
  · skip
    have q2 : ¬ n1 < i4_3 := fun z => q2 ((nI_ltI (a := n1) (b := i4_3) (by omega) (by omega)).mpr z)
    refine g_aload_n X dX4_hoursLingered_15 rfl (j := 2) rfl ?_
    refine g_iload_n X dX4_hoursLingered_16 rfl (j := 3) rfl ?_
    refine g_iload_n X dX4_hoursLingered_17 rfl (j := 0) rfl ?_
    refine g_callVI X (s_X4_postBit_25 l G F I p0 (by omega) (by omega) i4_3 (by omega) (by omega) ) lk_X4_141 (F.1 25 rfl).2 (F.1 25 rfl).1 rfl rfl dX4_hoursLingered_18 (Nat.le_of_ble_eq_true rfl) ⟨by decide, by decide⟩ ⟨by decide, by decide⟩ (fun r3 L M hp => ?_)
    obtain ⟨C, D, F, I, K1, hr⟩ := hp
    have K := K.step K1 (by decide)
    refine g_istore X dX4_hoursLingered_21 (by decide) (lv2 := [(4, .int r3), (3, .int (nI i4_3)), (2, .int v4_2), (0, .ref (a 25)), (1, .int (nI p0))]) rfl ?_
    refine g_iload X dX4_hoursLingered_23 (j := 0) rfl ?_
    refine g_if_eq X dX4_hoursLingered_25 (tgt := 44) (by decide) (fun q4 => ?_) (fun q4 => ?_)
    · skip
      subst q4
      refine g_iinc X dX4_hoursLingered_44 (j := 1) rfl (v := nI (i4_3 + 1)) (nI_1 i4_3) (by decide) (lv2 := [(3, .int (nI (i4_3 + 1))), (4, .int 0), (2, .int v4_2), (0, .ref (a 25)), (1, .int (nI p0))]) rfl ?_
      refine g_goto X dX4_hoursLingered_47 (tgt := 4) (by decide) ?_
      refine g_lv [0, 2, 3, 4] (lv2 := [(3, .int (nI (i4_3 + 1))), (2, .int v4_2), (0, .ref (a 25)), (1, .int (nI p0))]) rfl ?_
      exact ih4 ((i4_3 + 1), v4_2) L M C D F I K ⟨by omega, by omega⟩ (by show _ < _; omega)
    · skip
      refine g_iload X dX4_hoursLingered_28 (j := 0) rfl ?_
      refine g_aload_n X dX4_hoursLingered_30 rfl (j := 3) rfl ?_
      refine g_iload_n X dX4_hoursLingered_31 rfl (j := 4) rfl ?_
      refine g_iload_n X dX4_hoursLingered_32 rfl (j := 1) rfl ?_
      refine g_iconst X dX4_hoursLingered_33 (v := 1) (by decide) ?_
      refine g_isub X dX4_hoursLingered_34 ?_
      refine Go.top (v := .int (nI (i4_3 - 1))) (congrArg Value.int (pk_sub (a := i4_3) (b := 1) (by omega))) ?_
      refine g_callVI X (s_X4_postBit_25 l G F I p0 (by omega) (by omega) (i4_3 - 1) (by omega) (by omega) ) lk_X4_141 (F.1 25 rfl).2 (F.1 25 rfl).1 rfl rfl dX4_hoursLingered_35 (Nat.le_of_ble_eq_true rfl) ⟨by decide, by decide⟩ ⟨by decide, by decide⟩ (fun r5 L M hp => ?_)
      obtain ⟨C, D, F, I, K1, hr⟩ := hp
      have K := K.step K1 (by decide)
      refine g_icmp_ne X dX4_hoursLingered_38 (tgt := 44) (by decide) (fun q6 => ?_) (fun q6 => ?_)
      · skip
        refine g_iinc X dX4_hoursLingered_44 (j := 1) rfl (v := nI (i4_3 + 1)) (nI_1 i4_3) (by decide) (lv2 := [(3, .int (nI (i4_3 + 1))), (4, .int r3), (2, .int v4_2), (0, .ref (a 25)), (1, .int (nI p0))]) rfl ?_
        refine g_goto X dX4_hoursLingered_47 (tgt := 4) (by decide) ?_
        refine g_lv [0, 2, 3, 4] (lv2 := [(3, .int (nI (i4_3 + 1))), (2, .int v4_2), (0, .ref (a 25)), (1, .int (nI p0))]) rfl ?_
        exact ih4 ((i4_3 + 1), v4_2) L M C D F I K ⟨by omega, by omega⟩ (by show _ < _; omega)
      · skip
        refine g_iinc X dX4_hoursLingered_41 (j := 2) rfl (v := (v4_2 + 1)) rfl (by decide) (lv2 := [(2, .int ((v4_2 + 1))), (4, .int r3), (3, .int (nI i4_3)), (0, .ref (a 25)), (1, .int (nI p0))]) rfl ?_
        refine g_iinc X dX4_hoursLingered_44 (j := 2) rfl (v := nI (i4_3 + 1)) (nI_1 i4_3) (by decide) (lv2 := [(3, .int (nI (i4_3 + 1))), (2, .int ((v4_2 + 1))), (4, .int r3), (0, .ref (a 25)), (1, .int (nI p0))]) rfl ?_
        refine g_goto X dX4_hoursLingered_47 (tgt := 4) (by decide) ?_
        refine g_lv [0, 1, 3, 4] (lv2 := [(3, .int (nI (i4_3 + 1))), (2, .int ((v4_2 + 1))), (0, .ref (a 25)), (1, .int (nI p0))]) rfl ?_
        exact ih4 ((i4_3 + 1), (v4_2 + 1)) L M C D F I K ⟨by omega, by omega⟩ (by show _ < _; omega)
set_option maxHeartbeats 4000000 in
set_option maxRecDepth 100000 in
theorem s_X4_guestsIn_25 (l : Launch) (G : va_G) {cy : Nat → ClassId} {L : List Nat} {M : Nat → va_E} {a : Nat → Nat} {act : Nat → Bool} {C0 : Nat → Nat → Int32} {D0 : Nat → Nat → Int64} {R : Nat → Nat → Option Nat} (F : WI L M a act (ent cy a C0 D0 R)) (I : Inv C0) (p0 : Nat) (hp0a : 0 ≤ p0) (hp0b : p0 ≤ 3) (p1 : Nat) (hp1a : 0 ≤ p1) (hp1b : p1 ≤ 16)  : MI l G cy yX4_guestsIn cX4_guestsIn 3 (some .int) 2 0 0 [.ref (a 25), .int (nI p0), .int (nI p1)] L M (fun r L2 M2 => ∃ C2 D2, WI L2 M2 a act (ent cy a C2 D2 R) ∧ Inv C2 ∧ Kp [] C0 D0 C2 D2 ∧ True) := by
  refine MI.of (own := RX4) rfl (by decide) (Nat.le_of_ble_eq_true rfl) ?_
  intro p e s m below meth c A X hrt hnm
  obtain ⟨C, D, hC0, hD0, F, I, K⟩ : ∃ C D, C = C0 ∧ D = D0 ∧ WI L M a act (ent cy a C D R) ∧ Inv C ∧ Kp [] C0 D0 C D := ⟨C0, D0, rfl, rfl, F, I, Kp.rf⟩
  refine g_aload_n X dX4_guestsIn_0 rfl (j := 0) rfl ?_
  refine g_bipush X dX4_guestsIn_1 (v := 10) (by decide) ?_
  refine g_iload_n X dX4_guestsIn_3 rfl (j := 1) rfl ?_
  refine g_iadd X dX4_guestsIn_4 ?_
  refine Go.top (v := .int (nI (10 + p0))) (congrArg Value.int (nI_add 10 p0)) ?_
  refine g_iload_n X dX4_guestsIn_5 rfl (j := 2) rfl ?_
  refine g_callVI X (s_X4_walkersAt_25 l G F I (nI (10 + p0)) p1 (by omega) (by omega) ) lk_X4_144 (F.1 25 rfl).2 (F.1 25 rfl).1 rfl rfl dX4_guestsIn_6 (Nat.le_of_ble_eq_true rfl) ⟨by decide, by decide⟩ ⟨by decide, by decide⟩ (fun r1 L M hp => ?_)
  obtain ⟨C, D, F, I, K1, hr⟩ := hp
  have K := K.step K1 (by decide)
  refine g_callSI X (s_J6_bitCount_0f7a4 l G F I r1 ) lk_X4_147 rfl rfl dX4_guestsIn_9 (Nat.le_of_ble_eq_true rfl) ⟨by decide, by decide⟩ ⟨by decide, by decide⟩ (fun r2 L M hp => ?_)
  obtain ⟨C, D, F, I, K1, hr⟩ := hp
  have K := K.step K1 (by decide)
  have hbcr2 := hr
  exact g_iret X hrt dX4_guestsIn_12 (by decide) (by decide) ⟨C, D, F, I, K, trivial⟩
set_option maxHeartbeats 4000000 in
set_option maxRecDepth 100000 in
theorem s_X4_firstHourFull_25 (l : Launch) (G : va_G) {cy : Nat → ClassId} {L : List Nat} {M : Nat → va_E} {a : Nat → Nat} {act : Nat → Bool} {C0 : Nat → Nat → Int32} {D0 : Nat → Nat → Int64} {R : Nat → Nat → Option Nat} (F : WI L M a act (ent cy a C0 D0 R)) (I : Inv C0) (p0 : Nat) (hp0a : 0 ≤ p0) (hp0b : p0 ≤ 3)  : MI l G cy yX4_firstHourFull cX4_firstHourFull 3 (some .int) 3 0 0 [.ref (a 25), .int (nI p0)] L M (fun r L2 M2 => ∃ C2 D2, WI L2 M2 a act (ent cy a C2 D2 R) ∧ Inv C2 ∧ Kp [] C0 D0 C2 D2 ∧ True) := by
  refine MI.of (own := RX4) rfl (by decide) (Nat.le_of_ble_eq_true rfl) ?_
  intro p e s m below meth c A X hrt hnm
  obtain ⟨C, D, hC0, hD0, F, I, K⟩ : ∃ C D, C = C0 ∧ D = D0 ∧ WI L M a act (ent cy a C D R) ∧ Inv C ∧ Kp [] C0 D0 C D := ⟨C0, D0, rfl, rfl, F, I, Kp.rf⟩
  refine g_iconst X dX4_firstHourFull_0 (v := 0) (by decide) ?_
  refine g_istore_n X dX4_firstHourFull_1 rfl (by decide) (lv2 := [(2, .int 0), (0, .ref (a 25)), (1, .int (nI p0))]) rfl ?_
  refine g_lv [0, 1, 2] (lv2 := [(2, .int 0), (0, .ref (a 25)), (1, .int (nI p0))]) rfl ?_
  refine i_loop (mods := []) (fun x : Nat => 17 - x) (fun x => [(2, .int (nI (x))), (0, .ref (a 25)), (1, .int (nI p0))]) (fun x C => 0 ≤ x ∧ x ≤ 17) (fun x L M C D F I K hP ih2 => ?_) ((0) : Nat) F I K ⟨by show _ ≤ _; omega, by show _ ≤ _; omega⟩
  obtain ⟨i2_2, rfl⟩ : ∃ z, z = x := ⟨_, rfl⟩
  obtain ⟨hi2_2a, hi2_2b⟩ := hP
  refine g_lv [0, 1, 2] (lv2 := [(2, .int (nI i2_2)), (0, .ref (a 25)), (1, .int (nI p0))]) rfl ?_
  refine g_iload_n X dX4_firstHourFull_2 rfl (j := 0) rfl ?_
  refine g_aload_n X dX4_firstHourFull_3 rfl (j := 1) rfl ?_
  refine i_get X F 25 rfl rfl fk_X4_37 dX4_firstHourFull_4 rfl ?_
  obtain ⟨n1, hn1, en1⟩ := rg_nat ((I 3 1).1 rfl) (by decide)
  refine i_get X F 3 rfl rfl fk_X4_57 dX4_firstHourFull_7 (v := .int (nI n1)) (congrArg (fun z => some (Value.int z)) en1) ?_
  refine g_icmp_gt X dX4_firstHourFull_10 (tgt := 39) (by decide) (fun q2 => ?_) (fun q2 => ?_)
  · skip
    have q2 : n1 < i2_2 := (nI_ltI (a := n1) (b := i2_2) (by omega) (by omega)).mp q2
    refine g_iconst X dX4_firstHourFull_39 (v := -1) (by decide) ?_
    exact g_iret X hrt dX4_firstHourFull_40 (by decide) (by decide) ⟨C, D, F, I, K, trivial⟩
  · skip
    have q2 : ¬ n1 < i2_2 := fun z => q2 ((nI_ltI (a := n1) (b := i2_2) (by omega) (by omega)).mpr z)
    refine g_aload_n X dX4_firstHourFull_13 rfl (j := 1) rfl ?_
    refine g_iload_n X dX4_firstHourFull_14 rfl (j := 2) rfl ?_
    refine g_iload_n X dX4_firstHourFull_15 rfl (j := 0) rfl ?_
    refine g_callVI X (s_X4_guestsIn_25 l G F I p0 (by omega) (by omega) i2_2 (by omega) (by omega) ) lk_X4_153 (F.1 25 rfl).2 (F.1 25 rfl).1 rfl rfl dX4_firstHourFull_16 (Nat.le_of_ble_eq_true rfl) ⟨by decide, by decide⟩ ⟨by decide, by decide⟩ (fun r3 L M hp => ?_)
    obtain ⟨C, D, F, I, K1, hr⟩ := hp
    have K := K.step K1 (by decide)
    refine g_aload_n X dX4_firstHourFull_19 rfl (j := 1) rfl ?_
    refine i_get X F 25 rfl rfl fk_X4_37 dX4_firstHourFull_20 rfl ?_
    refine i_get X F 3 rfl rfl fk_X4_129 dX4_firstHourFull_23 rfl ?_
    refine g_iload_n X dX4_firstHourFull_26 rfl (j := 2) rfl ?_
    refine i_iald X F 4 rfl rfl dX4_firstHourFull_27 (vp_in_nI (by omega) (by decide)) rfl ?_
    refine Go.gen (fun o4 => ?_)
    refine g_icmp_lt X dX4_firstHourFull_28 (tgt := 33) (by decide) (fun q5 => ?_) (fun q5 => ?_)
    · skip
      refine g_iinc X dX4_firstHourFull_33 (j := 0) rfl (v := nI (i2_2 + 1)) (nI_1 i2_2) (by decide) (lv2 := [(2, .int (nI (i2_2 + 1))), (0, .ref (a 25)), (1, .int (nI p0))]) rfl ?_
      refine g_goto X dX4_firstHourFull_36 (tgt := 2) (by decide) ?_
      refine g_lv [0, 1, 2] (lv2 := [(2, .int (nI (i2_2 + 1))), (0, .ref (a 25)), (1, .int (nI p0))]) rfl ?_
      exact ih2 ((i2_2 + 1)) L M C D F I K ⟨by omega, by omega⟩ (by show _ < _; omega)
    · skip
      refine g_iload_n X dX4_firstHourFull_31 rfl (j := 0) rfl ?_
      exact g_iret X hrt dX4_firstHourFull_32 (by decide) (by decide) ⟨C, D, F, I, K, trivial⟩
set_option maxHeartbeats 4000000 in
set_option maxRecDepth 100000 in
theorem s_X4_firstHourAllInside_25 (l : Launch) (G : va_G) {cy : Nat → ClassId} {L : List Nat} {M : Nat → va_E} {a : Nat → Nat} {act : Nat → Bool} {C0 : Nat → Nat → Int32} {D0 : Nat → Nat → Int64} {R : Nat → Nat → Option Nat} (F : WI L M a act (ent cy a C0 D0 R)) (I : Inv C0)   : MI l G cy yX4_firstHourAllInside cX4_firstHourAllInside 3 (some .int) 2 0 0 [.ref (a 25)] L M (fun r L2 M2 => ∃ C2 D2, WI L2 M2 a act (ent cy a C2 D2 R) ∧ Inv C2 ∧ Kp [] C0 D0 C2 D2 ∧ True) := by
  refine MI.of (own := RX4) rfl (by decide) (Nat.le_of_ble_eq_true rfl) ?_
  intro p e s m below meth c A X hrt hnm
  obtain ⟨C, D, hC0, hD0, F, I, K⟩ : ∃ C D, C = C0 ∧ D = D0 ∧ WI L M a act (ent cy a C D R) ∧ Inv C ∧ Kp [] C0 D0 C D := ⟨C0, D0, rfl, rfl, F, I, Kp.rf⟩
  refine g_iconst X dX4_firstHourAllInside_0 (v := 1) (by decide) ?_
  refine g_aload_n X dX4_firstHourAllInside_1 rfl (j := 0) rfl ?_
  refine i_get X F 25 rfl rfl fk_X4_37 dX4_firstHourAllInside_2 rfl ?_
  obtain ⟨n1, hn1, en1⟩ := rg_nat ((I 3 8).2.2.2 rfl) (by decide)
  refine i_get X F 3 rfl rfl fk_X4_64 dX4_firstHourAllInside_5 (v := .int (nI n1)) (congrArg (fun z => some (Value.int z)) en1) ?_
  refine g_ishl X dX4_firstHourAllInside_8 ?_
  refine Go.gen (fun o2 => ?_)
  refine g_iconst X dX4_firstHourAllInside_9 (v := 1) (by decide) ?_
  refine g_isub X dX4_firstHourAllInside_10 ?_
  refine Go.gen (fun o3 => ?_)
  refine g_istore_n X dX4_firstHourAllInside_11 rfl (by decide) (lv2 := [(1, .int o3), (0, .ref (a 25))]) rfl ?_
  refine g_iconst X dX4_firstHourAllInside_12 (v := 0) (by decide) ?_
  refine g_istore_n X dX4_firstHourAllInside_13 rfl (by decide) (lv2 := [(2, .int 0), (1, .int o3), (0, .ref (a 25))]) rfl ?_
  refine g_lv [0, 1, 2] (lv2 := [(2, .int 0), (1, .int o3), (0, .ref (a 25))]) rfl ?_
  refine i_loop (mods := []) (fun x : Nat => 17 - x) (fun x => [(2, .int (nI (x))), (1, .int o3), (0, .ref (a 25))]) (fun x C => 0 ≤ x ∧ x ≤ 17) (fun x L M C D F I K hP ih14 => ?_) ((0) : Nat) F I K ⟨by show _ ≤ _; omega, by show _ ≤ _; omega⟩
  obtain ⟨i14_2, rfl⟩ : ∃ z, z = x := ⟨_, rfl⟩
  obtain ⟨hi14_2a, hi14_2b⟩ := hP
  refine g_lv [0, 1, 2] (lv2 := [(2, .int (nI i14_2)), (1, .int o3), (0, .ref (a 25))]) rfl ?_
  refine g_iload_n X dX4_firstHourAllInside_14 rfl (j := 0) rfl ?_
  refine g_aload_n X dX4_firstHourAllInside_15 rfl (j := 2) rfl ?_
  refine i_get X F 25 rfl rfl fk_X4_37 dX4_firstHourAllInside_16 rfl ?_
  obtain ⟨n4, hn4, en4⟩ := rg_nat ((I 3 1).1 rfl) (by decide)
  refine i_get X F 3 rfl rfl fk_X4_57 dX4_firstHourAllInside_19 (v := .int (nI n4)) (congrArg (fun z => some (Value.int z)) en4) ?_
  refine g_icmp_gt X dX4_firstHourAllInside_22 (tgt := 46) (by decide) (fun q5 => ?_) (fun q5 => ?_)
  · skip
    have q5 : n4 < i14_2 := (nI_ltI (a := n4) (b := i14_2) (by omega) (by omega)).mp q5
    refine g_iconst X dX4_firstHourAllInside_46 (v := -1) (by decide) ?_
    exact g_iret X hrt dX4_firstHourAllInside_47 (by decide) (by decide) ⟨C, D, F, I, K, trivial⟩
  · skip
    have q5 : ¬ n4 < i14_2 := fun z => q5 ((nI_ltI (a := n4) (b := i14_2) (by omega) (by omega)).mpr z)
    refine g_iload_n X dX4_firstHourAllInside_25 rfl (j := 1) rfl ?_
    refine g_if_eq X dX4_firstHourAllInside_26 (tgt := 40) (by decide) (fun q6 => ?_) (fun q6 => ?_)
    · skip
      subst q6
      refine g_iinc X dX4_firstHourAllInside_40 (j := 0) rfl (v := nI (i14_2 + 1)) (nI_1 i14_2) (by decide) (lv2 := [(2, .int (nI (i14_2 + 1))), (1, .int 0), (0, .ref (a 25))]) rfl ?_
      refine g_goto X dX4_firstHourAllInside_43 (tgt := 14) (by decide) ?_
      refine g_lv [0, 1, 2] (lv2 := [(2, .int (nI (i14_2 + 1))), (1, .int 0), (0, .ref (a 25))]) rfl ?_
      exact ih14 ((i14_2 + 1)) L M C D F I K ⟨by omega, by omega⟩ (by show _ < _; omega)
    · skip
      refine g_aload_n X dX4_firstHourAllInside_29 rfl (j := 2) rfl ?_
      refine g_iload_n X dX4_firstHourAllInside_30 rfl (j := 0) rfl ?_
      refine g_callVI X (s_X4_walkersInside_25 l G F I i14_2 (by omega) (by omega) ) lk_X4_160 (F.1 25 rfl).2 (F.1 25 rfl).1 rfl rfl dX4_firstHourAllInside_31 (Nat.le_of_ble_eq_true rfl) ⟨by decide, by decide⟩ ⟨by decide, by decide⟩ (fun r7 L M hp => ?_)
      obtain ⟨C, D, F, I, K1, hr⟩ := hp
      have K := K.step K1 (by decide)
      refine g_iload_n X dX4_firstHourAllInside_34 rfl (j := 1) rfl ?_
      refine g_icmp_ne X dX4_firstHourAllInside_35 (tgt := 40) (by decide) (fun q8 => ?_) (fun q8 => ?_)
      · skip
        refine g_iinc X dX4_firstHourAllInside_40 (j := 0) rfl (v := nI (i14_2 + 1)) (nI_1 i14_2) (by decide) (lv2 := [(2, .int (nI (i14_2 + 1))), (1, .int o3), (0, .ref (a 25))]) rfl ?_
        refine g_goto X dX4_firstHourAllInside_43 (tgt := 14) (by decide) ?_
        refine g_lv [0, 1, 2] (lv2 := [(2, .int (nI (i14_2 + 1))), (1, .int o3), (0, .ref (a 25))]) rfl ?_
        exact ih14 ((i14_2 + 1)) L M C D F I K ⟨by omega, by omega⟩ (by show _ < _; omega)
      · skip
        refine g_iload_n X dX4_firstHourAllInside_38 rfl (j := 0) rfl ?_
        exact g_iret X hrt dX4_firstHourAllInside_39 (by decide) (by decide) ⟨C, D, F, I, K, trivial⟩
set_option maxHeartbeats 4000000 in
set_option maxRecDepth 100000 in
theorem s_X4_mostAtOnePost_25 (l : Launch) (G : va_G) {cy : Nat → ClassId} {L : List Nat} {M : Nat → va_E} {a : Nat → Nat} {act : Nat → Bool} {C0 : Nat → Nat → Int32} {D0 : Nat → Nat → Int64} {R : Nat → Nat → Option Nat} (F : WI L M a act (ent cy a C0 D0 R)) (I : Inv C0) (p0 : Nat) (hp0a : 0 ≤ p0) (hp0b : p0 ≤ 16)  : MI l G cy yX4_mostAtOnePost cX4_mostAtOnePost 4 (some .int) 2 0 0 [.ref (a 25), .int (nI p0)] L M (fun r L2 M2 => ∃ C2 D2, WI L2 M2 a act (ent cy a C2 D2 R) ∧ Inv C2 ∧ Kp [] C0 D0 C2 D2 ∧ True) := by
  refine MI.of (own := RX4) rfl (by decide) (Nat.le_of_ble_eq_true rfl) ?_
  intro p e s m below meth c A X hrt hnm
  obtain ⟨C, D, hC0, hD0, F, I, K⟩ : ∃ C D, C = C0 ∧ D = D0 ∧ WI L M a act (ent cy a C D R) ∧ Inv C ∧ Kp [] C0 D0 C D := ⟨C0, D0, rfl, rfl, F, I, Kp.rf⟩
  refine g_iconst X dX4_mostAtOnePost_0 (v := 0) (by decide) ?_
  refine g_istore_n X dX4_mostAtOnePost_1 rfl (by decide) (lv2 := [(2, .int 0), (0, .ref (a 25)), (1, .int (nI p0))]) rfl ?_
  refine g_iconst X dX4_mostAtOnePost_2 (v := 0) (by decide) ?_
  refine g_istore_n X dX4_mostAtOnePost_3 rfl (by decide) (lv2 := [(3, .int 0), (2, .int 0), (0, .ref (a 25)), (1, .int (nI p0))]) rfl ?_
  refine g_lv [0, 1, 2, 3] (lv2 := [(3, .int 0), (2, .int 0), (0, .ref (a 25)), (1, .int (nI p0))]) rfl ?_
  refine i_loop (mods := []) (fun x : Nat × Int32 => 7 - x.1) (fun x => [(3, .int (nI (x.1))), (2, .int (x.2)), (0, .ref (a 25)), (1, .int (nI p0))]) (fun x C => 0 ≤ x.1 ∧ x.1 ≤ 7) (fun x L M C D F I K hP ih4 => ?_) ((0, 0) : Nat × Int32) F I K ⟨by show _ ≤ _; omega, by show _ ≤ _; omega⟩
  rcases x with ⟨i4_3, v4_2⟩
  obtain ⟨hi4_3a, hi4_3b⟩ := hP
  refine g_lv [0, 1, 2, 3] (lv2 := [(3, .int (nI i4_3)), (2, .int v4_2), (0, .ref (a 25)), (1, .int (nI p0))]) rfl ?_
  refine g_iload_n X dX4_mostAtOnePost_4 rfl (j := 0) rfl ?_
  refine g_aload_n X dX4_mostAtOnePost_5 rfl (j := 2) rfl ?_
  refine i_get X F 25 rfl rfl fk_X4_37 dX4_mostAtOnePost_6 rfl ?_
  obtain ⟨n1, hn1, en1⟩ := rg_nat ((I 3 5).2.2.1 rfl) (by decide)
  refine i_get X F 3 rfl rfl fk_X4_87 dX4_mostAtOnePost_9 (v := .int (nI n1)) (congrArg (fun z => some (Value.int z)) en1) ?_
  refine g_icmp_ge X dX4_mostAtOnePost_12 (tgt := 35) (by decide) (fun q2 => ?_) (fun q2 => ?_)
  · skip
    have q2 : n1 ≤ i4_3 := (nI_leI (a := n1) (b := i4_3) (by omega) (by omega)).mp q2
    refine g_iload_n X dX4_mostAtOnePost_35 rfl (j := 1) rfl ?_
    exact g_iret X hrt dX4_mostAtOnePost_36 (by decide) (by decide) ⟨C, D, F, I, K, trivial⟩
  · skip
    have q2 : ¬ n1 ≤ i4_3 := fun z => q2 ((nI_leI (a := n1) (b := i4_3) (by omega) (by omega)).mpr z)
    refine g_iload_n X dX4_mostAtOnePost_15 rfl (j := 1) rfl ?_
    refine g_aload_n X dX4_mostAtOnePost_16 rfl (j := 2) rfl ?_
    refine g_iload_n X dX4_mostAtOnePost_17 rfl (j := 0) rfl ?_
    refine g_iload_n X dX4_mostAtOnePost_18 rfl (j := 3) rfl ?_
    refine g_callVI X (s_X4_walkersAt_25 l G F I (nI i4_3) p0 (by omega) (by omega) ) lk_X4_144 (F.1 25 rfl).2 (F.1 25 rfl).1 rfl rfl dX4_mostAtOnePost_19 (Nat.le_of_ble_eq_true rfl) ⟨by decide, by decide⟩ ⟨by decide, by decide⟩ (fun r3 L M hp => ?_)
    obtain ⟨C, D, F, I, K1, hr⟩ := hp
    have K := K.step K1 (by decide)
    refine g_callSI X (s_J6_bitCount_0f7a4 l G F I r3 ) lk_X4_147 rfl rfl dX4_mostAtOnePost_22 (Nat.le_of_ble_eq_true rfl) ⟨by decide, by decide⟩ ⟨by decide, by decide⟩ (fun r4 L M hp => ?_)
    obtain ⟨C, D, F, I, K1, hr⟩ := hp
    have K := K.step K1 (by decide)
    have hbcr4 := hr
    refine g_mmax X wd78 wd79 wd80 wd81 (by decide) (Nat.le_of_ble_eq_true rfl) (by decide) (by decide) dX4_mostAtOnePost_25 (fun o5 => ?_)
    refine g_istore_n X dX4_mostAtOnePost_28 rfl (by decide) (lv2 := [(2, .int o5), (3, .int (nI i4_3)), (0, .ref (a 25)), (1, .int (nI p0))]) rfl ?_
    refine g_iinc X dX4_mostAtOnePost_29 (j := 1) rfl (v := nI (i4_3 + 1)) (nI_1 i4_3) (by decide) (lv2 := [(3, .int (nI (i4_3 + 1))), (2, .int o5), (0, .ref (a 25)), (1, .int (nI p0))]) rfl ?_
    refine g_goto X dX4_mostAtOnePost_32 (tgt := 4) (by decide) ?_
    refine g_lv [0, 1, 2, 3] (lv2 := [(3, .int (nI (i4_3 + 1))), (2, .int o5), (0, .ref (a 25)), (1, .int (nI p0))]) rfl ?_
    exact ih4 ((i4_3 + 1), o5) L M C D F I K ⟨by omega, by omega⟩ (by show _ < _; omega)
set_option maxHeartbeats 4000000 in
set_option maxRecDepth 100000 in
theorem s_X4_firstHourTogether_25 (l : Launch) (G : va_G) {cy : Nat → ClassId} {L : List Nat} {M : Nat → va_E} {a : Nat → Nat} {act : Nat → Bool} {C0 : Nat → Nat → Int32} {D0 : Nat → Nat → Int64} {R : Nat → Nat → Option Nat} (F : WI L M a act (ent cy a C0 D0 R)) (I : Inv C0) (p0 : Nat) (hp0a : 0 ≤ p0) (hp0b : p0 ≤ 7) (p1 : Nat) (hp1a : 0 ≤ p1) (hp1b : p1 ≤ 7)  : MI l G cy yX4_firstHourTogether cX4_firstHourTogether 5 (some .int) 1 0 0 [.ref (a 25), .int (nI p0), .int (nI p1)] L M (fun r L2 M2 => ∃ C2 D2, WI L2 M2 a act (ent cy a C2 D2 R) ∧ Inv C2 ∧ Kp [] C0 D0 C2 D2 ∧ True) := by
  refine MI.of (own := RX4) rfl (by decide) (Nat.le_of_ble_eq_true rfl) ?_
  intro p e s m below meth c A X hrt hnm
  obtain ⟨C, D, hC0, hD0, F, I, K⟩ : ∃ C D, C = C0 ∧ D = D0 ∧ WI L M a act (ent cy a C D R) ∧ Inv C ∧ Kp [] C0 D0 C D := ⟨C0, D0, rfl, rfl, F, I, Kp.rf⟩
  refine g_iconst X dX4_firstHourTogether_0 (v := 0) (by decide) ?_
  refine g_istore_n X dX4_firstHourTogether_1 rfl (by decide) (lv2 := [(3, .int 0), (0, .ref (a 25)), (1, .int (nI p0)), (2, .int (nI p1))]) rfl ?_
  refine g_lv [0, 1, 2, 3] (lv2 := [(3, .int 0), (0, .ref (a 25)), (1, .int (nI p0)), (2, .int (nI p1))]) rfl ?_
  refine i_loop (mods := []) (fun x : Nat => 17 - x) (fun x => [(3, .int (nI (x))), (0, .ref (a 25)), (1, .int (nI p0)), (2, .int (nI p1))]) (fun x C => 0 ≤ x ∧ x ≤ 17) (fun x L M C D F I K hP ih2 => ?_) ((0) : Nat) F I K ⟨by show _ ≤ _; omega, by show _ ≤ _; omega⟩
  obtain ⟨i2_3, rfl⟩ : ∃ z, z = x := ⟨_, rfl⟩
  obtain ⟨hi2_3a, hi2_3b⟩ := hP
  refine g_lv [0, 1, 2, 3] (lv2 := [(3, .int (nI i2_3)), (0, .ref (a 25)), (1, .int (nI p0)), (2, .int (nI p1))]) rfl ?_
  refine g_iload_n X dX4_firstHourTogether_2 rfl (j := 0) rfl ?_
  refine g_aload_n X dX4_firstHourTogether_3 rfl (j := 1) rfl ?_
  refine i_get X F 25 rfl rfl fk_X4_37 dX4_firstHourTogether_4 rfl ?_
  obtain ⟨n1, hn1, en1⟩ := rg_nat ((I 3 1).1 rfl) (by decide)
  refine i_get X F 3 rfl rfl fk_X4_57 dX4_firstHourTogether_7 (v := .int (nI n1)) (congrArg (fun z => some (Value.int z)) en1) ?_
  refine g_icmp_gt X dX4_firstHourTogether_10 (tgt := 46) (by decide) (fun q2 => ?_) (fun q2 => ?_)
  · skip
    have q2 : n1 < i2_3 := (nI_ltI (a := n1) (b := i2_3) (by omega) (by omega)).mp q2
    refine g_iconst X dX4_firstHourTogether_46 (v := -1) (by decide) ?_
    exact g_iret X hrt dX4_firstHourTogether_47 (by decide) (by decide) ⟨C, D, F, I, K, trivial⟩
  · skip
    have q2 : ¬ n1 < i2_3 := fun z => q2 ((nI_ltI (a := n1) (b := i2_3) (by omega) (by omega)).mpr z)
    refine g_aload_n X dX4_firstHourTogether_13 rfl (j := 1) rfl ?_
    refine g_iload_n X dX4_firstHourTogether_14 rfl (j := 2) rfl ?_
    refine g_iload_n X dX4_firstHourTogether_15 rfl (j := 0) rfl ?_
    refine g_callVI X (s_X4_placeOf_25 l G F I p0 (by omega) (by omega) i2_3 (by omega) (by omega) ) lk_X4_113 (F.1 25 rfl).2 (F.1 25 rfl).1 rfl rfl dX4_firstHourTogether_16 (Nat.le_of_ble_eq_true rfl) ⟨by decide, by decide⟩ ⟨by decide, by decide⟩ (fun r3 L M hp => ?_)
    obtain ⟨C, D, F, I, K1, hr⟩ := hp
    have K := K.step K1 (by decide)
    obtain ⟨hr, hpln4⟩ := hr
    rcases okp_nat hr with rfl | ⟨n4, hn4, rfl⟩
    · skip
      refine g_istore X dX4_firstHourTogether_19 (by decide) (lv2 := [(4, .int (-1)), (3, .int (nI i2_3)), (0, .ref (a 25)), (1, .int (nI p0)), (2, .int (nI p1))]) rfl ?_
      refine g_iload X dX4_firstHourTogether_21 (j := 0) rfl ?_
      refine g_iconst X dX4_firstHourTogether_23 (v := -1) (by decide) ?_
      refine g_icmp_eq X dX4_firstHourTogether_24 (tgt := 40) (by decide) (fun _ => ?_) (fun q => absurd (by decide) q)
      refine g_iinc X dX4_firstHourTogether_40 (j := 1) rfl (v := nI (i2_3 + 1)) (nI_1 i2_3) (by decide) (lv2 := [(3, .int (nI (i2_3 + 1))), (4, .int (-1)), (0, .ref (a 25)), (1, .int (nI p0)), (2, .int (nI p1))]) rfl ?_
      refine g_goto X dX4_firstHourTogether_43 (tgt := 2) (by decide) ?_
      refine g_lv [0, 2, 3, 4] (lv2 := [(3, .int (nI (i2_3 + 1))), (0, .ref (a 25)), (1, .int (nI p0)), (2, .int (nI p1))]) rfl ?_
      exact ih2 ((i2_3 + 1)) L M C D F I K ⟨by omega, by omega⟩ (by show _ < _; omega)
    · skip
      refine g_istore X dX4_firstHourTogether_19 (by decide) (lv2 := [(4, .int (nI n4)), (3, .int (nI i2_3)), (0, .ref (a 25)), (1, .int (nI p0)), (2, .int (nI p1))]) rfl ?_
      refine g_iload X dX4_firstHourTogether_21 (j := 0) rfl ?_
      refine g_iconst X dX4_firstHourTogether_23 (v := -1) (by decide) ?_
      refine g_icmp_eq X dX4_firstHourTogether_24 (tgt := 40) (by decide) (fun q => absurd q (nI_nm1 (by omega))) (fun _ => ?_)
      refine g_iload X dX4_firstHourTogether_27 (j := 0) rfl ?_
      refine g_aload_n X dX4_firstHourTogether_29 rfl (j := 2) rfl ?_
      refine g_iload_n X dX4_firstHourTogether_30 rfl (j := 4) rfl ?_
      refine g_iload_n X dX4_firstHourTogether_31 rfl (j := 1) rfl ?_
      refine g_callVI X (s_X4_placeOf_25 l G F I p1 (by omega) (by omega) i2_3 (by omega) (by omega) ) lk_X4_113 (F.1 25 rfl).2 (F.1 25 rfl).1 rfl rfl dX4_firstHourTogether_32 (Nat.le_of_ble_eq_true rfl) ⟨by decide, by decide⟩ ⟨by decide, by decide⟩ (fun r6 L M hp => ?_)
      obtain ⟨C, D, F, I, K1, hr⟩ := hp
      have K := K.step K1 (by decide)
      have hpln4 : nI n4 = C 27 (i2_3 * 8 + p0) := by rw [(K1 27 (by decide)).1]; exact hpln4
      obtain ⟨hr, hpln7⟩ := hr
      rcases okp_nat hr with rfl | ⟨n7, hn7, rfl⟩
      · skip
        refine g_icmp_ne X dX4_firstHourTogether_35 (tgt := 40) (by decide) (fun _ => ?_) (fun q => absurd q (nI_nm1 (by omega)))
        refine g_iinc X dX4_firstHourTogether_40 (j := 1) rfl (v := nI (i2_3 + 1)) (nI_1 i2_3) (by decide) (lv2 := [(3, .int (nI (i2_3 + 1))), (4, .int (nI n4)), (0, .ref (a 25)), (1, .int (nI p0)), (2, .int (nI p1))]) rfl ?_
        refine g_goto X dX4_firstHourTogether_43 (tgt := 2) (by decide) ?_
        refine g_lv [0, 2, 3, 4] (lv2 := [(3, .int (nI (i2_3 + 1))), (0, .ref (a 25)), (1, .int (nI p0)), (2, .int (nI p1))]) rfl ?_
        exact ih2 ((i2_3 + 1)) L M C D F I K ⟨by omega, by omega⟩ (by show _ < _; omega)
      · skip
        refine g_icmp_ne X dX4_firstHourTogether_35 (tgt := 40) (by decide) (fun q9 => ?_) (fun q9 => ?_)
        · skip
          have q9 : ¬ n4 = n7 := fun z => q9 ((nI_eq (a := n4) (b := n7) (by omega) (by omega)).mpr z)
          refine g_iinc X dX4_firstHourTogether_40 (j := 1) rfl (v := nI (i2_3 + 1)) (nI_1 i2_3) (by decide) (lv2 := [(3, .int (nI (i2_3 + 1))), (4, .int (nI n4)), (0, .ref (a 25)), (1, .int (nI p0)), (2, .int (nI p1))]) rfl ?_
          refine g_goto X dX4_firstHourTogether_43 (tgt := 2) (by decide) ?_
          refine g_lv [0, 2, 3, 4] (lv2 := [(3, .int (nI (i2_3 + 1))), (0, .ref (a 25)), (1, .int (nI p0)), (2, .int (nI p1))]) rfl ?_
          exact ih2 ((i2_3 + 1)) L M C D F I K ⟨by omega, by omega⟩ (by show _ < _; omega)
        · skip
          have q9 : n4 = n7 := (nI_eq (a := n4) (b := n7) (by omega) (by omega)).mp q9
          refine g_iload_n X dX4_firstHourTogether_38 rfl (j := 1) rfl ?_
          exact g_iret X hrt dX4_firstHourTogether_39 (by decide) (by decide) ⟨C, D, F, I, K, trivial⟩
set_option maxHeartbeats 4000000 in
set_option maxRecDepth 100000 in
theorem s_X4_neverComes_25 (l : Launch) (G : va_G) {cy : Nat → ClassId} {L : List Nat} {M : Nat → va_E} {a : Nat → Nat} {act : Nat → Bool} {C0 : Nat → Nat → Int32} {D0 : Nat → Nat → Int64} {R : Nat → Nat → Option Nat} (F : WI L M a act (ent cy a C0 D0 R)) (I : Inv C0) (p0 : Nat) (hp0a : 0 ≤ p0) (hp0b : p0 ≤ 7)  : MV l G cy yX4_neverComes cX4_neverComes 2 none 0 0 0 [.ref (a 25), .int (nI p0)] L M (fun L2 M2 => ∃ C2 D2, WI L2 M2 a act (ent cy a C2 D2 R) ∧ Inv C2 ∧ Kp [26] C0 D0 C2 D2 ∧ True) := by
  refine MV.of (own := RX4) rfl (by decide) (Nat.le_of_ble_eq_true rfl) ?_
  intro p e s m below meth c A X hrt hnm
  obtain ⟨C, D, hC0, hD0, F, I, K⟩ : ∃ C D, C = C0 ∧ D = D0 ∧ WI L M a act (ent cy a C D R) ∧ Inv C ∧ Kp [26] C0 D0 C D := ⟨C0, D0, rfl, rfl, F, I, Kp.rf⟩
  refine g_aload_n X dX4_neverComes_0 rfl (j := 0) rfl ?_
  refine i_get X F 25 rfl rfl fk_X4_21 dX4_neverComes_1 rfl ?_
  refine g_iload_n X dX4_neverComes_4 rfl (j := 1) rfl ?_
  refine g_bipush X dX4_neverComes_5 (v := 17) (by decide) ?_
  refine i_iast X F I 26 rfl (fun _ => rfl) dX4_neverComes_7 (vp_in_nI (by omega) (by decide)) trivial (fun M C F I K1 hC => ?_)
  have K := K.step K1 (by decide)
  exact g_vret X hrt dX4_neverComes_8 (by decide) (by decide) ⟨C, D, F, I, K, trivial⟩
set_option maxHeartbeats 4000000 in
set_option maxRecDepth 100000 in
theorem s_X4_pointAtFirst_25 (l : Launch) (G : va_G) {cy : Nat → ClassId} {L : List Nat} {M : Nat → va_E} {a : Nat → Nat} {act : Nat → Bool} {C0 : Nat → Nat → Int32} {D0 : Nat → Nat → Int64} {R : Nat → Nat → Option Nat} (F : WI L M a act (ent cy a C0 D0 R)) (I : Inv C0) (p0 : Nat) (hp0a : 0 ≤ p0) (hp0b : p0 ≤ 6) (p1 : Nat) (hp1a : 0 ≤ p1) (hp1b : p1 ≤ 3)  : MV l G cy yX4_pointAtFirst cX4_pointAtFirst 3 none 0 0 0 [.ref (a 25), .int (nI p0), .int (nI p1)] L M (fun L2 M2 => ∃ C2 D2, WI L2 M2 a act (ent cy a C2 D2 R) ∧ Inv C2 ∧ Kp [28] C0 D0 C2 D2 ∧ True) := by
  refine MV.of (own := RX4) rfl (by decide) (Nat.le_of_ble_eq_true rfl) ?_
  intro p e s m below meth c A X hrt hnm
  obtain ⟨C, D, hC0, hD0, F, I, K⟩ : ∃ C D, C = C0 ∧ D = D0 ∧ WI L M a act (ent cy a C D R) ∧ Inv C ∧ Kp [28] C0 D0 C D := ⟨C0, D0, rfl, rfl, F, I, Kp.rf⟩
  refine g_aload_n X dX4_pointAtFirst_0 rfl (j := 0) rfl ?_
  refine i_get X F 25 rfl rfl fk_X4_28 dX4_pointAtFirst_1 rfl ?_
  refine g_iload_n X dX4_pointAtFirst_4 rfl (j := 1) rfl ?_
  refine g_iload_n X dX4_pointAtFirst_5 rfl (j := 2) rfl ?_
  refine i_iast X F I 28 rfl (fun _ => rfl) dX4_pointAtFirst_6 (vp_in_nI (by omega) (by decide)) (rg_of (n := p1) (by omega) (by omega) (by omega)) (fun M C F I K1 hC => ?_)
  have K := K.step K1 (by decide)
  exact g_vret X hrt dX4_pointAtFirst_7 (by decide) (by decide) ⟨C, D, F, I, K, trivial⟩
set_option maxHeartbeats 4000000 in
set_option maxRecDepth 100000 in
theorem s_X4_prepare_25 (l : Launch) (G : va_G) {cy : Nat → ClassId} {L : List Nat} {M : Nat → va_E} {a : Nat → Nat} {act : Nat → Bool} {C0 : Nat → Nat → Int32} {D0 : Nat → Nat → Int64} {R : Nat → Nat → Option Nat} (F : WI L M a act (ent cy a C0 D0 R)) (I : Inv C0)   : MV l G cy yX4_prepare cX4_prepare 1 none 1 0 0 [.ref (a 25)] L M (fun L2 M2 => ∃ C2 D2, WI L2 M2 a act (ent cy a C2 D2 R) ∧ Inv C2 ∧ Kp [25, 26, 28] C0 D0 C2 D2 ∧ True) := by
  refine MV.of (own := RX4) rfl (by decide) (Nat.le_of_ble_eq_true rfl) ?_
  intro p e s m below meth c A X hrt hnm
  obtain ⟨C, D, hC0, hD0, F, I, K⟩ : ∃ C D, C = C0 ∧ D = D0 ∧ WI L M a act (ent cy a C D R) ∧ Inv C ∧ Kp [25, 26, 28] C0 D0 C D := ⟨C0, D0, rfl, rfl, F, I, Kp.rf⟩
  refine g_aload_n X dX4_prepare_0 rfl (j := 0) rfl ?_
  refine g_aload_n X dX4_prepare_1 rfl (j := 0) rfl ?_
  refine i_get X F 25 rfl rfl fk_X4_37 dX4_prepare_2 rfl ?_
  refine i_get X F 3 rfl rfl fk_X4_41 dX4_prepare_5 rfl ?_
  refine Go.gen (fun o1 => ?_)
  refine i_put X F I 25 rfl rfl rfl fk_X4_9 dX4_prepare_8 rfl rfl (Nat.le_of_ble_eq_true rfl) trivial (fun M C F I K1 hC => ?_)
  have K := K.step K1 (by decide)
  refine g_aload_n X dX4_prepare_11 rfl (j := 0) rfl ?_
  refine g_bipush X dX4_prepare_12 (v := 127) (by decide) ?_
  refine i_put X F I 25 rfl rfl rfl fk_X4_15 dX4_prepare_14 rfl rfl (Nat.le_of_ble_eq_true rfl) trivial (fun M C F I K1 hC => ?_)
  have K := K.step K1 (by decide)
  refine g_aload_n X dX4_prepare_17 rfl (j := 0) rfl ?_
  refine g_iconst X dX4_prepare_18 (v := 0) (by decide) ?_
  refine i_put X F I 25 rfl rfl rfl fk_X4_18 dX4_prepare_19 rfl rfl (Nat.le_of_ble_eq_true rfl) trivial (fun M C F I K1 hC => ?_)
  have K := K.step K1 (by decide)
  refine g_aload_n X dX4_prepare_22 rfl (j := 0) rfl ?_
  refine i_get X F 25 rfl rfl fk_X4_37 dX4_prepare_23 rfl ?_
  refine i_get X F 3 rfl rfl fk_X4_44 dX4_prepare_26 rfl ?_
  refine g_iconst X dX4_prepare_29 (v := 0) (by decide) ?_
  refine g_aload_n X dX4_prepare_30 rfl (j := 0) rfl ?_
  refine i_get X F 25 rfl rfl fk_X4_21 dX4_prepare_31 rfl ?_
  refine g_iconst X dX4_prepare_34 (v := 0) (by decide) ?_
  refine g_bipush X dX4_prepare_35 (v := 8) (by decide) ?_
  refine i_copyi X F I 9 rfl 26 rfl rfl (fun _ => rfl) (t0 := 1) rfl rfl wd86 wd87 wd88 wd89 (by decide) (by decide) (by decide) (by decide) (by decide) (fun _ _ => rfl) (by decide) (Nat.le_of_ble_eq_true rfl) dX4_prepare_37 (fun j => trivial) (fun M C F I K1 hC => ?_)
  have K := K.step K1 (by decide)
  refine g_aload_n X dX4_prepare_40 rfl (j := 0) rfl ?_
  refine i_get X F 25 rfl rfl fk_X4_37 dX4_prepare_41 rfl ?_
  refine i_get X F 3 rfl rfl fk_X4_51 dX4_prepare_44 rfl ?_
  refine g_iconst X dX4_prepare_47 (v := 0) (by decide) ?_
  refine g_aload_n X dX4_prepare_48 rfl (j := 0) rfl ?_
  refine i_get X F 25 rfl rfl fk_X4_28 dX4_prepare_49 rfl ?_
  refine g_iconst X dX4_prepare_52 (v := 0) (by decide) ?_
  refine g_bipush X dX4_prepare_53 (v := 7) (by decide) ?_
  refine i_copyi X F I 7 rfl 28 rfl rfl (fun _ => rfl) (t0 := 1) rfl rfl wd86 wd87 wd88 wd89 (by decide) (by decide) (by decide) (by decide) (by decide) (fun _ _ => rfl) (by decide) (Nat.le_of_ble_eq_true rfl) dX4_prepare_55 (fun j => cpy_ok (P := okv 28) (fun j => I 7 j) (fun j => I 28 j) j) (fun M C F I K1 hC => ?_)
  have K := K.step K1 (by decide)
  exact g_vret X hrt dX4_prepare_58 (by decide) (by decide) ⟨C, D, F, I, K, trivial⟩
set_option maxHeartbeats 4000000 in
set_option maxRecDepth 100000 in
theorem s_X4_begin_25 (l : Launch) (G : va_G) {cy : Nat → ClassId} {L : List Nat} {M : Nat → va_E} {a : Nat → Nat} {act : Nat → Bool} {C0 : Nat → Nat → Int32} {D0 : Nat → Nat → Int64} {R : Nat → Nat → Option Nat} (F : WI L M a act (ent cy a C0 D0 R)) (I : Inv C0)   : MV l G cy yX4_begin cX4_begin 2 none 0 0 0 [.ref (a 25)] L M (fun L2 M2 => ∃ C2 D2, WI L2 M2 a act (ent cy a C2 D2 R) ∧ Inv C2 ∧ Kp [27] C0 D0 C2 D2 ∧ True) := by
  refine MV.of (own := RX4) rfl (by decide) (Nat.le_of_ble_eq_true rfl) ?_
  intro p e s m below meth c A X hrt hnm
  obtain ⟨C, D, hC0, hD0, F, I, K⟩ : ∃ C D, C = C0 ∧ D = D0 ∧ WI L M a act (ent cy a C D R) ∧ Inv C ∧ Kp [27] C0 D0 C D := ⟨C0, D0, rfl, rfl, F, I, Kp.rf⟩
  refine g_iconst X dX4_begin_0 (v := 0) (by decide) ?_
  refine g_istore_n X dX4_begin_1 rfl (by decide) (lv2 := [(1, .int 0), (0, .ref (a 25))]) rfl ?_
  refine g_lv [0, 1] (lv2 := [(1, .int 0), (0, .ref (a 25))]) rfl ?_
  refine i_loop (mods := [27]) (fun x : Nat => 8 - x) (fun x => [(1, .int (nI (x))), (0, .ref (a 25))]) (fun x C => 0 ≤ x ∧ x ≤ 8) (fun x L M C D F I K hP ih2 => ?_) ((0) : Nat) F I K ⟨by show _ ≤ _; omega, by show _ ≤ _; omega⟩
  obtain ⟨i2_1, rfl⟩ : ∃ z, z = x := ⟨_, rfl⟩
  obtain ⟨hi2_1a, hi2_1b⟩ := hP
  refine g_lv [0, 1] (lv2 := [(1, .int (nI i2_1)), (0, .ref (a 25))]) rfl ?_
  refine g_iload_n X dX4_begin_2 rfl (j := 0) rfl ?_
  refine g_aload_n X dX4_begin_3 rfl (j := 1) rfl ?_
  refine i_get X F 25 rfl rfl fk_X4_37 dX4_begin_4 rfl ?_
  obtain ⟨n1, hn1, en1⟩ := rg_nat ((I 3 8).2.2.2 rfl) (by decide)
  refine i_get X F 3 rfl rfl fk_X4_64 dX4_begin_7 (v := .int (nI n1)) (congrArg (fun z => some (Value.int z)) en1) ?_
  refine g_icmp_ge X dX4_begin_10 (tgt := 47) (by decide) (fun q2 => ?_) (fun q2 => ?_)
  · skip
    have q2 : n1 ≤ i2_1 := (nI_leI (a := n1) (b := i2_1) (by omega) (by omega)).mp q2
    exact g_vret X hrt dX4_begin_47 (by decide) (by decide) ⟨C, D, F, I, K, trivial⟩
  · skip
    have q2 : ¬ n1 ≤ i2_1 := fun z => q2 ((nI_leI (a := n1) (b := i2_1) (by omega) (by omega)).mpr z)
    refine g_aload_n X dX4_begin_13 rfl (j := 1) rfl ?_
    refine i_get X F 25 rfl rfl fk_X4_25 dX4_begin_14 rfl ?_
    refine g_iload_n X dX4_begin_17 rfl (j := 0) rfl ?_
    refine g_aload_n X dX4_begin_18 rfl (j := 1) rfl ?_
    refine i_get X F 25 rfl rfl fk_X4_21 dX4_begin_19 rfl ?_
    refine g_iload_n X dX4_begin_22 rfl (j := 0) rfl ?_
    refine i_iald X F 26 rfl rfl dX4_begin_23 (vp_in_nI (by omega) (by decide)) rfl ?_
    refine Go.gen (fun o3 => ?_)
    refine g_if_ne X dX4_begin_24 (tgt := 39) (by decide) (fun q4 => ?_) (fun q4 => ?_)
    · skip
      refine g_iconst X dX4_begin_39 (v := -1) (by decide) ?_
      refine i_iast X F I 27 rfl (fun _ => rfl) dX4_begin_40 (vp_in_nI (by omega) (by decide)) okp_m1 (fun M C F I K1 hC => ?_)
      have K := K.step K1 (by decide)
      refine g_iinc X dX4_begin_41 (j := 0) rfl (v := nI (i2_1 + 1)) (nI_1 i2_1) (by decide) (lv2 := [(1, .int (nI (i2_1 + 1))), (0, .ref (a 25))]) rfl ?_
      refine g_goto X dX4_begin_44 (tgt := 2) (by decide) ?_
      refine g_lv [0, 1] (lv2 := [(1, .int (nI (i2_1 + 1))), (0, .ref (a 25))]) rfl ?_
      exact ih2 ((i2_1 + 1)) L M C D F I K ⟨by omega, by omega⟩ (by show _ < _; omega)
    · skip
      subst q4
      refine g_aload_n X dX4_begin_27 rfl (j := 1) rfl ?_
      refine i_get X F 25 rfl rfl fk_X4_37 dX4_begin_28 rfl ?_
      refine i_get X F 3 rfl rfl fk_X4_67 dX4_begin_31 rfl ?_
      refine g_iload_n X dX4_begin_34 rfl (j := 0) rfl ?_
      obtain ⟨n5, hn5, en5⟩ := rg_nat (I 8 i2_1) (by decide)
      refine i_iald X F 8 rfl rfl dX4_begin_35 (vp_in_nI (by omega) (by decide)) (v := nI n5) (by rw [nI_clamp (by omega)]; exact en5) ?_
      refine g_goto X dX4_begin_36 (tgt := 40) (by decide) ?_
      refine i_iast X F I 27 rfl (fun _ => rfl) dX4_begin_40 (vp_in_nI (by omega) (by decide)) (okp_of (n := n5) (by omega)) (fun M C F I K1 hC => ?_)
      have K := K.step K1 (by decide)
      refine g_iinc X dX4_begin_41 (j := 0) rfl (v := nI (i2_1 + 1)) (nI_1 i2_1) (by decide) (lv2 := [(1, .int (nI (i2_1 + 1))), (0, .ref (a 25))]) rfl ?_
      refine g_goto X dX4_begin_44 (tgt := 2) (by decide) ?_
      refine g_lv [0, 1] (lv2 := [(1, .int (nI (i2_1 + 1))), (0, .ref (a 25))]) rfl ?_
      exact ih2 ((i2_1 + 1)) L M C D F I K ⟨by omega, by omega⟩ (by show _ < _; omega)
set_option maxHeartbeats 4000000 in
set_option maxRecDepth 100000 in
theorem s_X4_turnByActs_25 (l : Launch) (G : va_G) {cy : Nat → ClassId} {L : List Nat} {M : Nat → va_E} {a : Nat → Nat} {act : Nat → Bool} {C0 : Nat → Nat → Int32} {D0 : Nat → Nat → Int64} {R : Nat → Nat → Option Nat} (F : WI L M a act (ent cy a C0 D0 R)) (I : Inv C0) (p0 : Nat) (hp0a : 0 ≤ p0) (hp0b : p0 ≤ 15)  : MV l G cy yX4_turnByActs cX4_turnByActs 6 none 1 0 0 [.ref (a 25), .int (nI p0)] L M (fun L2 M2 => ∃ C2 D2, WI L2 M2 a act (ent cy a C2 D2 R) ∧ Inv C2 ∧ Kp [28] C0 D0 C2 D2 ∧ True) := by
  refine MV.of (own := RX4) rfl (by decide) (Nat.le_of_ble_eq_true rfl) ?_
  intro p e s m below meth c A X hrt hnm
  obtain ⟨C, D, hC0, hD0, F, I, K⟩ : ∃ C D, C = C0 ∧ D = D0 ∧ WI L M a act (ent cy a C D R) ∧ Inv C ∧ Kp [28] C0 D0 C D := ⟨C0, D0, rfl, rfl, F, I, Kp.rf⟩
  refine g_iconst X dX4_turnByActs_0 (v := 0) (by decide) ?_
  refine g_istore_n X dX4_turnByActs_1 rfl (by decide) (lv2 := [(2, .int 0), (0, .ref (a 25)), (1, .int (nI p0))]) rfl ?_
  refine g_lv [0, 1, 2] (lv2 := [(2, .int 0), (0, .ref (a 25)), (1, .int (nI p0))]) rfl ?_
  refine i_loop (mods := [28]) (fun x : Nat => 7 - x) (fun x => [(2, .int (nI (x))), (0, .ref (a 25)), (1, .int (nI p0))]) (fun x C => 0 ≤ x ∧ x ≤ 7) (fun x L M C D F I K hP ih2 => ?_) ((0) : Nat) F I K ⟨by show _ ≤ _; omega, by show _ ≤ _; omega⟩
  obtain ⟨i2_2, rfl⟩ : ∃ z, z = x := ⟨_, rfl⟩
  obtain ⟨hi2_2a, hi2_2b⟩ := hP
  refine g_lv [0, 1, 2] (lv2 := [(2, .int (nI i2_2)), (0, .ref (a 25)), (1, .int (nI p0))]) rfl ?_
  refine g_iload_n X dX4_turnByActs_2 rfl (j := 0) rfl ?_
  refine g_aload_n X dX4_turnByActs_3 rfl (j := 1) rfl ?_
  refine i_get X F 25 rfl rfl fk_X4_37 dX4_turnByActs_4 rfl ?_
  obtain ⟨n1, hn1, en1⟩ := rg_nat ((I 3 5).2.2.1 rfl) (by decide)
  refine i_get X F 3 rfl rfl fk_X4_87 dX4_turnByActs_7 (v := .int (nI n1)) (congrArg (fun z => some (Value.int z)) en1) ?_
  refine g_icmp_ge X dX4_turnByActs_10 (tgt := 94) (by decide) (fun q2 => ?_) (fun q2 => ?_)
  · skip
    have q2 : n1 ≤ i2_2 := (nI_leI (a := n1) (b := i2_2) (by omega) (by omega)).mp q2
    exact g_vret X hrt dX4_turnByActs_94 (by decide) (by decide) ⟨C, D, F, I, K, trivial⟩
  · skip
    have q2 : ¬ n1 ≤ i2_2 := fun z => q2 ((nI_leI (a := n1) (b := i2_2) (by omega) (by omega)).mpr z)
    refine g_aload_n X dX4_turnByActs_13 rfl (j := 1) rfl ?_
    refine i_get X F 25 rfl rfl fk_X4_37 dX4_turnByActs_14 rfl ?_
    refine g_iload_n X dX4_turnByActs_17 rfl (j := 0) rfl ?_
    refine g_callVI X (s_X2_hasArm l G F I i2_2 (by omega) (by omega) ) lk_X4_90 (F.1 3 rfl).2 (F.1 3 rfl).1 rfl rfl dX4_turnByActs_18 (Nat.le_of_ble_eq_true rfl) ⟨by decide, by decide⟩ ⟨by decide, by decide⟩ (fun r3 L M hp => ?_)
    obtain ⟨C, D, F, I, K1, hr⟩ := hp
    have K := K.step K1 (by decide)
    rcases hr with rfl | ⟨rfl, ra4⟩
    · skip
      refine g_if_eq X dX4_turnByActs_21 (tgt := 39) (by decide) (fun _ => ?_) (fun q => absurd (by decide) q)
      refine g_iconst X dX4_turnByActs_39 (v := 0) (by decide) ?_
      refine g_istore_n X dX4_turnByActs_40 rfl (by decide) (lv2 := [(3, .int 0), (2, .int (nI i2_2)), (0, .ref (a 25)), (1, .int (nI p0))]) rfl ?_
      refine g_iconst X dX4_turnByActs_41 (v := 0) (by decide) ?_
      refine g_istore X dX4_turnByActs_42 (by decide) (lv2 := [(4, .int 0), (3, .int 0), (2, .int (nI i2_2)), (0, .ref (a 25)), (1, .int (nI p0))]) rfl ?_
      refine g_lv [0, 1, 2, 3, 4] (lv2 := [(4, .int 0), (3, .int 0), (2, .int (nI i2_2)), (0, .ref (a 25)), (1, .int (nI p0))]) rfl ?_
      refine i_loop (mods := [28]) (fun x : Nat => ((0 : Int32).toInt - (x : Int)).toNat) (fun x => [(4, .int (nI (x))), (3, .int 0), (2, .int (nI i2_2)), (0, .ref (a 25)), (1, .int (nI p0))]) (fun x C => 0 ≤ x ∧ x ≤ 2147483647) (fun x L M C D F I K hP ih44 => ?_) ((0) : Nat) F I K ⟨by show _ ≤ _; omega, by show _ ≤ _; omega⟩
      obtain ⟨i44_4, rfl⟩ : ∃ z, z = x := ⟨_, rfl⟩
      obtain ⟨hi44_4a, hi44_4b⟩ := hP
      refine g_lv [0, 1, 2, 3, 4] (lv2 := [(4, .int (nI i44_4)), (3, .int 0), (2, .int (nI i2_2)), (0, .ref (a 25)), (1, .int (nI p0))]) rfl ?_
      refine g_iload X dX4_turnByActs_44 (j := 0) rfl ?_
      refine g_iload_n X dX4_turnByActs_46 rfl (j := 1) rfl ?_
      refine g_icmp_ge X dX4_turnByActs_47 (tgt := 88) (by decide) (fun _ => ?_) (fun q => absurd (nI_pos' (by omega)) q)
      refine g_iinc X dX4_turnByActs_88 (j := 2) rfl (v := nI (i2_2 + 1)) (nI_1 i2_2) (by decide) (lv2 := [(2, .int (nI (i2_2 + 1))), (4, .int (nI i44_4)), (3, .int 0), (0, .ref (a 25)), (1, .int (nI p0))]) rfl ?_
      refine g_goto X dX4_turnByActs_91 (tgt := 2) (by decide) ?_
      refine g_lv [0, 3, 4] (lv2 := [(2, .int (nI (i2_2 + 1))), (0, .ref (a 25)), (1, .int (nI p0))]) rfl ?_
      exact ih2 ((i2_2 + 1)) L M C D F I K ⟨by omega, by omega⟩ (by show _ < _; omega)
    · skip
      refine g_if_eq X dX4_turnByActs_21 (tgt := 39) (by decide) (fun q => absurd q (by decide)) (fun _ => ?_)
      refine g_aload_n X dX4_turnByActs_24 rfl (j := 1) rfl ?_
      refine i_get X F 25 rfl rfl fk_X4_37 dX4_turnByActs_25 rfl ?_
      refine i_get X F 3 rfl rfl fk_X4_94 dX4_turnByActs_28 rfl ?_
      refine g_iload_n X dX4_turnByActs_31 rfl (j := 0) rfl ?_
      refine g_iload_n X dX4_turnByActs_32 rfl (j := 2) rfl ?_
      refine g_callVI X (s_X0_timesTurned_10 l G F I i2_2 (by omega) (by omega) p0 (by omega) (by omega) ) lk_X4_98 (F.1 10 rfl).2 (F.1 10 rfl).1 rfl rfl dX4_turnByActs_33 (Nat.le_of_ble_eq_true rfl) ⟨by decide, by decide⟩ ⟨by decide, by decide⟩ (fun r6 L M hp => ?_)
      obtain ⟨C, D, F, I, K1, hr⟩ := hp
      have K := K.step K1 (by decide)
      have ra4 : 1 ≤ (C 5 i2_2).toInt := by rw [(K1 5 (by decide)).1]; exact ra4
      refine g_goto X dX4_turnByActs_36 (tgt := 40) (by decide) ?_
      refine g_istore_n X dX4_turnByActs_40 rfl (by decide) (lv2 := [(3, .int r6), (2, .int (nI i2_2)), (0, .ref (a 25)), (1, .int (nI p0))]) rfl ?_
      refine g_iconst X dX4_turnByActs_41 (v := 0) (by decide) ?_
      refine g_istore X dX4_turnByActs_42 (by decide) (lv2 := [(4, .int 0), (3, .int r6), (2, .int (nI i2_2)), (0, .ref (a 25)), (1, .int (nI p0))]) rfl ?_
      refine g_lv [0, 1, 2, 3, 4] (lv2 := [(4, .int 0), (3, .int r6), (2, .int (nI i2_2)), (0, .ref (a 25)), (1, .int (nI p0))]) rfl ?_
      refine i_loop (mods := [28]) (fun x : Nat => (r6.toInt - (x : Int)).toNat) (fun x => [(4, .int (nI (x))), (3, .int r6), (2, .int (nI i2_2)), (0, .ref (a 25)), (1, .int (nI p0))]) (fun x C => 0 ≤ x ∧ x ≤ 2147483647) (fun x L M C D F I K hP ih44 => ?_) ((0) : Nat) F I K ⟨by show _ ≤ _; omega, by show _ ≤ _; omega⟩
      obtain ⟨i44_4, rfl⟩ : ∃ z, z = x := ⟨_, rfl⟩
      obtain ⟨hi44_4a, hi44_4b⟩ := hP
      refine g_lv [0, 1, 2, 3, 4] (lv2 := [(4, .int (nI i44_4)), (3, .int r6), (2, .int (nI i2_2)), (0, .ref (a 25)), (1, .int (nI p0))]) rfl ?_
      refine g_iload X dX4_turnByActs_44 (j := 0) rfl ?_
      refine g_iload_n X dX4_turnByActs_46 rfl (j := 1) rfl ?_
      refine g_icmp_ge X dX4_turnByActs_47 (tgt := 88) (by decide) (fun q7 => ?_) (fun q7 => ?_)
      · skip
        have q7t : r6.toInt ≤ (nI i44_4).toInt := Int32.le_iff_toInt_le.mp q7
        rw [nI_toInt (by omega)] at q7t
        have q7b := Int32.toInt_lt r6
        refine g_iinc X dX4_turnByActs_88 (j := 2) rfl (v := nI (i2_2 + 1)) (nI_1 i2_2) (by decide) (lv2 := [(2, .int (nI (i2_2 + 1))), (4, .int (nI i44_4)), (3, .int r6), (0, .ref (a 25)), (1, .int (nI p0))]) rfl ?_
        refine g_goto X dX4_turnByActs_91 (tgt := 2) (by decide) ?_
        refine g_lv [0, 3, 4] (lv2 := [(2, .int (nI (i2_2 + 1))), (0, .ref (a 25)), (1, .int (nI p0))]) rfl ?_
        exact ih2 ((i2_2 + 1)) L M C D F I K ⟨by omega, by omega⟩ (by show _ < _; omega)
      · skip
        have q7t : ¬ r6.toInt ≤ (nI i44_4).toInt := fun z => q7 (Int32.le_iff_toInt_le.mpr z)
        rw [nI_toInt (by omega)] at q7t
        have q7b := Int32.toInt_lt r6
        refine g_iload_n X dX4_turnByActs_50 rfl (j := 4) rfl ?_
        refine g_iconst X dX4_turnByActs_51 (v := 1) (by decide) ?_
        refine g_iadd X dX4_turnByActs_52 ?_
        refine Go.top (v := .int (nI (p0 + 1))) (congrArg Value.int (nI_add p0 1)) ?_
        refine g_bipush X dX4_turnByActs_53 (v := 7) (by decide) ?_
        refine g_imul X dX4_turnByActs_55 ?_
        refine Go.top (v := .int (nI ((p0 + 1) * 7))) (congrArg Value.int (pk_mul (p0 + 1) 7)) ?_
        refine g_iload_n X dX4_turnByActs_56 rfl (j := 2) rfl ?_
        refine g_iadd X dX4_turnByActs_57 ?_
        refine Go.top (v := .int (nI (((p0 + 1) * 7) + i2_2))) (congrArg Value.int (nI_add ((p0 + 1) * 7) i2_2)) ?_
        refine g_istore X dX4_turnByActs_58 (by decide) (lv2 := [(5, .int (nI (((p0 + 1) * 7) + i2_2))), (4, .int (nI i44_4)), (3, .int r6), (2, .int (nI i2_2)), (0, .ref (a 25)), (1, .int (nI p0))]) rfl ?_
        refine g_aload_n X dX4_turnByActs_60 rfl (j := 4) rfl ?_
        refine i_get X F 25 rfl rfl fk_X4_28 dX4_turnByActs_61 rfl ?_
        refine g_iload X dX4_turnByActs_64 (j := 0) rfl ?_
        refine g_aload_n X dX4_turnByActs_66 rfl (j := 4) rfl ?_
        refine i_get X F 25 rfl rfl fk_X4_37 dX4_turnByActs_67 rfl ?_
        refine g_iload_n X dX4_turnByActs_70 rfl (j := 3) rfl ?_
        refine g_aload_n X dX4_turnByActs_71 rfl (j := 4) rfl ?_
        refine i_get X F 25 rfl rfl fk_X4_28 dX4_turnByActs_72 rfl ?_
        refine g_iload X dX4_turnByActs_75 (j := 0) rfl ?_
        obtain ⟨n8, hn8, en8⟩ := rg_nat (I 28 (((p0 + 1) * 7) + i2_2)) (by decide)
        refine i_iald X F 28 rfl rfl dX4_turnByActs_77 (vp_in_nI (by omega) (by decide)) (v := nI n8) (by rw [nI_clamp (by omega)]; exact en8) ?_
        refine g_callVI X (s_X2_nextRoad l G F I i2_2 (by omega) (by omega) n8 (by omega) (by omega) ) lk_X4_104 (F.1 3 rfl).2 (F.1 3 rfl).1 rfl rfl dX4_turnByActs_78 (Nat.le_of_ble_eq_true rfl) ⟨by decide, by decide⟩ ⟨by decide, by decide⟩ (fun r9 L M hp => ?_)
        obtain ⟨C, D, F, I, K1, hr⟩ := hp
        have K := K.step K1 (by decide)
        obtain ⟨n10, hn10a, hn10b, rfl⟩ := hr
        refine i_iast X F I 28 rfl (fun _ => rfl) dX4_turnByActs_81 (vp_in_nI (by omega) (by decide)) (rg_of (n := n10) (by omega) (by omega) (by omega)) (fun M C F I K1 hC => ?_)
        have K := K.step K1 (by decide)
        refine g_iinc X dX4_turnByActs_82 (j := 1) rfl (v := nI (i44_4 + 1)) (nI_1 i44_4) (by decide) (lv2 := [(4, .int (nI (i44_4 + 1))), (5, .int (nI (((p0 + 1) * 7) + i2_2))), (3, .int r6), (2, .int (nI i2_2)), (0, .ref (a 25)), (1, .int (nI p0))]) rfl ?_
        refine g_goto X dX4_turnByActs_85 (tgt := 44) (by decide) ?_
        refine g_lv [0, 2, 3, 4, 5] (lv2 := [(4, .int (nI (i44_4 + 1))), (3, .int r6), (2, .int (nI i2_2)), (0, .ref (a 25)), (1, .int (nI p0))]) rfl ?_
        exact ih44 ((i44_4 + 1)) L M C D F I K ⟨by omega, by omega⟩ (by show _ < _; omega)
set_option maxHeartbeats 4000000 in
set_option maxRecDepth 100000 in
theorem s_X4_countGuests_25 (l : Launch) (G : va_G) {cy : Nat → ClassId} {L : List Nat} {M : Nat → va_E} {a : Nat → Nat} {act : Nat → Bool} {C0 : Nat → Nat → Int32} {D0 : Nat → Nat → Int64} {R : Nat → Nat → Option Nat} (F : WI L M a act (ent cy a C0 D0 R)) (I : Inv C0) (p0 : Nat) (hp0a : 0 ≤ p0) (hp0b : p0 ≤ 16)  : MV l G cy yX4_countGuests cX4_countGuests 4 none 1 0 0 [.ref (a 25), .int (nI p0)] L M (fun L2 M2 => ∃ C2 D2, WI L2 M2 a act (ent cy a C2 D2 R) ∧ Inv C2 ∧ Kp [30] C0 D0 C2 D2 ∧ True) := by
  refine MV.of (own := RX4) rfl (by decide) (Nat.le_of_ble_eq_true rfl) ?_
  intro p e s m below meth c A X hrt hnm
  obtain ⟨C, D, hC0, hD0, F, I, K⟩ : ∃ C D, C = C0 ∧ D = D0 ∧ WI L M a act (ent cy a C D R) ∧ Inv C ∧ Kp [30] C0 D0 C D := ⟨C0, D0, rfl, rfl, F, I, Kp.rf⟩
  refine g_aload_n X dX4_countGuests_0 rfl (j := 0) rfl ?_
  refine i_get X F 25 rfl rfl fk_X4_34 dX4_countGuests_1 rfl ?_
  refine g_iconst X dX4_countGuests_4 (v := 0) (by decide) ?_
  refine g_callSV X (s_J7_fill_53178_30 l G F I  ) lk_X4_107 rfl rfl dX4_countGuests_5 (Nat.le_of_ble_eq_true rfl) ⟨by decide, by decide⟩ ⟨by decide, by decide⟩ (fun L M hp => ?_)
  obtain ⟨C, D, F, I, K1, hr⟩ := hp
  have K := K.step K1 (by decide)
  refine g_iconst X dX4_countGuests_8 (v := 0) (by decide) ?_
  refine g_istore_n X dX4_countGuests_9 rfl (by decide) (lv2 := [(2, .int 0), (0, .ref (a 25)), (1, .int (nI p0))]) rfl ?_
  refine g_lv [0, 1, 2] (lv2 := [(2, .int 0), (0, .ref (a 25)), (1, .int (nI p0))]) rfl ?_
  refine i_loop (mods := [30]) (fun x : Nat => 8 - x) (fun x => [(2, .int (nI (x))), (0, .ref (a 25)), (1, .int (nI p0))]) (fun x C => 0 ≤ x ∧ x ≤ 8) (fun x L M C D F I K hP ih10 => ?_) ((0) : Nat) F I K ⟨by show _ ≤ _; omega, by show _ ≤ _; omega⟩
  obtain ⟨i10_2, rfl⟩ : ∃ z, z = x := ⟨_, rfl⟩
  obtain ⟨hi10_2a, hi10_2b⟩ := hP
  refine g_lv [0, 1, 2] (lv2 := [(2, .int (nI i10_2)), (0, .ref (a 25)), (1, .int (nI p0))]) rfl ?_
  refine g_iload_n X dX4_countGuests_10 rfl (j := 0) rfl ?_
  refine g_aload_n X dX4_countGuests_11 rfl (j := 1) rfl ?_
  refine i_get X F 25 rfl rfl fk_X4_37 dX4_countGuests_12 rfl ?_
  obtain ⟨n1, hn1, en1⟩ := rg_nat ((I 3 8).2.2.2 rfl) (by decide)
  refine i_get X F 3 rfl rfl fk_X4_64 dX4_countGuests_15 (v := .int (nI n1)) (congrArg (fun z => some (Value.int z)) en1) ?_
  refine g_icmp_ge X dX4_countGuests_18 (tgt := 53) (by decide) (fun q2 => ?_) (fun q2 => ?_)
  · skip
    have q2 : n1 ≤ i10_2 := (nI_leI (a := n1) (b := i10_2) (by omega) (by omega)).mp q2
    exact g_vret X hrt dX4_countGuests_53 (by decide) (by decide) ⟨C, D, F, I, K, trivial⟩
  · skip
    have q2 : ¬ n1 ≤ i10_2 := fun z => q2 ((nI_leI (a := n1) (b := i10_2) (by omega) (by omega)).mpr z)
    refine g_aload_n X dX4_countGuests_21 rfl (j := 1) rfl ?_
    refine g_iload_n X dX4_countGuests_22 rfl (j := 0) rfl ?_
    refine g_iload_n X dX4_countGuests_23 rfl (j := 2) rfl ?_
    refine g_callVI X (s_X4_placeOf_25 l G F I i10_2 (by omega) (by omega) p0 (by omega) (by omega) ) lk_X4_113 (F.1 25 rfl).2 (F.1 25 rfl).1 rfl rfl dX4_countGuests_24 (Nat.le_of_ble_eq_true rfl) ⟨by decide, by decide⟩ ⟨by decide, by decide⟩ (fun r3 L M hp => ?_)
    obtain ⟨C, D, F, I, K1, hr⟩ := hp
    have K := K.step K1 (by decide)
    obtain ⟨hr, hpln4⟩ := hr
    rcases okp_nat hr with rfl | ⟨n4, hn4, rfl⟩
    · skip
      refine g_istore_n X dX4_countGuests_27 rfl (by decide) (lv2 := [(3, .int (-1)), (2, .int (nI i10_2)), (0, .ref (a 25)), (1, .int (nI p0))]) rfl ?_
      refine g_iload_n X dX4_countGuests_28 rfl (j := 0) rfl ?_
      refine g_bipush X dX4_countGuests_29 (v := 10) (by decide) ?_
      refine g_icmp_lt X dX4_countGuests_31 (tgt := 47) (by decide) (fun _ => ?_) (fun q => absurd (by decide) q)
      refine g_iinc X dX4_countGuests_47 (j := 1) rfl (v := nI (i10_2 + 1)) (nI_1 i10_2) (by decide) (lv2 := [(2, .int (nI (i10_2 + 1))), (3, .int (-1)), (0, .ref (a 25)), (1, .int (nI p0))]) rfl ?_
      refine g_goto X dX4_countGuests_50 (tgt := 10) (by decide) ?_
      refine g_lv [0, 2, 3] (lv2 := [(2, .int (nI (i10_2 + 1))), (0, .ref (a 25)), (1, .int (nI p0))]) rfl ?_
      exact ih10 ((i10_2 + 1)) L M C D F I K ⟨by omega, by omega⟩ (by show _ < _; omega)
    · skip
      refine g_istore_n X dX4_countGuests_27 rfl (by decide) (lv2 := [(3, .int (nI n4)), (2, .int (nI i10_2)), (0, .ref (a 25)), (1, .int (nI p0))]) rfl ?_
      refine g_iload_n X dX4_countGuests_28 rfl (j := 0) rfl ?_
      refine g_bipush X dX4_countGuests_29 (v := 10) (by decide) ?_
      refine g_icmp_lt X dX4_countGuests_31 (tgt := 47) (by decide) (fun q5 => ?_) (fun q5 => ?_)
      · skip
        have q5 : n4 < 10 := (nI_ltI (a := n4) (b := 10) (by omega) (by omega)).mp q5
        refine g_iinc X dX4_countGuests_47 (j := 1) rfl (v := nI (i10_2 + 1)) (nI_1 i10_2) (by decide) (lv2 := [(2, .int (nI (i10_2 + 1))), (3, .int (nI n4)), (0, .ref (a 25)), (1, .int (nI p0))]) rfl ?_
        refine g_goto X dX4_countGuests_50 (tgt := 10) (by decide) ?_
        refine g_lv [0, 2, 3] (lv2 := [(2, .int (nI (i10_2 + 1))), (0, .ref (a 25)), (1, .int (nI p0))]) rfl ?_
        exact ih10 ((i10_2 + 1)) L M C D F I K ⟨by omega, by omega⟩ (by show _ < _; omega)
      · skip
        have q5 : ¬ n4 < 10 := fun z => q5 ((nI_ltI (a := n4) (b := 10) (by omega) (by omega)).mpr z)
        refine g_aload_n X dX4_countGuests_34 rfl (j := 2) rfl ?_
        refine i_get X F 25 rfl rfl fk_X4_34 dX4_countGuests_35 rfl ?_
        refine g_iload_n X dX4_countGuests_38 rfl (j := 0) rfl ?_
        refine g_bipush X dX4_countGuests_39 (v := 10) (by decide) ?_
        refine g_isub X dX4_countGuests_41 ?_
        refine Go.top (v := .int (nI (n4 - 10))) (congrArg Value.int (pk_sub (a := n4) (b := 10) (by omega))) ?_
        refine g_dup2 X dX4_countGuests_42 rfl rfl ?_
        refine i_iald X F 30 rfl rfl dX4_countGuests_43 (vp_in_nI (by omega) (by decide)) rfl ?_
        refine Go.gen (fun o6 => ?_)
        refine g_iconst X dX4_countGuests_44 (v := 1) (by decide) ?_
        refine g_iadd X dX4_countGuests_45 ?_
        refine Go.gen (fun o7 => ?_)
        refine i_iast X F I 30 rfl (fun _ => rfl) dX4_countGuests_46 (vp_in_nI (by omega) (by decide)) trivial (fun M C F I K1 hC => ?_)
        have K := K.step K1 (by decide)
        have hpln4 : nI n4 = C 27 (p0 * 8 + i10_2) := by rw [(K1 27 (by decide)).1]; exact hpln4
        refine g_iinc X dX4_countGuests_47 (j := 1) rfl (v := nI (i10_2 + 1)) (nI_1 i10_2) (by decide) (lv2 := [(2, .int (nI (i10_2 + 1))), (3, .int (nI n4)), (0, .ref (a 25)), (1, .int (nI p0))]) rfl ?_
        refine g_goto X dX4_countGuests_50 (tgt := 10) (by decide) ?_
        refine g_lv [0, 2, 3] (lv2 := [(2, .int (nI (i10_2 + 1))), (0, .ref (a 25)), (1, .int (nI p0))]) rfl ?_
        exact ih10 ((i10_2 + 1)) L M C D F I K ⟨by omega, by omega⟩ (by show _ < _; omega)
set_option maxHeartbeats 4000000 in
set_option maxRecDepth 100000 in
theorem s_X4_isSentFrom_25 (l : Launch) (G : va_G) {cy : Nat → ClassId} {L : List Nat} {M : Nat → va_E} {a : Nat → Nat} {act : Nat → Bool} {C0 : Nat → Nat → Int32} {D0 : Nat → Nat → Int64} {R : Nat → Nat → Option Nat} (F : WI L M a act (ent cy a C0 D0 R)) (I : Inv C0) (p0 : Nat) (hp0a : 0 ≤ p0) (hp0b : p0 ≤ 7) (p1 : Nat) (hp1a : 0 ≤ p1) (hp1b : p1 ≤ 15)  : MI l G cy yX4_isSentFrom cX4_isSentFrom 4 (some .boolean) 1 0 0 [.ref (a 25), .int (nI p0), .int (nI p1)] L M (fun r L2 M2 => ∃ C2 D2, WI L2 M2 a act (ent cy a C2 D2 R) ∧ Inv C2 ∧ Kp [] C0 D0 C2 D2 ∧ (r = 0 ∨ (r = 1 ∧ ∃ n : Nat, n < 7 ∧ C2 27 (p1 * 8 + p0) = nI n ∧ 1 ≤ (C2 5 n).toInt))) := by
  refine MI.of (own := RX4) rfl (by decide) (Nat.le_of_ble_eq_true rfl) ?_
  intro p e s m below meth c A X hrt hnm
  obtain ⟨C, D, hC0, hD0, F, I, K⟩ : ∃ C D, C = C0 ∧ D = D0 ∧ WI L M a act (ent cy a C D R) ∧ Inv C ∧ Kp [] C0 D0 C D := ⟨C0, D0, rfl, rfl, F, I, Kp.rf⟩
  refine g_aload_n X dX4_isSentFrom_0 rfl (j := 0) rfl ?_
  refine g_iload_n X dX4_isSentFrom_1 rfl (j := 1) rfl ?_
  refine g_iload_n X dX4_isSentFrom_2 rfl (j := 2) rfl ?_
  refine g_callVI X (s_X4_placeOf_25 l G F I p0 (by omega) (by omega) p1 (by omega) (by omega) ) lk_X4_113 (F.1 25 rfl).2 (F.1 25 rfl).1 rfl rfl dX4_isSentFrom_3 (Nat.le_of_ble_eq_true rfl) ⟨by decide, by decide⟩ ⟨by decide, by decide⟩ (fun r1 L M hp => ?_)
  obtain ⟨C, D, F, I, K1, hr⟩ := hp
  have K := K.step K1 (by decide)
  obtain ⟨hr, hpln2⟩ := hr
  rcases okp_nat hr with rfl | ⟨n2, hn2, rfl⟩
  · skip
    refine g_istore_n X dX4_isSentFrom_6 rfl (by decide) (lv2 := [(3, .int (-1)), (0, .ref (a 25)), (1, .int (nI p0)), (2, .int (nI p1))]) rfl ?_
    refine g_iload_n X dX4_isSentFrom_7 rfl (j := 0) rfl ?_
    refine g_iconst X dX4_isSentFrom_8 (v := -1) (by decide) ?_
    refine g_icmp_eq X dX4_isSentFrom_9 (tgt := 29) (by decide) (fun _ => ?_) (fun q => absurd (by decide) q)
    refine g_iconst X dX4_isSentFrom_29 (v := 0) (by decide) ?_
    exact g_zret X hrt rfl dX4_isSentFrom_30 (by decide) (by decide) ⟨C, D, F, I, K, Or.inl rfl⟩
  · skip
    refine g_istore_n X dX4_isSentFrom_6 rfl (by decide) (lv2 := [(3, .int (nI n2)), (0, .ref (a 25)), (1, .int (nI p0)), (2, .int (nI p1))]) rfl ?_
    refine g_iload_n X dX4_isSentFrom_7 rfl (j := 0) rfl ?_
    refine g_iconst X dX4_isSentFrom_8 (v := -1) (by decide) ?_
    refine g_icmp_eq X dX4_isSentFrom_9 (tgt := 29) (by decide) (fun q => absurd q (nI_nm1 (by omega))) (fun _ => ?_)
    refine g_iload_n X dX4_isSentFrom_12 rfl (j := 0) rfl ?_
    refine g_bipush X dX4_isSentFrom_13 (v := 10) (by decide) ?_
    refine g_icmp_ge X dX4_isSentFrom_15 (tgt := 29) (by decide) (fun q4 => ?_) (fun q4 => ?_)
    · skip
      have q4 : 10 ≤ n2 := (nI_leI (a := 10) (b := n2) (by omega) (by omega)).mp q4
      refine g_iconst X dX4_isSentFrom_29 (v := 0) (by decide) ?_
      exact g_zret X hrt rfl dX4_isSentFrom_30 (by decide) (by decide) ⟨C, D, F, I, K, Or.inl rfl⟩
    · skip
      have q4 : ¬ 10 ≤ n2 := fun z => q4 ((nI_leI (a := 10) (b := n2) (by omega) (by omega)).mpr z)
      refine g_aload_n X dX4_isSentFrom_18 rfl (j := 1) rfl ?_
      refine i_get X F 25 rfl rfl fk_X4_37 dX4_isSentFrom_19 rfl ?_
      refine g_iload_n X dX4_isSentFrom_22 rfl (j := 0) rfl ?_
      refine g_callVI X (s_X2_hasArm l G F I n2 (by omega) (by omega) ) lk_X4_90 (F.1 3 rfl).2 (F.1 3 rfl).1 rfl rfl dX4_isSentFrom_23 (Nat.le_of_ble_eq_true rfl) ⟨by decide, by decide⟩ ⟨by decide, by decide⟩ (fun r5 L M hp => ?_)
      obtain ⟨C, D, F, I, K1, hr⟩ := hp
      have K := K.step K1 (by decide)
      have hpln2 : nI n2 = C 27 (p1 * 8 + p0) := by rw [(K1 27 (by decide)).1]; exact hpln2
      rcases hr with rfl | ⟨rfl, ra6⟩
      · skip
        refine g_if_ne X dX4_isSentFrom_26 (tgt := 31) (by decide) (fun q => absurd (by decide) q) (fun _ => ?_)
        refine g_iconst X dX4_isSentFrom_29 (v := 0) (by decide) ?_
        exact g_zret X hrt rfl dX4_isSentFrom_30 (by decide) (by decide) ⟨C, D, F, I, K, Or.inl rfl⟩
      · skip
        refine g_if_ne X dX4_isSentFrom_26 (tgt := 31) (by decide) (fun _ => ?_) (fun q => absurd q (by decide))
        refine g_aload_n X dX4_isSentFrom_31 rfl (j := 1) rfl ?_
        refine i_get X F 25 rfl rfl fk_X4_18 dX4_isSentFrom_32 rfl ?_
        refine Go.gen (fun o7 => ?_)
        refine g_iload_n X dX4_isSentFrom_35 rfl (j := 3) rfl ?_
        refine g_ishr X dX4_isSentFrom_36 ?_
        refine Go.gen (fun o8 => ?_)
        refine g_iconst X dX4_isSentFrom_37 (v := 1) (by decide) ?_
        refine g_iand X dX4_isSentFrom_38 ?_
        refine Go.gen (fun o9 => ?_)
        refine g_if_ne X dX4_isSentFrom_39 (tgt := 61) (by decide) (fun q10 => ?_) (fun q10 => ?_)
        · skip
          refine g_iconst X dX4_isSentFrom_61 (v := 0) (by decide) ?_
          exact g_zret X hrt rfl dX4_isSentFrom_62 (by decide) (by decide) ⟨C, D, F, I, K, Or.inl rfl⟩
        · skip
          subst q10
          refine g_aload_n X dX4_isSentFrom_42 rfl (j := 1) rfl ?_
          refine i_get X F 25 rfl rfl fk_X4_37 dX4_isSentFrom_43 rfl ?_
          refine i_get X F 3 rfl rfl fk_X4_94 dX4_isSentFrom_46 rfl ?_
          refine g_iload_n X dX4_isSentFrom_49 rfl (j := 2) rfl ?_
          refine g_iload_n X dX4_isSentFrom_50 rfl (j := 3) rfl ?_
          refine g_callVI X (s_X0_isHeld_10 l G F I p0 (by omega) (by omega) p1 (by omega) (by omega) ) lk_X4_116 (F.1 10 rfl).2 (F.1 10 rfl).1 rfl rfl dX4_isSentFrom_51 (Nat.le_of_ble_eq_true rfl) ⟨by decide, by decide⟩ ⟨by decide, by decide⟩ (fun r11 L M hp => ?_)
          obtain ⟨C, D, F, I, K1, hr⟩ := hp
          have K := K.step K1 (by decide)
          have hpln2 : nI n2 = C 27 (p1 * 8 + p0) := by rw [(K1 27 (by decide)).1]; exact hpln2
          have ra6 : 1 ≤ (C 5 n2).toInt := by rw [(K1 5 (by decide)).1]; exact ra6
          rcases hr with rfl | rfl
          · skip
            refine g_if_ne X dX4_isSentFrom_54 (tgt := 61) (by decide) (fun q => absurd (by decide) q) (fun _ => ?_)
            refine g_iconst X dX4_isSentFrom_57 (v := 1) (by decide) ?_
            refine g_goto X dX4_isSentFrom_58 (tgt := 62) (by decide) ?_
            exact g_zret X hrt rfl dX4_isSentFrom_62 (by decide) (by decide) ⟨C, D, F, I, K, Or.inr ⟨rfl, n2, by omega, hpln2.symm, ra6⟩⟩
          · skip
            refine g_if_ne X dX4_isSentFrom_54 (tgt := 61) (by decide) (fun _ => ?_) (fun q => absurd q (by decide))
            refine g_iconst X dX4_isSentFrom_61 (v := 0) (by decide) ?_
            exact g_zret X hrt rfl dX4_isSentFrom_62 (by decide) (by decide) ⟨C, D, F, I, K, Or.inl rfl⟩
set_option maxHeartbeats 4000000 in
set_option maxRecDepth 100000 in
theorem s_X4_stayOn_25 (l : Launch) (G : va_G) {cy : Nat → ClassId} {L : List Nat} {M : Nat → va_E} {a : Nat → Nat} {act : Nat → Bool} {C0 : Nat → Nat → Int32} {D0 : Nat → Nat → Int64} {R : Nat → Nat → Option Nat} (F : WI L M a act (ent cy a C0 D0 R)) (I : Inv C0) (p0 : Nat) (hp0a : 0 ≤ p0) (hp0b : p0 ≤ 7) (p1 : Nat) (hp1a : 0 ≤ p1) (hp1b : p1 ≤ 15)  : MV l G cy yX4_stayOn cX4_stayOn 4 none 1 0 0 [.ref (a 25), .int (nI p0), .int (nI p1)] L M (fun L2 M2 => ∃ C2 D2, WI L2 M2 a act (ent cy a C2 D2 R) ∧ Inv C2 ∧ Kp [27, 29] C0 D0 C2 D2 ∧ (∃ v : Int32, ∃ u : Int32, C2 29 = upd (C0 29) (p1 * 8 + p0) v ∧ C2 27 = upd (C0 27) ((p1 + 1) * 8 + p0) u ∧ v = -1)) := by
  refine MV.of (own := RX4) rfl (by decide) (Nat.le_of_ble_eq_true rfl) ?_
  intro p e s m below meth c A X hrt hnm
  obtain ⟨C, D, hC0, hD0, F, I, K⟩ : ∃ C D, C = C0 ∧ D = D0 ∧ WI L M a act (ent cy a C D R) ∧ Inv C ∧ Kp [27, 29] C0 D0 C D := ⟨C0, D0, rfl, rfl, F, I, Kp.rf⟩
  have o27 : C 27 = C0 27 := by rw [hC0]
  have o29 : C 29 = C0 29 := by rw [hC0]
  refine g_aload_n X dX4_stayOn_0 rfl (j := 0) rfl ?_
  refine g_iload_n X dX4_stayOn_1 rfl (j := 1) rfl ?_
  refine g_iload_n X dX4_stayOn_2 rfl (j := 2) rfl ?_
  refine g_callVI X (s_X4_placeOf_25 l G F I p0 (by omega) (by omega) p1 (by omega) (by omega) ) lk_X4_113 (F.1 25 rfl).2 (F.1 25 rfl).1 rfl rfl dX4_stayOn_3 (Nat.le_of_ble_eq_true rfl) ⟨by decide, by decide⟩ ⟨by decide, by decide⟩ (fun r1 L M hp => ?_)
  obtain ⟨C, D, F, I, K1, hr⟩ := hp
  have K := K.step K1 (by decide)
  have o27 : C 27 = C0 27 := by rw [(K1 27 (by decide)).1]; exact o27
  have o29 : C 29 = C0 29 := by rw [(K1 29 (by decide)).1]; exact o29
  obtain ⟨hr, hpln2⟩ := hr
  rcases okp_nat hr with rfl | ⟨n2, hn2, rfl⟩
  · skip
    refine g_istore_n X dX4_stayOn_6 rfl (by decide) (lv2 := [(3, .int (-1)), (0, .ref (a 25)), (1, .int (nI p0)), (2, .int (nI p1))]) rfl ?_
    refine g_iload_n X dX4_stayOn_7 rfl (j := 0) rfl ?_
    refine g_iconst X dX4_stayOn_8 (v := -1) (by decide) ?_
    refine g_icmp_ne X dX4_stayOn_9 (tgt := 34) (by decide) (fun q => absurd (by decide) q) (fun _ => ?_)
    refine g_aload_n X dX4_stayOn_12 rfl (j := 1) rfl ?_
    refine i_get X F 25 rfl rfl fk_X4_21 dX4_stayOn_13 rfl ?_
    refine g_iload_n X dX4_stayOn_16 rfl (j := 2) rfl ?_
    refine i_iald X F 26 rfl rfl dX4_stayOn_17 (vp_in_nI (by omega) (by decide)) rfl ?_
    refine Go.gen (fun o3 => ?_)
    refine g_iload_n X dX4_stayOn_18 rfl (j := 3) rfl ?_
    refine g_iconst X dX4_stayOn_19 (v := 1) (by decide) ?_
    refine g_iadd X dX4_stayOn_20 ?_
    refine Go.top (v := .int (nI (p1 + 1))) (congrArg Value.int (nI_add p1 1)) ?_
    refine g_icmp_ne X dX4_stayOn_21 (tgt := 34) (by decide) (fun q4 => ?_) (fun q4 => ?_)
    · skip
      refine g_aload_n X dX4_stayOn_34 rfl (j := 1) rfl ?_
      refine i_get X F 25 rfl rfl fk_X4_31 dX4_stayOn_35 rfl ?_
      refine g_iload_n X dX4_stayOn_38 rfl (j := 3) rfl ?_
      refine g_bipush X dX4_stayOn_39 (v := 8) (by decide) ?_
      refine g_imul X dX4_stayOn_41 ?_
      refine Go.top (v := .int (nI (p1 * 8))) (congrArg Value.int (pk_mul p1 8)) ?_
      refine g_iload_n X dX4_stayOn_42 rfl (j := 2) rfl ?_
      refine g_iadd X dX4_stayOn_43 ?_
      refine Go.top (v := .int (nI ((p1 * 8) + p0))) (congrArg Value.int (nI_add (p1 * 8) p0)) ?_
      refine g_iconst X dX4_stayOn_44 (v := -1) (by decide) ?_
      refine i_iast X F I 29 rfl (fun _ => rfl) dX4_stayOn_45 (vp_in_nI (by omega) (by decide)) (show rg (-1) 3 (-1) from ⟨by decide, by decide⟩) (fun M C F I K1 hC => ?_)
      have K := K.step K1 (by decide)
      have w29 : C 29 = upd (C0 29) (((p1 * 8) + p0)) (-1) := by rw [hC, o29]; rw [nI_clamp (by omega)]
      have o27 : C 27 = C0 27 := by rw [(K1 27 (by decide)).1]; exact o27
      refine g_aload_n X dX4_stayOn_46 rfl (j := 1) rfl ?_
      refine i_get X F 25 rfl rfl fk_X4_25 dX4_stayOn_47 rfl ?_
      refine g_iload_n X dX4_stayOn_50 rfl (j := 3) rfl ?_
      refine g_iconst X dX4_stayOn_51 (v := 1) (by decide) ?_
      refine g_iadd X dX4_stayOn_52 ?_
      refine Go.top (v := .int (nI (p1 + 1))) (congrArg Value.int (nI_add p1 1)) ?_
      refine g_bipush X dX4_stayOn_53 (v := 8) (by decide) ?_
      refine g_imul X dX4_stayOn_55 ?_
      refine Go.top (v := .int (nI ((p1 + 1) * 8))) (congrArg Value.int (pk_mul (p1 + 1) 8)) ?_
      refine g_iload_n X dX4_stayOn_56 rfl (j := 2) rfl ?_
      refine g_iadd X dX4_stayOn_57 ?_
      refine Go.top (v := .int (nI (((p1 + 1) * 8) + p0))) (congrArg Value.int (nI_add ((p1 + 1) * 8) p0)) ?_
      refine g_iload_n X dX4_stayOn_58 rfl (j := 0) rfl ?_
      refine i_iast X F I 27 rfl (fun _ => rfl) dX4_stayOn_59 (vp_in_nI (by omega) (by decide)) okp_m1 (fun M C F I K1 hC => ?_)
      have K := K.step K1 (by decide)
      have w27 : C 27 = upd (C0 27) ((((p1 + 1) * 8) + p0)) (-1) := by rw [hC, o27]; rw [nI_clamp (by omega)]
      have w29 : C 29 = upd (C0 29) (((p1 * 8) + p0)) (-1) := by rw [(K1 29 (by decide)).1]; exact w29
      exact g_vret X hrt dX4_stayOn_60 (by decide) (by decide) ⟨C, D, F, I, K, ⟨_, _, w29, w27, rfl⟩⟩
    · skip
      refine g_aload_n X dX4_stayOn_24 rfl (j := 1) rfl ?_
      refine i_get X F 25 rfl rfl fk_X4_37 dX4_stayOn_25 rfl ?_
      refine i_get X F 3 rfl rfl fk_X4_67 dX4_stayOn_28 rfl ?_
      refine g_iload_n X dX4_stayOn_31 rfl (j := 2) rfl ?_
      obtain ⟨n5, hn5, en5⟩ := rg_nat (I 8 p0) (by decide)
      refine i_iald X F 8 rfl rfl dX4_stayOn_32 (vp_in_nI (by omega) (by decide)) (v := nI n5) (by rw [nI_clamp (by omega)]; exact en5) ?_
      refine g_istore_n X dX4_stayOn_33 rfl (by decide) (lv2 := [(3, .int (nI n5)), (0, .ref (a 25)), (1, .int (nI p0)), (2, .int (nI p1))]) rfl ?_
      refine g_aload_n X dX4_stayOn_34 rfl (j := 1) rfl ?_
      refine i_get X F 25 rfl rfl fk_X4_31 dX4_stayOn_35 rfl ?_
      refine g_iload_n X dX4_stayOn_38 rfl (j := 3) rfl ?_
      refine g_bipush X dX4_stayOn_39 (v := 8) (by decide) ?_
      refine g_imul X dX4_stayOn_41 ?_
      refine Go.top (v := .int (nI (p1 * 8))) (congrArg Value.int (pk_mul p1 8)) ?_
      refine g_iload_n X dX4_stayOn_42 rfl (j := 2) rfl ?_
      refine g_iadd X dX4_stayOn_43 ?_
      refine Go.top (v := .int (nI ((p1 * 8) + p0))) (congrArg Value.int (nI_add (p1 * 8) p0)) ?_
      refine g_iconst X dX4_stayOn_44 (v := -1) (by decide) ?_
      refine i_iast X F I 29 rfl (fun _ => rfl) dX4_stayOn_45 (vp_in_nI (by omega) (by decide)) (show rg (-1) 3 (-1) from ⟨by decide, by decide⟩) (fun M C F I K1 hC => ?_)
      have K := K.step K1 (by decide)
      have w29 : C 29 = upd (C0 29) (((p1 * 8) + p0)) (-1) := by rw [hC, o29]; rw [nI_clamp (by omega)]
      have o27 : C 27 = C0 27 := by rw [(K1 27 (by decide)).1]; exact o27
      refine g_aload_n X dX4_stayOn_46 rfl (j := 1) rfl ?_
      refine i_get X F 25 rfl rfl fk_X4_25 dX4_stayOn_47 rfl ?_
      refine g_iload_n X dX4_stayOn_50 rfl (j := 3) rfl ?_
      refine g_iconst X dX4_stayOn_51 (v := 1) (by decide) ?_
      refine g_iadd X dX4_stayOn_52 ?_
      refine Go.top (v := .int (nI (p1 + 1))) (congrArg Value.int (nI_add p1 1)) ?_
      refine g_bipush X dX4_stayOn_53 (v := 8) (by decide) ?_
      refine g_imul X dX4_stayOn_55 ?_
      refine Go.top (v := .int (nI ((p1 + 1) * 8))) (congrArg Value.int (pk_mul (p1 + 1) 8)) ?_
      refine g_iload_n X dX4_stayOn_56 rfl (j := 2) rfl ?_
      refine g_iadd X dX4_stayOn_57 ?_
      refine Go.top (v := .int (nI (((p1 + 1) * 8) + p0))) (congrArg Value.int (nI_add ((p1 + 1) * 8) p0)) ?_
      refine g_iload_n X dX4_stayOn_58 rfl (j := 0) rfl ?_
      refine i_iast X F I 27 rfl (fun _ => rfl) dX4_stayOn_59 (vp_in_nI (by omega) (by decide)) (okp_of (n := n5) (by omega)) (fun M C F I K1 hC => ?_)
      have K := K.step K1 (by decide)
      have w27 : C 27 = upd (C0 27) ((((p1 + 1) * 8) + p0)) (nI n5) := by rw [hC, o27]; rw [nI_clamp (by omega)]
      have w29 : C 29 = upd (C0 29) (((p1 * 8) + p0)) (-1) := by rw [(K1 29 (by decide)).1]; exact w29
      exact g_vret X hrt dX4_stayOn_60 (by decide) (by decide) ⟨C, D, F, I, K, ⟨_, _, w29, w27, rfl⟩⟩
  · skip
    refine g_istore_n X dX4_stayOn_6 rfl (by decide) (lv2 := [(3, .int (nI n2)), (0, .ref (a 25)), (1, .int (nI p0)), (2, .int (nI p1))]) rfl ?_
    refine g_iload_n X dX4_stayOn_7 rfl (j := 0) rfl ?_
    refine g_iconst X dX4_stayOn_8 (v := -1) (by decide) ?_
    refine g_icmp_ne X dX4_stayOn_9 (tgt := 34) (by decide) (fun _ => ?_) (fun q => absurd q (nI_nm1 (by omega)))
    refine g_aload_n X dX4_stayOn_34 rfl (j := 1) rfl ?_
    refine i_get X F 25 rfl rfl fk_X4_31 dX4_stayOn_35 rfl ?_
    refine g_iload_n X dX4_stayOn_38 rfl (j := 3) rfl ?_
    refine g_bipush X dX4_stayOn_39 (v := 8) (by decide) ?_
    refine g_imul X dX4_stayOn_41 ?_
    refine Go.top (v := .int (nI (p1 * 8))) (congrArg Value.int (pk_mul p1 8)) ?_
    refine g_iload_n X dX4_stayOn_42 rfl (j := 2) rfl ?_
    refine g_iadd X dX4_stayOn_43 ?_
    refine Go.top (v := .int (nI ((p1 * 8) + p0))) (congrArg Value.int (nI_add (p1 * 8) p0)) ?_
    refine g_iconst X dX4_stayOn_44 (v := -1) (by decide) ?_
    refine i_iast X F I 29 rfl (fun _ => rfl) dX4_stayOn_45 (vp_in_nI (by omega) (by decide)) (show rg (-1) 3 (-1) from ⟨by decide, by decide⟩) (fun M C F I K1 hC => ?_)
    have K := K.step K1 (by decide)
    have w29 : C 29 = upd (C0 29) (((p1 * 8) + p0)) (-1) := by rw [hC, o29]; rw [nI_clamp (by omega)]
    have o27 : C 27 = C0 27 := by rw [(K1 27 (by decide)).1]; exact o27
    have hpln2 : nI n2 = C 27 (p1 * 8 + p0) := by rw [(K1 27 (by decide)).1]; exact hpln2
    refine g_aload_n X dX4_stayOn_46 rfl (j := 1) rfl ?_
    refine i_get X F 25 rfl rfl fk_X4_25 dX4_stayOn_47 rfl ?_
    refine g_iload_n X dX4_stayOn_50 rfl (j := 3) rfl ?_
    refine g_iconst X dX4_stayOn_51 (v := 1) (by decide) ?_
    refine g_iadd X dX4_stayOn_52 ?_
    refine Go.top (v := .int (nI (p1 + 1))) (congrArg Value.int (nI_add p1 1)) ?_
    refine g_bipush X dX4_stayOn_53 (v := 8) (by decide) ?_
    refine g_imul X dX4_stayOn_55 ?_
    refine Go.top (v := .int (nI ((p1 + 1) * 8))) (congrArg Value.int (pk_mul (p1 + 1) 8)) ?_
    refine g_iload_n X dX4_stayOn_56 rfl (j := 2) rfl ?_
    refine g_iadd X dX4_stayOn_57 ?_
    refine Go.top (v := .int (nI (((p1 + 1) * 8) + p0))) (congrArg Value.int (nI_add ((p1 + 1) * 8) p0)) ?_
    refine g_iload_n X dX4_stayOn_58 rfl (j := 0) rfl ?_
    refine i_iast X F I 27 rfl (fun _ => rfl) dX4_stayOn_59 (vp_in_nI (by omega) (by decide)) (okp_of (n := n2) (by omega)) (fun M C F I K1 hC => ?_)
    have K := K.step K1 (by decide)
    have w27 : C 27 = upd (C0 27) ((((p1 + 1) * 8) + p0)) (nI n2) := by rw [hC, o27]; rw [nI_clamp (by omega)]
    have w29 : C 29 = upd (C0 29) (((p1 * 8) + p0)) (-1) := by rw [(K1 29 (by decide)).1]; exact w29
    exact g_vret X hrt dX4_stayOn_60 (by decide) (by decide) ⟨C, D, F, I, K, ⟨_, _, w29, w27, rfl⟩⟩
set_option maxHeartbeats 4000000 in
set_option maxRecDepth 100000 in
theorem s_X4_letsIn_25 (l : Launch) (G : va_G) {cy : Nat → ClassId} {L : List Nat} {M : Nat → va_E} {a : Nat → Nat} {act : Nat → Bool} {C0 : Nat → Nat → Int32} {D0 : Nat → Nat → Int64} {R : Nat → Nat → Option Nat} (F : WI L M a act (ent cy a C0 D0 R)) (I : Inv C0) (p0 : Nat) (hp0 : p0 < 7 ∨ (10 ≤ p0 ∧ p0 < 14))  : MI l G cy yX4_letsIn cX4_letsIn 3 (some .boolean) 0 0 0 [.ref (a 25), .int (nI p0)] L M (fun r L2 M2 => ∃ C2 D2, WI L2 M2 a act (ent cy a C2 D2 R) ∧ Inv C2 ∧ Kp [30] C0 D0 C2 D2 ∧ (r = 0 ∨ r = 1)) := by
  refine MI.of (own := RX4) rfl (by decide) (Nat.le_of_ble_eq_true rfl) ?_
  intro p e s m below meth c A X hrt hnm
  obtain ⟨C, D, hC0, hD0, F, I, K⟩ : ∃ C D, C = C0 ∧ D = D0 ∧ WI L M a act (ent cy a C D R) ∧ Inv C ∧ Kp [30] C0 D0 C D := ⟨C0, D0, rfl, rfl, F, I, Kp.rf⟩
  refine g_iload_n X dX4_letsIn_0 rfl (j := 1) rfl ?_
  refine g_bipush X dX4_letsIn_1 (v := 10) (by decide) ?_
  refine g_icmp_ge X dX4_letsIn_3 (tgt := 8) (by decide) (fun q1 => ?_) (fun q1 => ?_)
  · skip
    have q1 : 10 ≤ p0 := (nI_leI (a := 10) (b := p0) (by omega) (by omega)).mp q1
    refine g_iload_n X dX4_letsIn_8 rfl (j := 1) rfl ?_
    refine g_bipush X dX4_letsIn_9 (v := 10) (by decide) ?_
    refine g_isub X dX4_letsIn_11 ?_
    refine Go.top (v := .int (nI (p0 - 10))) (congrArg Value.int (pk_sub (a := p0) (b := 10) (by omega))) ?_
    refine g_istore_n X dX4_letsIn_12 rfl (by decide) (lv2 := [(2, .int (nI (p0 - 10))), (0, .ref (a 25)), (1, .int (nI p0))]) rfl ?_
    refine g_aload_n X dX4_letsIn_13 rfl (j := 1) rfl ?_
    refine i_get X F 25 rfl rfl fk_X4_34 dX4_letsIn_14 rfl ?_
    refine g_iload_n X dX4_letsIn_17 rfl (j := 0) rfl ?_
    refine i_iald X F 30 rfl rfl dX4_letsIn_18 (vp_in_nI (by omega) (by decide)) rfl ?_
    refine Go.gen (fun o2 => ?_)
    refine g_aload_n X dX4_letsIn_19 rfl (j := 1) rfl ?_
    refine i_get X F 25 rfl rfl fk_X4_37 dX4_letsIn_20 rfl ?_
    refine i_get X F 3 rfl rfl fk_X4_129 dX4_letsIn_23 rfl ?_
    refine g_iload_n X dX4_letsIn_26 rfl (j := 0) rfl ?_
    refine i_iald X F 4 rfl rfl dX4_letsIn_27 (vp_in_nI (by omega) (by decide)) rfl ?_
    refine Go.gen (fun o3 => ?_)
    refine g_icmp_lt X dX4_letsIn_28 (tgt := 33) (by decide) (fun q4 => ?_) (fun q4 => ?_)
    · skip
      refine g_aload_n X dX4_letsIn_33 rfl (j := 1) rfl ?_
      refine i_get X F 25 rfl rfl fk_X4_34 dX4_letsIn_34 rfl ?_
      refine g_iload_n X dX4_letsIn_37 rfl (j := 0) rfl ?_
      refine g_dup2 X dX4_letsIn_38 rfl rfl ?_
      refine i_iald X F 30 rfl rfl dX4_letsIn_39 (vp_in_nI (by omega) (by decide)) rfl ?_
      refine Go.gen (fun o5 => ?_)
      refine g_iconst X dX4_letsIn_40 (v := 1) (by decide) ?_
      refine g_iadd X dX4_letsIn_41 ?_
      refine Go.gen (fun o6 => ?_)
      refine i_iast X F I 30 rfl (fun _ => rfl) dX4_letsIn_42 (vp_in_nI (by omega) (by decide)) trivial (fun M C F I K1 hC => ?_)
      have K := K.step K1 (by decide)
      refine g_iconst X dX4_letsIn_43 (v := 1) (by decide) ?_
      exact g_zret X hrt rfl dX4_letsIn_44 (by decide) (by decide) ⟨C, D, F, I, K, Or.inr rfl⟩
    · skip
      refine g_iconst X dX4_letsIn_31 (v := 0) (by decide) ?_
      exact g_zret X hrt rfl dX4_letsIn_32 (by decide) (by decide) ⟨C, D, F, I, K, Or.inl rfl⟩
  · skip
    have q1 : ¬ 10 ≤ p0 := fun z => q1 ((nI_leI (a := 10) (b := p0) (by omega) (by omega)).mpr z)
    refine g_iconst X dX4_letsIn_6 (v := 1) (by decide) ?_
    exact g_zret X hrt rfl dX4_letsIn_7 (by decide) (by decide) ⟨C, D, F, I, K, Or.inr rfl⟩
set_option maxHeartbeats 4000000 in
set_option maxRecDepth 100000 in
theorem s_X4_sendOn_25 (l : Launch) (G : va_G) {cy : Nat → ClassId} {L : List Nat} {M : Nat → va_E} {a : Nat → Nat} {act : Nat → Bool} {C0 : Nat → Nat → Int32} {D0 : Nat → Nat → Int64} {R : Nat → Nat → Option Nat} (F : WI L M a act (ent cy a C0 D0 R)) (I : Inv C0) (p0 : Nat) (hp0a : 0 ≤ p0) (hp0b : p0 ≤ 7) (p1 : Nat) (hp1a : 0 ≤ p1) (hp1b : p1 ≤ 15) (hsn : ∃ n : Nat, n < 7 ∧ C0 27 (p1 * 8 + p0) = nI n ∧ 1 ≤ (C0 5 n).toInt) : MV l G cy yX4_sendOn cX4_sendOn 7 none 1 0 0 [.ref (a 25), .int (nI p0), .int (nI p1)] L M (fun L2 M2 => ∃ C2 D2, WI L2 M2 a act (ent cy a C2 D2 R) ∧ Inv C2 ∧ Kp [27, 28, 29, 30] C0 D0 C2 D2 ∧ (∃ v : Int32, ∃ u : Int32, C2 29 = upd (C0 29) (p1 * 8 + p0) v ∧ C2 27 = upd (C0 27) ((p1 + 1) * 8 + p0) u ∧ True)) := by
  refine MV.of (own := RX4) rfl (by decide) (Nat.le_of_ble_eq_true rfl) ?_
  intro p e s m below meth c A X hrt hnm
  obtain ⟨C, D, hC0, hD0, F, I, K⟩ : ∃ C D, C = C0 ∧ D = D0 ∧ WI L M a act (ent cy a C D R) ∧ Inv C ∧ Kp [27, 28, 29, 30] C0 D0 C D := ⟨C0, D0, rfl, rfl, F, I, Kp.rf⟩
  rw [← hC0] at hsn
  have o27 : C 27 = C0 27 := by rw [hC0]
  have o29 : C 29 = C0 29 := by rw [hC0]
  obtain ⟨ns, hns, ens, hra⟩ := hsn
  refine g_aload_n X dX4_sendOn_0 rfl (j := 0) rfl ?_
  refine g_iload_n X dX4_sendOn_1 rfl (j := 1) rfl ?_
  refine g_iload_n X dX4_sendOn_2 rfl (j := 2) rfl ?_
  refine g_callVI X (s_X4_placeOf_25 l G F I p0 (by omega) (by omega) p1 (by omega) (by omega) ) lk_X4_113 (F.1 25 rfl).2 (F.1 25 rfl).1 rfl rfl dX4_sendOn_3 (Nat.le_of_ble_eq_true rfl) ⟨by decide, by decide⟩ ⟨by decide, by decide⟩ (fun r1 L M hp => ?_)
  obtain ⟨C, D, F, I, K1, hr⟩ := hp
  have K := K.step K1 (by decide)
  have o27 : C 27 = C0 27 := by rw [(K1 27 (by decide)).1]; exact o27
  have o29 : C 29 = C0 29 := by rw [(K1 29 (by decide)).1]; exact o29
  have ens : C 27 (p1 * 8 + p0) = nI ns := by rw [(K1 27 (by decide)).1]; exact ens
  have hra : 1 ≤ (C 5 ns).toInt := by rw [(K1 5 (by decide)).1]; exact hra
  obtain ⟨hr, hpln2⟩ := hr
  rcases okp_nat hr with rfl | ⟨n2, hn2, rfl⟩
  · skip
    exact absurd (hpln2.trans ens).symm (nI_nm1 (by omega))
  · skip
    obtain rfl : n2 = ns := (nI_eq (by omega) (by omega)).mp (hpln2.trans ens)
    refine g_istore_n X dX4_sendOn_6 rfl (by decide) (lv2 := [(3, .int (nI n2)), (0, .ref (a 25)), (1, .int (nI p0)), (2, .int (nI p1))]) rfl ?_
    refine g_aload_n X dX4_sendOn_7 rfl (j := 1) rfl ?_
    refine i_get X F 25 rfl rfl fk_X4_15 dX4_sendOn_8 rfl ?_
    refine Go.gen (fun o3 => ?_)
    refine g_iload_n X dX4_sendOn_11 rfl (j := 0) rfl ?_
    refine g_ishr X dX4_sendOn_12 ?_
    refine Go.gen (fun o4 => ?_)
    refine g_iconst X dX4_sendOn_13 (v := 1) (by decide) ?_
    refine g_iand X dX4_sendOn_14 ?_
    refine Go.gen (fun o5 => ?_)
    refine g_if_ne X dX4_sendOn_15 (tgt := 22) (by decide) (fun q6 => ?_) (fun q6 => ?_)
    · skip
      refine g_aload_n X dX4_sendOn_22 rfl (j := 1) rfl ?_
      refine i_get X F 25 rfl rfl fk_X4_9 dX4_sendOn_23 rfl ?_
      refine Go.gen (fun o7 => ?_)
      refine g_istore X dX4_sendOn_26 (by decide) (lv2 := [(4, .int o7), (3, .int (nI n2)), (0, .ref (a 25)), (1, .int (nI p0)), (2, .int (nI p1))]) rfl ?_
      refine g_aload_n X dX4_sendOn_28 rfl (j := 2) rfl ?_
      refine i_get X F 25 rfl rfl fk_X4_37 dX4_sendOn_29 rfl ?_
      refine g_aload_n X dX4_sendOn_32 rfl (j := 2) rfl ?_
      refine i_get X F 25 rfl rfl fk_X4_28 dX4_sendOn_33 rfl ?_
      refine g_iload_n X dX4_sendOn_36 rfl (j := 4) rfl ?_
      refine g_iconst X dX4_sendOn_37 (v := 1) (by decide) ?_
      refine g_iadd X dX4_sendOn_38 ?_
      refine Go.top (v := .int (nI (p1 + 1))) (congrArg Value.int (nI_add p1 1)) ?_
      refine g_bipush X dX4_sendOn_39 (v := 7) (by decide) ?_
      refine g_imul X dX4_sendOn_41 ?_
      refine Go.top (v := .int (nI ((p1 + 1) * 7))) (congrArg Value.int (pk_mul (p1 + 1) 7)) ?_
      refine g_iload_n X dX4_sendOn_42 rfl (j := 1) rfl ?_
      refine g_iload X dX4_sendOn_43 (j := 0) rfl ?_
      refine g_callVI X (s_X2_sendBy_28 l G F I ((p1 + 1) * 7) (by omega) (by omega) n2 (by omega) (by omega) o7 hra) lk_X4_119 (F.1 3 rfl).2 (F.1 3 rfl).1 rfl rfl dX4_sendOn_45 (Nat.le_of_ble_eq_true rfl) ⟨by decide, by decide⟩ ⟨by decide, by decide⟩ (fun r8 L M hp => ?_)
      obtain ⟨C, D, F, I, K1, hr⟩ := hp
      have K := K.step K1 (by decide)
      have o27 : C 27 = C0 27 := by rw [(K1 27 (by decide)).1]; exact o27
      have o29 : C 29 = C0 29 := by rw [(K1 29 (by decide)).1]; exact o29
      have ens : C 27 (p1 * 8 + p0) = nI n2 := by rw [(K1 27 (by decide)).1]; exact ens
      have hra : 1 ≤ (C 5 n2).toInt := by rw [(K1 5 (by decide)).1]; exact hra
      have hpln2 : nI n2 = C 27 (p1 * 8 + p0) := by rw [(K1 27 (by decide)).1]; exact hpln2
      obtain ⟨n9, hn9a, hn9b, rfl⟩ := hr
      refine g_istore X dX4_sendOn_48 (by decide) (lv2 := [(5, .int (nI n9)), (4, .int o7), (3, .int (nI n2)), (0, .ref (a 25)), (1, .int (nI p0)), (2, .int (nI p1))]) rfl ?_
      refine g_aload_n X dX4_sendOn_50 rfl (j := 3) rfl ?_
      refine i_get X F 25 rfl rfl fk_X4_37 dX4_sendOn_51 rfl ?_
      refine g_iload_n X dX4_sendOn_54 rfl (j := 2) rfl ?_
      refine g_iload X dX4_sendOn_55 (j := 0) rfl ?_
      refine g_callVI X (s_X2_goal l G F I n2 (by omega) (by omega) n9 (by omega) (by omega) ) lk_X4_123 (F.1 3 rfl).2 (F.1 3 rfl).1 rfl rfl dX4_sendOn_57 (Nat.le_of_ble_eq_true rfl) ⟨by decide, by decide⟩ ⟨by decide, by decide⟩ (fun r10 L M hp => ?_)
      obtain ⟨C, D, F, I, K1, hr⟩ := hp
      have K := K.step K1 (by decide)
      have o27 : C 27 = C0 27 := by rw [(K1 27 (by decide)).1]; exact o27
      have o29 : C 29 = C0 29 := by rw [(K1 29 (by decide)).1]; exact o29
      have ens : C 27 (p1 * 8 + p0) = nI n2 := by rw [(K1 27 (by decide)).1]; exact ens
      have hra : 1 ≤ (C 5 n2).toInt := by rw [(K1 5 (by decide)).1]; exact hra
      have hpln2 : nI n2 = C 27 (p1 * 8 + p0) := by rw [(K1 27 (by decide)).1]; exact hpln2
      obtain ⟨n11, hn11, rfl⟩ := hr
      refine g_istore X dX4_sendOn_60 (by decide) (lv2 := [(6, .int (nI n11)), (5, .int (nI n9)), (4, .int o7), (3, .int (nI n2)), (0, .ref (a 25)), (1, .int (nI p0)), (2, .int (nI p1))]) rfl ?_
      refine g_aload_n X dX4_sendOn_62 rfl (j := 4) rfl ?_
      refine i_get X F 25 rfl rfl fk_X4_31 dX4_sendOn_63 rfl ?_
      refine g_iload_n X dX4_sendOn_66 rfl (j := 6) rfl ?_
      refine g_bipush X dX4_sendOn_67 (v := 8) (by decide) ?_
      refine g_imul X dX4_sendOn_69 ?_
      refine Go.top (v := .int (nI (p1 * 8))) (congrArg Value.int (pk_mul p1 8)) ?_
      refine g_iload_n X dX4_sendOn_70 rfl (j := 5) rfl ?_
      refine g_iadd X dX4_sendOn_71 ?_
      refine Go.top (v := .int (nI ((p1 * 8) + p0))) (congrArg Value.int (nI_add (p1 * 8) p0)) ?_
      refine g_iload X dX4_sendOn_72 (j := 1) rfl ?_
      refine i_iast X F I 29 rfl (fun _ => rfl) dX4_sendOn_74 (vp_in_nI (by omega) (by decide)) (rg_of (n := n9) (by omega) (by omega) (by omega)) (fun M C F I K1 hC => ?_)
      have K := K.step K1 (by decide)
      have w29 : C 29 = upd (C0 29) (((p1 * 8) + p0)) (nI n9) := by rw [hC, o29]; rw [nI_clamp (by omega)]
      have o27 : C 27 = C0 27 := by rw [(K1 27 (by decide)).1]; exact o27
      have ens : C 27 (p1 * 8 + p0) = nI n2 := by rw [(K1 27 (by decide)).1]; exact ens
      have hra : 1 ≤ (C 5 n2).toInt := by rw [(K1 5 (by decide)).1]; exact hra
      have hpln2 : nI n2 = C 27 (p1 * 8 + p0) := by rw [(K1 27 (by decide)).1]; exact hpln2
      refine g_aload_n X dX4_sendOn_75 rfl (j := 4) rfl ?_
      refine i_get X F 25 rfl rfl fk_X4_25 dX4_sendOn_76 rfl ?_
      refine g_iload_n X dX4_sendOn_79 rfl (j := 6) rfl ?_
      refine g_iconst X dX4_sendOn_80 (v := 1) (by decide) ?_
      refine g_iadd X dX4_sendOn_81 ?_
      refine Go.top (v := .int (nI (p1 + 1))) (congrArg Value.int (nI_add p1 1)) ?_
      refine g_bipush X dX4_sendOn_82 (v := 8) (by decide) ?_
      refine g_imul X dX4_sendOn_84 ?_
      refine Go.top (v := .int (nI ((p1 + 1) * 8))) (congrArg Value.int (pk_mul (p1 + 1) 8)) ?_
      refine g_iload_n X dX4_sendOn_85 rfl (j := 5) rfl ?_
      refine g_iadd X dX4_sendOn_86 ?_
      refine Go.top (v := .int (nI (((p1 + 1) * 8) + p0))) (congrArg Value.int (nI_add ((p1 + 1) * 8) p0)) ?_
      refine g_aload_n X dX4_sendOn_87 rfl (j := 4) rfl ?_
      refine g_iload X dX4_sendOn_88 (j := 0) rfl ?_
      refine g_callVI X (s_X4_letsIn_25 l G F I n11 (by omega) ) lk_X4_126 (F.1 25 rfl).2 (F.1 25 rfl).1 rfl rfl dX4_sendOn_90 (Nat.le_of_ble_eq_true rfl) ⟨by decide, by decide⟩ ⟨by decide, by decide⟩ (fun r12 L M hp => ?_)
      obtain ⟨C, D, F, I, K1, hr⟩ := hp
      have K := K.step K1 (by decide)
      have o27 : C 27 = C0 27 := by rw [(K1 27 (by decide)).1]; exact o27
      have ens : C 27 (p1 * 8 + p0) = nI n2 := by rw [(K1 27 (by decide)).1]; exact ens
      have hra : 1 ≤ (C 5 n2).toInt := by rw [(K1 5 (by decide)).1]; exact hra
      have hpln2 : nI n2 = C 27 (p1 * 8 + p0) := by rw [(K1 27 (by decide)).1]; exact hpln2
      have w29 : C 29 = upd (C0 29) (((p1 * 8) + p0)) (nI n9) := by rw [(K1 29 (by decide)).1]; exact w29
      rcases hr with rfl | rfl
      · skip
        refine g_if_eq X dX4_sendOn_93 (tgt := 101) (by decide) (fun _ => ?_) (fun q => absurd (by decide) q)
        refine g_iload_n X dX4_sendOn_101 rfl (j := 3) rfl ?_
        refine i_iast X F I 27 rfl (fun _ => rfl) dX4_sendOn_102 (vp_in_nI (by omega) (by decide)) (okp_of (n := n2) (by omega)) (fun M C F I K1 hC => ?_)
        have K := K.step K1 (by decide)
        have w27 : C 27 = upd (C0 27) ((((p1 + 1) * 8) + p0)) (nI n2) := by rw [hC, o27]; rw [nI_clamp (by omega)]
        have hra : 1 ≤ (C 5 n2).toInt := by rw [(K1 5 (by decide)).1]; exact hra
        have w29 : C 29 = upd (C0 29) (((p1 * 8) + p0)) (nI n9) := by rw [(K1 29 (by decide)).1]; exact w29
        exact g_vret X hrt dX4_sendOn_103 (by decide) (by decide) ⟨C, D, F, I, K, ⟨_, _, w29, w27, trivial⟩⟩
      · skip
        refine g_if_eq X dX4_sendOn_93 (tgt := 101) (by decide) (fun q => absurd q (by decide)) (fun _ => ?_)
        refine g_iload X dX4_sendOn_96 (j := 0) rfl ?_
        refine g_goto X dX4_sendOn_98 (tgt := 102) (by decide) ?_
        refine i_iast X F I 27 rfl (fun _ => rfl) dX4_sendOn_102 (vp_in_nI (by omega) (by decide)) (okp_of (n := n11) (by omega)) (fun M C F I K1 hC => ?_)
        have K := K.step K1 (by decide)
        have w27 : C 27 = upd (C0 27) ((((p1 + 1) * 8) + p0)) (nI n11) := by rw [hC, o27]; rw [nI_clamp (by omega)]
        have hra : 1 ≤ (C 5 n2).toInt := by rw [(K1 5 (by decide)).1]; exact hra
        have w29 : C 29 = upd (C0 29) (((p1 * 8) + p0)) (nI n9) := by rw [(K1 29 (by decide)).1]; exact w29
        exact g_vret X hrt dX4_sendOn_103 (by decide) (by decide) ⟨C, D, F, I, K, ⟨_, _, w29, w27, trivial⟩⟩
    · skip
      subst q6
      refine g_iconst X dX4_sendOn_18 (v := -1) (by decide) ?_
      refine g_goto X dX4_sendOn_19 (tgt := 26) (by decide) ?_
      refine g_istore X dX4_sendOn_26 (by decide) (lv2 := [(4, .int (-1)), (3, .int (nI n2)), (0, .ref (a 25)), (1, .int (nI p0)), (2, .int (nI p1))]) rfl ?_
      refine g_aload_n X dX4_sendOn_28 rfl (j := 2) rfl ?_
      refine i_get X F 25 rfl rfl fk_X4_37 dX4_sendOn_29 rfl ?_
      refine g_aload_n X dX4_sendOn_32 rfl (j := 2) rfl ?_
      refine i_get X F 25 rfl rfl fk_X4_28 dX4_sendOn_33 rfl ?_
      refine g_iload_n X dX4_sendOn_36 rfl (j := 4) rfl ?_
      refine g_iconst X dX4_sendOn_37 (v := 1) (by decide) ?_
      refine g_iadd X dX4_sendOn_38 ?_
      refine Go.top (v := .int (nI (p1 + 1))) (congrArg Value.int (nI_add p1 1)) ?_
      refine g_bipush X dX4_sendOn_39 (v := 7) (by decide) ?_
      refine g_imul X dX4_sendOn_41 ?_
      refine Go.top (v := .int (nI ((p1 + 1) * 7))) (congrArg Value.int (pk_mul (p1 + 1) 7)) ?_
      refine g_iload_n X dX4_sendOn_42 rfl (j := 1) rfl ?_
      refine g_iload X dX4_sendOn_43 (j := 0) rfl ?_
      refine g_callVI X (s_X2_sendBy_28 l G F I ((p1 + 1) * 7) (by omega) (by omega) n2 (by omega) (by omega) (-1 : Int32) hra) lk_X4_119 (F.1 3 rfl).2 (F.1 3 rfl).1 rfl rfl dX4_sendOn_45 (Nat.le_of_ble_eq_true rfl) ⟨by decide, by decide⟩ ⟨by decide, by decide⟩ (fun r13 L M hp => ?_)
      obtain ⟨C, D, F, I, K1, hr⟩ := hp
      have K := K.step K1 (by decide)
      have o27 : C 27 = C0 27 := by rw [(K1 27 (by decide)).1]; exact o27
      have o29 : C 29 = C0 29 := by rw [(K1 29 (by decide)).1]; exact o29
      have ens : C 27 (p1 * 8 + p0) = nI n2 := by rw [(K1 27 (by decide)).1]; exact ens
      have hra : 1 ≤ (C 5 n2).toInt := by rw [(K1 5 (by decide)).1]; exact hra
      have hpln2 : nI n2 = C 27 (p1 * 8 + p0) := by rw [(K1 27 (by decide)).1]; exact hpln2
      obtain ⟨n14, hn14a, hn14b, rfl⟩ := hr
      refine g_istore X dX4_sendOn_48 (by decide) (lv2 := [(5, .int (nI n14)), (4, .int (-1)), (3, .int (nI n2)), (0, .ref (a 25)), (1, .int (nI p0)), (2, .int (nI p1))]) rfl ?_
      refine g_aload_n X dX4_sendOn_50 rfl (j := 3) rfl ?_
      refine i_get X F 25 rfl rfl fk_X4_37 dX4_sendOn_51 rfl ?_
      refine g_iload_n X dX4_sendOn_54 rfl (j := 2) rfl ?_
      refine g_iload X dX4_sendOn_55 (j := 0) rfl ?_
      refine g_callVI X (s_X2_goal l G F I n2 (by omega) (by omega) n14 (by omega) (by omega) ) lk_X4_123 (F.1 3 rfl).2 (F.1 3 rfl).1 rfl rfl dX4_sendOn_57 (Nat.le_of_ble_eq_true rfl) ⟨by decide, by decide⟩ ⟨by decide, by decide⟩ (fun r15 L M hp => ?_)
      obtain ⟨C, D, F, I, K1, hr⟩ := hp
      have K := K.step K1 (by decide)
      have o27 : C 27 = C0 27 := by rw [(K1 27 (by decide)).1]; exact o27
      have o29 : C 29 = C0 29 := by rw [(K1 29 (by decide)).1]; exact o29
      have ens : C 27 (p1 * 8 + p0) = nI n2 := by rw [(K1 27 (by decide)).1]; exact ens
      have hra : 1 ≤ (C 5 n2).toInt := by rw [(K1 5 (by decide)).1]; exact hra
      have hpln2 : nI n2 = C 27 (p1 * 8 + p0) := by rw [(K1 27 (by decide)).1]; exact hpln2
      obtain ⟨n16, hn16, rfl⟩ := hr
      refine g_istore X dX4_sendOn_60 (by decide) (lv2 := [(6, .int (nI n16)), (5, .int (nI n14)), (4, .int (-1)), (3, .int (nI n2)), (0, .ref (a 25)), (1, .int (nI p0)), (2, .int (nI p1))]) rfl ?_
      refine g_aload_n X dX4_sendOn_62 rfl (j := 4) rfl ?_
      refine i_get X F 25 rfl rfl fk_X4_31 dX4_sendOn_63 rfl ?_
      refine g_iload_n X dX4_sendOn_66 rfl (j := 6) rfl ?_
      refine g_bipush X dX4_sendOn_67 (v := 8) (by decide) ?_
      refine g_imul X dX4_sendOn_69 ?_
      refine Go.top (v := .int (nI (p1 * 8))) (congrArg Value.int (pk_mul p1 8)) ?_
      refine g_iload_n X dX4_sendOn_70 rfl (j := 5) rfl ?_
      refine g_iadd X dX4_sendOn_71 ?_
      refine Go.top (v := .int (nI ((p1 * 8) + p0))) (congrArg Value.int (nI_add (p1 * 8) p0)) ?_
      refine g_iload X dX4_sendOn_72 (j := 1) rfl ?_
      refine i_iast X F I 29 rfl (fun _ => rfl) dX4_sendOn_74 (vp_in_nI (by omega) (by decide)) (rg_of (n := n14) (by omega) (by omega) (by omega)) (fun M C F I K1 hC => ?_)
      have K := K.step K1 (by decide)
      have w29 : C 29 = upd (C0 29) (((p1 * 8) + p0)) (nI n14) := by rw [hC, o29]; rw [nI_clamp (by omega)]
      have o27 : C 27 = C0 27 := by rw [(K1 27 (by decide)).1]; exact o27
      have ens : C 27 (p1 * 8 + p0) = nI n2 := by rw [(K1 27 (by decide)).1]; exact ens
      have hra : 1 ≤ (C 5 n2).toInt := by rw [(K1 5 (by decide)).1]; exact hra
      have hpln2 : nI n2 = C 27 (p1 * 8 + p0) := by rw [(K1 27 (by decide)).1]; exact hpln2
      refine g_aload_n X dX4_sendOn_75 rfl (j := 4) rfl ?_
      refine i_get X F 25 rfl rfl fk_X4_25 dX4_sendOn_76 rfl ?_
      refine g_iload_n X dX4_sendOn_79 rfl (j := 6) rfl ?_
      refine g_iconst X dX4_sendOn_80 (v := 1) (by decide) ?_
      refine g_iadd X dX4_sendOn_81 ?_
      refine Go.top (v := .int (nI (p1 + 1))) (congrArg Value.int (nI_add p1 1)) ?_
      refine g_bipush X dX4_sendOn_82 (v := 8) (by decide) ?_
      refine g_imul X dX4_sendOn_84 ?_
      refine Go.top (v := .int (nI ((p1 + 1) * 8))) (congrArg Value.int (pk_mul (p1 + 1) 8)) ?_
      refine g_iload_n X dX4_sendOn_85 rfl (j := 5) rfl ?_
      refine g_iadd X dX4_sendOn_86 ?_
      refine Go.top (v := .int (nI (((p1 + 1) * 8) + p0))) (congrArg Value.int (nI_add ((p1 + 1) * 8) p0)) ?_
      refine g_aload_n X dX4_sendOn_87 rfl (j := 4) rfl ?_
      refine g_iload X dX4_sendOn_88 (j := 0) rfl ?_
      refine g_callVI X (s_X4_letsIn_25 l G F I n16 (by omega) ) lk_X4_126 (F.1 25 rfl).2 (F.1 25 rfl).1 rfl rfl dX4_sendOn_90 (Nat.le_of_ble_eq_true rfl) ⟨by decide, by decide⟩ ⟨by decide, by decide⟩ (fun r17 L M hp => ?_)
      obtain ⟨C, D, F, I, K1, hr⟩ := hp
      have K := K.step K1 (by decide)
      have o27 : C 27 = C0 27 := by rw [(K1 27 (by decide)).1]; exact o27
      have ens : C 27 (p1 * 8 + p0) = nI n2 := by rw [(K1 27 (by decide)).1]; exact ens
      have hra : 1 ≤ (C 5 n2).toInt := by rw [(K1 5 (by decide)).1]; exact hra
      have hpln2 : nI n2 = C 27 (p1 * 8 + p0) := by rw [(K1 27 (by decide)).1]; exact hpln2
      have w29 : C 29 = upd (C0 29) (((p1 * 8) + p0)) (nI n14) := by rw [(K1 29 (by decide)).1]; exact w29
      rcases hr with rfl | rfl
      · skip
        refine g_if_eq X dX4_sendOn_93 (tgt := 101) (by decide) (fun _ => ?_) (fun q => absurd (by decide) q)
        refine g_iload_n X dX4_sendOn_101 rfl (j := 3) rfl ?_
        refine i_iast X F I 27 rfl (fun _ => rfl) dX4_sendOn_102 (vp_in_nI (by omega) (by decide)) (okp_of (n := n2) (by omega)) (fun M C F I K1 hC => ?_)
        have K := K.step K1 (by decide)
        have w27 : C 27 = upd (C0 27) ((((p1 + 1) * 8) + p0)) (nI n2) := by rw [hC, o27]; rw [nI_clamp (by omega)]
        have hra : 1 ≤ (C 5 n2).toInt := by rw [(K1 5 (by decide)).1]; exact hra
        have w29 : C 29 = upd (C0 29) (((p1 * 8) + p0)) (nI n14) := by rw [(K1 29 (by decide)).1]; exact w29
        exact g_vret X hrt dX4_sendOn_103 (by decide) (by decide) ⟨C, D, F, I, K, ⟨_, _, w29, w27, trivial⟩⟩
      · skip
        refine g_if_eq X dX4_sendOn_93 (tgt := 101) (by decide) (fun q => absurd q (by decide)) (fun _ => ?_)
        refine g_iload X dX4_sendOn_96 (j := 0) rfl ?_
        refine g_goto X dX4_sendOn_98 (tgt := 102) (by decide) ?_
        refine i_iast X F I 27 rfl (fun _ => rfl) dX4_sendOn_102 (vp_in_nI (by omega) (by decide)) (okp_of (n := n16) (by omega)) (fun M C F I K1 hC => ?_)
        have K := K.step K1 (by decide)
        have w27 : C 27 = upd (C0 27) ((((p1 + 1) * 8) + p0)) (nI n16) := by rw [hC, o27]; rw [nI_clamp (by omega)]
        have hra : 1 ≤ (C 5 n2).toInt := by rw [(K1 5 (by decide)).1]; exact hra
        have w29 : C 29 = upd (C0 29) (((p1 * 8) + p0)) (nI n14) := by rw [(K1 29 (by decide)).1]; exact w29
        exact g_vret X hrt dX4_sendOn_103 (by decide) (by decide) ⟨C, D, F, I, K, ⟨_, _, w29, w27, trivial⟩⟩
set_option maxHeartbeats 4000000 in
set_option maxRecDepth 100000 in
theorem s_X4_passHour_25 (l : Launch) (G : va_G) {cy : Nat → ClassId} {L : List Nat} {M : Nat → va_E} {a : Nat → Nat} {act : Nat → Bool} {C0 : Nat → Nat → Int32} {D0 : Nat → Nat → Int64} {R : Nat → Nat → Option Nat} (F : WI L M a act (ent cy a C0 D0 R)) (I : Inv C0) (p0 : Nat) (hp0a : 0 ≤ p0) (hp0b : p0 ≤ 15)  : MV l G cy yX4_passHour cX4_passHour 3 none 2 0 0 [.ref (a 25), .int (nI p0)] L M (fun L2 M2 => ∃ C2 D2, WI L2 M2 a act (ent cy a C2 D2 R) ∧ Inv C2 ∧ Kp [27, 28, 29, 30] C0 D0 C2 D2 ∧ (∀ j, j < p0 * 8 → C2 29 j = C0 29 j) ∧ (∀ j, j < (p0 + 1) * 8 → C2 27 j = C0 27 j) ∧ ∀ x : Nat, (x : Int) < (C2 3 8).toInt → x < 8 → okat (C2 27) (C2 29) (p0 * 8 + x)) := by
  refine MV.of (own := RX4) rfl (by decide) (Nat.le_of_ble_eq_true rfl) ?_
  intro p e s m below meth c A X hrt hnm
  obtain ⟨C, D, hC0, hD0, F, I, K⟩ : ∃ C D, C = C0 ∧ D = D0 ∧ WI L M a act (ent cy a C D R) ∧ Inv C ∧ Kp [27, 28, 29, 30] C0 D0 C D := ⟨C0, D0, rfl, rfl, F, I, Kp.rf⟩
  obtain ⟨n1, hn1, en1⟩ := rg_nat ((I 3 8).2.2.2 rfl) (by decide)
  rw [hC0] at en1
  have o27 : C 27 = C0 27 := by rw [hC0]
  have o29 : C 29 = C0 29 := by rw [hC0]
  refine g_aload_n X dX4_passHour_0 rfl (j := 0) rfl ?_
  refine i_get X F 25 rfl rfl fk_X4_28 dX4_passHour_1 rfl ?_
  refine g_iload_n X dX4_passHour_4 rfl (j := 1) rfl ?_
  refine g_bipush X dX4_passHour_5 (v := 7) (by decide) ?_
  refine g_imul X dX4_passHour_7 ?_
  refine Go.top (v := .int (nI (p0 * 7))) (congrArg Value.int (pk_mul p0 7)) ?_
  refine g_aload_n X dX4_passHour_8 rfl (j := 0) rfl ?_
  refine i_get X F 25 rfl rfl fk_X4_28 dX4_passHour_9 rfl ?_
  refine g_iload_n X dX4_passHour_12 rfl (j := 1) rfl ?_
  refine g_iconst X dX4_passHour_13 (v := 1) (by decide) ?_
  refine g_iadd X dX4_passHour_14 ?_
  refine Go.top (v := .int (nI (p0 + 1))) (congrArg Value.int (nI_add p0 1)) ?_
  refine g_bipush X dX4_passHour_15 (v := 7) (by decide) ?_
  refine g_imul X dX4_passHour_17 ?_
  refine Go.top (v := .int (nI ((p0 + 1) * 7))) (congrArg Value.int (pk_mul (p0 + 1) 7)) ?_
  refine g_bipush X dX4_passHour_18 (v := 7) (by decide) ?_
  refine i_copyi X F I 28 rfl 28 rfl rfl (fun _ => rfl) (t0 := 1) rfl rfl wd86 wd87 wd88 wd89 (nI_pos (by omega)) (nI_pos (by omega)) (by decide) (by have k7 : (7 : Int32).toNatClampNeg = 7 := (by decide); rw [nI_clamp (show (p0 * 7) < 2 ^ 31 by omega), k7]; omega) (by have k7 : (7 : Int32).toNatClampNeg = 7 := (by decide); rw [nI_clamp (show ((p0 + 1) * 7) < 2 ^ 31 by omega), k7]; omega) (fun _ _ => rfl) (by decide) (Nat.le_of_ble_eq_true rfl) dX4_passHour_20 (cpy_any (P := fun x => okv 28 0 x) (fun j => I 28 j) (fun j => I 28 j)) (fun M C F I K1 hC => ?_)
  have K := K.step K1 (by decide)
  have o27 : C 27 = C0 27 := by rw [(K1 27 (by decide)).1]; exact o27
  have o29 : C 29 = C0 29 := by rw [(K1 29 (by decide)).1]; exact o29
  refine g_aload_n X dX4_passHour_23 rfl (j := 0) rfl ?_
  refine g_iload_n X dX4_passHour_24 rfl (j := 1) rfl ?_
  refine g_callVV X (s_X4_turnByActs_25 l G F I p0 (by omega) (by omega) ) lk_X4_70 (F.1 25 rfl).2 (F.1 25 rfl).1 rfl rfl dX4_passHour_25 (Nat.le_of_ble_eq_true rfl) ⟨by decide, by decide⟩ ⟨by decide, by decide⟩ (fun L M hp => ?_)
  obtain ⟨C, D, F, I, K1, hr⟩ := hp
  have K := K.step K1 (by decide)
  have o27 : C 27 = C0 27 := by rw [(K1 27 (by decide)).1]; exact o27
  have o29 : C 29 = C0 29 := by rw [(K1 29 (by decide)).1]; exact o29
  refine g_aload_n X dX4_passHour_28 rfl (j := 0) rfl ?_
  refine g_iload_n X dX4_passHour_29 rfl (j := 1) rfl ?_
  refine g_callVV X (s_X4_countGuests_25 l G F I p0 (by omega) (by omega) ) lk_X4_73 (F.1 25 rfl).2 (F.1 25 rfl).1 rfl rfl dX4_passHour_30 (Nat.le_of_ble_eq_true rfl) ⟨by decide, by decide⟩ ⟨by decide, by decide⟩ (fun L M hp => ?_)
  obtain ⟨C, D, F, I, K1, hr⟩ := hp
  have K := K.step K1 (by decide)
  have o27 : C 27 = C0 27 := by rw [(K1 27 (by decide)).1]; exact o27
  have o29 : C 29 = C0 29 := by rw [(K1 29 (by decide)).1]; exact o29
  refine g_iconst X dX4_passHour_33 (v := 0) (by decide) ?_
  refine g_istore_n X dX4_passHour_34 rfl (by decide) (lv2 := [(2, .int 0), (0, .ref (a 25)), (1, .int (nI p0))]) rfl ?_
  refine g_lv [0, 1, 2] (lv2 := [(2, .int 0), (0, .ref (a 25)), (1, .int (nI p0))]) rfl ?_
  refine i_loop (mods := [27, 28, 29, 30]) (fun x : Nat => 8 - x) (fun x => [(2, .int (nI (x))), (0, .ref (a 25)), (1, .int (nI p0))]) (fun x C => 0 ≤ x ∧ x ≤ 8 ∧ (∀ y, y < x → okat (C 27) (C 29) (p0 * 8 + y)) ∧ (∀ j, j < p0 * 8 → C 29 j = C0 29 j) ∧ (∀ j, j < (p0 + 1) * 8 → C 27 j = C0 27 j)) (fun x L M C D F I K hP ih35 => ?_) ((0) : Nat) F I K ⟨by show _ ≤ _; omega, by show _ ≤ _; omega, (fun x hx => absurd hx (Nat.not_lt_zero _)), (fun j _ => by rw [o29]), (fun j _ => by rw [o27])⟩
  obtain ⟨i35_2, rfl⟩ : ∃ z, z = x := ⟨_, rfl⟩
  obtain ⟨hi35_2a, hi35_2b, hP1, hA, hB⟩ := hP
  refine g_lv [0, 1, 2] (lv2 := [(2, .int (nI i35_2)), (0, .ref (a 25)), (1, .int (nI p0))]) rfl ?_
  refine g_iload_n X dX4_passHour_35 rfl (j := 0) rfl ?_
  refine g_aload_n X dX4_passHour_36 rfl (j := 1) rfl ?_
  refine i_get X F 25 rfl rfl fk_X4_37 dX4_passHour_37 rfl ?_
  refine i_get X F 3 rfl rfl fk_X4_64 dX4_passHour_40 (v := .int (nI n1)) (congrArg (fun z => some (Value.int z)) ((congrFun (K 3 (by decide)).1 8).trans en1)) ?_
  refine g_icmp_ge X dX4_passHour_43 (tgt := 76) (by decide) (fun q2 => ?_) (fun q2 => ?_)
  · skip
    have q2 : n1 ≤ i35_2 := (nI_leI (a := n1) (b := i35_2) (by omega) (by omega)).mp q2
    exact g_vret X hrt dX4_passHour_76 (by decide) (by decide) ⟨C, D, F, I, K, hA, hB, fun x h1 h2 => hP1 x (by rw [(K 3 (by decide)).1, en1, nI_toInt (by omega)] at h1; omega)⟩
  · skip
    have q2 : ¬ n1 ≤ i35_2 := fun z => q2 ((nI_leI (a := n1) (b := i35_2) (by omega) (by omega)).mpr z)
    refine g_aload_n X dX4_passHour_46 rfl (j := 1) rfl ?_
    refine g_iload_n X dX4_passHour_47 rfl (j := 0) rfl ?_
    refine g_iload_n X dX4_passHour_48 rfl (j := 2) rfl ?_
    refine g_callVI X (s_X4_isSentFrom_25 l G F I i35_2 (by omega) (by omega) p0 (by omega) (by omega) ) lk_X4_76 (F.1 25 rfl).2 (F.1 25 rfl).1 rfl rfl dX4_passHour_49 (Nat.le_of_ble_eq_true rfl) ⟨by decide, by decide⟩ ⟨by decide, by decide⟩ (fun r3 L M hp => ?_)
    obtain ⟨C, D, F, I, K1, hr⟩ := hp
    have K := K.step K1 (by decide)
    have hP1 : ∀ x, x < i35_2 → okat (C 27) (C 29) (p0 * 8 + x) := by rw [(K1 27 (by decide)).1, (K1 29 (by decide)).1]; exact hP1
    have hA : ∀ j, j < p0 * 8 → C 29 j = C0 29 j := by rw [(K1 29 (by decide)).1]; exact hA
    have hB : ∀ j, j < (p0 + 1) * 8 → C 27 j = C0 27 j := by rw [(K1 27 (by decide)).1]; exact hB
    rcases hr with rfl | ⟨rfl, hs4⟩
    · skip
      refine g_if_eq X dX4_passHour_52 (tgt := 64) (by decide) (fun _ => ?_) (fun q => absurd (by decide) q)
      refine g_aload_n X dX4_passHour_64 rfl (j := 1) rfl ?_
      refine g_iload_n X dX4_passHour_65 rfl (j := 0) rfl ?_
      refine g_iload_n X dX4_passHour_66 rfl (j := 2) rfl ?_
      refine g_callVV X (s_X4_stayOn_25 l G F I i35_2 (by omega) (by omega) p0 (by omega) (by omega) ) lk_X4_84 (F.1 25 rfl).2 (F.1 25 rfl).1 rfl rfl dX4_passHour_67 (Nat.le_of_ble_eq_true rfl) ⟨by decide, by decide⟩ ⟨by decide, by decide⟩ (fun L M hp => ?_)
      obtain ⟨C, D, F, I, K1, hr⟩ := hp
      have K := K.step K1 (by decide)
      obtain ⟨v, u, hrt, hpl, hv⟩ := hr
      have hP1 : ∀ x, x < i35_2 + 1 → okat (C 27) (C 29) (p0 * 8 + x) := step_ok hpl hrt (by omega) (Or.inl hv) hP1
      have hA : ∀ j, j < p0 * 8 → C 29 j = C0 29 j := fun j hj => by rw [hrt, pk_un (by omega)]; exact hA j hj
      have hB : ∀ j, j < (p0 + 1) * 8 → C 27 j = C0 27 j := fun j hj => by rw [hpl, pk_un (by omega)]; exact hB j hj
      clear hrt hpl hv v u
      refine g_iinc X dX4_passHour_70 (j := 0) rfl (v := nI (i35_2 + 1)) (nI_1 i35_2) (by decide) (lv2 := [(2, .int (nI (i35_2 + 1))), (0, .ref (a 25)), (1, .int (nI p0))]) rfl ?_
      refine g_goto X dX4_passHour_73 (tgt := 35) (by decide) ?_
      refine g_lv [0, 1, 2] (lv2 := [(2, .int (nI (i35_2 + 1))), (0, .ref (a 25)), (1, .int (nI p0))]) rfl ?_
      exact ih35 ((i35_2 + 1)) L M C D F I K ⟨by omega, by omega, hP1, hA, hB⟩ (by show _ < _; omega)
    · skip
      refine g_if_eq X dX4_passHour_52 (tgt := 64) (by decide) (fun q => absurd q (by decide)) (fun _ => ?_)
      refine g_aload_n X dX4_passHour_55 rfl (j := 1) rfl ?_
      refine g_iload_n X dX4_passHour_56 rfl (j := 0) rfl ?_
      refine g_iload_n X dX4_passHour_57 rfl (j := 2) rfl ?_
      refine g_callVV X (s_X4_sendOn_25 l G F I i35_2 (by omega) (by omega) p0 (by omega) (by omega) hs4) lk_X4_80 (F.1 25 rfl).2 (F.1 25 rfl).1 rfl rfl dX4_passHour_58 (Nat.le_of_ble_eq_true rfl) ⟨by decide, by decide⟩ ⟨by decide, by decide⟩ (fun L M hp => ?_)
      obtain ⟨C, D, F, I, K1, hr⟩ := hp
      have K := K.step K1 (by decide)
      obtain ⟨v, u, hrt, hpl, hv⟩ := hr
      have hP1 : ∀ x, x < i35_2 + 1 → okat (C 27) (C 29) (p0 * 8 + x) := step_ok hpl hrt (by omega) (Or.inr (by obtain ⟨n, h1, h2, -⟩ := hs4; exact ⟨n, h1, h2⟩)) hP1
      have hA : ∀ j, j < p0 * 8 → C 29 j = C0 29 j := fun j hj => by rw [hrt, pk_un (by omega)]; exact hA j hj
      have hB : ∀ j, j < (p0 + 1) * 8 → C 27 j = C0 27 j := fun j hj => by rw [hpl, pk_un (by omega)]; exact hB j hj
      clear hrt hpl hv v u
      refine g_goto X dX4_passHour_61 (tgt := 70) (by decide) ?_
      refine g_iinc X dX4_passHour_70 (j := 0) rfl (v := nI (i35_2 + 1)) (nI_1 i35_2) (by decide) (lv2 := [(2, .int (nI (i35_2 + 1))), (0, .ref (a 25)), (1, .int (nI p0))]) rfl ?_
      refine g_goto X dX4_passHour_73 (tgt := 35) (by decide) ?_
      refine g_lv [0, 1, 2] (lv2 := [(2, .int (nI (i35_2 + 1))), (0, .ref (a 25)), (1, .int (nI p0))]) rfl ?_
      exact ih35 ((i35_2 + 1)) L M C D F I K ⟨by omega, by omega, hP1, hA, hB⟩ (by show _ < _; omega)
set_option maxHeartbeats 4000000 in
set_option maxRecDepth 100000 in
theorem s_X4_run_25 (l : Launch) (G : va_G) {cy : Nat → ClassId} {L : List Nat} {M : Nat → va_E} {a : Nat → Nat} {act : Nat → Bool} {C0 : Nat → Nat → Int32} {D0 : Nat → Nat → Int64} {R : Nat → Nat → Option Nat} (F : WI L M a act (ent cy a C0 D0 R)) (I : Inv C0)   : MV l G cy yX4_run cX4_run 2 none 3 0 0 [.ref (a 25)] L M (fun L2 M2 => ∃ C2 D2, WI L2 M2 a act (ent cy a C2 D2 R) ∧ Inv C2 ∧ Kp [27, 28, 29, 30] C0 D0 C2 D2 ∧ NowOk (C2 3) (C2 27) (C2 29)) := by
  refine MV.of (own := RX4) rfl (by decide) (Nat.le_of_ble_eq_true rfl) ?_
  intro p e s m below meth c A X hrt hnm
  obtain ⟨C, D, hC0, hD0, F, I, K⟩ : ∃ C D, C = C0 ∧ D = D0 ∧ WI L M a act (ent cy a C D R) ∧ Inv C ∧ Kp [27, 28, 29, 30] C0 D0 C D := ⟨C0, D0, rfl, rfl, F, I, Kp.rf⟩
  obtain ⟨n1, hn1, en1⟩ := rg_nat ((I 3 1).1 rfl) (by decide)
  rw [hC0] at en1
  refine g_aload_n X dX4_run_0 rfl (j := 0) rfl ?_
  refine g_callVV X (s_X4_begin_25 l G F I  ) lk_X4_54 (F.1 25 rfl).2 (F.1 25 rfl).1 rfl rfl dX4_run_1 (Nat.le_of_ble_eq_true rfl) ⟨by decide, by decide⟩ ⟨by decide, by decide⟩ (fun L M hp => ?_)
  obtain ⟨C, D, F, I, K1, hr⟩ := hp
  have K := K.step K1 (by decide)
  refine g_iconst X dX4_run_4 (v := 0) (by decide) ?_
  refine g_istore_n X dX4_run_5 rfl (by decide) (lv2 := [(1, .int 0), (0, .ref (a 25))]) rfl ?_
  refine g_lv [0, 1] (lv2 := [(1, .int 0), (0, .ref (a 25))]) rfl ?_
  refine i_loop (mods := [27, 28, 29, 30]) (fun x : Nat => 16 - x) (fun x => [(1, .int (nI (x))), (0, .ref (a 25))]) (fun x C => 0 ≤ x ∧ x ≤ 16 ∧ (∀ h w : Nat, h < x → (w : Int) < (C 3 8).toInt → w < 8 → okat (C 27) (C 29) (h * 8 + w))) (fun x L M C D F I K hP ih6 => ?_) ((0) : Nat) F I K ⟨by show _ ≤ _; omega, by show _ ≤ _; omega, (fun h w hx => absurd hx (Nat.not_lt_zero _))⟩
  obtain ⟨i6_1, rfl⟩ : ∃ z, z = x := ⟨_, rfl⟩
  obtain ⟨hi6_1a, hi6_1b, hR⟩ := hP
  refine g_lv [0, 1] (lv2 := [(1, .int (nI i6_1)), (0, .ref (a 25))]) rfl ?_
  refine g_iload_n X dX4_run_6 rfl (j := 0) rfl ?_
  refine g_aload_n X dX4_run_7 rfl (j := 1) rfl ?_
  refine i_get X F 25 rfl rfl fk_X4_37 dX4_run_8 rfl ?_
  refine i_get X F 3 rfl rfl fk_X4_57 dX4_run_11 (v := .int (nI n1)) (congrArg (fun z => some (Value.int z)) ((congrFun (K 3 (by decide)).1 1).trans en1)) ?_
  refine g_icmp_ge X dX4_run_14 (tgt := 28) (by decide) (fun q2 => ?_) (fun q2 => ?_)
  · skip
    have q2 : n1 ≤ i6_1 := (nI_leI (a := n1) (b := i6_1) (by omega) (by omega)).mp q2
    exact g_vret X hrt dX4_run_28 (by decide) (by decide) ⟨C, D, F, I, K, (fun h w h1 h2 h3 => hR h w (by rw [(K 3 (by decide)).1, en1, nI_toInt (by omega)] at h1; omega) h2 h3)⟩
  · skip
    have q2 : ¬ n1 ≤ i6_1 := fun z => q2 ((nI_leI (a := n1) (b := i6_1) (by omega) (by omega)).mpr z)
    refine g_aload_n X dX4_run_17 rfl (j := 1) rfl ?_
    refine g_iload_n X dX4_run_18 rfl (j := 0) rfl ?_
    refine g_callVV X (s_X4_passHour_25 l G F I i6_1 (by omega) (by omega) ) lk_X4_60 (F.1 25 rfl).2 (F.1 25 rfl).1 rfl rfl dX4_run_19 (Nat.le_of_ble_eq_true rfl) ⟨by decide, by decide⟩ ⟨by decide, by decide⟩ (fun L M hp => ?_)
    obtain ⟨C, D, F, I, K1, hr⟩ := hp
    have K := K.step K1 (by decide)
    have hR : ∀ h w : Nat, h < i6_1 + 1 → (w : Int) < (C 3 8).toInt → w < 8 → okat (C 27) (C 29) (h * 8 + w) := run_st hr (K1 3 (by decide)).1 hR
    refine g_iinc X dX4_run_22 (j := 0) rfl (v := nI (i6_1 + 1)) (nI_1 i6_1) (by decide) (lv2 := [(1, .int (nI (i6_1 + 1))), (0, .ref (a 25))]) rfl ?_
    refine g_goto X dX4_run_25 (tgt := 6) (by decide) ?_
    refine g_lv [0, 1] (lv2 := [(1, .int (nI (i6_1 + 1))), (0, .ref (a 25))]) rfl ?_
    exact ih6 ((i6_1 + 1)) L M C D F I K ⟨by omega, by omega, hR⟩ (by show _ < _; omega)
set_option maxHeartbeats 4000000 in
set_option maxRecDepth 100000 in
theorem s_X4_isRefused_25 (l : Launch) (G : va_G) {cy : Nat → ClassId} {L : List Nat} {M : Nat → va_E} {a : Nat → Nat} {act : Nat → Bool} {C0 : Nat → Nat → Int32} {D0 : Nat → Nat → Int64} {R : Nat → Nat → Option Nat} (F : WI L M a act (ent cy a C0 D0 R)) (I : Inv C0) (p0 : Nat) (hp0a : 0 ≤ p0) (hp0b : p0 ≤ 7) (p1 : Nat) (hp1a : 0 ≤ p1) (hp1b : p1 ≤ 15) (p2 : Int32) (hok : ∃ n : Nat, n < 7 ∧ C0 27 (p1 * 8 + p0) = nI n) (hrd : ¬ C0 29 (p1 * 8 + p0) = -1) : MI l G cy yX4_isRefused cX4_isRefused 5 (some .boolean) 1 0 0 [.ref (a 25), .int (nI p0), .int (nI p1), .int p2] L M (fun r L2 M2 => ∃ C2 D2, WI L2 M2 a act (ent cy a C2 D2 R) ∧ Inv C2 ∧ Kp [] C0 D0 C2 D2 ∧ (r = 0 ∨ r = 1)) := by
  refine MI.of (own := RX4) rfl (by decide) (Nat.le_of_ble_eq_true rfl) ?_
  intro p e s m below meth c A X hrt hnm
  obtain ⟨C, D, hC0, hD0, F, I, K⟩ : ∃ C D, C = C0 ∧ D = D0 ∧ WI L M a act (ent cy a C D R) ∧ Inv C ∧ Kp [] C0 D0 C D := ⟨C0, D0, rfl, rfl, F, I, Kp.rf⟩
  rw [← hC0] at hok
  rw [← hC0] at hrd
  obtain ⟨ns, hns, ens⟩ := hok
  refine g_aload_n X dX4_isRefused_0 rfl (j := 0) rfl ?_
  refine i_get X F 25 rfl rfl fk_X4_31 dX4_isRefused_1 rfl ?_
  refine g_iload_n X dX4_isRefused_4 rfl (j := 2) rfl ?_
  refine g_bipush X dX4_isRefused_5 (v := 8) (by decide) ?_
  refine g_imul X dX4_isRefused_7 ?_
  refine Go.top (v := .int (nI (p1 * 8))) (congrArg Value.int (pk_mul p1 8)) ?_
  refine g_iload_n X dX4_isRefused_8 rfl (j := 1) rfl ?_
  refine g_iadd X dX4_isRefused_9 ?_
  refine Go.top (v := .int (nI ((p1 * 8) + p0))) (congrArg Value.int (nI_add (p1 * 8) p0)) ?_
  obtain ⟨n1, hn1, en1⟩ := rt_nat (I 29 (p1 * 8 + p0)) hrd
  refine i_iald X F 29 rfl rfl dX4_isRefused_10 (vp_in_nI (by omega) (by decide)) (v := nI n1) (by rw [nI_clamp (by omega)]; exact en1) ?_
  refine g_istore X dX4_isRefused_11 (by decide) (lv2 := [(4, .int (nI n1)), (0, .ref (a 25)), (1, .int (nI p0)), (2, .int (nI p1)), (3, .int p2)]) rfl ?_
  refine g_aload_n X dX4_isRefused_13 rfl (j := 1) rfl ?_
  refine i_get X F 25 rfl rfl fk_X4_37 dX4_isRefused_14 rfl ?_
  refine g_aload_n X dX4_isRefused_17 rfl (j := 1) rfl ?_
  refine g_iload_n X dX4_isRefused_18 rfl (j := 2) rfl ?_
  refine g_iload_n X dX4_isRefused_19 rfl (j := 3) rfl ?_
  refine g_callVI X (s_X4_placeOf_25 l G F I p0 (by omega) (by omega) p1 (by omega) (by omega) ) lk_X4_113 (F.1 25 rfl).2 (F.1 25 rfl).1 rfl rfl dX4_isRefused_20 (Nat.le_of_ble_eq_true rfl) ⟨by decide, by decide⟩ ⟨by decide, by decide⟩ (fun r2 L M hp => ?_)
  obtain ⟨C, D, F, I, K1, hr⟩ := hp
  have K := K.step K1 (by decide)
  have ens : C 27 (p1 * 8 + p0) = nI ns := by rw [(K1 27 (by decide)).1]; exact ens
  obtain ⟨hr, hpln3⟩ := hr
  rcases okp_nat hr with rfl | ⟨n3, hn3, rfl⟩
  · skip
    exact absurd (hpln3.trans ens).symm (nI_nm1 (by omega))
  · skip
    obtain rfl : n3 = ns := (nI_eq (by omega) (by omega)).mp (hpln3.trans ens)
    refine g_iload X dX4_isRefused_23 (j := 0) rfl ?_
    refine g_callVI X (s_X2_goal l G F I n3 (by omega) (by omega) n1 (by omega) (by omega) ) lk_X4_123 (F.1 3 rfl).2 (F.1 3 rfl).1 rfl rfl dX4_isRefused_25 (Nat.le_of_ble_eq_true rfl) ⟨by decide, by decide⟩ ⟨by decide, by decide⟩ (fun r4 L M hp => ?_)
    obtain ⟨C, D, F, I, K1, hr⟩ := hp
    have K := K.step K1 (by decide)
    have ens : C 27 (p1 * 8 + p0) = nI n3 := by rw [(K1 27 (by decide)).1]; exact ens
    have hpln3 : nI n3 = C 27 (p1 * 8 + p0) := by rw [(K1 27 (by decide)).1]; exact hpln3
    obtain ⟨n5, hn5, rfl⟩ := hr
    refine g_iload_n X dX4_isRefused_28 rfl (j := 4) rfl ?_
    refine g_icmp_ne X dX4_isRefused_29 (tgt := 48) (by decide) (fun q6 => ?_) (fun q6 => ?_)
    · skip
      refine g_iconst X dX4_isRefused_48 (v := 0) (by decide) ?_
      exact g_zret X hrt rfl dX4_isRefused_49 (by decide) (by decide) ⟨C, D, F, I, K, Or.inl rfl⟩
    · skip
      refine g_aload_n X dX4_isRefused_32 rfl (j := 1) rfl ?_
      refine g_iload_n X dX4_isRefused_33 rfl (j := 2) rfl ?_
      refine g_iload_n X dX4_isRefused_34 rfl (j := 3) rfl ?_
      refine g_iconst X dX4_isRefused_35 (v := 1) (by decide) ?_
      refine g_iadd X dX4_isRefused_36 ?_
      refine Go.top (v := .int (nI (p1 + 1))) (congrArg Value.int (nI_add p1 1)) ?_
      refine g_callVI X (s_X4_placeOf_25 l G F I p0 (by omega) (by omega) (p1 + 1) (by omega) (by omega) ) lk_X4_113 (F.1 25 rfl).2 (F.1 25 rfl).1 rfl rfl dX4_isRefused_37 (Nat.le_of_ble_eq_true rfl) ⟨by decide, by decide⟩ ⟨by decide, by decide⟩ (fun r7 L M hp => ?_)
      obtain ⟨C, D, F, I, K1, hr⟩ := hp
      have K := K.step K1 (by decide)
      have ens : C 27 (p1 * 8 + p0) = nI n3 := by rw [(K1 27 (by decide)).1]; exact ens
      have hpln3 : nI n3 = C 27 (p1 * 8 + p0) := by rw [(K1 27 (by decide)).1]; exact hpln3
      obtain ⟨hr, hpln8⟩ := hr
      rcases okp_nat hr with rfl | ⟨n8, hn8, rfl⟩
      · skip
        refine g_iload_n X dX4_isRefused_40 rfl (j := 4) rfl ?_
        refine g_icmp_eq X dX4_isRefused_41 (tgt := 48) (by decide) (fun q9 => ?_) (fun q9 => ?_)
        · skip
          refine g_iconst X dX4_isRefused_48 (v := 0) (by decide) ?_
          exact g_zret X hrt rfl dX4_isRefused_49 (by decide) (by decide) ⟨C, D, F, I, K, Or.inl rfl⟩
        · skip
          refine g_iconst X dX4_isRefused_44 (v := 1) (by decide) ?_
          refine g_goto X dX4_isRefused_45 (tgt := 49) (by decide) ?_
          exact g_zret X hrt rfl dX4_isRefused_49 (by decide) (by decide) ⟨C, D, F, I, K, Or.inr rfl⟩
      · skip
        refine g_iload_n X dX4_isRefused_40 rfl (j := 4) rfl ?_
        refine g_icmp_eq X dX4_isRefused_41 (tgt := 48) (by decide) (fun q10 => ?_) (fun q10 => ?_)
        · skip
          refine g_iconst X dX4_isRefused_48 (v := 0) (by decide) ?_
          exact g_zret X hrt rfl dX4_isRefused_49 (by decide) (by decide) ⟨C, D, F, I, K, Or.inl rfl⟩
        · skip
          refine g_iconst X dX4_isRefused_44 (v := 1) (by decide) ?_
          refine g_goto X dX4_isRefused_45 (tgt := 49) (by decide) ?_
          exact g_zret X hrt rfl dX4_isRefused_49 (by decide) (by decide) ⟨C, D, F, I, K, Or.inr rfl⟩
set_option maxHeartbeats 4000000 in
set_option maxRecDepth 100000 in
theorem s_X4_timesRefused_25 (l : Launch) (G : va_G) {cy : Nat → ClassId} {L : List Nat} {M : Nat → va_E} {a : Nat → Nat} {act : Nat → Bool} {C0 : Nat → Nat → Int32} {D0 : Nat → Nat → Int64} {R : Nat → Nat → Option Nat} (F : WI L M a act (ent cy a C0 D0 R)) (I : Inv C0) (p0 : Int32) (gN : NowOk (C0 3) (C0 27) (C0 29)) : MI l G cy yX4_timesRefused cX4_timesRefused 5 (some .int) 2 0 0 [.ref (a 25), .int p0] L M (fun r L2 M2 => ∃ C2 D2, WI L2 M2 a act (ent cy a C2 D2 R) ∧ Inv C2 ∧ Kp [] C0 D0 C2 D2 ∧ True) := by
  refine MI.of (own := RX4) rfl (by decide) (Nat.le_of_ble_eq_true rfl) ?_
  intro p e s m below meth c A X hrt hnm
  obtain ⟨C, D, hC0, hD0, F, I, K⟩ : ∃ C D, C = C0 ∧ D = D0 ∧ WI L M a act (ent cy a C D R) ∧ Inv C ∧ Kp [] C0 D0 C D := ⟨C0, D0, rfl, rfl, F, I, Kp.rf⟩
  obtain ⟨n1, hn1, en1⟩ := rg_nat ((I 3 1).1 rfl) (by decide)
  rw [hC0] at en1
  obtain ⟨n2, hn2, en2⟩ := rg_nat ((I 3 8).2.2.2 rfl) (by decide)
  rw [hC0] at en2
  refine g_iconst X dX4_timesRefused_0 (v := 0) (by decide) ?_
  refine g_istore_n X dX4_timesRefused_1 rfl (by decide) (lv2 := [(2, .int 0), (0, .ref (a 25)), (1, .int p0)]) rfl ?_
  refine g_iconst X dX4_timesRefused_2 (v := 0) (by decide) ?_
  refine g_istore_n X dX4_timesRefused_3 rfl (by decide) (lv2 := [(3, .int 0), (2, .int 0), (0, .ref (a 25)), (1, .int p0)]) rfl ?_
  refine g_lv [0, 1, 2, 3] (lv2 := [(3, .int 0), (2, .int 0), (0, .ref (a 25)), (1, .int p0)]) rfl ?_
  refine i_loop (mods := []) (fun x : Nat × Int32 => 16 - x.1) (fun x => [(3, .int (nI (x.1))), (2, .int (x.2)), (0, .ref (a 25)), (1, .int p0)]) (fun x C => 0 ≤ x.1 ∧ x.1 ≤ 16) (fun x L M C D F I K hP ih4 => ?_) ((0, 0) : Nat × Int32) F I K ⟨by show _ ≤ _; omega, by show _ ≤ _; omega⟩
  rcases x with ⟨i4_3, v4_2⟩
  obtain ⟨hi4_3a, hi4_3b⟩ := hP
  refine g_lv [0, 1, 2, 3] (lv2 := [(3, .int (nI i4_3)), (2, .int v4_2), (0, .ref (a 25)), (1, .int p0)]) rfl ?_
  refine g_iload_n X dX4_timesRefused_4 rfl (j := 0) rfl ?_
  refine g_aload_n X dX4_timesRefused_5 rfl (j := 2) rfl ?_
  refine i_get X F 25 rfl rfl fk_X4_37 dX4_timesRefused_6 rfl ?_
  refine i_get X F 3 rfl rfl fk_X4_57 dX4_timesRefused_9 (v := .int (nI n1)) (congrArg (fun z => some (Value.int z)) ((congrFun (K 3 (by decide)).1 1).trans en1)) ?_
  refine g_icmp_ge X dX4_timesRefused_12 (tgt := 69) (by decide) (fun q3 => ?_) (fun q3 => ?_)
  · skip
    have q3 : n1 ≤ i4_3 := (nI_leI (a := n1) (b := i4_3) (by omega) (by omega)).mp q3
    refine g_iload_n X dX4_timesRefused_69 rfl (j := 1) rfl ?_
    exact g_iret X hrt dX4_timesRefused_70 (by decide) (by decide) ⟨C, D, F, I, K, trivial⟩
  · skip
    have q3 : ¬ n1 ≤ i4_3 := fun z => q3 ((nI_leI (a := n1) (b := i4_3) (by omega) (by omega)).mpr z)
    refine g_iconst X dX4_timesRefused_15 (v := 0) (by decide) ?_
    refine g_istore X dX4_timesRefused_16 (by decide) (lv2 := [(4, .int 0), (3, .int (nI i4_3)), (2, .int v4_2), (0, .ref (a 25)), (1, .int p0)]) rfl ?_
    refine g_lv [0, 2, 1, 3, 4] (lv2 := [(4, .int 0), (2, .int v4_2), (3, .int (nI i4_3)), (0, .ref (a 25)), (1, .int p0)]) rfl ?_
    refine i_loop (mods := []) (fun x : Nat × Int32 => 8 - x.1) (fun x => [(4, .int (nI (x.1))), (2, .int (x.2)), (3, .int (nI i4_3)), (0, .ref (a 25)), (1, .int p0)]) (fun x C => 0 ≤ x.1 ∧ x.1 ≤ 8) (fun x L M C D F I K hP ih18 => ?_) ((0, v4_2) : Nat × Int32) F I K ⟨by show _ ≤ _; omega, by show _ ≤ _; omega⟩
    rcases x with ⟨i18_4, v18_2⟩
    obtain ⟨hi18_4a, hi18_4b⟩ := hP
    refine g_lv [0, 1, 2, 3, 4] (lv2 := [(4, .int (nI i18_4)), (2, .int v18_2), (3, .int (nI i4_3)), (0, .ref (a 25)), (1, .int p0)]) rfl ?_
    refine g_iload X dX4_timesRefused_18 (j := 0) rfl ?_
    refine g_aload_n X dX4_timesRefused_20 rfl (j := 3) rfl ?_
    refine i_get X F 25 rfl rfl fk_X4_37 dX4_timesRefused_21 rfl ?_
    refine i_get X F 3 rfl rfl fk_X4_64 dX4_timesRefused_24 (v := .int (nI n2)) (congrArg (fun z => some (Value.int z)) ((congrFun (K 3 (by decide)).1 8).trans en2)) ?_
    refine g_icmp_ge X dX4_timesRefused_27 (tgt := 63) (by decide) (fun q4 => ?_) (fun q4 => ?_)
    · skip
      have q4 : n2 ≤ i18_4 := (nI_leI (a := n2) (b := i18_4) (by omega) (by omega)).mp q4
      refine g_iinc X dX4_timesRefused_63 (j := 2) rfl (v := nI (i4_3 + 1)) (nI_1 i4_3) (by decide) (lv2 := [(3, .int (nI (i4_3 + 1))), (4, .int (nI i18_4)), (2, .int v18_2), (0, .ref (a 25)), (1, .int p0)]) rfl ?_
      refine g_goto X dX4_timesRefused_66 (tgt := 4) (by decide) ?_
      refine g_lv [0, 2, 3, 4] (lv2 := [(3, .int (nI (i4_3 + 1))), (2, .int v18_2), (0, .ref (a 25)), (1, .int p0)]) rfl ?_
      exact ih4 ((i4_3 + 1), v18_2) L M C D F I K ⟨by omega, by omega⟩ (by show _ < _; omega)
    · skip
      have q4 : ¬ n2 ≤ i18_4 := fun z => q4 ((nI_leI (a := n2) (b := i18_4) (by omega) (by omega)).mpr z)
      refine g_aload_n X dX4_timesRefused_30 rfl (j := 3) rfl ?_
      refine g_iload X dX4_timesRefused_31 (j := 0) rfl ?_
      refine g_iload_n X dX4_timesRefused_33 rfl (j := 2) rfl ?_
      refine g_callVI X (s_X4_isSent_25 l G F I i18_4 (by omega) (by omega) i4_3 (by omega) (by omega) ) lk_X4_132 (F.1 25 rfl).2 (F.1 25 rfl).1 rfl rfl dX4_timesRefused_34 (Nat.le_of_ble_eq_true rfl) ⟨by decide, by decide⟩ ⟨by decide, by decide⟩ (fun r5 L M hp => ?_)
      obtain ⟨C, D, F, I, K1, hr⟩ := hp
      have K := K.step K1 (by decide)
      rcases hr with rfl | ⟨rfl, hi6⟩
      · skip
        refine g_if_eq X dX4_timesRefused_37 (tgt := 57) (by decide) (fun _ => ?_) (fun q => absurd (by decide) q)
        refine g_iinc X dX4_timesRefused_57 (j := 0) rfl (v := nI (i18_4 + 1)) (nI_1 i18_4) (by decide) (lv2 := [(4, .int (nI (i18_4 + 1))), (2, .int v18_2), (3, .int (nI i4_3)), (0, .ref (a 25)), (1, .int p0)]) rfl ?_
        refine g_goto X dX4_timesRefused_60 (tgt := 18) (by decide) ?_
        refine g_lv [0, 1, 2, 3, 4] (lv2 := [(4, .int (nI (i18_4 + 1))), (2, .int v18_2), (3, .int (nI i4_3)), (0, .ref (a 25)), (1, .int p0)]) rfl ?_
        exact ih18 ((i18_4 + 1), v18_2) L M C D F I K ⟨by omega, by omega⟩ (by show _ < _; omega)
      · skip
        refine g_if_eq X dX4_timesRefused_37 (tgt := 57) (by decide) (fun q => absurd q (by decide)) (fun _ => ?_)
        have hok : ∃ n : Nat, n < 7 ∧ C 27 (i4_3 * 8 + i18_4) = nI n := by
          have z : NowOk (C 3) (C 27) (C 29) := by rw [(K 3 (by decide)).1, (K 27 (by decide)).1, (K 29 (by decide)).1]; exact gN
          rcases z i4_3 i18_4 (by rw [(K 3 (by decide)).1, en1, nI_toInt (by omega)]; omega) (by rw [(K 3 (by decide)).1, en2, nI_toInt (by omega)]; omega) (by omega) with y | y
          · exact absurd y hi6
          · exact y
        refine g_aload_n X dX4_timesRefused_40 rfl (j := 3) rfl ?_
        refine g_iload X dX4_timesRefused_41 (j := 0) rfl ?_
        refine g_iload_n X dX4_timesRefused_43 rfl (j := 2) rfl ?_
        refine g_bipush X dX4_timesRefused_44 (v := 10) (by decide) ?_
        refine g_iload_n X dX4_timesRefused_46 rfl (j := 4) rfl ?_
        refine g_iadd X dX4_timesRefused_47 ?_
        refine Go.gen (fun o7 => ?_)
        refine g_callVI X (s_X4_isRefused_25 l G F I i18_4 (by omega) (by omega) i4_3 (by omega) (by omega) o7 hok hi6) lk_X4_156 (F.1 25 rfl).2 (F.1 25 rfl).1 rfl rfl dX4_timesRefused_48 (Nat.le_of_ble_eq_true rfl) ⟨by decide, by decide⟩ ⟨by decide, by decide⟩ (fun r8 L M hp => ?_)
        obtain ⟨C, D, F, I, K1, hr⟩ := hp
        have K := K.step K1 (by decide)
        have hi6 : ¬ C 29 (i4_3 * 8 + i18_4) = -1 := by rw [(K1 29 (by decide)).1]; exact hi6
        have hok : ∃ n : Nat, n < 7 ∧ C 27 (i4_3 * 8 + i18_4) = nI n := by rw [(K1 27 (by decide)).1]; exact hok
        rcases hr with rfl | rfl
        · skip
          refine g_if_eq X dX4_timesRefused_51 (tgt := 57) (by decide) (fun _ => ?_) (fun q => absurd (by decide) q)
          refine g_iinc X dX4_timesRefused_57 (j := 0) rfl (v := nI (i18_4 + 1)) (nI_1 i18_4) (by decide) (lv2 := [(4, .int (nI (i18_4 + 1))), (2, .int v18_2), (3, .int (nI i4_3)), (0, .ref (a 25)), (1, .int p0)]) rfl ?_
          refine g_goto X dX4_timesRefused_60 (tgt := 18) (by decide) ?_
          refine g_lv [0, 1, 2, 3, 4] (lv2 := [(4, .int (nI (i18_4 + 1))), (2, .int v18_2), (3, .int (nI i4_3)), (0, .ref (a 25)), (1, .int p0)]) rfl ?_
          exact ih18 ((i18_4 + 1), v18_2) L M C D F I K ⟨by omega, by omega⟩ (by show _ < _; omega)
        · skip
          refine g_if_eq X dX4_timesRefused_51 (tgt := 57) (by decide) (fun q => absurd q (by decide)) (fun _ => ?_)
          refine g_iinc X dX4_timesRefused_54 (j := 1) rfl (v := (v18_2 + 1)) rfl (by decide) (lv2 := [(2, .int ((v18_2 + 1))), (4, .int (nI i18_4)), (3, .int (nI i4_3)), (0, .ref (a 25)), (1, .int p0)]) rfl ?_
          refine g_iinc X dX4_timesRefused_57 (j := 1) rfl (v := nI (i18_4 + 1)) (nI_1 i18_4) (by decide) (lv2 := [(4, .int (nI (i18_4 + 1))), (2, .int ((v18_2 + 1))), (3, .int (nI i4_3)), (0, .ref (a 25)), (1, .int p0)]) rfl ?_
          refine g_goto X dX4_timesRefused_60 (tgt := 18) (by decide) ?_
          refine g_lv [0, 1, 2, 3, 4] (lv2 := [(4, .int (nI (i18_4 + 1))), (2, .int ((v18_2 + 1))), (3, .int (nI i4_3)), (0, .ref (a 25)), (1, .int p0)]) rfl ?_
          exact ih18 ((i18_4 + 1), (v18_2 + 1)) L M C D F I K ⟨by omega, by omega⟩ (by show _ < _; omega)
set_option maxHeartbeats 4000000 in
set_option maxRecDepth 100000 in
theorem s_X4_placeOf_31 (l : Launch) (G : va_G) {cy : Nat → ClassId} {L : List Nat} {M : Nat → va_E} {a : Nat → Nat} {act : Nat → Bool} {C0 : Nat → Nat → Int32} {D0 : Nat → Nat → Int64} {R : Nat → Nat → Option Nat} (F : WI L M a act (ent cy a C0 D0 R)) (I : Inv C0) (p0 : Nat) (hp0a : 0 ≤ p0) (hp0b : p0 ≤ 7) (p1 : Nat) (hp1a : 0 ≤ p1) (hp1b : p1 ≤ 16)  : MI l G cy yX4_placeOf cX4_placeOf 3 (some .int) 0 0 0 [.ref (a 31), .int (nI p0), .int (nI p1)] L M (fun r L2 M2 => ∃ C2 D2, WI L2 M2 a act (ent cy a C2 D2 R) ∧ Inv C2 ∧ Kp [] C0 D0 C2 D2 ∧ okp r ∧ r = C2 33 (p1 * 8 + p0)) := by
  refine MI.of (own := RX4) rfl (by decide) (Nat.le_of_ble_eq_true rfl) ?_
  intro p e s m below meth c A X hrt hnm
  obtain ⟨C, D, hC0, hD0, F, I, K⟩ : ∃ C D, C = C0 ∧ D = D0 ∧ WI L M a act (ent cy a C D R) ∧ Inv C ∧ Kp [] C0 D0 C D := ⟨C0, D0, rfl, rfl, F, I, Kp.rf⟩
  refine g_aload_n X dX4_placeOf_0 rfl (j := 0) rfl ?_
  refine i_get X F 31 rfl rfl fk_X4_25 dX4_placeOf_1 rfl ?_
  refine g_iload_n X dX4_placeOf_4 rfl (j := 2) rfl ?_
  refine g_bipush X dX4_placeOf_5 (v := 8) (by decide) ?_
  refine g_imul X dX4_placeOf_7 ?_
  refine Go.top (v := .int (nI (p1 * 8))) (congrArg Value.int (pk_mul p1 8)) ?_
  refine g_iload_n X dX4_placeOf_8 rfl (j := 1) rfl ?_
  refine g_iadd X dX4_placeOf_9 ?_
  refine Go.top (v := .int (nI ((p1 * 8) + p0))) (congrArg Value.int (nI_add (p1 * 8) p0)) ?_
  rcases okp_nat (I 33 ((p1 * 8) + p0)) with en1 | ⟨n1, hn1, en1⟩
  · skip
    refine i_iald X F 33 rfl rfl dX4_placeOf_10 (vp_in_nI (by omega) (by decide)) (v := -1) (by rw [nI_clamp (by omega)]; exact en1) ?_
    exact g_iret X hrt dX4_placeOf_11 (by decide) (by decide) ⟨C, D, F, I, K, ⟨okp_m1, en1.symm⟩⟩
  · skip
    refine i_iald X F 33 rfl rfl dX4_placeOf_10 (vp_in_nI (by omega) (by decide)) (v := nI n1) (by rw [nI_clamp (by omega)]; exact en1) ?_
    exact g_iret X hrt dX4_placeOf_11 (by decide) (by decide) ⟨C, D, F, I, K, ⟨(okp_of (n := n1) (by omega)), en1.symm⟩⟩
set_option maxHeartbeats 4000000 in
set_option maxRecDepth 100000 in
theorem s_X4_armOf_31 (l : Launch) (G : va_G) {cy : Nat → ClassId} {L : List Nat} {M : Nat → va_E} {a : Nat → Nat} {act : Nat → Bool} {C0 : Nat → Nat → Int32} {D0 : Nat → Nat → Int64} {R : Nat → Nat → Option Nat} (F : WI L M a act (ent cy a C0 D0 R)) (I : Inv C0) (p0 : Nat) (hp0a : 0 ≤ p0) (hp0b : p0 ≤ 6) (p1 : Nat) (hp1a : 0 ≤ p1) (hp1b : p1 ≤ 16)  : MI l G cy yX4_armOf cX4_armOf 3 (some .int) 1 0 0 [.ref (a 31), .int (nI p0), .int (nI p1)] L M (fun r L2 M2 => ∃ C2 D2, WI L2 M2 a act (ent cy a C2 D2 R) ∧ Inv C2 ∧ Kp [] C0 D0 C2 D2 ∧ True) := by
  refine MI.of (own := RX4) rfl (by decide) (Nat.le_of_ble_eq_true rfl) ?_
  intro p e s m below meth c A X hrt hnm
  obtain ⟨C, D, hC0, hD0, F, I, K⟩ : ∃ C D, C = C0 ∧ D = D0 ∧ WI L M a act (ent cy a C D R) ∧ Inv C ∧ Kp [] C0 D0 C D := ⟨C0, D0, rfl, rfl, F, I, Kp.rf⟩
  refine g_aload_n X dX4_armOf_0 rfl (j := 0) rfl ?_
  refine i_get X F 31 rfl rfl fk_X4_37 dX4_armOf_1 rfl ?_
  refine g_iload_n X dX4_armOf_4 rfl (j := 1) rfl ?_
  refine g_callVI X (s_X2_hasArm l G F I p0 (by omega) (by omega) ) lk_X4_90 (F.1 3 rfl).2 (F.1 3 rfl).1 rfl rfl dX4_armOf_5 (Nat.le_of_ble_eq_true rfl) ⟨by decide, by decide⟩ ⟨by decide, by decide⟩ (fun r1 L M hp => ?_)
  obtain ⟨C, D, F, I, K1, hr⟩ := hp
  have K := K.step K1 (by decide)
  rcases hr with rfl | ⟨rfl, ra2⟩
  · skip
    refine g_if_eq X dX4_armOf_8 (tgt := 25) (by decide) (fun _ => ?_) (fun q => absurd (by decide) q)
    refine g_iconst X dX4_armOf_25 (v := -1) (by decide) ?_
    exact g_iret X hrt dX4_armOf_26 (by decide) (by decide) ⟨C, D, F, I, K, trivial⟩
  · skip
    refine g_if_eq X dX4_armOf_8 (tgt := 25) (by decide) (fun q => absurd q (by decide)) (fun _ => ?_)
    refine g_aload_n X dX4_armOf_11 rfl (j := 0) rfl ?_
    refine i_get X F 31 rfl rfl fk_X4_28 dX4_armOf_12 rfl ?_
    refine g_iload_n X dX4_armOf_15 rfl (j := 2) rfl ?_
    refine g_bipush X dX4_armOf_16 (v := 7) (by decide) ?_
    refine g_imul X dX4_armOf_18 ?_
    refine Go.top (v := .int (nI (p1 * 7))) (congrArg Value.int (pk_mul p1 7)) ?_
    refine g_iload_n X dX4_armOf_19 rfl (j := 1) rfl ?_
    refine g_iadd X dX4_armOf_20 ?_
    refine Go.top (v := .int (nI ((p1 * 7) + p0))) (congrArg Value.int (nI_add (p1 * 7) p0)) ?_
    obtain ⟨n3, hn3, en3⟩ := rg_nat (I 34 ((p1 * 7) + p0)) (by decide)
    refine i_iald X F 34 rfl rfl dX4_armOf_21 (vp_in_nI (by omega) (by decide)) (v := nI n3) (by rw [nI_clamp (by omega)]; exact en3) ?_
    refine g_goto X dX4_armOf_22 (tgt := 26) (by decide) ?_
    exact g_iret X hrt dX4_armOf_26 (by decide) (by decide) ⟨C, D, F, I, K, trivial⟩
set_option maxHeartbeats 4000000 in
set_option maxRecDepth 100000 in
theorem s_X4_isSent_31 (l : Launch) (G : va_G) {cy : Nat → ClassId} {L : List Nat} {M : Nat → va_E} {a : Nat → Nat} {act : Nat → Bool} {C0 : Nat → Nat → Int32} {D0 : Nat → Nat → Int64} {R : Nat → Nat → Option Nat} (F : WI L M a act (ent cy a C0 D0 R)) (I : Inv C0) (p0 : Nat) (hp0a : 0 ≤ p0) (hp0b : p0 ≤ 7) (p1 : Nat) (hp1a : 0 ≤ p1) (hp1b : p1 ≤ 15)  : MI l G cy yX4_isSent cX4_isSent 3 (some .boolean) 0 0 0 [.ref (a 31), .int (nI p0), .int (nI p1)] L M (fun r L2 M2 => ∃ C2 D2, WI L2 M2 a act (ent cy a C2 D2 R) ∧ Inv C2 ∧ Kp [] C0 D0 C2 D2 ∧ (r = 0 ∨ (r = 1 ∧ ¬ C2 35 (p1 * 8 + p0) = -1))) := by
  refine MI.of (own := RX4) rfl (by decide) (Nat.le_of_ble_eq_true rfl) ?_
  intro p e s m below meth c A X hrt hnm
  obtain ⟨C, D, hC0, hD0, F, I, K⟩ : ∃ C D, C = C0 ∧ D = D0 ∧ WI L M a act (ent cy a C D R) ∧ Inv C ∧ Kp [] C0 D0 C D := ⟨C0, D0, rfl, rfl, F, I, Kp.rf⟩
  refine g_aload_n X dX4_isSent_0 rfl (j := 0) rfl ?_
  refine i_get X F 31 rfl rfl fk_X4_31 dX4_isSent_1 rfl ?_
  refine g_iload_n X dX4_isSent_4 rfl (j := 2) rfl ?_
  refine g_bipush X dX4_isSent_5 (v := 8) (by decide) ?_
  refine g_imul X dX4_isSent_7 ?_
  refine Go.top (v := .int (nI (p1 * 8))) (congrArg Value.int (pk_mul p1 8)) ?_
  refine g_iload_n X dX4_isSent_8 rfl (j := 1) rfl ?_
  refine g_iadd X dX4_isSent_9 ?_
  refine Go.top (v := .int (nI ((p1 * 8) + p0))) (congrArg Value.int (nI_add (p1 * 8) p0)) ?_
  obtain ⟨o1, eo1⟩ : ∃ z, C 35 (((p1 * 8) + p0)) = z := ⟨_, rfl⟩
  refine i_iald X F 35 rfl rfl dX4_isSent_10 (vp_in_nI (by omega) (by decide)) (v := o1) (by rw [nI_clamp (by omega)]; exact eo1) ?_
  refine g_iconst X dX4_isSent_11 (v := -1) (by decide) ?_
  refine g_icmp_eq X dX4_isSent_12 (tgt := 19) (by decide) (fun q2 => ?_) (fun q2 => ?_)
  · skip
    subst q2
    refine g_iconst X dX4_isSent_19 (v := 0) (by decide) ?_
    exact g_zret X hrt rfl dX4_isSent_20 (by decide) (by decide) ⟨C, D, F, I, K, Or.inl rfl⟩
  · skip
    refine g_iconst X dX4_isSent_15 (v := 1) (by decide) ?_
    refine g_goto X dX4_isSent_16 (tgt := 20) (by decide) ?_
    exact g_zret X hrt rfl dX4_isSent_20 (by decide) (by decide) ⟨C, D, F, I, K, Or.inr ⟨rfl, fun z => q2 (eo1.symm.trans z)⟩⟩
set_option maxHeartbeats 4000000 in
set_option maxRecDepth 100000 in
theorem s_X4_walkersAt_31 (l : Launch) (G : va_G) {cy : Nat → ClassId} {L : List Nat} {M : Nat → va_E} {a : Nat → Nat} {act : Nat → Bool} {C0 : Nat → Nat → Int32} {D0 : Nat → Nat → Int64} {R : Nat → Nat → Option Nat} (F : WI L M a act (ent cy a C0 D0 R)) (I : Inv C0) (p0 : Int32) (p1 : Nat) (hp1a : 0 ≤ p1) (hp1b : p1 ≤ 16)  : MI l G cy yX4_walkersAt cX4_walkersAt 5 (some .int) 1 0 0 [.ref (a 31), .int p0, .int (nI p1)] L M (fun r L2 M2 => ∃ C2 D2, WI L2 M2 a act (ent cy a C2 D2 R) ∧ Inv C2 ∧ Kp [] C0 D0 C2 D2 ∧ True) := by
  refine MI.of (own := RX4) rfl (by decide) (Nat.le_of_ble_eq_true rfl) ?_
  intro p e s m below meth c A X hrt hnm
  obtain ⟨C, D, hC0, hD0, F, I, K⟩ : ∃ C D, C = C0 ∧ D = D0 ∧ WI L M a act (ent cy a C D R) ∧ Inv C ∧ Kp [] C0 D0 C D := ⟨C0, D0, rfl, rfl, F, I, Kp.rf⟩
  refine g_iconst X dX4_walkersAt_0 (v := 0) (by decide) ?_
  refine g_istore_n X dX4_walkersAt_1 rfl (by decide) (lv2 := [(3, .int 0), (0, .ref (a 31)), (1, .int p0), (2, .int (nI p1))]) rfl ?_
  refine g_iconst X dX4_walkersAt_2 (v := 0) (by decide) ?_
  refine g_istore X dX4_walkersAt_3 (by decide) (lv2 := [(4, .int 0), (3, .int 0), (0, .ref (a 31)), (1, .int p0), (2, .int (nI p1))]) rfl ?_
  refine g_lv [0, 1, 2, 3, 4] (lv2 := [(4, .int 0), (3, .int 0), (0, .ref (a 31)), (1, .int p0), (2, .int (nI p1))]) rfl ?_
  refine i_loop (mods := []) (fun x : Nat × Int32 => 8 - x.1) (fun x => [(4, .int (nI (x.1))), (3, .int (x.2)), (0, .ref (a 31)), (1, .int p0), (2, .int (nI p1))]) (fun x C => 0 ≤ x.1 ∧ x.1 ≤ 8) (fun x L M C D F I K hP ih5 => ?_) ((0, 0) : Nat × Int32) F I K ⟨by show _ ≤ _; omega, by show _ ≤ _; omega⟩
  rcases x with ⟨i5_4, v5_3⟩
  obtain ⟨hi5_4a, hi5_4b⟩ := hP
  refine g_lv [0, 1, 2, 3, 4] (lv2 := [(4, .int (nI i5_4)), (3, .int v5_3), (0, .ref (a 31)), (1, .int p0), (2, .int (nI p1))]) rfl ?_
  refine g_iload X dX4_walkersAt_5 (j := 0) rfl ?_
  refine g_aload_n X dX4_walkersAt_7 rfl (j := 2) rfl ?_
  refine i_get X F 31 rfl rfl fk_X4_37 dX4_walkersAt_8 rfl ?_
  obtain ⟨n1, hn1, en1⟩ := rg_nat ((I 3 8).2.2.2 rfl) (by decide)
  refine i_get X F 3 rfl rfl fk_X4_64 dX4_walkersAt_11 (v := .int (nI n1)) (congrArg (fun z => some (Value.int z)) en1) ?_
  refine g_icmp_ge X dX4_walkersAt_14 (tgt := 41) (by decide) (fun q2 => ?_) (fun q2 => ?_)
  · skip
    have q2 : n1 ≤ i5_4 := (nI_leI (a := n1) (b := i5_4) (by omega) (by omega)).mp q2
    refine g_iload_n X dX4_walkersAt_41 rfl (j := 1) rfl ?_
    exact g_iret X hrt dX4_walkersAt_42 (by decide) (by decide) ⟨C, D, F, I, K, trivial⟩
  · skip
    have q2 : ¬ n1 ≤ i5_4 := fun z => q2 ((nI_leI (a := n1) (b := i5_4) (by omega) (by omega)).mpr z)
    refine g_aload_n X dX4_walkersAt_17 rfl (j := 2) rfl ?_
    refine g_iload X dX4_walkersAt_18 (j := 0) rfl ?_
    refine g_iload_n X dX4_walkersAt_20 rfl (j := 4) rfl ?_
    refine g_callVI X (s_X4_placeOf_31 l G F I i5_4 (by omega) (by omega) p1 (by omega) (by omega) ) lk_X4_113 (F.1 31 rfl).2 (F.1 31 rfl).1 rfl rfl dX4_walkersAt_21 (Nat.le_of_ble_eq_true rfl) ⟨by decide, by decide⟩ ⟨by decide, by decide⟩ (fun r3 L M hp => ?_)
    obtain ⟨C, D, F, I, K1, hr⟩ := hp
    have K := K.step K1 (by decide)
    obtain ⟨hr, hpln4⟩ := hr
    rcases okp_nat hr with rfl | ⟨n4, hn4, rfl⟩
    · skip
      refine g_iload_n X dX4_walkersAt_24 rfl (j := 3) rfl ?_
      refine g_icmp_ne X dX4_walkersAt_25 (tgt := 35) (by decide) (fun q5 => ?_) (fun q5 => ?_)
      · skip
        refine g_iinc X dX4_walkersAt_35 (j := 0) rfl (v := nI (i5_4 + 1)) (nI_1 i5_4) (by decide) (lv2 := [(4, .int (nI (i5_4 + 1))), (3, .int v5_3), (0, .ref (a 31)), (1, .int p0), (2, .int (nI p1))]) rfl ?_
        refine g_goto X dX4_walkersAt_38 (tgt := 5) (by decide) ?_
        refine g_lv [0, 1, 2, 3, 4] (lv2 := [(4, .int (nI (i5_4 + 1))), (3, .int v5_3), (0, .ref (a 31)), (1, .int p0), (2, .int (nI p1))]) rfl ?_
        exact ih5 ((i5_4 + 1), v5_3) L M C D F I K ⟨by omega, by omega⟩ (by show _ < _; omega)
      · skip
        refine g_iload_n X dX4_walkersAt_28 rfl (j := 1) rfl ?_
        refine g_iconst X dX4_walkersAt_29 (v := 1) (by decide) ?_
        refine g_iload X dX4_walkersAt_30 (j := 0) rfl ?_
        refine g_ishl X dX4_walkersAt_32 ?_
        refine Go.gen (fun o6 => ?_)
        refine g_ior X dX4_walkersAt_33 ?_
        refine Go.gen (fun o7 => ?_)
        refine g_istore_n X dX4_walkersAt_34 rfl (by decide) (lv2 := [(3, .int o7), (4, .int (nI i5_4)), (0, .ref (a 31)), (1, .int p0), (2, .int (nI p1))]) rfl ?_
        refine g_iinc X dX4_walkersAt_35 (j := 1) rfl (v := nI (i5_4 + 1)) (nI_1 i5_4) (by decide) (lv2 := [(4, .int (nI (i5_4 + 1))), (3, .int o7), (0, .ref (a 31)), (1, .int p0), (2, .int (nI p1))]) rfl ?_
        refine g_goto X dX4_walkersAt_38 (tgt := 5) (by decide) ?_
        refine g_lv [0, 1, 2, 3, 4] (lv2 := [(4, .int (nI (i5_4 + 1))), (3, .int o7), (0, .ref (a 31)), (1, .int p0), (2, .int (nI p1))]) rfl ?_
        exact ih5 ((i5_4 + 1), o7) L M C D F I K ⟨by omega, by omega⟩ (by show _ < _; omega)
    · skip
      refine g_iload_n X dX4_walkersAt_24 rfl (j := 3) rfl ?_
      refine g_icmp_ne X dX4_walkersAt_25 (tgt := 35) (by decide) (fun q8 => ?_) (fun q8 => ?_)
      · skip
        refine g_iinc X dX4_walkersAt_35 (j := 0) rfl (v := nI (i5_4 + 1)) (nI_1 i5_4) (by decide) (lv2 := [(4, .int (nI (i5_4 + 1))), (3, .int v5_3), (0, .ref (a 31)), (1, .int p0), (2, .int (nI p1))]) rfl ?_
        refine g_goto X dX4_walkersAt_38 (tgt := 5) (by decide) ?_
        refine g_lv [0, 1, 2, 3, 4] (lv2 := [(4, .int (nI (i5_4 + 1))), (3, .int v5_3), (0, .ref (a 31)), (1, .int p0), (2, .int (nI p1))]) rfl ?_
        exact ih5 ((i5_4 + 1), v5_3) L M C D F I K ⟨by omega, by omega⟩ (by show _ < _; omega)
      · skip
        refine g_iload_n X dX4_walkersAt_28 rfl (j := 1) rfl ?_
        refine g_iconst X dX4_walkersAt_29 (v := 1) (by decide) ?_
        refine g_iload X dX4_walkersAt_30 (j := 0) rfl ?_
        refine g_ishl X dX4_walkersAt_32 ?_
        refine Go.gen (fun o9 => ?_)
        refine g_ior X dX4_walkersAt_33 ?_
        refine Go.gen (fun o10 => ?_)
        refine g_istore_n X dX4_walkersAt_34 rfl (by decide) (lv2 := [(3, .int o10), (4, .int (nI i5_4)), (0, .ref (a 31)), (1, .int p0), (2, .int (nI p1))]) rfl ?_
        refine g_iinc X dX4_walkersAt_35 (j := 1) rfl (v := nI (i5_4 + 1)) (nI_1 i5_4) (by decide) (lv2 := [(4, .int (nI (i5_4 + 1))), (3, .int o10), (0, .ref (a 31)), (1, .int p0), (2, .int (nI p1))]) rfl ?_
        refine g_goto X dX4_walkersAt_38 (tgt := 5) (by decide) ?_
        refine g_lv [0, 1, 2, 3, 4] (lv2 := [(4, .int (nI (i5_4 + 1))), (3, .int o10), (0, .ref (a 31)), (1, .int p0), (2, .int (nI p1))]) rfl ?_
        exact ih5 ((i5_4 + 1), o10) L M C D F I K ⟨by omega, by omega⟩ (by show _ < _; omega)
set_option maxHeartbeats 4000000 in
set_option maxRecDepth 100000 in
theorem s_X4_walkersSent_31 (l : Launch) (G : va_G) {cy : Nat → ClassId} {L : List Nat} {M : Nat → va_E} {a : Nat → Nat} {act : Nat → Bool} {C0 : Nat → Nat → Int32} {D0 : Nat → Nat → Int64} {R : Nat → Nat → Option Nat} (F : WI L M a act (ent cy a C0 D0 R)) (I : Inv C0) (p0 : Nat) (hp0a : 0 ≤ p0) (hp0b : p0 ≤ 15)  : MI l G cy yX4_walkersSent cX4_walkersSent 4 (some .int) 1 0 0 [.ref (a 31), .int (nI p0)] L M (fun r L2 M2 => ∃ C2 D2, WI L2 M2 a act (ent cy a C2 D2 R) ∧ Inv C2 ∧ Kp [] C0 D0 C2 D2 ∧ True) := by
  refine MI.of (own := RX4) rfl (by decide) (Nat.le_of_ble_eq_true rfl) ?_
  intro p e s m below meth c A X hrt hnm
  obtain ⟨C, D, hC0, hD0, F, I, K⟩ : ∃ C D, C = C0 ∧ D = D0 ∧ WI L M a act (ent cy a C D R) ∧ Inv C ∧ Kp [] C0 D0 C D := ⟨C0, D0, rfl, rfl, F, I, Kp.rf⟩
  refine g_iconst X dX4_walkersSent_0 (v := 0) (by decide) ?_
  refine g_istore_n X dX4_walkersSent_1 rfl (by decide) (lv2 := [(2, .int 0), (0, .ref (a 31)), (1, .int (nI p0))]) rfl ?_
  refine g_iconst X dX4_walkersSent_2 (v := 0) (by decide) ?_
  refine g_istore_n X dX4_walkersSent_3 rfl (by decide) (lv2 := [(3, .int 0), (2, .int 0), (0, .ref (a 31)), (1, .int (nI p0))]) rfl ?_
  refine g_lv [0, 1, 2, 3] (lv2 := [(3, .int 0), (2, .int 0), (0, .ref (a 31)), (1, .int (nI p0))]) rfl ?_
  refine i_loop (mods := []) (fun x : Nat × Int32 => 8 - x.1) (fun x => [(3, .int (nI (x.1))), (2, .int (x.2)), (0, .ref (a 31)), (1, .int (nI p0))]) (fun x C => 0 ≤ x.1 ∧ x.1 ≤ 8) (fun x L M C D F I K hP ih4 => ?_) ((0, 0) : Nat × Int32) F I K ⟨by show _ ≤ _; omega, by show _ ≤ _; omega⟩
  rcases x with ⟨i4_3, v4_2⟩
  obtain ⟨hi4_3a, hi4_3b⟩ := hP
  refine g_lv [0, 1, 2, 3] (lv2 := [(3, .int (nI i4_3)), (2, .int v4_2), (0, .ref (a 31)), (1, .int (nI p0))]) rfl ?_
  refine g_iload_n X dX4_walkersSent_4 rfl (j := 0) rfl ?_
  refine g_aload_n X dX4_walkersSent_5 rfl (j := 2) rfl ?_
  refine i_get X F 31 rfl rfl fk_X4_37 dX4_walkersSent_6 rfl ?_
  obtain ⟨n1, hn1, en1⟩ := rg_nat ((I 3 8).2.2.2 rfl) (by decide)
  refine i_get X F 3 rfl rfl fk_X4_64 dX4_walkersSent_9 (v := .int (nI n1)) (congrArg (fun z => some (Value.int z)) en1) ?_
  refine g_icmp_ge X dX4_walkersSent_12 (tgt := 36) (by decide) (fun q2 => ?_) (fun q2 => ?_)
  · skip
    have q2 : n1 ≤ i4_3 := (nI_leI (a := n1) (b := i4_3) (by omega) (by omega)).mp q2
    refine g_iload_n X dX4_walkersSent_36 rfl (j := 1) rfl ?_
    exact g_iret X hrt dX4_walkersSent_37 (by decide) (by decide) ⟨C, D, F, I, K, trivial⟩
  · skip
    have q2 : ¬ n1 ≤ i4_3 := fun z => q2 ((nI_leI (a := n1) (b := i4_3) (by omega) (by omega)).mpr z)
    refine g_aload_n X dX4_walkersSent_15 rfl (j := 2) rfl ?_
    refine g_iload_n X dX4_walkersSent_16 rfl (j := 0) rfl ?_
    refine g_iload_n X dX4_walkersSent_17 rfl (j := 3) rfl ?_
    refine g_callVI X (s_X4_isSent_31 l G F I i4_3 (by omega) (by omega) p0 (by omega) (by omega) ) lk_X4_132 (F.1 31 rfl).2 (F.1 31 rfl).1 rfl rfl dX4_walkersSent_18 (Nat.le_of_ble_eq_true rfl) ⟨by decide, by decide⟩ ⟨by decide, by decide⟩ (fun r3 L M hp => ?_)
    obtain ⟨C, D, F, I, K1, hr⟩ := hp
    have K := K.step K1 (by decide)
    rcases hr with rfl | ⟨rfl, hi4⟩
    · skip
      refine g_if_eq X dX4_walkersSent_21 (tgt := 30) (by decide) (fun _ => ?_) (fun q => absurd (by decide) q)
      refine g_iinc X dX4_walkersSent_30 (j := 0) rfl (v := nI (i4_3 + 1)) (nI_1 i4_3) (by decide) (lv2 := [(3, .int (nI (i4_3 + 1))), (2, .int v4_2), (0, .ref (a 31)), (1, .int (nI p0))]) rfl ?_
      refine g_goto X dX4_walkersSent_33 (tgt := 4) (by decide) ?_
      refine g_lv [0, 1, 2, 3] (lv2 := [(3, .int (nI (i4_3 + 1))), (2, .int v4_2), (0, .ref (a 31)), (1, .int (nI p0))]) rfl ?_
      exact ih4 ((i4_3 + 1), v4_2) L M C D F I K ⟨by omega, by omega⟩ (by show _ < _; omega)
    · skip
      refine g_if_eq X dX4_walkersSent_21 (tgt := 30) (by decide) (fun q => absurd q (by decide)) (fun _ => ?_)
      refine g_iload_n X dX4_walkersSent_24 rfl (j := 1) rfl ?_
      refine g_iconst X dX4_walkersSent_25 (v := 1) (by decide) ?_
      refine g_iload_n X dX4_walkersSent_26 rfl (j := 0) rfl ?_
      refine g_ishl X dX4_walkersSent_27 ?_
      refine Go.gen (fun o5 => ?_)
      refine g_ior X dX4_walkersSent_28 ?_
      refine Go.gen (fun o6 => ?_)
      refine g_istore_n X dX4_walkersSent_29 rfl (by decide) (lv2 := [(2, .int o6), (3, .int (nI i4_3)), (0, .ref (a 31)), (1, .int (nI p0))]) rfl ?_
      refine g_iinc X dX4_walkersSent_30 (j := 1) rfl (v := nI (i4_3 + 1)) (nI_1 i4_3) (by decide) (lv2 := [(3, .int (nI (i4_3 + 1))), (2, .int o6), (0, .ref (a 31)), (1, .int (nI p0))]) rfl ?_
      refine g_goto X dX4_walkersSent_33 (tgt := 4) (by decide) ?_
      refine g_lv [0, 1, 2, 3] (lv2 := [(3, .int (nI (i4_3 + 1))), (2, .int o6), (0, .ref (a 31)), (1, .int (nI p0))]) rfl ?_
      exact ih4 ((i4_3 + 1), o6) L M C D F I K ⟨by omega, by omega⟩ (by show _ < _; omega)
set_option maxHeartbeats 4000000 in
set_option maxRecDepth 100000 in
theorem s_X4_walkersInside_31 (l : Launch) (G : va_G) {cy : Nat → ClassId} {L : List Nat} {M : Nat → va_E} {a : Nat → Nat} {act : Nat → Bool} {C0 : Nat → Nat → Int32} {D0 : Nat → Nat → Int64} {R : Nat → Nat → Option Nat} (F : WI L M a act (ent cy a C0 D0 R)) (I : Inv C0) (p0 : Nat) (hp0a : 0 ≤ p0) (hp0b : p0 ≤ 16)  : MI l G cy yX4_walkersInside cX4_walkersInside 4 (some .int) 1 0 0 [.ref (a 31), .int (nI p0)] L M (fun r L2 M2 => ∃ C2 D2, WI L2 M2 a act (ent cy a C2 D2 R) ∧ Inv C2 ∧ Kp [] C0 D0 C2 D2 ∧ True) := by
  refine MI.of (own := RX4) rfl (by decide) (Nat.le_of_ble_eq_true rfl) ?_
  intro p e s m below meth c A X hrt hnm
  obtain ⟨C, D, hC0, hD0, F, I, K⟩ : ∃ C D, C = C0 ∧ D = D0 ∧ WI L M a act (ent cy a C D R) ∧ Inv C ∧ Kp [] C0 D0 C D := ⟨C0, D0, rfl, rfl, F, I, Kp.rf⟩
  refine g_iconst X dX4_walkersInside_0 (v := 0) (by decide) ?_
  refine g_istore_n X dX4_walkersInside_1 rfl (by decide) (lv2 := [(2, .int 0), (0, .ref (a 31)), (1, .int (nI p0))]) rfl ?_
  refine g_iconst X dX4_walkersInside_2 (v := 0) (by decide) ?_
  refine g_istore_n X dX4_walkersInside_3 rfl (by decide) (lv2 := [(3, .int 0), (2, .int 0), (0, .ref (a 31)), (1, .int (nI p0))]) rfl ?_
  refine g_lv [0, 1, 2, 3] (lv2 := [(3, .int 0), (2, .int 0), (0, .ref (a 31)), (1, .int (nI p0))]) rfl ?_
  refine i_loop (mods := []) (fun x : Nat × Int32 => 8 - x.1) (fun x => [(3, .int (nI (x.1))), (2, .int (x.2)), (0, .ref (a 31)), (1, .int (nI p0))]) (fun x C => 0 ≤ x.1 ∧ x.1 ≤ 8) (fun x L M C D F I K hP ih4 => ?_) ((0, 0) : Nat × Int32) F I K ⟨by show _ ≤ _; omega, by show _ ≤ _; omega⟩
  rcases x with ⟨i4_3, v4_2⟩
  obtain ⟨hi4_3a, hi4_3b⟩ := hP
  refine g_lv [0, 1, 2, 3] (lv2 := [(3, .int (nI i4_3)), (2, .int v4_2), (0, .ref (a 31)), (1, .int (nI p0))]) rfl ?_
  refine g_iload_n X dX4_walkersInside_4 rfl (j := 0) rfl ?_
  refine g_aload_n X dX4_walkersInside_5 rfl (j := 2) rfl ?_
  refine i_get X F 31 rfl rfl fk_X4_37 dX4_walkersInside_6 rfl ?_
  obtain ⟨n1, hn1, en1⟩ := rg_nat ((I 3 8).2.2.2 rfl) (by decide)
  refine i_get X F 3 rfl rfl fk_X4_64 dX4_walkersInside_9 (v := .int (nI n1)) (congrArg (fun z => some (Value.int z)) en1) ?_
  refine g_icmp_ge X dX4_walkersInside_12 (tgt := 38) (by decide) (fun q2 => ?_) (fun q2 => ?_)
  · skip
    have q2 : n1 ≤ i4_3 := (nI_leI (a := n1) (b := i4_3) (by omega) (by omega)).mp q2
    refine g_iload_n X dX4_walkersInside_38 rfl (j := 1) rfl ?_
    exact g_iret X hrt dX4_walkersInside_39 (by decide) (by decide) ⟨C, D, F, I, K, trivial⟩
  · skip
    have q2 : ¬ n1 ≤ i4_3 := fun z => q2 ((nI_leI (a := n1) (b := i4_3) (by omega) (by omega)).mpr z)
    refine g_aload_n X dX4_walkersInside_15 rfl (j := 2) rfl ?_
    refine g_iload_n X dX4_walkersInside_16 rfl (j := 0) rfl ?_
    refine g_iload_n X dX4_walkersInside_17 rfl (j := 3) rfl ?_
    refine g_callVI X (s_X4_placeOf_31 l G F I i4_3 (by omega) (by omega) p0 (by omega) (by omega) ) lk_X4_113 (F.1 31 rfl).2 (F.1 31 rfl).1 rfl rfl dX4_walkersInside_18 (Nat.le_of_ble_eq_true rfl) ⟨by decide, by decide⟩ ⟨by decide, by decide⟩ (fun r3 L M hp => ?_)
    obtain ⟨C, D, F, I, K1, hr⟩ := hp
    have K := K.step K1 (by decide)
    obtain ⟨hr, hpln4⟩ := hr
    rcases okp_nat hr with rfl | ⟨n4, hn4, rfl⟩
    · skip
      refine g_bipush X dX4_walkersInside_21 (v := 10) (by decide) ?_
      refine g_icmp_lt X dX4_walkersInside_23 (tgt := 32) (by decide) (fun _ => ?_) (fun q => absurd (by decide) q)
      refine g_iinc X dX4_walkersInside_32 (j := 0) rfl (v := nI (i4_3 + 1)) (nI_1 i4_3) (by decide) (lv2 := [(3, .int (nI (i4_3 + 1))), (2, .int v4_2), (0, .ref (a 31)), (1, .int (nI p0))]) rfl ?_
      refine g_goto X dX4_walkersInside_35 (tgt := 4) (by decide) ?_
      refine g_lv [0, 1, 2, 3] (lv2 := [(3, .int (nI (i4_3 + 1))), (2, .int v4_2), (0, .ref (a 31)), (1, .int (nI p0))]) rfl ?_
      exact ih4 ((i4_3 + 1), v4_2) L M C D F I K ⟨by omega, by omega⟩ (by show _ < _; omega)
    · skip
      refine g_bipush X dX4_walkersInside_21 (v := 10) (by decide) ?_
      refine g_icmp_lt X dX4_walkersInside_23 (tgt := 32) (by decide) (fun q5 => ?_) (fun q5 => ?_)
      · skip
        have q5 : n4 < 10 := (nI_ltI (a := n4) (b := 10) (by omega) (by omega)).mp q5
        refine g_iinc X dX4_walkersInside_32 (j := 0) rfl (v := nI (i4_3 + 1)) (nI_1 i4_3) (by decide) (lv2 := [(3, .int (nI (i4_3 + 1))), (2, .int v4_2), (0, .ref (a 31)), (1, .int (nI p0))]) rfl ?_
        refine g_goto X dX4_walkersInside_35 (tgt := 4) (by decide) ?_
        refine g_lv [0, 1, 2, 3] (lv2 := [(3, .int (nI (i4_3 + 1))), (2, .int v4_2), (0, .ref (a 31)), (1, .int (nI p0))]) rfl ?_
        exact ih4 ((i4_3 + 1), v4_2) L M C D F I K ⟨by omega, by omega⟩ (by show _ < _; omega)
      · skip
        have q5 : ¬ n4 < 10 := fun z => q5 ((nI_ltI (a := n4) (b := 10) (by omega) (by omega)).mpr z)
        refine g_iload_n X dX4_walkersInside_26 rfl (j := 1) rfl ?_
        refine g_iconst X dX4_walkersInside_27 (v := 1) (by decide) ?_
        refine g_iload_n X dX4_walkersInside_28 rfl (j := 0) rfl ?_
        refine g_ishl X dX4_walkersInside_29 ?_
        refine Go.gen (fun o6 => ?_)
        refine g_ior X dX4_walkersInside_30 ?_
        refine Go.gen (fun o7 => ?_)
        refine g_istore_n X dX4_walkersInside_31 rfl (by decide) (lv2 := [(2, .int o7), (3, .int (nI i4_3)), (0, .ref (a 31)), (1, .int (nI p0))]) rfl ?_
        refine g_iinc X dX4_walkersInside_32 (j := 1) rfl (v := nI (i4_3 + 1)) (nI_1 i4_3) (by decide) (lv2 := [(3, .int (nI (i4_3 + 1))), (2, .int o7), (0, .ref (a 31)), (1, .int (nI p0))]) rfl ?_
        refine g_goto X dX4_walkersInside_35 (tgt := 4) (by decide) ?_
        refine g_lv [0, 1, 2, 3] (lv2 := [(3, .int (nI (i4_3 + 1))), (2, .int o7), (0, .ref (a 31)), (1, .int (nI p0))]) rfl ?_
        exact ih4 ((i4_3 + 1), o7) L M C D F I K ⟨by omega, by omega⟩ (by show _ < _; omega)
set_option maxHeartbeats 4000000 in
set_option maxRecDepth 100000 in
theorem s_X4_walkersOutside_31 (l : Launch) (G : va_G) {cy : Nat → ClassId} {L : List Nat} {M : Nat → va_E} {a : Nat → Nat} {act : Nat → Bool} {C0 : Nat → Nat → Int32} {D0 : Nat → Nat → Int64} {R : Nat → Nat → Option Nat} (F : WI L M a act (ent cy a C0 D0 R)) (I : Inv C0) (p0 : Nat) (hp0a : 0 ≤ p0) (hp0b : p0 ≤ 16)  : MI l G cy yX4_walkersOutside cX4_walkersOutside 5 (some .int) 1 0 0 [.ref (a 31), .int (nI p0)] L M (fun r L2 M2 => ∃ C2 D2, WI L2 M2 a act (ent cy a C2 D2 R) ∧ Inv C2 ∧ Kp [] C0 D0 C2 D2 ∧ True) := by
  refine MI.of (own := RX4) rfl (by decide) (Nat.le_of_ble_eq_true rfl) ?_
  intro p e s m below meth c A X hrt hnm
  obtain ⟨C, D, hC0, hD0, F, I, K⟩ : ∃ C D, C = C0 ∧ D = D0 ∧ WI L M a act (ent cy a C D R) ∧ Inv C ∧ Kp [] C0 D0 C D := ⟨C0, D0, rfl, rfl, F, I, Kp.rf⟩
  refine g_iconst X dX4_walkersOutside_0 (v := 0) (by decide) ?_
  refine g_istore_n X dX4_walkersOutside_1 rfl (by decide) (lv2 := [(2, .int 0), (0, .ref (a 31)), (1, .int (nI p0))]) rfl ?_
  refine g_iconst X dX4_walkersOutside_2 (v := 0) (by decide) ?_
  refine g_istore_n X dX4_walkersOutside_3 rfl (by decide) (lv2 := [(3, .int 0), (2, .int 0), (0, .ref (a 31)), (1, .int (nI p0))]) rfl ?_
  refine g_lv [0, 1, 2, 3] (lv2 := [(3, .int 0), (2, .int 0), (0, .ref (a 31)), (1, .int (nI p0))]) rfl ?_
  refine i_loop (mods := []) (fun x : Nat × Int32 => 8 - x.1) (fun x => [(3, .int (nI (x.1))), (2, .int (x.2)), (0, .ref (a 31)), (1, .int (nI p0))]) (fun x C => 0 ≤ x.1 ∧ x.1 ≤ 8) (fun x L M C D F I K hP ih4 => ?_) ((0, 0) : Nat × Int32) F I K ⟨by show _ ≤ _; omega, by show _ ≤ _; omega⟩
  rcases x with ⟨i4_3, v4_2⟩
  obtain ⟨hi4_3a, hi4_3b⟩ := hP
  refine g_lv [0, 1, 2, 3] (lv2 := [(3, .int (nI i4_3)), (2, .int v4_2), (0, .ref (a 31)), (1, .int (nI p0))]) rfl ?_
  refine g_iload_n X dX4_walkersOutside_4 rfl (j := 0) rfl ?_
  refine g_aload_n X dX4_walkersOutside_5 rfl (j := 2) rfl ?_
  refine i_get X F 31 rfl rfl fk_X4_37 dX4_walkersOutside_6 rfl ?_
  obtain ⟨n1, hn1, en1⟩ := rg_nat ((I 3 8).2.2.2 rfl) (by decide)
  refine i_get X F 3 rfl rfl fk_X4_64 dX4_walkersOutside_9 (v := .int (nI n1)) (congrArg (fun z => some (Value.int z)) en1) ?_
  refine g_icmp_ge X dX4_walkersOutside_12 (tgt := 48) (by decide) (fun q2 => ?_) (fun q2 => ?_)
  · skip
    have q2 : n1 ≤ i4_3 := (nI_leI (a := n1) (b := i4_3) (by omega) (by omega)).mp q2
    refine g_iload_n X dX4_walkersOutside_48 rfl (j := 1) rfl ?_
    exact g_iret X hrt dX4_walkersOutside_49 (by decide) (by decide) ⟨C, D, F, I, K, trivial⟩
  · skip
    have q2 : ¬ n1 ≤ i4_3 := fun z => q2 ((nI_leI (a := n1) (b := i4_3) (by omega) (by omega)).mpr z)
    refine g_aload_n X dX4_walkersOutside_15 rfl (j := 2) rfl ?_
    refine g_iload_n X dX4_walkersOutside_16 rfl (j := 0) rfl ?_
    refine g_iload_n X dX4_walkersOutside_17 rfl (j := 3) rfl ?_
    refine g_callVI X (s_X4_placeOf_31 l G F I i4_3 (by omega) (by omega) p0 (by omega) (by omega) ) lk_X4_113 (F.1 31 rfl).2 (F.1 31 rfl).1 rfl rfl dX4_walkersOutside_18 (Nat.le_of_ble_eq_true rfl) ⟨by decide, by decide⟩ ⟨by decide, by decide⟩ (fun r3 L M hp => ?_)
    obtain ⟨C, D, F, I, K1, hr⟩ := hp
    have K := K.step K1 (by decide)
    obtain ⟨hr, hpln4⟩ := hr
    rcases okp_nat hr with rfl | ⟨n4, hn4, rfl⟩
    · skip
      refine g_istore X dX4_walkersOutside_21 (by decide) (lv2 := [(4, .int (-1)), (3, .int (nI i4_3)), (2, .int v4_2), (0, .ref (a 31)), (1, .int (nI p0))]) rfl ?_
      refine g_iload X dX4_walkersOutside_23 (j := 0) rfl ?_
      refine g_iconst X dX4_walkersOutside_25 (v := -1) (by decide) ?_
      refine g_icmp_eq X dX4_walkersOutside_26 (tgt := 42) (by decide) (fun _ => ?_) (fun q => absurd (by decide) q)
      refine g_iinc X dX4_walkersOutside_42 (j := 1) rfl (v := nI (i4_3 + 1)) (nI_1 i4_3) (by decide) (lv2 := [(3, .int (nI (i4_3 + 1))), (4, .int (-1)), (2, .int v4_2), (0, .ref (a 31)), (1, .int (nI p0))]) rfl ?_
      refine g_goto X dX4_walkersOutside_45 (tgt := 4) (by decide) ?_
      refine g_lv [0, 2, 3, 4] (lv2 := [(3, .int (nI (i4_3 + 1))), (2, .int v4_2), (0, .ref (a 31)), (1, .int (nI p0))]) rfl ?_
      exact ih4 ((i4_3 + 1), v4_2) L M C D F I K ⟨by omega, by omega⟩ (by show _ < _; omega)
    · skip
      refine g_istore X dX4_walkersOutside_21 (by decide) (lv2 := [(4, .int (nI n4)), (3, .int (nI i4_3)), (2, .int v4_2), (0, .ref (a 31)), (1, .int (nI p0))]) rfl ?_
      refine g_iload X dX4_walkersOutside_23 (j := 0) rfl ?_
      refine g_iconst X dX4_walkersOutside_25 (v := -1) (by decide) ?_
      refine g_icmp_eq X dX4_walkersOutside_26 (tgt := 42) (by decide) (fun q => absurd q (nI_nm1 (by omega))) (fun _ => ?_)
      refine g_iload X dX4_walkersOutside_29 (j := 0) rfl ?_
      refine g_bipush X dX4_walkersOutside_31 (v := 10) (by decide) ?_
      refine g_icmp_ge X dX4_walkersOutside_33 (tgt := 42) (by decide) (fun q6 => ?_) (fun q6 => ?_)
      · skip
        have q6 : 10 ≤ n4 := (nI_leI (a := 10) (b := n4) (by omega) (by omega)).mp q6
        refine g_iinc X dX4_walkersOutside_42 (j := 1) rfl (v := nI (i4_3 + 1)) (nI_1 i4_3) (by decide) (lv2 := [(3, .int (nI (i4_3 + 1))), (4, .int (nI n4)), (2, .int v4_2), (0, .ref (a 31)), (1, .int (nI p0))]) rfl ?_
        refine g_goto X dX4_walkersOutside_45 (tgt := 4) (by decide) ?_
        refine g_lv [0, 2, 3, 4] (lv2 := [(3, .int (nI (i4_3 + 1))), (2, .int v4_2), (0, .ref (a 31)), (1, .int (nI p0))]) rfl ?_
        exact ih4 ((i4_3 + 1), v4_2) L M C D F I K ⟨by omega, by omega⟩ (by show _ < _; omega)
      · skip
        have q6 : ¬ 10 ≤ n4 := fun z => q6 ((nI_leI (a := 10) (b := n4) (by omega) (by omega)).mpr z)
        refine g_iload_n X dX4_walkersOutside_36 rfl (j := 2) rfl ?_
        refine g_iconst X dX4_walkersOutside_37 (v := 1) (by decide) ?_
        refine g_iload_n X dX4_walkersOutside_38 rfl (j := 1) rfl ?_
        refine g_ishl X dX4_walkersOutside_39 ?_
        refine Go.gen (fun o7 => ?_)
        refine g_ior X dX4_walkersOutside_40 ?_
        refine Go.gen (fun o8 => ?_)
        refine g_istore_n X dX4_walkersOutside_41 rfl (by decide) (lv2 := [(2, .int o8), (4, .int (nI n4)), (3, .int (nI i4_3)), (0, .ref (a 31)), (1, .int (nI p0))]) rfl ?_
        refine g_iinc X dX4_walkersOutside_42 (j := 2) rfl (v := nI (i4_3 + 1)) (nI_1 i4_3) (by decide) (lv2 := [(3, .int (nI (i4_3 + 1))), (2, .int o8), (4, .int (nI n4)), (0, .ref (a 31)), (1, .int (nI p0))]) rfl ?_
        refine g_goto X dX4_walkersOutside_45 (tgt := 4) (by decide) ?_
        refine g_lv [0, 1, 3, 4] (lv2 := [(3, .int (nI (i4_3 + 1))), (2, .int o8), (0, .ref (a 31)), (1, .int (nI p0))]) rfl ?_
        exact ih4 ((i4_3 + 1), o8) L M C D F I K ⟨by omega, by omega⟩ (by show _ < _; omega)
set_option maxHeartbeats 4000000 in
set_option maxRecDepth 100000 in
theorem s_X4_timesRoadUsed_31 (l : Launch) (G : va_G) {cy : Nat → ClassId} {L : List Nat} {M : Nat → va_E} {a : Nat → Nat} {act : Nat → Bool} {C0 : Nat → Nat → Int32} {D0 : Nat → Nat → Int64} {R : Nat → Nat → Option Nat} (F : WI L M a act (ent cy a C0 D0 R)) (I : Inv C0) (p0 : Int32) (p1 : Int32)  : MI l G cy yX4_timesRoadUsed cX4_timesRoadUsed 6 (some .int) 1 0 0 [.ref (a 31), .int p0, .int p1] L M (fun r L2 M2 => ∃ C2 D2, WI L2 M2 a act (ent cy a C2 D2 R) ∧ Inv C2 ∧ Kp [] C0 D0 C2 D2 ∧ True) := by
  refine MI.of (own := RX4) rfl (by decide) (Nat.le_of_ble_eq_true rfl) ?_
  intro p e s m below meth c A X hrt hnm
  obtain ⟨C, D, hC0, hD0, F, I, K⟩ : ∃ C D, C = C0 ∧ D = D0 ∧ WI L M a act (ent cy a C D R) ∧ Inv C ∧ Kp [] C0 D0 C D := ⟨C0, D0, rfl, rfl, F, I, Kp.rf⟩
  refine g_iconst X dX4_timesRoadUsed_0 (v := 0) (by decide) ?_
  refine g_istore_n X dX4_timesRoadUsed_1 rfl (by decide) (lv2 := [(3, .int 0), (0, .ref (a 31)), (1, .int p0), (2, .int p1)]) rfl ?_
  refine g_iconst X dX4_timesRoadUsed_2 (v := 0) (by decide) ?_
  refine g_istore X dX4_timesRoadUsed_3 (by decide) (lv2 := [(4, .int 0), (3, .int 0), (0, .ref (a 31)), (1, .int p0), (2, .int p1)]) rfl ?_
  refine g_lv [0, 1, 2, 3, 4] (lv2 := [(4, .int 0), (3, .int 0), (0, .ref (a 31)), (1, .int p0), (2, .int p1)]) rfl ?_
  refine i_loop (mods := []) (fun x : Nat × Int32 => 16 - x.1) (fun x => [(4, .int (nI (x.1))), (3, .int (x.2)), (0, .ref (a 31)), (1, .int p0), (2, .int p1)]) (fun x C => 0 ≤ x.1 ∧ x.1 ≤ 16) (fun x L M C D F I K hP ih5 => ?_) ((0, 0) : Nat × Int32) F I K ⟨by show _ ≤ _; omega, by show _ ≤ _; omega⟩
  rcases x with ⟨i5_4, v5_3⟩
  obtain ⟨hi5_4a, hi5_4b⟩ := hP
  refine g_lv [0, 1, 2, 3, 4] (lv2 := [(4, .int (nI i5_4)), (3, .int v5_3), (0, .ref (a 31)), (1, .int p0), (2, .int p1)]) rfl ?_
  refine g_iload X dX4_timesRoadUsed_5 (j := 0) rfl ?_
  refine g_aload_n X dX4_timesRoadUsed_7 rfl (j := 2) rfl ?_
  refine i_get X F 31 rfl rfl fk_X4_37 dX4_timesRoadUsed_8 rfl ?_
  obtain ⟨n1, hn1, en1⟩ := rg_nat ((I 3 1).1 rfl) (by decide)
  refine i_get X F 3 rfl rfl fk_X4_57 dX4_timesRoadUsed_11 (v := .int (nI n1)) (congrArg (fun z => some (Value.int z)) en1) ?_
  refine g_icmp_ge X dX4_timesRoadUsed_14 (tgt := 76) (by decide) (fun q2 => ?_) (fun q2 => ?_)
  · skip
    have q2 : n1 ≤ i5_4 := (nI_leI (a := n1) (b := i5_4) (by omega) (by omega)).mp q2
    refine g_iload_n X dX4_timesRoadUsed_76 rfl (j := 1) rfl ?_
    exact g_iret X hrt dX4_timesRoadUsed_77 (by decide) (by decide) ⟨C, D, F, I, K, trivial⟩
  · skip
    have q2 : ¬ n1 ≤ i5_4 := fun z => q2 ((nI_leI (a := n1) (b := i5_4) (by omega) (by omega)).mpr z)
    refine g_iconst X dX4_timesRoadUsed_17 (v := 0) (by decide) ?_
    refine g_istore X dX4_timesRoadUsed_18 (by decide) (lv2 := [(5, .int 0), (4, .int (nI i5_4)), (3, .int v5_3), (0, .ref (a 31)), (1, .int p0), (2, .int p1)]) rfl ?_
    refine g_lv [0, 2, 1, 3, 4, 5] (lv2 := [(5, .int 0), (3, .int v5_3), (4, .int (nI i5_4)), (0, .ref (a 31)), (1, .int p0), (2, .int p1)]) rfl ?_
    refine i_loop (mods := []) (fun x : Nat × Int32 => 8 - x.1) (fun x => [(5, .int (nI (x.1))), (3, .int (x.2)), (4, .int (nI i5_4)), (0, .ref (a 31)), (1, .int p0), (2, .int p1)]) (fun x C => 0 ≤ x.1 ∧ x.1 ≤ 8) (fun x L M C D F I K hP ih20 => ?_) ((0, v5_3) : Nat × Int32) F I K ⟨by show _ ≤ _; omega, by show _ ≤ _; omega⟩
    rcases x with ⟨i20_5, v20_3⟩
    obtain ⟨hi20_5a, hi20_5b⟩ := hP
    refine g_lv [0, 1, 2, 3, 4, 5] (lv2 := [(5, .int (nI i20_5)), (3, .int v20_3), (4, .int (nI i5_4)), (0, .ref (a 31)), (1, .int p0), (2, .int p1)]) rfl ?_
    refine g_iload X dX4_timesRoadUsed_20 (j := 0) rfl ?_
    refine g_aload_n X dX4_timesRoadUsed_22 rfl (j := 3) rfl ?_
    refine i_get X F 31 rfl rfl fk_X4_37 dX4_timesRoadUsed_23 rfl ?_
    obtain ⟨n3, hn3, en3⟩ := rg_nat ((I 3 8).2.2.2 rfl) (by decide)
    refine i_get X F 3 rfl rfl fk_X4_64 dX4_timesRoadUsed_26 (v := .int (nI n3)) (congrArg (fun z => some (Value.int z)) en3) ?_
    refine g_icmp_ge X dX4_timesRoadUsed_29 (tgt := 70) (by decide) (fun q4 => ?_) (fun q4 => ?_)
    · skip
      have q4 : n3 ≤ i20_5 := (nI_leI (a := n3) (b := i20_5) (by omega) (by omega)).mp q4
      refine g_iinc X dX4_timesRoadUsed_70 (j := 2) rfl (v := nI (i5_4 + 1)) (nI_1 i5_4) (by decide) (lv2 := [(4, .int (nI (i5_4 + 1))), (5, .int (nI i20_5)), (3, .int v20_3), (0, .ref (a 31)), (1, .int p0), (2, .int p1)]) rfl ?_
      refine g_goto X dX4_timesRoadUsed_73 (tgt := 5) (by decide) ?_
      refine g_lv [0, 2, 3, 4, 5] (lv2 := [(4, .int (nI (i5_4 + 1))), (3, .int v20_3), (0, .ref (a 31)), (1, .int p0), (2, .int p1)]) rfl ?_
      exact ih5 ((i5_4 + 1), v20_3) L M C D F I K ⟨by omega, by omega⟩ (by show _ < _; omega)
    · skip
      have q4 : ¬ n3 ≤ i20_5 := fun z => q4 ((nI_leI (a := n3) (b := i20_5) (by omega) (by omega)).mpr z)
      refine g_aload_n X dX4_timesRoadUsed_32 rfl (j := 3) rfl ?_
      refine g_iload X dX4_timesRoadUsed_33 (j := 0) rfl ?_
      refine g_iload X dX4_timesRoadUsed_35 (j := 2) rfl ?_
      refine g_callVI X (s_X4_placeOf_31 l G F I i20_5 (by omega) (by omega) i5_4 (by omega) (by omega) ) lk_X4_113 (F.1 31 rfl).2 (F.1 31 rfl).1 rfl rfl dX4_timesRoadUsed_37 (Nat.le_of_ble_eq_true rfl) ⟨by decide, by decide⟩ ⟨by decide, by decide⟩ (fun r5 L M hp => ?_)
      obtain ⟨C, D, F, I, K1, hr⟩ := hp
      have K := K.step K1 (by decide)
      obtain ⟨hr, hpln6⟩ := hr
      rcases okp_nat hr with rfl | ⟨n6, hn6, rfl⟩
      · skip
        refine g_iload_n X dX4_timesRoadUsed_40 rfl (j := 4) rfl ?_
        refine g_icmp_ne X dX4_timesRoadUsed_41 (tgt := 64) (by decide) (fun q7 => ?_) (fun q7 => ?_)
        · skip
          refine g_iinc X dX4_timesRoadUsed_64 (j := 0) rfl (v := nI (i20_5 + 1)) (nI_1 i20_5) (by decide) (lv2 := [(5, .int (nI (i20_5 + 1))), (3, .int v20_3), (4, .int (nI i5_4)), (0, .ref (a 31)), (1, .int p0), (2, .int p1)]) rfl ?_
          refine g_goto X dX4_timesRoadUsed_67 (tgt := 20) (by decide) ?_
          refine g_lv [0, 1, 2, 3, 4, 5] (lv2 := [(5, .int (nI (i20_5 + 1))), (3, .int v20_3), (4, .int (nI i5_4)), (0, .ref (a 31)), (1, .int p0), (2, .int p1)]) rfl ?_
          exact ih20 ((i20_5 + 1), v20_3) L M C D F I K ⟨by omega, by omega⟩ (by show _ < _; omega)
        · skip
          refine g_aload_n X dX4_timesRoadUsed_44 rfl (j := 3) rfl ?_
          refine i_get X F 31 rfl rfl fk_X4_31 dX4_timesRoadUsed_45 rfl ?_
          refine g_iload X dX4_timesRoadUsed_48 (j := 2) rfl ?_
          refine g_bipush X dX4_timesRoadUsed_50 (v := 8) (by decide) ?_
          refine g_imul X dX4_timesRoadUsed_52 ?_
          refine Go.top (v := .int (nI (i5_4 * 8))) (congrArg Value.int (pk_mul i5_4 8)) ?_
          refine g_iload X dX4_timesRoadUsed_53 (j := 0) rfl ?_
          refine g_iadd X dX4_timesRoadUsed_55 ?_
          refine Go.top (v := .int (nI ((i5_4 * 8) + i20_5))) (congrArg Value.int (nI_add (i5_4 * 8) i20_5)) ?_
          refine i_iald X F 35 rfl rfl dX4_timesRoadUsed_56 (vp_in_nI (by omega) (by decide)) rfl ?_
          refine Go.gen (fun o8 => ?_)
          refine g_iload_n X dX4_timesRoadUsed_57 rfl (j := 5) rfl ?_
          refine g_icmp_ne X dX4_timesRoadUsed_58 (tgt := 64) (by decide) (fun q9 => ?_) (fun q9 => ?_)
          · skip
            refine g_iinc X dX4_timesRoadUsed_64 (j := 0) rfl (v := nI (i20_5 + 1)) (nI_1 i20_5) (by decide) (lv2 := [(5, .int (nI (i20_5 + 1))), (3, .int v20_3), (4, .int (nI i5_4)), (0, .ref (a 31)), (1, .int p0), (2, .int p1)]) rfl ?_
            refine g_goto X dX4_timesRoadUsed_67 (tgt := 20) (by decide) ?_
            refine g_lv [0, 1, 2, 3, 4, 5] (lv2 := [(5, .int (nI (i20_5 + 1))), (3, .int v20_3), (4, .int (nI i5_4)), (0, .ref (a 31)), (1, .int p0), (2, .int p1)]) rfl ?_
            exact ih20 ((i20_5 + 1), v20_3) L M C D F I K ⟨by omega, by omega⟩ (by show _ < _; omega)
          · skip
            refine g_iinc X dX4_timesRoadUsed_61 (j := 1) rfl (v := (v20_3 + 1)) rfl (by decide) (lv2 := [(3, .int ((v20_3 + 1))), (5, .int (nI i20_5)), (4, .int (nI i5_4)), (0, .ref (a 31)), (1, .int p0), (2, .int p1)]) rfl ?_
            refine g_iinc X dX4_timesRoadUsed_64 (j := 1) rfl (v := nI (i20_5 + 1)) (nI_1 i20_5) (by decide) (lv2 := [(5, .int (nI (i20_5 + 1))), (3, .int ((v20_3 + 1))), (4, .int (nI i5_4)), (0, .ref (a 31)), (1, .int p0), (2, .int p1)]) rfl ?_
            refine g_goto X dX4_timesRoadUsed_67 (tgt := 20) (by decide) ?_
            refine g_lv [0, 1, 2, 3, 4, 5] (lv2 := [(5, .int (nI (i20_5 + 1))), (3, .int ((v20_3 + 1))), (4, .int (nI i5_4)), (0, .ref (a 31)), (1, .int p0), (2, .int p1)]) rfl ?_
            exact ih20 ((i20_5 + 1), (v20_3 + 1)) L M C D F I K ⟨by omega, by omega⟩ (by show _ < _; omega)
      · skip
        refine g_iload_n X dX4_timesRoadUsed_40 rfl (j := 4) rfl ?_
        refine g_icmp_ne X dX4_timesRoadUsed_41 (tgt := 64) (by decide) (fun q10 => ?_) (fun q10 => ?_)
        · skip
          refine g_iinc X dX4_timesRoadUsed_64 (j := 0) rfl (v := nI (i20_5 + 1)) (nI_1 i20_5) (by decide) (lv2 := [(5, .int (nI (i20_5 + 1))), (3, .int v20_3), (4, .int (nI i5_4)), (0, .ref (a 31)), (1, .int p0), (2, .int p1)]) rfl ?_
          refine g_goto X dX4_timesRoadUsed_67 (tgt := 20) (by decide) ?_
          refine g_lv [0, 1, 2, 3, 4, 5] (lv2 := [(5, .int (nI (i20_5 + 1))), (3, .int v20_3), (4, .int (nI i5_4)), (0, .ref (a 31)), (1, .int p0), (2, .int p1)]) rfl ?_
          exact ih20 ((i20_5 + 1), v20_3) L M C D F I K ⟨by omega, by omega⟩ (by show _ < _; omega)
        · skip
          refine g_aload_n X dX4_timesRoadUsed_44 rfl (j := 3) rfl ?_
          refine i_get X F 31 rfl rfl fk_X4_31 dX4_timesRoadUsed_45 rfl ?_
          refine g_iload X dX4_timesRoadUsed_48 (j := 2) rfl ?_
          refine g_bipush X dX4_timesRoadUsed_50 (v := 8) (by decide) ?_
          refine g_imul X dX4_timesRoadUsed_52 ?_
          refine Go.top (v := .int (nI (i5_4 * 8))) (congrArg Value.int (pk_mul i5_4 8)) ?_
          refine g_iload X dX4_timesRoadUsed_53 (j := 0) rfl ?_
          refine g_iadd X dX4_timesRoadUsed_55 ?_
          refine Go.top (v := .int (nI ((i5_4 * 8) + i20_5))) (congrArg Value.int (nI_add (i5_4 * 8) i20_5)) ?_
          refine i_iald X F 35 rfl rfl dX4_timesRoadUsed_56 (vp_in_nI (by omega) (by decide)) rfl ?_
          refine Go.gen (fun o11 => ?_)
          refine g_iload_n X dX4_timesRoadUsed_57 rfl (j := 5) rfl ?_
          refine g_icmp_ne X dX4_timesRoadUsed_58 (tgt := 64) (by decide) (fun q12 => ?_) (fun q12 => ?_)
          · skip
            refine g_iinc X dX4_timesRoadUsed_64 (j := 0) rfl (v := nI (i20_5 + 1)) (nI_1 i20_5) (by decide) (lv2 := [(5, .int (nI (i20_5 + 1))), (3, .int v20_3), (4, .int (nI i5_4)), (0, .ref (a 31)), (1, .int p0), (2, .int p1)]) rfl ?_
            refine g_goto X dX4_timesRoadUsed_67 (tgt := 20) (by decide) ?_
            refine g_lv [0, 1, 2, 3, 4, 5] (lv2 := [(5, .int (nI (i20_5 + 1))), (3, .int v20_3), (4, .int (nI i5_4)), (0, .ref (a 31)), (1, .int p0), (2, .int p1)]) rfl ?_
            exact ih20 ((i20_5 + 1), v20_3) L M C D F I K ⟨by omega, by omega⟩ (by show _ < _; omega)
          · skip
            refine g_iinc X dX4_timesRoadUsed_61 (j := 1) rfl (v := (v20_3 + 1)) rfl (by decide) (lv2 := [(3, .int ((v20_3 + 1))), (5, .int (nI i20_5)), (4, .int (nI i5_4)), (0, .ref (a 31)), (1, .int p0), (2, .int p1)]) rfl ?_
            refine g_iinc X dX4_timesRoadUsed_64 (j := 1) rfl (v := nI (i20_5 + 1)) (nI_1 i20_5) (by decide) (lv2 := [(5, .int (nI (i20_5 + 1))), (3, .int ((v20_3 + 1))), (4, .int (nI i5_4)), (0, .ref (a 31)), (1, .int p0), (2, .int p1)]) rfl ?_
            refine g_goto X dX4_timesRoadUsed_67 (tgt := 20) (by decide) ?_
            refine g_lv [0, 1, 2, 3, 4, 5] (lv2 := [(5, .int (nI (i20_5 + 1))), (3, .int ((v20_3 + 1))), (4, .int (nI i5_4)), (0, .ref (a 31)), (1, .int p0), (2, .int p1)]) rfl ?_
            exact ih20 ((i20_5 + 1), (v20_3 + 1)) L M C D F I K ⟨by omega, by omega⟩ (by show _ < _; omega)
set_option maxHeartbeats 4000000 in
set_option maxRecDepth 100000 in
theorem s_X4_timesPostSent_31 (l : Launch) (G : va_G) {cy : Nat → ClassId} {L : List Nat} {M : Nat → va_E} {a : Nat → Nat} {act : Nat → Bool} {C0 : Nat → Nat → Int32} {D0 : Nat → Nat → Int64} {R : Nat → Nat → Option Nat} (F : WI L M a act (ent cy a C0 D0 R)) (I : Inv C0) (p0 : Nat) (hp0a : 0 ≤ p0) (hp0b : p0 ≤ 6)  : MI l G cy yX4_timesPostSent cX4_timesPostSent 4 (some .int) 2 0 0 [.ref (a 31), .int (nI p0)] L M (fun r L2 M2 => ∃ C2 D2, WI L2 M2 a act (ent cy a C2 D2 R) ∧ Inv C2 ∧ Kp [] C0 D0 C2 D2 ∧ True) := by
  refine MI.of (own := RX4) rfl (by decide) (Nat.le_of_ble_eq_true rfl) ?_
  intro p e s m below meth c A X hrt hnm
  obtain ⟨C, D, hC0, hD0, F, I, K⟩ : ∃ C D, C = C0 ∧ D = D0 ∧ WI L M a act (ent cy a C D R) ∧ Inv C ∧ Kp [] C0 D0 C D := ⟨C0, D0, rfl, rfl, F, I, Kp.rf⟩
  refine g_iconst X dX4_timesPostSent_0 (v := 0) (by decide) ?_
  refine g_istore_n X dX4_timesPostSent_1 rfl (by decide) (lv2 := [(2, .int 0), (0, .ref (a 31)), (1, .int (nI p0))]) rfl ?_
  refine g_iconst X dX4_timesPostSent_2 (v := 0) (by decide) ?_
  refine g_istore_n X dX4_timesPostSent_3 rfl (by decide) (lv2 := [(3, .int 0), (2, .int 0), (0, .ref (a 31)), (1, .int (nI p0))]) rfl ?_
  refine g_lv [0, 1, 2, 3] (lv2 := [(3, .int 0), (2, .int 0), (0, .ref (a 31)), (1, .int (nI p0))]) rfl ?_
  refine i_loop (mods := []) (fun x : Nat × Int32 => 4 - x.1) (fun x => [(3, .int (nI (x.1))), (2, .int (x.2)), (0, .ref (a 31)), (1, .int (nI p0))]) (fun x C => 0 ≤ x.1 ∧ x.1 ≤ 4) (fun x L M C D F I K hP ih4 => ?_) ((0, 0) : Nat × Int32) F I K ⟨by show _ ≤ _; omega, by show _ ≤ _; omega⟩
  rcases x with ⟨i4_3, v4_2⟩
  obtain ⟨hi4_3a, hi4_3b⟩ := hP
  refine g_lv [0, 1, 2, 3] (lv2 := [(3, .int (nI i4_3)), (2, .int v4_2), (0, .ref (a 31)), (1, .int (nI p0))]) rfl ?_
  refine g_iload_n X dX4_timesPostSent_4 rfl (j := 0) rfl ?_
  refine g_aload_n X dX4_timesPostSent_5 rfl (j := 2) rfl ?_
  refine i_get X F 31 rfl rfl fk_X4_37 dX4_timesPostSent_6 rfl ?_
  refine i_get X F 3 rfl rfl fk_X4_135 dX4_timesPostSent_9 rfl ?_
  refine g_iload_n X dX4_timesPostSent_12 rfl (j := 3) rfl ?_
  obtain ⟨n1, hn1, en1⟩ := rg_nat (I 5 p0) (by decide)
  refine i_iald X F 5 rfl rfl dX4_timesPostSent_13 (vp_in_nI (by omega) (by decide)) (v := nI n1) (by rw [nI_clamp (by omega)]; exact en1) ?_
  refine g_icmp_ge X dX4_timesPostSent_14 (tgt := 32) (by decide) (fun q2 => ?_) (fun q2 => ?_)
  · skip
    have q2 : n1 ≤ i4_3 := (nI_leI (a := n1) (b := i4_3) (by omega) (by omega)).mp q2
    refine g_iload_n X dX4_timesPostSent_32 rfl (j := 1) rfl ?_
    exact g_iret X hrt dX4_timesPostSent_33 (by decide) (by decide) ⟨C, D, F, I, K, trivial⟩
  · skip
    have q2 : ¬ n1 ≤ i4_3 := fun z => q2 ((nI_leI (a := n1) (b := i4_3) (by omega) (by omega)).mpr z)
    refine g_iload_n X dX4_timesPostSent_17 rfl (j := 1) rfl ?_
    refine g_aload_n X dX4_timesPostSent_18 rfl (j := 2) rfl ?_
    refine g_iload_n X dX4_timesPostSent_19 rfl (j := 3) rfl ?_
    refine g_iload_n X dX4_timesPostSent_20 rfl (j := 0) rfl ?_
    refine g_callVI X (s_X4_timesRoadUsed_31 l G F I (nI p0) (nI i4_3) ) lk_X4_138 (F.1 31 rfl).2 (F.1 31 rfl).1 rfl rfl dX4_timesPostSent_21 (Nat.le_of_ble_eq_true rfl) ⟨by decide, by decide⟩ ⟨by decide, by decide⟩ (fun r3 L M hp => ?_)
    obtain ⟨C, D, F, I, K1, hr⟩ := hp
    have K := K.step K1 (by decide)
    refine g_iadd X dX4_timesPostSent_24 ?_
    refine Go.gen (fun o4 => ?_)
    refine g_istore_n X dX4_timesPostSent_25 rfl (by decide) (lv2 := [(2, .int o4), (3, .int (nI i4_3)), (0, .ref (a 31)), (1, .int (nI p0))]) rfl ?_
    refine g_iinc X dX4_timesPostSent_26 (j := 1) rfl (v := nI (i4_3 + 1)) (nI_1 i4_3) (by decide) (lv2 := [(3, .int (nI (i4_3 + 1))), (2, .int o4), (0, .ref (a 31)), (1, .int (nI p0))]) rfl ?_
    refine g_goto X dX4_timesPostSent_29 (tgt := 4) (by decide) ?_
    refine g_lv [0, 1, 2, 3] (lv2 := [(3, .int (nI (i4_3 + 1))), (2, .int o4), (0, .ref (a 31)), (1, .int (nI p0))]) rfl ?_
    exact ih4 ((i4_3 + 1), o4) L M C D F I K ⟨by omega, by omega⟩ (by show _ < _; omega)
set_option maxHeartbeats 4000000 in
set_option maxRecDepth 100000 in
theorem s_X4_timesWalked_31 (l : Launch) (G : va_G) {cy : Nat → ClassId} {L : List Nat} {M : Nat → va_E} {a : Nat → Nat} {act : Nat → Bool} {C0 : Nat → Nat → Int32} {D0 : Nat → Nat → Int64} {R : Nat → Nat → Option Nat} (F : WI L M a act (ent cy a C0 D0 R)) (I : Inv C0) (p0 : Nat) (hp0a : 0 ≤ p0) (hp0b : p0 ≤ 7)  : MI l G cy yX4_timesWalked cX4_timesWalked 4 (some .int) 1 0 0 [.ref (a 31), .int (nI p0)] L M (fun r L2 M2 => ∃ C2 D2, WI L2 M2 a act (ent cy a C2 D2 R) ∧ Inv C2 ∧ Kp [] C0 D0 C2 D2 ∧ True) := by
  refine MI.of (own := RX4) rfl (by decide) (Nat.le_of_ble_eq_true rfl) ?_
  intro p e s m below meth c A X hrt hnm
  obtain ⟨C, D, hC0, hD0, F, I, K⟩ : ∃ C D, C = C0 ∧ D = D0 ∧ WI L M a act (ent cy a C D R) ∧ Inv C ∧ Kp [] C0 D0 C D := ⟨C0, D0, rfl, rfl, F, I, Kp.rf⟩
  refine g_iconst X dX4_timesWalked_0 (v := 0) (by decide) ?_
  refine g_istore_n X dX4_timesWalked_1 rfl (by decide) (lv2 := [(2, .int 0), (0, .ref (a 31)), (1, .int (nI p0))]) rfl ?_
  refine g_iconst X dX4_timesWalked_2 (v := 0) (by decide) ?_
  refine g_istore_n X dX4_timesWalked_3 rfl (by decide) (lv2 := [(3, .int 0), (2, .int 0), (0, .ref (a 31)), (1, .int (nI p0))]) rfl ?_
  refine g_lv [0, 1, 2, 3] (lv2 := [(3, .int 0), (2, .int 0), (0, .ref (a 31)), (1, .int (nI p0))]) rfl ?_
  refine i_loop (mods := []) (fun x : Nat × Int32 => 16 - x.1) (fun x => [(3, .int (nI (x.1))), (2, .int (x.2)), (0, .ref (a 31)), (1, .int (nI p0))]) (fun x C => 0 ≤ x.1 ∧ x.1 ≤ 16) (fun x L M C D F I K hP ih4 => ?_) ((0, 0) : Nat × Int32) F I K ⟨by show _ ≤ _; omega, by show _ ≤ _; omega⟩
  rcases x with ⟨i4_3, v4_2⟩
  obtain ⟨hi4_3a, hi4_3b⟩ := hP
  refine g_lv [0, 1, 2, 3] (lv2 := [(3, .int (nI i4_3)), (2, .int v4_2), (0, .ref (a 31)), (1, .int (nI p0))]) rfl ?_
  refine g_iload_n X dX4_timesWalked_4 rfl (j := 0) rfl ?_
  refine g_aload_n X dX4_timesWalked_5 rfl (j := 2) rfl ?_
  refine i_get X F 31 rfl rfl fk_X4_37 dX4_timesWalked_6 rfl ?_
  obtain ⟨n1, hn1, en1⟩ := rg_nat ((I 3 1).1 rfl) (by decide)
  refine i_get X F 3 rfl rfl fk_X4_57 dX4_timesWalked_9 (v := .int (nI n1)) (congrArg (fun z => some (Value.int z)) en1) ?_
  refine g_icmp_ge X dX4_timesWalked_12 (tgt := 33) (by decide) (fun q2 => ?_) (fun q2 => ?_)
  · skip
    have q2 : n1 ≤ i4_3 := (nI_leI (a := n1) (b := i4_3) (by omega) (by omega)).mp q2
    refine g_iload_n X dX4_timesWalked_33 rfl (j := 1) rfl ?_
    exact g_iret X hrt dX4_timesWalked_34 (by decide) (by decide) ⟨C, D, F, I, K, trivial⟩
  · skip
    have q2 : ¬ n1 ≤ i4_3 := fun z => q2 ((nI_leI (a := n1) (b := i4_3) (by omega) (by omega)).mpr z)
    refine g_aload_n X dX4_timesWalked_15 rfl (j := 2) rfl ?_
    refine g_iload_n X dX4_timesWalked_16 rfl (j := 3) rfl ?_
    refine g_iload_n X dX4_timesWalked_17 rfl (j := 0) rfl ?_
    refine g_callVI X (s_X4_isSent_31 l G F I p0 (by omega) (by omega) i4_3 (by omega) (by omega) ) lk_X4_132 (F.1 31 rfl).2 (F.1 31 rfl).1 rfl rfl dX4_timesWalked_18 (Nat.le_of_ble_eq_true rfl) ⟨by decide, by decide⟩ ⟨by decide, by decide⟩ (fun r3 L M hp => ?_)
    obtain ⟨C, D, F, I, K1, hr⟩ := hp
    have K := K.step K1 (by decide)
    rcases hr with rfl | ⟨rfl, hi4⟩
    · skip
      refine g_if_eq X dX4_timesWalked_21 (tgt := 27) (by decide) (fun _ => ?_) (fun q => absurd (by decide) q)
      refine g_iinc X dX4_timesWalked_27 (j := 0) rfl (v := nI (i4_3 + 1)) (nI_1 i4_3) (by decide) (lv2 := [(3, .int (nI (i4_3 + 1))), (2, .int v4_2), (0, .ref (a 31)), (1, .int (nI p0))]) rfl ?_
      refine g_goto X dX4_timesWalked_30 (tgt := 4) (by decide) ?_
      refine g_lv [0, 1, 2, 3] (lv2 := [(3, .int (nI (i4_3 + 1))), (2, .int v4_2), (0, .ref (a 31)), (1, .int (nI p0))]) rfl ?_
      exact ih4 ((i4_3 + 1), v4_2) L M C D F I K ⟨by omega, by omega⟩ (by show _ < _; omega)
    · skip
      refine g_if_eq X dX4_timesWalked_21 (tgt := 27) (by decide) (fun q => absurd q (by decide)) (fun _ => ?_)
      refine g_iinc X dX4_timesWalked_24 (j := 1) rfl (v := (v4_2 + 1)) rfl (by decide) (lv2 := [(2, .int ((v4_2 + 1))), (3, .int (nI i4_3)), (0, .ref (a 31)), (1, .int (nI p0))]) rfl ?_
      refine g_iinc X dX4_timesWalked_27 (j := 1) rfl (v := nI (i4_3 + 1)) (nI_1 i4_3) (by decide) (lv2 := [(3, .int (nI (i4_3 + 1))), (2, .int ((v4_2 + 1))), (0, .ref (a 31)), (1, .int (nI p0))]) rfl ?_
      refine g_goto X dX4_timesWalked_30 (tgt := 4) (by decide) ?_
      refine g_lv [0, 1, 2, 3] (lv2 := [(3, .int (nI (i4_3 + 1))), (2, .int ((v4_2 + 1))), (0, .ref (a 31)), (1, .int (nI p0))]) rfl ?_
      exact ih4 ((i4_3 + 1), (v4_2 + 1)) L M C D F I K ⟨by omega, by omega⟩ (by show _ < _; omega)
set_option maxHeartbeats 4000000 in
set_option maxRecDepth 100000 in
theorem s_X4_firstHourHome_31 (l : Launch) (G : va_G) {cy : Nat → ClassId} {L : List Nat} {M : Nat → va_E} {a : Nat → Nat} {act : Nat → Bool} {C0 : Nat → Nat → Int32} {D0 : Nat → Nat → Int64} {R : Nat → Nat → Option Nat} (F : WI L M a act (ent cy a C0 D0 R)) (I : Inv C0) (p0 : Nat) (hp0a : 0 ≤ p0) (hp0b : p0 ≤ 7)  : MI l G cy yX4_firstHourHome cX4_firstHourHome 3 (some .int) 1 0 0 [.ref (a 31), .int (nI p0)] L M (fun r L2 M2 => ∃ C2 D2, WI L2 M2 a act (ent cy a C2 D2 R) ∧ Inv C2 ∧ Kp [] C0 D0 C2 D2 ∧ True) := by
  refine MI.of (own := RX4) rfl (by decide) (Nat.le_of_ble_eq_true rfl) ?_
  intro p e s m below meth c A X hrt hnm
  obtain ⟨C, D, hC0, hD0, F, I, K⟩ : ∃ C D, C = C0 ∧ D = D0 ∧ WI L M a act (ent cy a C D R) ∧ Inv C ∧ Kp [] C0 D0 C D := ⟨C0, D0, rfl, rfl, F, I, Kp.rf⟩
  refine g_iconst X dX4_firstHourHome_0 (v := 0) (by decide) ?_
  refine g_istore_n X dX4_firstHourHome_1 rfl (by decide) (lv2 := [(2, .int 0), (0, .ref (a 31)), (1, .int (nI p0))]) rfl ?_
  refine g_lv [0, 1, 2] (lv2 := [(2, .int 0), (0, .ref (a 31)), (1, .int (nI p0))]) rfl ?_
  refine i_loop (mods := []) (fun x : Nat => 17 - x) (fun x => [(2, .int (nI (x))), (0, .ref (a 31)), (1, .int (nI p0))]) (fun x C => 0 ≤ x ∧ x ≤ 17) (fun x L M C D F I K hP ih2 => ?_) ((0) : Nat) F I K ⟨by show _ ≤ _; omega, by show _ ≤ _; omega⟩
  obtain ⟨i2_2, rfl⟩ : ∃ z, z = x := ⟨_, rfl⟩
  obtain ⟨hi2_2a, hi2_2b⟩ := hP
  refine g_lv [0, 1, 2] (lv2 := [(2, .int (nI i2_2)), (0, .ref (a 31)), (1, .int (nI p0))]) rfl ?_
  refine g_iload_n X dX4_firstHourHome_2 rfl (j := 0) rfl ?_
  refine g_aload_n X dX4_firstHourHome_3 rfl (j := 1) rfl ?_
  refine i_get X F 31 rfl rfl fk_X4_37 dX4_firstHourHome_4 rfl ?_
  obtain ⟨n1, hn1, en1⟩ := rg_nat ((I 3 1).1 rfl) (by decide)
  refine i_get X F 3 rfl rfl fk_X4_57 dX4_firstHourHome_7 (v := .int (nI n1)) (congrArg (fun z => some (Value.int z)) en1) ?_
  refine g_icmp_gt X dX4_firstHourHome_10 (tgt := 32) (by decide) (fun q2 => ?_) (fun q2 => ?_)
  · skip
    have q2 : n1 < i2_2 := (nI_ltI (a := n1) (b := i2_2) (by omega) (by omega)).mp q2
    refine g_iconst X dX4_firstHourHome_32 (v := -1) (by decide) ?_
    exact g_iret X hrt dX4_firstHourHome_33 (by decide) (by decide) ⟨C, D, F, I, K, trivial⟩
  · skip
    have q2 : ¬ n1 < i2_2 := fun z => q2 ((nI_ltI (a := n1) (b := i2_2) (by omega) (by omega)).mpr z)
    refine g_aload_n X dX4_firstHourHome_13 rfl (j := 1) rfl ?_
    refine g_iload_n X dX4_firstHourHome_14 rfl (j := 2) rfl ?_
    refine g_iload_n X dX4_firstHourHome_15 rfl (j := 0) rfl ?_
    refine g_callVI X (s_X4_placeOf_31 l G F I p0 (by omega) (by omega) i2_2 (by omega) (by omega) ) lk_X4_113 (F.1 31 rfl).2 (F.1 31 rfl).1 rfl rfl dX4_firstHourHome_16 (Nat.le_of_ble_eq_true rfl) ⟨by decide, by decide⟩ ⟨by decide, by decide⟩ (fun r3 L M hp => ?_)
    obtain ⟨C, D, F, I, K1, hr⟩ := hp
    have K := K.step K1 (by decide)
    obtain ⟨hr, hpln4⟩ := hr
    rcases okp_nat hr with rfl | ⟨n4, hn4, rfl⟩
    · skip
      refine g_bipush X dX4_firstHourHome_19 (v := 10) (by decide) ?_
      refine g_icmp_lt X dX4_firstHourHome_21 (tgt := 26) (by decide) (fun _ => ?_) (fun q => absurd (by decide) q)
      refine g_iinc X dX4_firstHourHome_26 (j := 0) rfl (v := nI (i2_2 + 1)) (nI_1 i2_2) (by decide) (lv2 := [(2, .int (nI (i2_2 + 1))), (0, .ref (a 31)), (1, .int (nI p0))]) rfl ?_
      refine g_goto X dX4_firstHourHome_29 (tgt := 2) (by decide) ?_
      refine g_lv [0, 1, 2] (lv2 := [(2, .int (nI (i2_2 + 1))), (0, .ref (a 31)), (1, .int (nI p0))]) rfl ?_
      exact ih2 ((i2_2 + 1)) L M C D F I K ⟨by omega, by omega⟩ (by show _ < _; omega)
    · skip
      refine g_bipush X dX4_firstHourHome_19 (v := 10) (by decide) ?_
      refine g_icmp_lt X dX4_firstHourHome_21 (tgt := 26) (by decide) (fun q5 => ?_) (fun q5 => ?_)
      · skip
        have q5 : n4 < 10 := (nI_ltI (a := n4) (b := 10) (by omega) (by omega)).mp q5
        refine g_iinc X dX4_firstHourHome_26 (j := 0) rfl (v := nI (i2_2 + 1)) (nI_1 i2_2) (by decide) (lv2 := [(2, .int (nI (i2_2 + 1))), (0, .ref (a 31)), (1, .int (nI p0))]) rfl ?_
        refine g_goto X dX4_firstHourHome_29 (tgt := 2) (by decide) ?_
        refine g_lv [0, 1, 2] (lv2 := [(2, .int (nI (i2_2 + 1))), (0, .ref (a 31)), (1, .int (nI p0))]) rfl ?_
        exact ih2 ((i2_2 + 1)) L M C D F I K ⟨by omega, by omega⟩ (by show _ < _; omega)
      · skip
        have q5 : ¬ n4 < 10 := fun z => q5 ((nI_ltI (a := n4) (b := 10) (by omega) (by omega)).mpr z)
        refine g_iload_n X dX4_firstHourHome_24 rfl (j := 0) rfl ?_
        exact g_iret X hrt dX4_firstHourHome_25 (by decide) (by decide) ⟨C, D, F, I, K, trivial⟩
set_option maxHeartbeats 4000000 in
set_option maxRecDepth 100000 in
theorem s_X4_firstHourIn_31 (l : Launch) (G : va_G) {cy : Nat → ClassId} {L : List Nat} {M : Nat → va_E} {a : Nat → Nat} {act : Nat → Bool} {C0 : Nat → Nat → Int32} {D0 : Nat → Nat → Int64} {R : Nat → Nat → Option Nat} (F : WI L M a act (ent cy a C0 D0 R)) (I : Inv C0) (p0 : Nat) (hp0a : 0 ≤ p0) (hp0b : p0 ≤ 7) (p1 : Int32)  : MI l G cy yX4_firstHourIn cX4_firstHourIn 4 (some .int) 1 0 0 [.ref (a 31), .int (nI p0), .int p1] L M (fun r L2 M2 => ∃ C2 D2, WI L2 M2 a act (ent cy a C2 D2 R) ∧ Inv C2 ∧ Kp [] C0 D0 C2 D2 ∧ True) := by
  refine MI.of (own := RX4) rfl (by decide) (Nat.le_of_ble_eq_true rfl) ?_
  intro p e s m below meth c A X hrt hnm
  obtain ⟨C, D, hC0, hD0, F, I, K⟩ : ∃ C D, C = C0 ∧ D = D0 ∧ WI L M a act (ent cy a C D R) ∧ Inv C ∧ Kp [] C0 D0 C D := ⟨C0, D0, rfl, rfl, F, I, Kp.rf⟩
  refine g_iconst X dX4_firstHourIn_0 (v := 0) (by decide) ?_
  refine g_istore_n X dX4_firstHourIn_1 rfl (by decide) (lv2 := [(3, .int 0), (0, .ref (a 31)), (1, .int (nI p0)), (2, .int p1)]) rfl ?_
  refine g_lv [0, 1, 2, 3] (lv2 := [(3, .int 0), (0, .ref (a 31)), (1, .int (nI p0)), (2, .int p1)]) rfl ?_
  refine i_loop (mods := []) (fun x : Nat => 17 - x) (fun x => [(3, .int (nI (x))), (0, .ref (a 31)), (1, .int (nI p0)), (2, .int p1)]) (fun x C => 0 ≤ x ∧ x ≤ 17) (fun x L M C D F I K hP ih2 => ?_) ((0) : Nat) F I K ⟨by show _ ≤ _; omega, by show _ ≤ _; omega⟩
  obtain ⟨i2_3, rfl⟩ : ∃ z, z = x := ⟨_, rfl⟩
  obtain ⟨hi2_3a, hi2_3b⟩ := hP
  refine g_lv [0, 1, 2, 3] (lv2 := [(3, .int (nI i2_3)), (0, .ref (a 31)), (1, .int (nI p0)), (2, .int p1)]) rfl ?_
  refine g_iload_n X dX4_firstHourIn_2 rfl (j := 0) rfl ?_
  refine g_aload_n X dX4_firstHourIn_3 rfl (j := 1) rfl ?_
  refine i_get X F 31 rfl rfl fk_X4_37 dX4_firstHourIn_4 rfl ?_
  obtain ⟨n1, hn1, en1⟩ := rg_nat ((I 3 1).1 rfl) (by decide)
  refine i_get X F 3 rfl rfl fk_X4_57 dX4_firstHourIn_7 (v := .int (nI n1)) (congrArg (fun z => some (Value.int z)) en1) ?_
  refine g_icmp_gt X dX4_firstHourIn_10 (tgt := 31) (by decide) (fun q2 => ?_) (fun q2 => ?_)
  · skip
    have q2 : n1 < i2_3 := (nI_ltI (a := n1) (b := i2_3) (by omega) (by omega)).mp q2
    refine g_iconst X dX4_firstHourIn_31 (v := -1) (by decide) ?_
    exact g_iret X hrt dX4_firstHourIn_32 (by decide) (by decide) ⟨C, D, F, I, K, trivial⟩
  · skip
    have q2 : ¬ n1 < i2_3 := fun z => q2 ((nI_ltI (a := n1) (b := i2_3) (by omega) (by omega)).mpr z)
    refine g_aload_n X dX4_firstHourIn_13 rfl (j := 1) rfl ?_
    refine g_iload_n X dX4_firstHourIn_14 rfl (j := 2) rfl ?_
    refine g_iload_n X dX4_firstHourIn_15 rfl (j := 0) rfl ?_
    refine g_callVI X (s_X4_placeOf_31 l G F I p0 (by omega) (by omega) i2_3 (by omega) (by omega) ) lk_X4_113 (F.1 31 rfl).2 (F.1 31 rfl).1 rfl rfl dX4_firstHourIn_16 (Nat.le_of_ble_eq_true rfl) ⟨by decide, by decide⟩ ⟨by decide, by decide⟩ (fun r3 L M hp => ?_)
    obtain ⟨C, D, F, I, K1, hr⟩ := hp
    have K := K.step K1 (by decide)
    obtain ⟨hr, hpln4⟩ := hr
    rcases okp_nat hr with rfl | ⟨n4, hn4, rfl⟩
    · skip
      refine g_iload_n X dX4_firstHourIn_19 rfl (j := 3) rfl ?_
      refine g_icmp_ne X dX4_firstHourIn_20 (tgt := 25) (by decide) (fun q5 => ?_) (fun q5 => ?_)
      · skip
        refine g_iinc X dX4_firstHourIn_25 (j := 0) rfl (v := nI (i2_3 + 1)) (nI_1 i2_3) (by decide) (lv2 := [(3, .int (nI (i2_3 + 1))), (0, .ref (a 31)), (1, .int (nI p0)), (2, .int p1)]) rfl ?_
        refine g_goto X dX4_firstHourIn_28 (tgt := 2) (by decide) ?_
        refine g_lv [0, 1, 2, 3] (lv2 := [(3, .int (nI (i2_3 + 1))), (0, .ref (a 31)), (1, .int (nI p0)), (2, .int p1)]) rfl ?_
        exact ih2 ((i2_3 + 1)) L M C D F I K ⟨by omega, by omega⟩ (by show _ < _; omega)
      · skip
        refine g_iload_n X dX4_firstHourIn_23 rfl (j := 0) rfl ?_
        exact g_iret X hrt dX4_firstHourIn_24 (by decide) (by decide) ⟨C, D, F, I, K, trivial⟩
    · skip
      refine g_iload_n X dX4_firstHourIn_19 rfl (j := 3) rfl ?_
      refine g_icmp_ne X dX4_firstHourIn_20 (tgt := 25) (by decide) (fun q6 => ?_) (fun q6 => ?_)
      · skip
        refine g_iinc X dX4_firstHourIn_25 (j := 0) rfl (v := nI (i2_3 + 1)) (nI_1 i2_3) (by decide) (lv2 := [(3, .int (nI (i2_3 + 1))), (0, .ref (a 31)), (1, .int (nI p0)), (2, .int p1)]) rfl ?_
        refine g_goto X dX4_firstHourIn_28 (tgt := 2) (by decide) ?_
        refine g_lv [0, 1, 2, 3] (lv2 := [(3, .int (nI (i2_3 + 1))), (0, .ref (a 31)), (1, .int (nI p0)), (2, .int p1)]) rfl ?_
        exact ih2 ((i2_3 + 1)) L M C D F I K ⟨by omega, by omega⟩ (by show _ < _; omega)
      · skip
        refine g_iload_n X dX4_firstHourIn_23 rfl (j := 0) rfl ?_
        exact g_iret X hrt dX4_firstHourIn_24 (by decide) (by decide) ⟨C, D, F, I, K, trivial⟩
set_option maxHeartbeats 4000000 in
set_option maxRecDepth 100000 in
theorem s_X4_postBit_31 (l : Launch) (G : va_G) {cy : Nat → ClassId} {L : List Nat} {M : Nat → va_E} {a : Nat → Nat} {act : Nat → Bool} {C0 : Nat → Nat → Int32} {D0 : Nat → Nat → Int64} {R : Nat → Nat → Option Nat} (F : WI L M a act (ent cy a C0 D0 R)) (I : Inv C0) (p0 : Nat) (hp0a : 0 ≤ p0) (hp0b : p0 ≤ 7) (p1 : Nat) (hp1a : 0 ≤ p1) (hp1b : p1 ≤ 16)  : MI l G cy yX4_postBit cX4_postBit 4 (some .int) 1 0 0 [.ref (a 31), .int (nI p0), .int (nI p1)] L M (fun r L2 M2 => ∃ C2 D2, WI L2 M2 a act (ent cy a C2 D2 R) ∧ Inv C2 ∧ Kp [] C0 D0 C2 D2 ∧ True) := by
  refine MI.of (own := RX4) rfl (by decide) (Nat.le_of_ble_eq_true rfl) ?_
  intro p e s m below meth c A X hrt hnm
  obtain ⟨C, D, hC0, hD0, F, I, K⟩ : ∃ C D, C = C0 ∧ D = D0 ∧ WI L M a act (ent cy a C D R) ∧ Inv C ∧ Kp [] C0 D0 C D := ⟨C0, D0, rfl, rfl, F, I, Kp.rf⟩
  refine g_aload_n X dX4_postBit_0 rfl (j := 0) rfl ?_
  refine g_iload_n X dX4_postBit_1 rfl (j := 1) rfl ?_
  refine g_iload_n X dX4_postBit_2 rfl (j := 2) rfl ?_
  refine g_callVI X (s_X4_placeOf_31 l G F I p0 (by omega) (by omega) p1 (by omega) (by omega) ) lk_X4_113 (F.1 31 rfl).2 (F.1 31 rfl).1 rfl rfl dX4_postBit_3 (Nat.le_of_ble_eq_true rfl) ⟨by decide, by decide⟩ ⟨by decide, by decide⟩ (fun r1 L M hp => ?_)
  obtain ⟨C, D, F, I, K1, hr⟩ := hp
  have K := K.step K1 (by decide)
  obtain ⟨hr, hpln2⟩ := hr
  rcases okp_nat hr with rfl | ⟨n2, hn2, rfl⟩
  · skip
    refine g_istore_n X dX4_postBit_6 rfl (by decide) (lv2 := [(3, .int (-1)), (0, .ref (a 31)), (1, .int (nI p0)), (2, .int (nI p1))]) rfl ?_
    refine g_iload_n X dX4_postBit_7 rfl (j := 0) rfl ?_
    refine g_iconst X dX4_postBit_8 (v := -1) (by decide) ?_
    refine g_icmp_eq X dX4_postBit_9 (tgt := 18) (by decide) (fun _ => ?_) (fun q => absurd (by decide) q)
    refine g_iconst X dX4_postBit_18 (v := 0) (by decide) ?_
    refine g_goto X dX4_postBit_19 (tgt := 25) (by decide) ?_
    exact g_iret X hrt dX4_postBit_25 (by decide) (by decide) ⟨C, D, F, I, K, trivial⟩
  · skip
    refine g_istore_n X dX4_postBit_6 rfl (by decide) (lv2 := [(3, .int (nI n2)), (0, .ref (a 31)), (1, .int (nI p0)), (2, .int (nI p1))]) rfl ?_
    refine g_iload_n X dX4_postBit_7 rfl (j := 0) rfl ?_
    refine g_iconst X dX4_postBit_8 (v := -1) (by decide) ?_
    refine g_icmp_eq X dX4_postBit_9 (tgt := 18) (by decide) (fun q => absurd q (nI_nm1 (by omega))) (fun _ => ?_)
    refine g_iload_n X dX4_postBit_12 rfl (j := 0) rfl ?_
    refine g_bipush X dX4_postBit_13 (v := 10) (by decide) ?_
    refine g_icmp_lt X dX4_postBit_15 (tgt := 22) (by decide) (fun q4 => ?_) (fun q4 => ?_)
    · skip
      have q4 : n2 < 10 := (nI_ltI (a := n2) (b := 10) (by omega) (by omega)).mp q4
      refine g_iconst X dX4_postBit_22 (v := 1) (by decide) ?_
      refine g_iload_n X dX4_postBit_23 rfl (j := 0) rfl ?_
      refine g_ishl X dX4_postBit_24 ?_
      refine Go.gen (fun o5 => ?_)
      exact g_iret X hrt dX4_postBit_25 (by decide) (by decide) ⟨C, D, F, I, K, trivial⟩
    · skip
      have q4 : ¬ n2 < 10 := fun z => q4 ((nI_ltI (a := n2) (b := 10) (by omega) (by omega)).mpr z)
      refine g_iconst X dX4_postBit_18 (v := 0) (by decide) ?_
      refine g_goto X dX4_postBit_19 (tgt := 25) (by decide) ?_
      exact g_iret X hrt dX4_postBit_25 (by decide) (by decide) ⟨C, D, F, I, K, trivial⟩
set_option maxHeartbeats 4000000 in
set_option maxRecDepth 100000 in
theorem s_X4_postsVisited_31 (l : Launch) (G : va_G) {cy : Nat → ClassId} {L : List Nat} {M : Nat → va_E} {a : Nat → Nat} {act : Nat → Bool} {C0 : Nat → Nat → Int32} {D0 : Nat → Nat → Int64} {R : Nat → Nat → Option Nat} (F : WI L M a act (ent cy a C0 D0 R)) (I : Inv C0) (p0 : Nat) (hp0a : 0 ≤ p0) (hp0b : p0 ≤ 7)  : MI l G cy yX4_postsVisited cX4_postsVisited 4 (some .int) 2 0 0 [.ref (a 31), .int (nI p0)] L M (fun r L2 M2 => ∃ C2 D2, WI L2 M2 a act (ent cy a C2 D2 R) ∧ Inv C2 ∧ Kp [] C0 D0 C2 D2 ∧ True) := by
  refine MI.of (own := RX4) rfl (by decide) (Nat.le_of_ble_eq_true rfl) ?_
  intro p e s m below meth c A X hrt hnm
  obtain ⟨C, D, hC0, hD0, F, I, K⟩ : ∃ C D, C = C0 ∧ D = D0 ∧ WI L M a act (ent cy a C D R) ∧ Inv C ∧ Kp [] C0 D0 C D := ⟨C0, D0, rfl, rfl, F, I, Kp.rf⟩
  refine g_iconst X dX4_postsVisited_0 (v := 0) (by decide) ?_
  refine g_istore_n X dX4_postsVisited_1 rfl (by decide) (lv2 := [(2, .int 0), (0, .ref (a 31)), (1, .int (nI p0))]) rfl ?_
  refine g_iconst X dX4_postsVisited_2 (v := 0) (by decide) ?_
  refine g_istore_n X dX4_postsVisited_3 rfl (by decide) (lv2 := [(3, .int 0), (2, .int 0), (0, .ref (a 31)), (1, .int (nI p0))]) rfl ?_
  refine g_lv [0, 1, 2, 3] (lv2 := [(3, .int 0), (2, .int 0), (0, .ref (a 31)), (1, .int (nI p0))]) rfl ?_
  refine i_loop (mods := []) (fun x : Nat × Int32 => 17 - x.1) (fun x => [(3, .int (nI (x.1))), (2, .int (x.2)), (0, .ref (a 31)), (1, .int (nI p0))]) (fun x C => 0 ≤ x.1 ∧ x.1 ≤ 17) (fun x L M C D F I K hP ih4 => ?_) ((0, 0) : Nat × Int32) F I K ⟨by show _ ≤ _; omega, by show _ ≤ _; omega⟩
  rcases x with ⟨i4_3, v4_2⟩
  obtain ⟨hi4_3a, hi4_3b⟩ := hP
  refine g_lv [0, 1, 2, 3] (lv2 := [(3, .int (nI i4_3)), (2, .int v4_2), (0, .ref (a 31)), (1, .int (nI p0))]) rfl ?_
  refine g_iload_n X dX4_postsVisited_4 rfl (j := 0) rfl ?_
  refine g_aload_n X dX4_postsVisited_5 rfl (j := 2) rfl ?_
  refine i_get X F 31 rfl rfl fk_X4_37 dX4_postsVisited_6 rfl ?_
  obtain ⟨n1, hn1, en1⟩ := rg_nat ((I 3 1).1 rfl) (by decide)
  refine i_get X F 3 rfl rfl fk_X4_57 dX4_postsVisited_9 (v := .int (nI n1)) (congrArg (fun z => some (Value.int z)) en1) ?_
  refine g_icmp_gt X dX4_postsVisited_12 (tgt := 30) (by decide) (fun q2 => ?_) (fun q2 => ?_)
  · skip
    have q2 : n1 < i4_3 := (nI_ltI (a := n1) (b := i4_3) (by omega) (by omega)).mp q2
    refine g_iload_n X dX4_postsVisited_30 rfl (j := 1) rfl ?_
    exact g_iret X hrt dX4_postsVisited_31 (by decide) (by decide) ⟨C, D, F, I, K, trivial⟩
  · skip
    have q2 : ¬ n1 < i4_3 := fun z => q2 ((nI_ltI (a := n1) (b := i4_3) (by omega) (by omega)).mpr z)
    refine g_iload_n X dX4_postsVisited_15 rfl (j := 1) rfl ?_
    refine g_aload_n X dX4_postsVisited_16 rfl (j := 2) rfl ?_
    refine g_iload_n X dX4_postsVisited_17 rfl (j := 3) rfl ?_
    refine g_iload_n X dX4_postsVisited_18 rfl (j := 0) rfl ?_
    refine g_callVI X (s_X4_postBit_31 l G F I p0 (by omega) (by omega) i4_3 (by omega) (by omega) ) lk_X4_141 (F.1 31 rfl).2 (F.1 31 rfl).1 rfl rfl dX4_postsVisited_19 (Nat.le_of_ble_eq_true rfl) ⟨by decide, by decide⟩ ⟨by decide, by decide⟩ (fun r3 L M hp => ?_)
    obtain ⟨C, D, F, I, K1, hr⟩ := hp
    have K := K.step K1 (by decide)
    refine g_ior X dX4_postsVisited_22 ?_
    refine Go.gen (fun o4 => ?_)
    refine g_istore_n X dX4_postsVisited_23 rfl (by decide) (lv2 := [(2, .int o4), (3, .int (nI i4_3)), (0, .ref (a 31)), (1, .int (nI p0))]) rfl ?_
    refine g_iinc X dX4_postsVisited_24 (j := 1) rfl (v := nI (i4_3 + 1)) (nI_1 i4_3) (by decide) (lv2 := [(3, .int (nI (i4_3 + 1))), (2, .int o4), (0, .ref (a 31)), (1, .int (nI p0))]) rfl ?_
    refine g_goto X dX4_postsVisited_27 (tgt := 4) (by decide) ?_
    refine g_lv [0, 1, 2, 3] (lv2 := [(3, .int (nI (i4_3 + 1))), (2, .int o4), (0, .ref (a 31)), (1, .int (nI p0))]) rfl ?_
    exact ih4 ((i4_3 + 1), o4) L M C D F I K ⟨by omega, by omega⟩ (by show _ < _; omega)
set_option maxHeartbeats 4000000 in
set_option maxRecDepth 100000 in
theorem s_X4_timesReturned_31 (l : Launch) (G : va_G) {cy : Nat → ClassId} {L : List Nat} {M : Nat → va_E} {a : Nat → Nat} {act : Nat → Bool} {C0 : Nat → Nat → Int32} {D0 : Nat → Nat → Int64} {R : Nat → Nat → Option Nat} (F : WI L M a act (ent cy a C0 D0 R)) (I : Inv C0) (p0 : Nat) (hp0a : 0 ≤ p0) (hp0b : p0 ≤ 7)  : MI l G cy yX4_timesReturned cX4_timesReturned 6 (some .int) 2 0 0 [.ref (a 31), .int (nI p0)] L M (fun r L2 M2 => ∃ C2 D2, WI L2 M2 a act (ent cy a C2 D2 R) ∧ Inv C2 ∧ Kp [] C0 D0 C2 D2 ∧ True) := by
  refine MI.of (own := RX4) rfl (by decide) (Nat.le_of_ble_eq_true rfl) ?_
  intro p e s m below meth c A X hrt hnm
  obtain ⟨C, D, hC0, hD0, F, I, K⟩ : ∃ C D, C = C0 ∧ D = D0 ∧ WI L M a act (ent cy a C D R) ∧ Inv C ∧ Kp [] C0 D0 C D := ⟨C0, D0, rfl, rfl, F, I, Kp.rf⟩
  refine g_iconst X dX4_timesReturned_0 (v := 0) (by decide) ?_
  refine g_istore_n X dX4_timesReturned_1 rfl (by decide) (lv2 := [(2, .int 0), (0, .ref (a 31)), (1, .int (nI p0))]) rfl ?_
  refine g_aload_n X dX4_timesReturned_2 rfl (j := 1) rfl ?_
  refine g_iload_n X dX4_timesReturned_3 rfl (j := 2) rfl ?_
  refine g_iconst X dX4_timesReturned_4 (v := 0) (by decide) ?_
  refine g_callVI X (s_X4_postBit_31 l G F I p0 (by omega) (by omega) 0 (by omega) (by omega) ) lk_X4_141 (F.1 31 rfl).2 (F.1 31 rfl).1 rfl rfl dX4_timesReturned_5 (Nat.le_of_ble_eq_true rfl) ⟨by decide, by decide⟩ ⟨by decide, by decide⟩ (fun r1 L M hp => ?_)
  obtain ⟨C, D, F, I, K1, hr⟩ := hp
  have K := K.step K1 (by decide)
  refine g_istore_n X dX4_timesReturned_8 rfl (by decide) (lv2 := [(3, .int r1), (2, .int 0), (0, .ref (a 31)), (1, .int (nI p0))]) rfl ?_
  refine g_iconst X dX4_timesReturned_9 (v := 1) (by decide) ?_
  refine g_istore X dX4_timesReturned_10 (by decide) (lv2 := [(4, .int 1), (3, .int r1), (2, .int 0), (0, .ref (a 31)), (1, .int (nI p0))]) rfl ?_
  refine g_lv [0, 2, 1, 3, 4] (lv2 := [(4, .int 1), (2, .int 0), (3, .int r1), (0, .ref (a 31)), (1, .int (nI p0))]) rfl ?_
  refine i_loop (mods := []) (fun x : Nat × Int32 × Int32 => 17 - x.1) (fun x => [(4, .int (nI (x.1))), (2, .int (x.2.1)), (3, .int (x.2.2)), (0, .ref (a 31)), (1, .int (nI p0))]) (fun x C => 1 ≤ x.1 ∧ x.1 ≤ 17) (fun x L M C D F I K hP ih12 => ?_) ((1, 0, r1) : Nat × Int32 × Int32) F I K ⟨by show _ ≤ _; omega, by show _ ≤ _; omega⟩
  rcases x with ⟨i12_4, v12_2, v12_3⟩
  obtain ⟨hi12_4a, hi12_4b⟩ := hP
  refine g_lv [0, 1, 2, 3, 4] (lv2 := [(4, .int (nI i12_4)), (2, .int v12_2), (3, .int v12_3), (0, .ref (a 31)), (1, .int (nI p0))]) rfl ?_
  refine g_iload X dX4_timesReturned_12 (j := 0) rfl ?_
  refine g_aload_n X dX4_timesReturned_14 rfl (j := 3) rfl ?_
  refine i_get X F 31 rfl rfl fk_X4_37 dX4_timesReturned_15 rfl ?_
  obtain ⟨n2, hn2, en2⟩ := rg_nat ((I 3 1).1 rfl) (by decide)
  refine i_get X F 3 rfl rfl fk_X4_57 dX4_timesReturned_18 (v := .int (nI n2)) (congrArg (fun z => some (Value.int z)) en2) ?_
  refine g_icmp_gt X dX4_timesReturned_21 (tgt := 68) (by decide) (fun q3 => ?_) (fun q3 => ?_)
  · skip
    have q3 : n2 < i12_4 := (nI_ltI (a := n2) (b := i12_4) (by omega) (by omega)).mp q3
    refine g_iload_n X dX4_timesReturned_68 rfl (j := 1) rfl ?_
    exact g_iret X hrt dX4_timesReturned_69 (by decide) (by decide) ⟨C, D, F, I, K, trivial⟩
  · skip
    have q3 : ¬ n2 < i12_4 := fun z => q3 ((nI_ltI (a := n2) (b := i12_4) (by omega) (by omega)).mpr z)
    refine g_aload_n X dX4_timesReturned_24 rfl (j := 3) rfl ?_
    refine g_iload_n X dX4_timesReturned_25 rfl (j := 4) rfl ?_
    refine g_iload X dX4_timesReturned_26 (j := 0) rfl ?_
    refine g_callVI X (s_X4_postBit_31 l G F I p0 (by omega) (by omega) i12_4 (by omega) (by omega) ) lk_X4_141 (F.1 31 rfl).2 (F.1 31 rfl).1 rfl rfl dX4_timesReturned_28 (Nat.le_of_ble_eq_true rfl) ⟨by decide, by decide⟩ ⟨by decide, by decide⟩ (fun r4 L M hp => ?_)
    obtain ⟨C, D, F, I, K1, hr⟩ := hp
    have K := K.step K1 (by decide)
    refine g_istore X dX4_timesReturned_31 (by decide) (lv2 := [(5, .int r4), (4, .int (nI i12_4)), (2, .int v12_2), (3, .int v12_3), (0, .ref (a 31)), (1, .int (nI p0))]) rfl ?_
    refine g_iload_n X dX4_timesReturned_33 rfl (j := 3) rfl ?_
    refine g_iload X dX4_timesReturned_34 (j := 0) rfl ?_
    refine g_iand X dX4_timesReturned_36 ?_
    refine Go.gen (fun o5 => ?_)
    refine g_if_eq X dX4_timesReturned_37 (tgt := 57) (by decide) (fun q6 => ?_) (fun q6 => ?_)
    · skip
      subst q6
      refine g_iload_n X dX4_timesReturned_57 rfl (j := 3) rfl ?_
      refine g_iload X dX4_timesReturned_58 (j := 0) rfl ?_
      refine g_ior X dX4_timesReturned_60 ?_
      refine Go.gen (fun o7 => ?_)
      refine g_istore_n X dX4_timesReturned_61 rfl (by decide) (lv2 := [(3, .int o7), (5, .int r4), (4, .int (nI i12_4)), (2, .int v12_2), (0, .ref (a 31)), (1, .int (nI p0))]) rfl ?_
      refine g_iinc X dX4_timesReturned_62 (j := 2) rfl (v := nI (i12_4 + 1)) (nI_1 i12_4) (by decide) (lv2 := [(4, .int (nI (i12_4 + 1))), (3, .int o7), (5, .int r4), (2, .int v12_2), (0, .ref (a 31)), (1, .int (nI p0))]) rfl ?_
      refine g_goto X dX4_timesReturned_65 (tgt := 12) (by decide) ?_
      refine g_lv [0, 3, 1, 4, 5] (lv2 := [(4, .int (nI (i12_4 + 1))), (2, .int v12_2), (3, .int o7), (0, .ref (a 31)), (1, .int (nI p0))]) rfl ?_
      exact ih12 ((i12_4 + 1), v12_2, o7) L M C D F I K ⟨by omega, by omega⟩ (by show _ < _; omega)
    · skip
      refine g_iload X dX4_timesReturned_40 (j := 0) rfl ?_
      refine g_aload_n X dX4_timesReturned_42 rfl (j := 4) rfl ?_
      refine g_iload_n X dX4_timesReturned_43 rfl (j := 5) rfl ?_
      refine g_iload X dX4_timesReturned_44 (j := 1) rfl ?_
      refine g_iconst X dX4_timesReturned_46 (v := 1) (by decide) ?_
      refine g_isub X dX4_timesReturned_47 ?_
      refine Go.top (v := .int (nI (i12_4 - 1))) (congrArg Value.int (pk_sub (a := i12_4) (b := 1) (by omega))) ?_
      refine g_callVI X (s_X4_postBit_31 l G F I p0 (by omega) (by omega) (i12_4 - 1) (by omega) (by omega) ) lk_X4_141 (F.1 31 rfl).2 (F.1 31 rfl).1 rfl rfl dX4_timesReturned_48 (Nat.le_of_ble_eq_true rfl) ⟨by decide, by decide⟩ ⟨by decide, by decide⟩ (fun r8 L M hp => ?_)
      obtain ⟨C, D, F, I, K1, hr⟩ := hp
      have K := K.step K1 (by decide)
      refine g_icmp_eq X dX4_timesReturned_51 (tgt := 57) (by decide) (fun q9 => ?_) (fun q9 => ?_)
      · skip
        refine g_iload_n X dX4_timesReturned_57 rfl (j := 3) rfl ?_
        refine g_iload X dX4_timesReturned_58 (j := 0) rfl ?_
        refine g_ior X dX4_timesReturned_60 ?_
        refine Go.gen (fun o10 => ?_)
        refine g_istore_n X dX4_timesReturned_61 rfl (by decide) (lv2 := [(3, .int o10), (5, .int r4), (4, .int (nI i12_4)), (2, .int v12_2), (0, .ref (a 31)), (1, .int (nI p0))]) rfl ?_
        refine g_iinc X dX4_timesReturned_62 (j := 2) rfl (v := nI (i12_4 + 1)) (nI_1 i12_4) (by decide) (lv2 := [(4, .int (nI (i12_4 + 1))), (3, .int o10), (5, .int r4), (2, .int v12_2), (0, .ref (a 31)), (1, .int (nI p0))]) rfl ?_
        refine g_goto X dX4_timesReturned_65 (tgt := 12) (by decide) ?_
        refine g_lv [0, 3, 1, 4, 5] (lv2 := [(4, .int (nI (i12_4 + 1))), (2, .int v12_2), (3, .int o10), (0, .ref (a 31)), (1, .int (nI p0))]) rfl ?_
        exact ih12 ((i12_4 + 1), v12_2, o10) L M C D F I K ⟨by omega, by omega⟩ (by show _ < _; omega)
      · skip
        refine g_iinc X dX4_timesReturned_54 (j := 2) rfl (v := (v12_2 + 1)) rfl (by decide) (lv2 := [(2, .int ((v12_2 + 1))), (5, .int r4), (4, .int (nI i12_4)), (3, .int v12_3), (0, .ref (a 31)), (1, .int (nI p0))]) rfl ?_
        refine g_iload_n X dX4_timesReturned_57 rfl (j := 3) rfl ?_
        refine g_iload X dX4_timesReturned_58 (j := 1) rfl ?_
        refine g_ior X dX4_timesReturned_60 ?_
        refine Go.gen (fun o11 => ?_)
        refine g_istore_n X dX4_timesReturned_61 rfl (by decide) (lv2 := [(3, .int o11), (2, .int ((v12_2 + 1))), (5, .int r4), (4, .int (nI i12_4)), (0, .ref (a 31)), (1, .int (nI p0))]) rfl ?_
        refine g_iinc X dX4_timesReturned_62 (j := 3) rfl (v := nI (i12_4 + 1)) (nI_1 i12_4) (by decide) (lv2 := [(4, .int (nI (i12_4 + 1))), (3, .int o11), (2, .int ((v12_2 + 1))), (5, .int r4), (0, .ref (a 31)), (1, .int (nI p0))]) rfl ?_
        refine g_goto X dX4_timesReturned_65 (tgt := 12) (by decide) ?_
        refine g_lv [0, 2, 1, 4, 5] (lv2 := [(4, .int (nI (i12_4 + 1))), (2, .int ((v12_2 + 1))), (3, .int o11), (0, .ref (a 31)), (1, .int (nI p0))]) rfl ?_
        exact ih12 ((i12_4 + 1), (v12_2 + 1), o11) L M C D F I K ⟨by omega, by omega⟩ (by show _ < _; omega)
set_option maxHeartbeats 4000000 in
set_option maxRecDepth 100000 in
theorem s_X4_hoursLingered_31 (l : Launch) (G : va_G) {cy : Nat → ClassId} {L : List Nat} {M : Nat → va_E} {a : Nat → Nat} {act : Nat → Bool} {C0 : Nat → Nat → Int32} {D0 : Nat → Nat → Int64} {R : Nat → Nat → Option Nat} (F : WI L M a act (ent cy a C0 D0 R)) (I : Inv C0) (p0 : Nat) (hp0a : 0 ≤ p0) (hp0b : p0 ≤ 7)  : MI l G cy yX4_hoursLingered cX4_hoursLingered 5 (some .int) 2 0 0 [.ref (a 31), .int (nI p0)] L M (fun r L2 M2 => ∃ C2 D2, WI L2 M2 a act (ent cy a C2 D2 R) ∧ Inv C2 ∧ Kp [] C0 D0 C2 D2 ∧ True) := by
  refine MI.of (own := RX4) rfl (by decide) (Nat.le_of_ble_eq_true rfl) ?_
  intro p e s m below meth c A X hrt hnm
  obtain ⟨C, D, hC0, hD0, F, I, K⟩ : ∃ C D, C = C0 ∧ D = D0 ∧ WI L M a act (ent cy a C D R) ∧ Inv C ∧ Kp [] C0 D0 C D := ⟨C0, D0, rfl, rfl, F, I, Kp.rf⟩
  refine g_iconst X dX4_hoursLingered_0 (v := 0) (by decide) ?_
  refine g_istore_n X dX4_hoursLingered_1 rfl (by decide) (lv2 := [(2, .int 0), (0, .ref (a 31)), (1, .int (nI p0))]) rfl ?_
  refine g_iconst X dX4_hoursLingered_2 (v := 1) (by decide) ?_
  refine g_istore_n X dX4_hoursLingered_3 rfl (by decide) (lv2 := [(3, .int 1), (2, .int 0), (0, .ref (a 31)), (1, .int (nI p0))]) rfl ?_
  refine g_lv [0, 1, 2, 3] (lv2 := [(3, .int 1), (2, .int 0), (0, .ref (a 31)), (1, .int (nI p0))]) rfl ?_
  refine i_loop (mods := []) (fun x : Nat × Int32 => 17 - x.1) (fun x => [(3, .int (nI (x.1))), (2, .int (x.2)), (0, .ref (a 31)), (1, .int (nI p0))]) (fun x C => 1 ≤ x.1 ∧ x.1 ≤ 17) (fun x L M C D F I K hP ih4 => ?_) ((1, 0) : Nat × Int32) F I K ⟨by show _ ≤ _; omega, by show _ ≤ _; omega⟩
  rcases x with ⟨i4_3, v4_2⟩
  obtain ⟨hi4_3a, hi4_3b⟩ := hP
  refine g_lv [0, 1, 2, 3] (lv2 := [(3, .int (nI i4_3)), (2, .int v4_2), (0, .ref (a 31)), (1, .int (nI p0))]) rfl ?_
  refine g_iload_n X dX4_hoursLingered_4 rfl (j := 0) rfl ?_
  refine g_aload_n X dX4_hoursLingered_5 rfl (j := 2) rfl ?_
  refine i_get X F 31 rfl rfl fk_X4_37 dX4_hoursLingered_6 rfl ?_
  obtain ⟨n1, hn1, en1⟩ := rg_nat ((I 3 1).1 rfl) (by decide)
  refine i_get X F 3 rfl rfl fk_X4_57 dX4_hoursLingered_9 (v := .int (nI n1)) (congrArg (fun z => some (Value.int z)) en1) ?_
  refine g_icmp_gt X dX4_hoursLingered_12 (tgt := 50) (by decide) (fun q2 => ?_) (fun q2 => ?_)
  · skip
    have q2 : n1 < i4_3 := (nI_ltI (a := n1) (b := i4_3) (by omega) (by omega)).mp q2
    refine g_iload_n X dX4_hoursLingered_50 rfl (j := 1) rfl ?_
    exact g_iret X hrt dX4_hoursLingered_51 (by decide) (by decide) ⟨C, D, F, I, K, trivial⟩
  · skip
    have q2 : ¬ n1 < i4_3 := fun z => q2 ((nI_ltI (a := n1) (b := i4_3) (by omega) (by omega)).mpr z)
    refine g_aload_n X dX4_hoursLingered_15 rfl (j := 2) rfl ?_
    refine g_iload_n X dX4_hoursLingered_16 rfl (j := 3) rfl ?_
    refine g_iload_n X dX4_hoursLingered_17 rfl (j := 0) rfl ?_
    refine g_callVI X (s_X4_postBit_31 l G F I p0 (by omega) (by omega) i4_3 (by omega) (by omega) ) lk_X4_141 (F.1 31 rfl).2 (F.1 31 rfl).1 rfl rfl dX4_hoursLingered_18 (Nat.le_of_ble_eq_true rfl) ⟨by decide, by decide⟩ ⟨by decide, by decide⟩ (fun r3 L M hp => ?_)
    obtain ⟨C, D, F, I, K1, hr⟩ := hp
    have K := K.step K1 (by decide)
    refine g_istore X dX4_hoursLingered_21 (by decide) (lv2 := [(4, .int r3), (3, .int (nI i4_3)), (2, .int v4_2), (0, .ref (a 31)), (1, .int (nI p0))]) rfl ?_
    refine g_iload X dX4_hoursLingered_23 (j := 0) rfl ?_
    refine g_if_eq X dX4_hoursLingered_25 (tgt := 44) (by decide) (fun q4 => ?_) (fun q4 => ?_)
    · skip
      subst q4
      refine g_iinc X dX4_hoursLingered_44 (j := 1) rfl (v := nI (i4_3 + 1)) (nI_1 i4_3) (by decide) (lv2 := [(3, .int (nI (i4_3 + 1))), (4, .int 0), (2, .int v4_2), (0, .ref (a 31)), (1, .int (nI p0))]) rfl ?_
      refine g_goto X dX4_hoursLingered_47 (tgt := 4) (by decide) ?_
      refine g_lv [0, 2, 3, 4] (lv2 := [(3, .int (nI (i4_3 + 1))), (2, .int v4_2), (0, .ref (a 31)), (1, .int (nI p0))]) rfl ?_
      exact ih4 ((i4_3 + 1), v4_2) L M C D F I K ⟨by omega, by omega⟩ (by show _ < _; omega)
    · skip
      refine g_iload X dX4_hoursLingered_28 (j := 0) rfl ?_
      refine g_aload_n X dX4_hoursLingered_30 rfl (j := 3) rfl ?_
      refine g_iload_n X dX4_hoursLingered_31 rfl (j := 4) rfl ?_
      refine g_iload_n X dX4_hoursLingered_32 rfl (j := 1) rfl ?_
      refine g_iconst X dX4_hoursLingered_33 (v := 1) (by decide) ?_
      refine g_isub X dX4_hoursLingered_34 ?_
      refine Go.top (v := .int (nI (i4_3 - 1))) (congrArg Value.int (pk_sub (a := i4_3) (b := 1) (by omega))) ?_
      refine g_callVI X (s_X4_postBit_31 l G F I p0 (by omega) (by omega) (i4_3 - 1) (by omega) (by omega) ) lk_X4_141 (F.1 31 rfl).2 (F.1 31 rfl).1 rfl rfl dX4_hoursLingered_35 (Nat.le_of_ble_eq_true rfl) ⟨by decide, by decide⟩ ⟨by decide, by decide⟩ (fun r5 L M hp => ?_)
      obtain ⟨C, D, F, I, K1, hr⟩ := hp
      have K := K.step K1 (by decide)
      refine g_icmp_ne X dX4_hoursLingered_38 (tgt := 44) (by decide) (fun q6 => ?_) (fun q6 => ?_)
      · skip
        refine g_iinc X dX4_hoursLingered_44 (j := 1) rfl (v := nI (i4_3 + 1)) (nI_1 i4_3) (by decide) (lv2 := [(3, .int (nI (i4_3 + 1))), (4, .int r3), (2, .int v4_2), (0, .ref (a 31)), (1, .int (nI p0))]) rfl ?_
        refine g_goto X dX4_hoursLingered_47 (tgt := 4) (by decide) ?_
        refine g_lv [0, 2, 3, 4] (lv2 := [(3, .int (nI (i4_3 + 1))), (2, .int v4_2), (0, .ref (a 31)), (1, .int (nI p0))]) rfl ?_
        exact ih4 ((i4_3 + 1), v4_2) L M C D F I K ⟨by omega, by omega⟩ (by show _ < _; omega)
      · skip
        refine g_iinc X dX4_hoursLingered_41 (j := 2) rfl (v := (v4_2 + 1)) rfl (by decide) (lv2 := [(2, .int ((v4_2 + 1))), (4, .int r3), (3, .int (nI i4_3)), (0, .ref (a 31)), (1, .int (nI p0))]) rfl ?_
        refine g_iinc X dX4_hoursLingered_44 (j := 2) rfl (v := nI (i4_3 + 1)) (nI_1 i4_3) (by decide) (lv2 := [(3, .int (nI (i4_3 + 1))), (2, .int ((v4_2 + 1))), (4, .int r3), (0, .ref (a 31)), (1, .int (nI p0))]) rfl ?_
        refine g_goto X dX4_hoursLingered_47 (tgt := 4) (by decide) ?_
        refine g_lv [0, 1, 3, 4] (lv2 := [(3, .int (nI (i4_3 + 1))), (2, .int ((v4_2 + 1))), (0, .ref (a 31)), (1, .int (nI p0))]) rfl ?_
        exact ih4 ((i4_3 + 1), (v4_2 + 1)) L M C D F I K ⟨by omega, by omega⟩ (by show _ < _; omega)
set_option maxHeartbeats 4000000 in
set_option maxRecDepth 100000 in
theorem s_X4_guestsIn_31 (l : Launch) (G : va_G) {cy : Nat → ClassId} {L : List Nat} {M : Nat → va_E} {a : Nat → Nat} {act : Nat → Bool} {C0 : Nat → Nat → Int32} {D0 : Nat → Nat → Int64} {R : Nat → Nat → Option Nat} (F : WI L M a act (ent cy a C0 D0 R)) (I : Inv C0) (p0 : Nat) (hp0a : 0 ≤ p0) (hp0b : p0 ≤ 3) (p1 : Nat) (hp1a : 0 ≤ p1) (hp1b : p1 ≤ 16)  : MI l G cy yX4_guestsIn cX4_guestsIn 3 (some .int) 2 0 0 [.ref (a 31), .int (nI p0), .int (nI p1)] L M (fun r L2 M2 => ∃ C2 D2, WI L2 M2 a act (ent cy a C2 D2 R) ∧ Inv C2 ∧ Kp [] C0 D0 C2 D2 ∧ True) := by
  refine MI.of (own := RX4) rfl (by decide) (Nat.le_of_ble_eq_true rfl) ?_
  intro p e s m below meth c A X hrt hnm
  obtain ⟨C, D, hC0, hD0, F, I, K⟩ : ∃ C D, C = C0 ∧ D = D0 ∧ WI L M a act (ent cy a C D R) ∧ Inv C ∧ Kp [] C0 D0 C D := ⟨C0, D0, rfl, rfl, F, I, Kp.rf⟩
  refine g_aload_n X dX4_guestsIn_0 rfl (j := 0) rfl ?_
  refine g_bipush X dX4_guestsIn_1 (v := 10) (by decide) ?_
  refine g_iload_n X dX4_guestsIn_3 rfl (j := 1) rfl ?_
  refine g_iadd X dX4_guestsIn_4 ?_
  refine Go.top (v := .int (nI (10 + p0))) (congrArg Value.int (nI_add 10 p0)) ?_
  refine g_iload_n X dX4_guestsIn_5 rfl (j := 2) rfl ?_
  refine g_callVI X (s_X4_walkersAt_31 l G F I (nI (10 + p0)) p1 (by omega) (by omega) ) lk_X4_144 (F.1 31 rfl).2 (F.1 31 rfl).1 rfl rfl dX4_guestsIn_6 (Nat.le_of_ble_eq_true rfl) ⟨by decide, by decide⟩ ⟨by decide, by decide⟩ (fun r1 L M hp => ?_)
  obtain ⟨C, D, F, I, K1, hr⟩ := hp
  have K := K.step K1 (by decide)
  refine g_callSI X (s_J6_bitCount_0f7a4 l G F I r1 ) lk_X4_147 rfl rfl dX4_guestsIn_9 (Nat.le_of_ble_eq_true rfl) ⟨by decide, by decide⟩ ⟨by decide, by decide⟩ (fun r2 L M hp => ?_)
  obtain ⟨C, D, F, I, K1, hr⟩ := hp
  have K := K.step K1 (by decide)
  have hbcr2 := hr
  exact g_iret X hrt dX4_guestsIn_12 (by decide) (by decide) ⟨C, D, F, I, K, trivial⟩
set_option maxHeartbeats 4000000 in
set_option maxRecDepth 100000 in
theorem s_X4_firstHourFull_31 (l : Launch) (G : va_G) {cy : Nat → ClassId} {L : List Nat} {M : Nat → va_E} {a : Nat → Nat} {act : Nat → Bool} {C0 : Nat → Nat → Int32} {D0 : Nat → Nat → Int64} {R : Nat → Nat → Option Nat} (F : WI L M a act (ent cy a C0 D0 R)) (I : Inv C0) (p0 : Nat) (hp0a : 0 ≤ p0) (hp0b : p0 ≤ 3)  : MI l G cy yX4_firstHourFull cX4_firstHourFull 3 (some .int) 3 0 0 [.ref (a 31), .int (nI p0)] L M (fun r L2 M2 => ∃ C2 D2, WI L2 M2 a act (ent cy a C2 D2 R) ∧ Inv C2 ∧ Kp [] C0 D0 C2 D2 ∧ True) := by
  refine MI.of (own := RX4) rfl (by decide) (Nat.le_of_ble_eq_true rfl) ?_
  intro p e s m below meth c A X hrt hnm
  obtain ⟨C, D, hC0, hD0, F, I, K⟩ : ∃ C D, C = C0 ∧ D = D0 ∧ WI L M a act (ent cy a C D R) ∧ Inv C ∧ Kp [] C0 D0 C D := ⟨C0, D0, rfl, rfl, F, I, Kp.rf⟩
  refine g_iconst X dX4_firstHourFull_0 (v := 0) (by decide) ?_
  refine g_istore_n X dX4_firstHourFull_1 rfl (by decide) (lv2 := [(2, .int 0), (0, .ref (a 31)), (1, .int (nI p0))]) rfl ?_
  refine g_lv [0, 1, 2] (lv2 := [(2, .int 0), (0, .ref (a 31)), (1, .int (nI p0))]) rfl ?_
  refine i_loop (mods := []) (fun x : Nat => 17 - x) (fun x => [(2, .int (nI (x))), (0, .ref (a 31)), (1, .int (nI p0))]) (fun x C => 0 ≤ x ∧ x ≤ 17) (fun x L M C D F I K hP ih2 => ?_) ((0) : Nat) F I K ⟨by show _ ≤ _; omega, by show _ ≤ _; omega⟩
  obtain ⟨i2_2, rfl⟩ : ∃ z, z = x := ⟨_, rfl⟩
  obtain ⟨hi2_2a, hi2_2b⟩ := hP
  refine g_lv [0, 1, 2] (lv2 := [(2, .int (nI i2_2)), (0, .ref (a 31)), (1, .int (nI p0))]) rfl ?_
  refine g_iload_n X dX4_firstHourFull_2 rfl (j := 0) rfl ?_
  refine g_aload_n X dX4_firstHourFull_3 rfl (j := 1) rfl ?_
  refine i_get X F 31 rfl rfl fk_X4_37 dX4_firstHourFull_4 rfl ?_
  obtain ⟨n1, hn1, en1⟩ := rg_nat ((I 3 1).1 rfl) (by decide)
  refine i_get X F 3 rfl rfl fk_X4_57 dX4_firstHourFull_7 (v := .int (nI n1)) (congrArg (fun z => some (Value.int z)) en1) ?_
  refine g_icmp_gt X dX4_firstHourFull_10 (tgt := 39) (by decide) (fun q2 => ?_) (fun q2 => ?_)
  · skip
    have q2 : n1 < i2_2 := (nI_ltI (a := n1) (b := i2_2) (by omega) (by omega)).mp q2
    refine g_iconst X dX4_firstHourFull_39 (v := -1) (by decide) ?_
    exact g_iret X hrt dX4_firstHourFull_40 (by decide) (by decide) ⟨C, D, F, I, K, trivial⟩
  · skip
    have q2 : ¬ n1 < i2_2 := fun z => q2 ((nI_ltI (a := n1) (b := i2_2) (by omega) (by omega)).mpr z)
    refine g_aload_n X dX4_firstHourFull_13 rfl (j := 1) rfl ?_
    refine g_iload_n X dX4_firstHourFull_14 rfl (j := 2) rfl ?_
    refine g_iload_n X dX4_firstHourFull_15 rfl (j := 0) rfl ?_
    refine g_callVI X (s_X4_guestsIn_31 l G F I p0 (by omega) (by omega) i2_2 (by omega) (by omega) ) lk_X4_153 (F.1 31 rfl).2 (F.1 31 rfl).1 rfl rfl dX4_firstHourFull_16 (Nat.le_of_ble_eq_true rfl) ⟨by decide, by decide⟩ ⟨by decide, by decide⟩ (fun r3 L M hp => ?_)
    obtain ⟨C, D, F, I, K1, hr⟩ := hp
    have K := K.step K1 (by decide)
    refine g_aload_n X dX4_firstHourFull_19 rfl (j := 1) rfl ?_
    refine i_get X F 31 rfl rfl fk_X4_37 dX4_firstHourFull_20 rfl ?_
    refine i_get X F 3 rfl rfl fk_X4_129 dX4_firstHourFull_23 rfl ?_
    refine g_iload_n X dX4_firstHourFull_26 rfl (j := 2) rfl ?_
    refine i_iald X F 4 rfl rfl dX4_firstHourFull_27 (vp_in_nI (by omega) (by decide)) rfl ?_
    refine Go.gen (fun o4 => ?_)
    refine g_icmp_lt X dX4_firstHourFull_28 (tgt := 33) (by decide) (fun q5 => ?_) (fun q5 => ?_)
    · skip
      refine g_iinc X dX4_firstHourFull_33 (j := 0) rfl (v := nI (i2_2 + 1)) (nI_1 i2_2) (by decide) (lv2 := [(2, .int (nI (i2_2 + 1))), (0, .ref (a 31)), (1, .int (nI p0))]) rfl ?_
      refine g_goto X dX4_firstHourFull_36 (tgt := 2) (by decide) ?_
      refine g_lv [0, 1, 2] (lv2 := [(2, .int (nI (i2_2 + 1))), (0, .ref (a 31)), (1, .int (nI p0))]) rfl ?_
      exact ih2 ((i2_2 + 1)) L M C D F I K ⟨by omega, by omega⟩ (by show _ < _; omega)
    · skip
      refine g_iload_n X dX4_firstHourFull_31 rfl (j := 0) rfl ?_
      exact g_iret X hrt dX4_firstHourFull_32 (by decide) (by decide) ⟨C, D, F, I, K, trivial⟩
set_option maxHeartbeats 4000000 in
set_option maxRecDepth 100000 in
theorem s_X4_firstHourAllInside_31 (l : Launch) (G : va_G) {cy : Nat → ClassId} {L : List Nat} {M : Nat → va_E} {a : Nat → Nat} {act : Nat → Bool} {C0 : Nat → Nat → Int32} {D0 : Nat → Nat → Int64} {R : Nat → Nat → Option Nat} (F : WI L M a act (ent cy a C0 D0 R)) (I : Inv C0)   : MI l G cy yX4_firstHourAllInside cX4_firstHourAllInside 3 (some .int) 2 0 0 [.ref (a 31)] L M (fun r L2 M2 => ∃ C2 D2, WI L2 M2 a act (ent cy a C2 D2 R) ∧ Inv C2 ∧ Kp [] C0 D0 C2 D2 ∧ True) := by
  refine MI.of (own := RX4) rfl (by decide) (Nat.le_of_ble_eq_true rfl) ?_
  intro p e s m below meth c A X hrt hnm
  obtain ⟨C, D, hC0, hD0, F, I, K⟩ : ∃ C D, C = C0 ∧ D = D0 ∧ WI L M a act (ent cy a C D R) ∧ Inv C ∧ Kp [] C0 D0 C D := ⟨C0, D0, rfl, rfl, F, I, Kp.rf⟩
  refine g_iconst X dX4_firstHourAllInside_0 (v := 1) (by decide) ?_
  refine g_aload_n X dX4_firstHourAllInside_1 rfl (j := 0) rfl ?_
  refine i_get X F 31 rfl rfl fk_X4_37 dX4_firstHourAllInside_2 rfl ?_
  obtain ⟨n1, hn1, en1⟩ := rg_nat ((I 3 8).2.2.2 rfl) (by decide)
  refine i_get X F 3 rfl rfl fk_X4_64 dX4_firstHourAllInside_5 (v := .int (nI n1)) (congrArg (fun z => some (Value.int z)) en1) ?_
  refine g_ishl X dX4_firstHourAllInside_8 ?_
  refine Go.gen (fun o2 => ?_)
  refine g_iconst X dX4_firstHourAllInside_9 (v := 1) (by decide) ?_
  refine g_isub X dX4_firstHourAllInside_10 ?_
  refine Go.gen (fun o3 => ?_)
  refine g_istore_n X dX4_firstHourAllInside_11 rfl (by decide) (lv2 := [(1, .int o3), (0, .ref (a 31))]) rfl ?_
  refine g_iconst X dX4_firstHourAllInside_12 (v := 0) (by decide) ?_
  refine g_istore_n X dX4_firstHourAllInside_13 rfl (by decide) (lv2 := [(2, .int 0), (1, .int o3), (0, .ref (a 31))]) rfl ?_
  refine g_lv [0, 1, 2] (lv2 := [(2, .int 0), (1, .int o3), (0, .ref (a 31))]) rfl ?_
  refine i_loop (mods := []) (fun x : Nat => 17 - x) (fun x => [(2, .int (nI (x))), (1, .int o3), (0, .ref (a 31))]) (fun x C => 0 ≤ x ∧ x ≤ 17) (fun x L M C D F I K hP ih14 => ?_) ((0) : Nat) F I K ⟨by show _ ≤ _; omega, by show _ ≤ _; omega⟩
  obtain ⟨i14_2, rfl⟩ : ∃ z, z = x := ⟨_, rfl⟩
  obtain ⟨hi14_2a, hi14_2b⟩ := hP
  refine g_lv [0, 1, 2] (lv2 := [(2, .int (nI i14_2)), (1, .int o3), (0, .ref (a 31))]) rfl ?_
  refine g_iload_n X dX4_firstHourAllInside_14 rfl (j := 0) rfl ?_
  refine g_aload_n X dX4_firstHourAllInside_15 rfl (j := 2) rfl ?_
  refine i_get X F 31 rfl rfl fk_X4_37 dX4_firstHourAllInside_16 rfl ?_
  obtain ⟨n4, hn4, en4⟩ := rg_nat ((I 3 1).1 rfl) (by decide)
  refine i_get X F 3 rfl rfl fk_X4_57 dX4_firstHourAllInside_19 (v := .int (nI n4)) (congrArg (fun z => some (Value.int z)) en4) ?_
  refine g_icmp_gt X dX4_firstHourAllInside_22 (tgt := 46) (by decide) (fun q5 => ?_) (fun q5 => ?_)
  · skip
    have q5 : n4 < i14_2 := (nI_ltI (a := n4) (b := i14_2) (by omega) (by omega)).mp q5
    refine g_iconst X dX4_firstHourAllInside_46 (v := -1) (by decide) ?_
    exact g_iret X hrt dX4_firstHourAllInside_47 (by decide) (by decide) ⟨C, D, F, I, K, trivial⟩
  · skip
    have q5 : ¬ n4 < i14_2 := fun z => q5 ((nI_ltI (a := n4) (b := i14_2) (by omega) (by omega)).mpr z)
    refine g_iload_n X dX4_firstHourAllInside_25 rfl (j := 1) rfl ?_
    refine g_if_eq X dX4_firstHourAllInside_26 (tgt := 40) (by decide) (fun q6 => ?_) (fun q6 => ?_)
    · skip
      subst q6
      refine g_iinc X dX4_firstHourAllInside_40 (j := 0) rfl (v := nI (i14_2 + 1)) (nI_1 i14_2) (by decide) (lv2 := [(2, .int (nI (i14_2 + 1))), (1, .int 0), (0, .ref (a 31))]) rfl ?_
      refine g_goto X dX4_firstHourAllInside_43 (tgt := 14) (by decide) ?_
      refine g_lv [0, 1, 2] (lv2 := [(2, .int (nI (i14_2 + 1))), (1, .int 0), (0, .ref (a 31))]) rfl ?_
      exact ih14 ((i14_2 + 1)) L M C D F I K ⟨by omega, by omega⟩ (by show _ < _; omega)
    · skip
      refine g_aload_n X dX4_firstHourAllInside_29 rfl (j := 2) rfl ?_
      refine g_iload_n X dX4_firstHourAllInside_30 rfl (j := 0) rfl ?_
      refine g_callVI X (s_X4_walkersInside_31 l G F I i14_2 (by omega) (by omega) ) lk_X4_160 (F.1 31 rfl).2 (F.1 31 rfl).1 rfl rfl dX4_firstHourAllInside_31 (Nat.le_of_ble_eq_true rfl) ⟨by decide, by decide⟩ ⟨by decide, by decide⟩ (fun r7 L M hp => ?_)
      obtain ⟨C, D, F, I, K1, hr⟩ := hp
      have K := K.step K1 (by decide)
      refine g_iload_n X dX4_firstHourAllInside_34 rfl (j := 1) rfl ?_
      refine g_icmp_ne X dX4_firstHourAllInside_35 (tgt := 40) (by decide) (fun q8 => ?_) (fun q8 => ?_)
      · skip
        refine g_iinc X dX4_firstHourAllInside_40 (j := 0) rfl (v := nI (i14_2 + 1)) (nI_1 i14_2) (by decide) (lv2 := [(2, .int (nI (i14_2 + 1))), (1, .int o3), (0, .ref (a 31))]) rfl ?_
        refine g_goto X dX4_firstHourAllInside_43 (tgt := 14) (by decide) ?_
        refine g_lv [0, 1, 2] (lv2 := [(2, .int (nI (i14_2 + 1))), (1, .int o3), (0, .ref (a 31))]) rfl ?_
        exact ih14 ((i14_2 + 1)) L M C D F I K ⟨by omega, by omega⟩ (by show _ < _; omega)
      · skip
        refine g_iload_n X dX4_firstHourAllInside_38 rfl (j := 0) rfl ?_
        exact g_iret X hrt dX4_firstHourAllInside_39 (by decide) (by decide) ⟨C, D, F, I, K, trivial⟩
set_option maxHeartbeats 4000000 in
set_option maxRecDepth 100000 in
theorem s_X4_mostAtOnePost_31 (l : Launch) (G : va_G) {cy : Nat → ClassId} {L : List Nat} {M : Nat → va_E} {a : Nat → Nat} {act : Nat → Bool} {C0 : Nat → Nat → Int32} {D0 : Nat → Nat → Int64} {R : Nat → Nat → Option Nat} (F : WI L M a act (ent cy a C0 D0 R)) (I : Inv C0) (p0 : Nat) (hp0a : 0 ≤ p0) (hp0b : p0 ≤ 16)  : MI l G cy yX4_mostAtOnePost cX4_mostAtOnePost 4 (some .int) 2 0 0 [.ref (a 31), .int (nI p0)] L M (fun r L2 M2 => ∃ C2 D2, WI L2 M2 a act (ent cy a C2 D2 R) ∧ Inv C2 ∧ Kp [] C0 D0 C2 D2 ∧ True) := by
  refine MI.of (own := RX4) rfl (by decide) (Nat.le_of_ble_eq_true rfl) ?_
  intro p e s m below meth c A X hrt hnm
  obtain ⟨C, D, hC0, hD0, F, I, K⟩ : ∃ C D, C = C0 ∧ D = D0 ∧ WI L M a act (ent cy a C D R) ∧ Inv C ∧ Kp [] C0 D0 C D := ⟨C0, D0, rfl, rfl, F, I, Kp.rf⟩
  refine g_iconst X dX4_mostAtOnePost_0 (v := 0) (by decide) ?_
  refine g_istore_n X dX4_mostAtOnePost_1 rfl (by decide) (lv2 := [(2, .int 0), (0, .ref (a 31)), (1, .int (nI p0))]) rfl ?_
  refine g_iconst X dX4_mostAtOnePost_2 (v := 0) (by decide) ?_
  refine g_istore_n X dX4_mostAtOnePost_3 rfl (by decide) (lv2 := [(3, .int 0), (2, .int 0), (0, .ref (a 31)), (1, .int (nI p0))]) rfl ?_
  refine g_lv [0, 1, 2, 3] (lv2 := [(3, .int 0), (2, .int 0), (0, .ref (a 31)), (1, .int (nI p0))]) rfl ?_
  refine i_loop (mods := []) (fun x : Nat × Int32 => 7 - x.1) (fun x => [(3, .int (nI (x.1))), (2, .int (x.2)), (0, .ref (a 31)), (1, .int (nI p0))]) (fun x C => 0 ≤ x.1 ∧ x.1 ≤ 7) (fun x L M C D F I K hP ih4 => ?_) ((0, 0) : Nat × Int32) F I K ⟨by show _ ≤ _; omega, by show _ ≤ _; omega⟩
  rcases x with ⟨i4_3, v4_2⟩
  obtain ⟨hi4_3a, hi4_3b⟩ := hP
  refine g_lv [0, 1, 2, 3] (lv2 := [(3, .int (nI i4_3)), (2, .int v4_2), (0, .ref (a 31)), (1, .int (nI p0))]) rfl ?_
  refine g_iload_n X dX4_mostAtOnePost_4 rfl (j := 0) rfl ?_
  refine g_aload_n X dX4_mostAtOnePost_5 rfl (j := 2) rfl ?_
  refine i_get X F 31 rfl rfl fk_X4_37 dX4_mostAtOnePost_6 rfl ?_
  obtain ⟨n1, hn1, en1⟩ := rg_nat ((I 3 5).2.2.1 rfl) (by decide)
  refine i_get X F 3 rfl rfl fk_X4_87 dX4_mostAtOnePost_9 (v := .int (nI n1)) (congrArg (fun z => some (Value.int z)) en1) ?_
  refine g_icmp_ge X dX4_mostAtOnePost_12 (tgt := 35) (by decide) (fun q2 => ?_) (fun q2 => ?_)
  · skip
    have q2 : n1 ≤ i4_3 := (nI_leI (a := n1) (b := i4_3) (by omega) (by omega)).mp q2
    refine g_iload_n X dX4_mostAtOnePost_35 rfl (j := 1) rfl ?_
    exact g_iret X hrt dX4_mostAtOnePost_36 (by decide) (by decide) ⟨C, D, F, I, K, trivial⟩
  · skip
    have q2 : ¬ n1 ≤ i4_3 := fun z => q2 ((nI_leI (a := n1) (b := i4_3) (by omega) (by omega)).mpr z)
    refine g_iload_n X dX4_mostAtOnePost_15 rfl (j := 1) rfl ?_
    refine g_aload_n X dX4_mostAtOnePost_16 rfl (j := 2) rfl ?_
    refine g_iload_n X dX4_mostAtOnePost_17 rfl (j := 0) rfl ?_
    refine g_iload_n X dX4_mostAtOnePost_18 rfl (j := 3) rfl ?_
    refine g_callVI X (s_X4_walkersAt_31 l G F I (nI i4_3) p0 (by omega) (by omega) ) lk_X4_144 (F.1 31 rfl).2 (F.1 31 rfl).1 rfl rfl dX4_mostAtOnePost_19 (Nat.le_of_ble_eq_true rfl) ⟨by decide, by decide⟩ ⟨by decide, by decide⟩ (fun r3 L M hp => ?_)
    obtain ⟨C, D, F, I, K1, hr⟩ := hp
    have K := K.step K1 (by decide)
    refine g_callSI X (s_J6_bitCount_0f7a4 l G F I r3 ) lk_X4_147 rfl rfl dX4_mostAtOnePost_22 (Nat.le_of_ble_eq_true rfl) ⟨by decide, by decide⟩ ⟨by decide, by decide⟩ (fun r4 L M hp => ?_)
    obtain ⟨C, D, F, I, K1, hr⟩ := hp
    have K := K.step K1 (by decide)
    have hbcr4 := hr
    refine g_mmax X wd78 wd79 wd80 wd81 (by decide) (Nat.le_of_ble_eq_true rfl) (by decide) (by decide) dX4_mostAtOnePost_25 (fun o5 => ?_)
    refine g_istore_n X dX4_mostAtOnePost_28 rfl (by decide) (lv2 := [(2, .int o5), (3, .int (nI i4_3)), (0, .ref (a 31)), (1, .int (nI p0))]) rfl ?_
    refine g_iinc X dX4_mostAtOnePost_29 (j := 1) rfl (v := nI (i4_3 + 1)) (nI_1 i4_3) (by decide) (lv2 := [(3, .int (nI (i4_3 + 1))), (2, .int o5), (0, .ref (a 31)), (1, .int (nI p0))]) rfl ?_
    refine g_goto X dX4_mostAtOnePost_32 (tgt := 4) (by decide) ?_
    refine g_lv [0, 1, 2, 3] (lv2 := [(3, .int (nI (i4_3 + 1))), (2, .int o5), (0, .ref (a 31)), (1, .int (nI p0))]) rfl ?_
    exact ih4 ((i4_3 + 1), o5) L M C D F I K ⟨by omega, by omega⟩ (by show _ < _; omega)
set_option maxHeartbeats 4000000 in
set_option maxRecDepth 100000 in
theorem s_X4_firstHourTogether_31 (l : Launch) (G : va_G) {cy : Nat → ClassId} {L : List Nat} {M : Nat → va_E} {a : Nat → Nat} {act : Nat → Bool} {C0 : Nat → Nat → Int32} {D0 : Nat → Nat → Int64} {R : Nat → Nat → Option Nat} (F : WI L M a act (ent cy a C0 D0 R)) (I : Inv C0) (p0 : Nat) (hp0a : 0 ≤ p0) (hp0b : p0 ≤ 7) (p1 : Nat) (hp1a : 0 ≤ p1) (hp1b : p1 ≤ 7)  : MI l G cy yX4_firstHourTogether cX4_firstHourTogether 5 (some .int) 1 0 0 [.ref (a 31), .int (nI p0), .int (nI p1)] L M (fun r L2 M2 => ∃ C2 D2, WI L2 M2 a act (ent cy a C2 D2 R) ∧ Inv C2 ∧ Kp [] C0 D0 C2 D2 ∧ True) := by
  refine MI.of (own := RX4) rfl (by decide) (Nat.le_of_ble_eq_true rfl) ?_
  intro p e s m below meth c A X hrt hnm
  obtain ⟨C, D, hC0, hD0, F, I, K⟩ : ∃ C D, C = C0 ∧ D = D0 ∧ WI L M a act (ent cy a C D R) ∧ Inv C ∧ Kp [] C0 D0 C D := ⟨C0, D0, rfl, rfl, F, I, Kp.rf⟩
  refine g_iconst X dX4_firstHourTogether_0 (v := 0) (by decide) ?_
  refine g_istore_n X dX4_firstHourTogether_1 rfl (by decide) (lv2 := [(3, .int 0), (0, .ref (a 31)), (1, .int (nI p0)), (2, .int (nI p1))]) rfl ?_
  refine g_lv [0, 1, 2, 3] (lv2 := [(3, .int 0), (0, .ref (a 31)), (1, .int (nI p0)), (2, .int (nI p1))]) rfl ?_
  refine i_loop (mods := []) (fun x : Nat => 17 - x) (fun x => [(3, .int (nI (x))), (0, .ref (a 31)), (1, .int (nI p0)), (2, .int (nI p1))]) (fun x C => 0 ≤ x ∧ x ≤ 17) (fun x L M C D F I K hP ih2 => ?_) ((0) : Nat) F I K ⟨by show _ ≤ _; omega, by show _ ≤ _; omega⟩
  obtain ⟨i2_3, rfl⟩ : ∃ z, z = x := ⟨_, rfl⟩
  obtain ⟨hi2_3a, hi2_3b⟩ := hP
  refine g_lv [0, 1, 2, 3] (lv2 := [(3, .int (nI i2_3)), (0, .ref (a 31)), (1, .int (nI p0)), (2, .int (nI p1))]) rfl ?_
  refine g_iload_n X dX4_firstHourTogether_2 rfl (j := 0) rfl ?_
  refine g_aload_n X dX4_firstHourTogether_3 rfl (j := 1) rfl ?_
  refine i_get X F 31 rfl rfl fk_X4_37 dX4_firstHourTogether_4 rfl ?_
  obtain ⟨n1, hn1, en1⟩ := rg_nat ((I 3 1).1 rfl) (by decide)
  refine i_get X F 3 rfl rfl fk_X4_57 dX4_firstHourTogether_7 (v := .int (nI n1)) (congrArg (fun z => some (Value.int z)) en1) ?_
  refine g_icmp_gt X dX4_firstHourTogether_10 (tgt := 46) (by decide) (fun q2 => ?_) (fun q2 => ?_)
  · skip
    have q2 : n1 < i2_3 := (nI_ltI (a := n1) (b := i2_3) (by omega) (by omega)).mp q2
    refine g_iconst X dX4_firstHourTogether_46 (v := -1) (by decide) ?_
    exact g_iret X hrt dX4_firstHourTogether_47 (by decide) (by decide) ⟨C, D, F, I, K, trivial⟩
  · skip
    have q2 : ¬ n1 < i2_3 := fun z => q2 ((nI_ltI (a := n1) (b := i2_3) (by omega) (by omega)).mpr z)
    refine g_aload_n X dX4_firstHourTogether_13 rfl (j := 1) rfl ?_
    refine g_iload_n X dX4_firstHourTogether_14 rfl (j := 2) rfl ?_
    refine g_iload_n X dX4_firstHourTogether_15 rfl (j := 0) rfl ?_
    refine g_callVI X (s_X4_placeOf_31 l G F I p0 (by omega) (by omega) i2_3 (by omega) (by omega) ) lk_X4_113 (F.1 31 rfl).2 (F.1 31 rfl).1 rfl rfl dX4_firstHourTogether_16 (Nat.le_of_ble_eq_true rfl) ⟨by decide, by decide⟩ ⟨by decide, by decide⟩ (fun r3 L M hp => ?_)
    obtain ⟨C, D, F, I, K1, hr⟩ := hp
    have K := K.step K1 (by decide)
    obtain ⟨hr, hpln4⟩ := hr
    rcases okp_nat hr with rfl | ⟨n4, hn4, rfl⟩
    · skip
      refine g_istore X dX4_firstHourTogether_19 (by decide) (lv2 := [(4, .int (-1)), (3, .int (nI i2_3)), (0, .ref (a 31)), (1, .int (nI p0)), (2, .int (nI p1))]) rfl ?_
      refine g_iload X dX4_firstHourTogether_21 (j := 0) rfl ?_
      refine g_iconst X dX4_firstHourTogether_23 (v := -1) (by decide) ?_
      refine g_icmp_eq X dX4_firstHourTogether_24 (tgt := 40) (by decide) (fun _ => ?_) (fun q => absurd (by decide) q)
      refine g_iinc X dX4_firstHourTogether_40 (j := 1) rfl (v := nI (i2_3 + 1)) (nI_1 i2_3) (by decide) (lv2 := [(3, .int (nI (i2_3 + 1))), (4, .int (-1)), (0, .ref (a 31)), (1, .int (nI p0)), (2, .int (nI p1))]) rfl ?_
      refine g_goto X dX4_firstHourTogether_43 (tgt := 2) (by decide) ?_
      refine g_lv [0, 2, 3, 4] (lv2 := [(3, .int (nI (i2_3 + 1))), (0, .ref (a 31)), (1, .int (nI p0)), (2, .int (nI p1))]) rfl ?_
      exact ih2 ((i2_3 + 1)) L M C D F I K ⟨by omega, by omega⟩ (by show _ < _; omega)
    · skip
      refine g_istore X dX4_firstHourTogether_19 (by decide) (lv2 := [(4, .int (nI n4)), (3, .int (nI i2_3)), (0, .ref (a 31)), (1, .int (nI p0)), (2, .int (nI p1))]) rfl ?_
      refine g_iload X dX4_firstHourTogether_21 (j := 0) rfl ?_
      refine g_iconst X dX4_firstHourTogether_23 (v := -1) (by decide) ?_
      refine g_icmp_eq X dX4_firstHourTogether_24 (tgt := 40) (by decide) (fun q => absurd q (nI_nm1 (by omega))) (fun _ => ?_)
      refine g_iload X dX4_firstHourTogether_27 (j := 0) rfl ?_
      refine g_aload_n X dX4_firstHourTogether_29 rfl (j := 2) rfl ?_
      refine g_iload_n X dX4_firstHourTogether_30 rfl (j := 4) rfl ?_
      refine g_iload_n X dX4_firstHourTogether_31 rfl (j := 1) rfl ?_
      refine g_callVI X (s_X4_placeOf_31 l G F I p1 (by omega) (by omega) i2_3 (by omega) (by omega) ) lk_X4_113 (F.1 31 rfl).2 (F.1 31 rfl).1 rfl rfl dX4_firstHourTogether_32 (Nat.le_of_ble_eq_true rfl) ⟨by decide, by decide⟩ ⟨by decide, by decide⟩ (fun r6 L M hp => ?_)
      obtain ⟨C, D, F, I, K1, hr⟩ := hp
      have K := K.step K1 (by decide)
      have hpln4 : nI n4 = C 33 (i2_3 * 8 + p0) := by rw [(K1 33 (by decide)).1]; exact hpln4
      obtain ⟨hr, hpln7⟩ := hr
      rcases okp_nat hr with rfl | ⟨n7, hn7, rfl⟩
      · skip
        refine g_icmp_ne X dX4_firstHourTogether_35 (tgt := 40) (by decide) (fun _ => ?_) (fun q => absurd q (nI_nm1 (by omega)))
        refine g_iinc X dX4_firstHourTogether_40 (j := 1) rfl (v := nI (i2_3 + 1)) (nI_1 i2_3) (by decide) (lv2 := [(3, .int (nI (i2_3 + 1))), (4, .int (nI n4)), (0, .ref (a 31)), (1, .int (nI p0)), (2, .int (nI p1))]) rfl ?_
        refine g_goto X dX4_firstHourTogether_43 (tgt := 2) (by decide) ?_
        refine g_lv [0, 2, 3, 4] (lv2 := [(3, .int (nI (i2_3 + 1))), (0, .ref (a 31)), (1, .int (nI p0)), (2, .int (nI p1))]) rfl ?_
        exact ih2 ((i2_3 + 1)) L M C D F I K ⟨by omega, by omega⟩ (by show _ < _; omega)
      · skip
        refine g_icmp_ne X dX4_firstHourTogether_35 (tgt := 40) (by decide) (fun q9 => ?_) (fun q9 => ?_)
        · skip
          have q9 : ¬ n4 = n7 := fun z => q9 ((nI_eq (a := n4) (b := n7) (by omega) (by omega)).mpr z)
          refine g_iinc X dX4_firstHourTogether_40 (j := 1) rfl (v := nI (i2_3 + 1)) (nI_1 i2_3) (by decide) (lv2 := [(3, .int (nI (i2_3 + 1))), (4, .int (nI n4)), (0, .ref (a 31)), (1, .int (nI p0)), (2, .int (nI p1))]) rfl ?_
          refine g_goto X dX4_firstHourTogether_43 (tgt := 2) (by decide) ?_
          refine g_lv [0, 2, 3, 4] (lv2 := [(3, .int (nI (i2_3 + 1))), (0, .ref (a 31)), (1, .int (nI p0)), (2, .int (nI p1))]) rfl ?_
          exact ih2 ((i2_3 + 1)) L M C D F I K ⟨by omega, by omega⟩ (by show _ < _; omega)
        · skip
          have q9 : n4 = n7 := (nI_eq (a := n4) (b := n7) (by omega) (by omega)).mp q9
          refine g_iload_n X dX4_firstHourTogether_38 rfl (j := 1) rfl ?_
          exact g_iret X hrt dX4_firstHourTogether_39 (by decide) (by decide) ⟨C, D, F, I, K, trivial⟩
set_option maxHeartbeats 4000000 in
set_option maxRecDepth 100000 in
theorem s_X4_neverComes_31 (l : Launch) (G : va_G) {cy : Nat → ClassId} {L : List Nat} {M : Nat → va_E} {a : Nat → Nat} {act : Nat → Bool} {C0 : Nat → Nat → Int32} {D0 : Nat → Nat → Int64} {R : Nat → Nat → Option Nat} (F : WI L M a act (ent cy a C0 D0 R)) (I : Inv C0) (p0 : Nat) (hp0a : 0 ≤ p0) (hp0b : p0 ≤ 7)  : MV l G cy yX4_neverComes cX4_neverComes 2 none 0 0 0 [.ref (a 31), .int (nI p0)] L M (fun L2 M2 => ∃ C2 D2, WI L2 M2 a act (ent cy a C2 D2 R) ∧ Inv C2 ∧ Kp [32] C0 D0 C2 D2 ∧ True) := by
  refine MV.of (own := RX4) rfl (by decide) (Nat.le_of_ble_eq_true rfl) ?_
  intro p e s m below meth c A X hrt hnm
  obtain ⟨C, D, hC0, hD0, F, I, K⟩ : ∃ C D, C = C0 ∧ D = D0 ∧ WI L M a act (ent cy a C D R) ∧ Inv C ∧ Kp [32] C0 D0 C D := ⟨C0, D0, rfl, rfl, F, I, Kp.rf⟩
  refine g_aload_n X dX4_neverComes_0 rfl (j := 0) rfl ?_
  refine i_get X F 31 rfl rfl fk_X4_21 dX4_neverComes_1 rfl ?_
  refine g_iload_n X dX4_neverComes_4 rfl (j := 1) rfl ?_
  refine g_bipush X dX4_neverComes_5 (v := 17) (by decide) ?_
  refine i_iast X F I 32 rfl (fun _ => rfl) dX4_neverComes_7 (vp_in_nI (by omega) (by decide)) trivial (fun M C F I K1 hC => ?_)
  have K := K.step K1 (by decide)
  exact g_vret X hrt dX4_neverComes_8 (by decide) (by decide) ⟨C, D, F, I, K, trivial⟩
set_option maxHeartbeats 4000000 in
set_option maxRecDepth 100000 in
theorem s_X4_pointAtFirst_31 (l : Launch) (G : va_G) {cy : Nat → ClassId} {L : List Nat} {M : Nat → va_E} {a : Nat → Nat} {act : Nat → Bool} {C0 : Nat → Nat → Int32} {D0 : Nat → Nat → Int64} {R : Nat → Nat → Option Nat} (F : WI L M a act (ent cy a C0 D0 R)) (I : Inv C0) (p0 : Nat) (hp0a : 0 ≤ p0) (hp0b : p0 ≤ 6) (p1 : Nat) (hp1a : 0 ≤ p1) (hp1b : p1 ≤ 3)  : MV l G cy yX4_pointAtFirst cX4_pointAtFirst 3 none 0 0 0 [.ref (a 31), .int (nI p0), .int (nI p1)] L M (fun L2 M2 => ∃ C2 D2, WI L2 M2 a act (ent cy a C2 D2 R) ∧ Inv C2 ∧ Kp [34] C0 D0 C2 D2 ∧ True) := by
  refine MV.of (own := RX4) rfl (by decide) (Nat.le_of_ble_eq_true rfl) ?_
  intro p e s m below meth c A X hrt hnm
  obtain ⟨C, D, hC0, hD0, F, I, K⟩ : ∃ C D, C = C0 ∧ D = D0 ∧ WI L M a act (ent cy a C D R) ∧ Inv C ∧ Kp [34] C0 D0 C D := ⟨C0, D0, rfl, rfl, F, I, Kp.rf⟩
  refine g_aload_n X dX4_pointAtFirst_0 rfl (j := 0) rfl ?_
  refine i_get X F 31 rfl rfl fk_X4_28 dX4_pointAtFirst_1 rfl ?_
  refine g_iload_n X dX4_pointAtFirst_4 rfl (j := 1) rfl ?_
  refine g_iload_n X dX4_pointAtFirst_5 rfl (j := 2) rfl ?_
  refine i_iast X F I 34 rfl (fun _ => rfl) dX4_pointAtFirst_6 (vp_in_nI (by omega) (by decide)) (rg_of (n := p1) (by omega) (by omega) (by omega)) (fun M C F I K1 hC => ?_)
  have K := K.step K1 (by decide)
  exact g_vret X hrt dX4_pointAtFirst_7 (by decide) (by decide) ⟨C, D, F, I, K, trivial⟩
set_option maxHeartbeats 4000000 in
set_option maxRecDepth 100000 in
theorem s_X4_prepare_31 (l : Launch) (G : va_G) {cy : Nat → ClassId} {L : List Nat} {M : Nat → va_E} {a : Nat → Nat} {act : Nat → Bool} {C0 : Nat → Nat → Int32} {D0 : Nat → Nat → Int64} {R : Nat → Nat → Option Nat} (F : WI L M a act (ent cy a C0 D0 R)) (I : Inv C0)   : MV l G cy yX4_prepare cX4_prepare 1 none 1 0 0 [.ref (a 31)] L M (fun L2 M2 => ∃ C2 D2, WI L2 M2 a act (ent cy a C2 D2 R) ∧ Inv C2 ∧ Kp [31, 32, 34] C0 D0 C2 D2 ∧ True) := by
  refine MV.of (own := RX4) rfl (by decide) (Nat.le_of_ble_eq_true rfl) ?_
  intro p e s m below meth c A X hrt hnm
  obtain ⟨C, D, hC0, hD0, F, I, K⟩ : ∃ C D, C = C0 ∧ D = D0 ∧ WI L M a act (ent cy a C D R) ∧ Inv C ∧ Kp [31, 32, 34] C0 D0 C D := ⟨C0, D0, rfl, rfl, F, I, Kp.rf⟩
  refine g_aload_n X dX4_prepare_0 rfl (j := 0) rfl ?_
  refine g_aload_n X dX4_prepare_1 rfl (j := 0) rfl ?_
  refine i_get X F 31 rfl rfl fk_X4_37 dX4_prepare_2 rfl ?_
  refine i_get X F 3 rfl rfl fk_X4_41 dX4_prepare_5 rfl ?_
  refine Go.gen (fun o1 => ?_)
  refine i_put X F I 31 rfl rfl rfl fk_X4_9 dX4_prepare_8 rfl rfl (Nat.le_of_ble_eq_true rfl) trivial (fun M C F I K1 hC => ?_)
  have K := K.step K1 (by decide)
  refine g_aload_n X dX4_prepare_11 rfl (j := 0) rfl ?_
  refine g_bipush X dX4_prepare_12 (v := 127) (by decide) ?_
  refine i_put X F I 31 rfl rfl rfl fk_X4_15 dX4_prepare_14 rfl rfl (Nat.le_of_ble_eq_true rfl) trivial (fun M C F I K1 hC => ?_)
  have K := K.step K1 (by decide)
  refine g_aload_n X dX4_prepare_17 rfl (j := 0) rfl ?_
  refine g_iconst X dX4_prepare_18 (v := 0) (by decide) ?_
  refine i_put X F I 31 rfl rfl rfl fk_X4_18 dX4_prepare_19 rfl rfl (Nat.le_of_ble_eq_true rfl) trivial (fun M C F I K1 hC => ?_)
  have K := K.step K1 (by decide)
  refine g_aload_n X dX4_prepare_22 rfl (j := 0) rfl ?_
  refine i_get X F 31 rfl rfl fk_X4_37 dX4_prepare_23 rfl ?_
  refine i_get X F 3 rfl rfl fk_X4_44 dX4_prepare_26 rfl ?_
  refine g_iconst X dX4_prepare_29 (v := 0) (by decide) ?_
  refine g_aload_n X dX4_prepare_30 rfl (j := 0) rfl ?_
  refine i_get X F 31 rfl rfl fk_X4_21 dX4_prepare_31 rfl ?_
  refine g_iconst X dX4_prepare_34 (v := 0) (by decide) ?_
  refine g_bipush X dX4_prepare_35 (v := 8) (by decide) ?_
  refine i_copyi X F I 9 rfl 32 rfl rfl (fun _ => rfl) (t0 := 1) rfl rfl wd86 wd87 wd88 wd89 (by decide) (by decide) (by decide) (by decide) (by decide) (fun _ _ => rfl) (by decide) (Nat.le_of_ble_eq_true rfl) dX4_prepare_37 (fun j => trivial) (fun M C F I K1 hC => ?_)
  have K := K.step K1 (by decide)
  refine g_aload_n X dX4_prepare_40 rfl (j := 0) rfl ?_
  refine i_get X F 31 rfl rfl fk_X4_37 dX4_prepare_41 rfl ?_
  refine i_get X F 3 rfl rfl fk_X4_51 dX4_prepare_44 rfl ?_
  refine g_iconst X dX4_prepare_47 (v := 0) (by decide) ?_
  refine g_aload_n X dX4_prepare_48 rfl (j := 0) rfl ?_
  refine i_get X F 31 rfl rfl fk_X4_28 dX4_prepare_49 rfl ?_
  refine g_iconst X dX4_prepare_52 (v := 0) (by decide) ?_
  refine g_bipush X dX4_prepare_53 (v := 7) (by decide) ?_
  refine i_copyi X F I 7 rfl 34 rfl rfl (fun _ => rfl) (t0 := 1) rfl rfl wd86 wd87 wd88 wd89 (by decide) (by decide) (by decide) (by decide) (by decide) (fun _ _ => rfl) (by decide) (Nat.le_of_ble_eq_true rfl) dX4_prepare_55 (fun j => cpy_ok (P := okv 34) (fun j => I 7 j) (fun j => I 34 j) j) (fun M C F I K1 hC => ?_)
  have K := K.step K1 (by decide)
  exact g_vret X hrt dX4_prepare_58 (by decide) (by decide) ⟨C, D, F, I, K, trivial⟩
set_option maxHeartbeats 4000000 in
set_option maxRecDepth 100000 in
theorem s_X4_begin_31 (l : Launch) (G : va_G) {cy : Nat → ClassId} {L : List Nat} {M : Nat → va_E} {a : Nat → Nat} {act : Nat → Bool} {C0 : Nat → Nat → Int32} {D0 : Nat → Nat → Int64} {R : Nat → Nat → Option Nat} (F : WI L M a act (ent cy a C0 D0 R)) (I : Inv C0)   : MV l G cy yX4_begin cX4_begin 2 none 0 0 0 [.ref (a 31)] L M (fun L2 M2 => ∃ C2 D2, WI L2 M2 a act (ent cy a C2 D2 R) ∧ Inv C2 ∧ Kp [33] C0 D0 C2 D2 ∧ True) := by
  refine MV.of (own := RX4) rfl (by decide) (Nat.le_of_ble_eq_true rfl) ?_
  intro p e s m below meth c A X hrt hnm
  obtain ⟨C, D, hC0, hD0, F, I, K⟩ : ∃ C D, C = C0 ∧ D = D0 ∧ WI L M a act (ent cy a C D R) ∧ Inv C ∧ Kp [33] C0 D0 C D := ⟨C0, D0, rfl, rfl, F, I, Kp.rf⟩
  refine g_iconst X dX4_begin_0 (v := 0) (by decide) ?_
  refine g_istore_n X dX4_begin_1 rfl (by decide) (lv2 := [(1, .int 0), (0, .ref (a 31))]) rfl ?_
  refine g_lv [0, 1] (lv2 := [(1, .int 0), (0, .ref (a 31))]) rfl ?_
  refine i_loop (mods := [33]) (fun x : Nat => 8 - x) (fun x => [(1, .int (nI (x))), (0, .ref (a 31))]) (fun x C => 0 ≤ x ∧ x ≤ 8) (fun x L M C D F I K hP ih2 => ?_) ((0) : Nat) F I K ⟨by show _ ≤ _; omega, by show _ ≤ _; omega⟩
  obtain ⟨i2_1, rfl⟩ : ∃ z, z = x := ⟨_, rfl⟩
  obtain ⟨hi2_1a, hi2_1b⟩ := hP
  refine g_lv [0, 1] (lv2 := [(1, .int (nI i2_1)), (0, .ref (a 31))]) rfl ?_
  refine g_iload_n X dX4_begin_2 rfl (j := 0) rfl ?_
  refine g_aload_n X dX4_begin_3 rfl (j := 1) rfl ?_
  refine i_get X F 31 rfl rfl fk_X4_37 dX4_begin_4 rfl ?_
  obtain ⟨n1, hn1, en1⟩ := rg_nat ((I 3 8).2.2.2 rfl) (by decide)
  refine i_get X F 3 rfl rfl fk_X4_64 dX4_begin_7 (v := .int (nI n1)) (congrArg (fun z => some (Value.int z)) en1) ?_
  refine g_icmp_ge X dX4_begin_10 (tgt := 47) (by decide) (fun q2 => ?_) (fun q2 => ?_)
  · skip
    have q2 : n1 ≤ i2_1 := (nI_leI (a := n1) (b := i2_1) (by omega) (by omega)).mp q2
    exact g_vret X hrt dX4_begin_47 (by decide) (by decide) ⟨C, D, F, I, K, trivial⟩
  · skip
    have q2 : ¬ n1 ≤ i2_1 := fun z => q2 ((nI_leI (a := n1) (b := i2_1) (by omega) (by omega)).mpr z)
    refine g_aload_n X dX4_begin_13 rfl (j := 1) rfl ?_
    refine i_get X F 31 rfl rfl fk_X4_25 dX4_begin_14 rfl ?_
    refine g_iload_n X dX4_begin_17 rfl (j := 0) rfl ?_
    refine g_aload_n X dX4_begin_18 rfl (j := 1) rfl ?_
    refine i_get X F 31 rfl rfl fk_X4_21 dX4_begin_19 rfl ?_
    refine g_iload_n X dX4_begin_22 rfl (j := 0) rfl ?_
    refine i_iald X F 32 rfl rfl dX4_begin_23 (vp_in_nI (by omega) (by decide)) rfl ?_
    refine Go.gen (fun o3 => ?_)
    refine g_if_ne X dX4_begin_24 (tgt := 39) (by decide) (fun q4 => ?_) (fun q4 => ?_)
    · skip
      refine g_iconst X dX4_begin_39 (v := -1) (by decide) ?_
      refine i_iast X F I 33 rfl (fun _ => rfl) dX4_begin_40 (vp_in_nI (by omega) (by decide)) okp_m1 (fun M C F I K1 hC => ?_)
      have K := K.step K1 (by decide)
      refine g_iinc X dX4_begin_41 (j := 0) rfl (v := nI (i2_1 + 1)) (nI_1 i2_1) (by decide) (lv2 := [(1, .int (nI (i2_1 + 1))), (0, .ref (a 31))]) rfl ?_
      refine g_goto X dX4_begin_44 (tgt := 2) (by decide) ?_
      refine g_lv [0, 1] (lv2 := [(1, .int (nI (i2_1 + 1))), (0, .ref (a 31))]) rfl ?_
      exact ih2 ((i2_1 + 1)) L M C D F I K ⟨by omega, by omega⟩ (by show _ < _; omega)
    · skip
      subst q4
      refine g_aload_n X dX4_begin_27 rfl (j := 1) rfl ?_
      refine i_get X F 31 rfl rfl fk_X4_37 dX4_begin_28 rfl ?_
      refine i_get X F 3 rfl rfl fk_X4_67 dX4_begin_31 rfl ?_
      refine g_iload_n X dX4_begin_34 rfl (j := 0) rfl ?_
      obtain ⟨n5, hn5, en5⟩ := rg_nat (I 8 i2_1) (by decide)
      refine i_iald X F 8 rfl rfl dX4_begin_35 (vp_in_nI (by omega) (by decide)) (v := nI n5) (by rw [nI_clamp (by omega)]; exact en5) ?_
      refine g_goto X dX4_begin_36 (tgt := 40) (by decide) ?_
      refine i_iast X F I 33 rfl (fun _ => rfl) dX4_begin_40 (vp_in_nI (by omega) (by decide)) (okp_of (n := n5) (by omega)) (fun M C F I K1 hC => ?_)
      have K := K.step K1 (by decide)
      refine g_iinc X dX4_begin_41 (j := 0) rfl (v := nI (i2_1 + 1)) (nI_1 i2_1) (by decide) (lv2 := [(1, .int (nI (i2_1 + 1))), (0, .ref (a 31))]) rfl ?_
      refine g_goto X dX4_begin_44 (tgt := 2) (by decide) ?_
      refine g_lv [0, 1] (lv2 := [(1, .int (nI (i2_1 + 1))), (0, .ref (a 31))]) rfl ?_
      exact ih2 ((i2_1 + 1)) L M C D F I K ⟨by omega, by omega⟩ (by show _ < _; omega)
set_option maxHeartbeats 4000000 in
set_option maxRecDepth 100000 in
theorem s_X4_turnByActs_31 (l : Launch) (G : va_G) {cy : Nat → ClassId} {L : List Nat} {M : Nat → va_E} {a : Nat → Nat} {act : Nat → Bool} {C0 : Nat → Nat → Int32} {D0 : Nat → Nat → Int64} {R : Nat → Nat → Option Nat} (F : WI L M a act (ent cy a C0 D0 R)) (I : Inv C0) (p0 : Nat) (hp0a : 0 ≤ p0) (hp0b : p0 ≤ 15)  : MV l G cy yX4_turnByActs cX4_turnByActs 6 none 1 0 0 [.ref (a 31), .int (nI p0)] L M (fun L2 M2 => ∃ C2 D2, WI L2 M2 a act (ent cy a C2 D2 R) ∧ Inv C2 ∧ Kp [34] C0 D0 C2 D2 ∧ True) := by
  refine MV.of (own := RX4) rfl (by decide) (Nat.le_of_ble_eq_true rfl) ?_
  intro p e s m below meth c A X hrt hnm
  obtain ⟨C, D, hC0, hD0, F, I, K⟩ : ∃ C D, C = C0 ∧ D = D0 ∧ WI L M a act (ent cy a C D R) ∧ Inv C ∧ Kp [34] C0 D0 C D := ⟨C0, D0, rfl, rfl, F, I, Kp.rf⟩
  refine g_iconst X dX4_turnByActs_0 (v := 0) (by decide) ?_
  refine g_istore_n X dX4_turnByActs_1 rfl (by decide) (lv2 := [(2, .int 0), (0, .ref (a 31)), (1, .int (nI p0))]) rfl ?_
  refine g_lv [0, 1, 2] (lv2 := [(2, .int 0), (0, .ref (a 31)), (1, .int (nI p0))]) rfl ?_
  refine i_loop (mods := [34]) (fun x : Nat => 7 - x) (fun x => [(2, .int (nI (x))), (0, .ref (a 31)), (1, .int (nI p0))]) (fun x C => 0 ≤ x ∧ x ≤ 7) (fun x L M C D F I K hP ih2 => ?_) ((0) : Nat) F I K ⟨by show _ ≤ _; omega, by show _ ≤ _; omega⟩
  obtain ⟨i2_2, rfl⟩ : ∃ z, z = x := ⟨_, rfl⟩
  obtain ⟨hi2_2a, hi2_2b⟩ := hP
  refine g_lv [0, 1, 2] (lv2 := [(2, .int (nI i2_2)), (0, .ref (a 31)), (1, .int (nI p0))]) rfl ?_
  refine g_iload_n X dX4_turnByActs_2 rfl (j := 0) rfl ?_
  refine g_aload_n X dX4_turnByActs_3 rfl (j := 1) rfl ?_
  refine i_get X F 31 rfl rfl fk_X4_37 dX4_turnByActs_4 rfl ?_
  obtain ⟨n1, hn1, en1⟩ := rg_nat ((I 3 5).2.2.1 rfl) (by decide)
  refine i_get X F 3 rfl rfl fk_X4_87 dX4_turnByActs_7 (v := .int (nI n1)) (congrArg (fun z => some (Value.int z)) en1) ?_
  refine g_icmp_ge X dX4_turnByActs_10 (tgt := 94) (by decide) (fun q2 => ?_) (fun q2 => ?_)
  · skip
    have q2 : n1 ≤ i2_2 := (nI_leI (a := n1) (b := i2_2) (by omega) (by omega)).mp q2
    exact g_vret X hrt dX4_turnByActs_94 (by decide) (by decide) ⟨C, D, F, I, K, trivial⟩
  · skip
    have q2 : ¬ n1 ≤ i2_2 := fun z => q2 ((nI_leI (a := n1) (b := i2_2) (by omega) (by omega)).mpr z)
    refine g_aload_n X dX4_turnByActs_13 rfl (j := 1) rfl ?_
    refine i_get X F 31 rfl rfl fk_X4_37 dX4_turnByActs_14 rfl ?_
    refine g_iload_n X dX4_turnByActs_17 rfl (j := 0) rfl ?_
    refine g_callVI X (s_X2_hasArm l G F I i2_2 (by omega) (by omega) ) lk_X4_90 (F.1 3 rfl).2 (F.1 3 rfl).1 rfl rfl dX4_turnByActs_18 (Nat.le_of_ble_eq_true rfl) ⟨by decide, by decide⟩ ⟨by decide, by decide⟩ (fun r3 L M hp => ?_)
    obtain ⟨C, D, F, I, K1, hr⟩ := hp
    have K := K.step K1 (by decide)
    rcases hr with rfl | ⟨rfl, ra4⟩
    · skip
      refine g_if_eq X dX4_turnByActs_21 (tgt := 39) (by decide) (fun _ => ?_) (fun q => absurd (by decide) q)
      refine g_iconst X dX4_turnByActs_39 (v := 0) (by decide) ?_
      refine g_istore_n X dX4_turnByActs_40 rfl (by decide) (lv2 := [(3, .int 0), (2, .int (nI i2_2)), (0, .ref (a 31)), (1, .int (nI p0))]) rfl ?_
      refine g_iconst X dX4_turnByActs_41 (v := 0) (by decide) ?_
      refine g_istore X dX4_turnByActs_42 (by decide) (lv2 := [(4, .int 0), (3, .int 0), (2, .int (nI i2_2)), (0, .ref (a 31)), (1, .int (nI p0))]) rfl ?_
      refine g_lv [0, 1, 2, 3, 4] (lv2 := [(4, .int 0), (3, .int 0), (2, .int (nI i2_2)), (0, .ref (a 31)), (1, .int (nI p0))]) rfl ?_
      refine i_loop (mods := [34]) (fun x : Nat => ((0 : Int32).toInt - (x : Int)).toNat) (fun x => [(4, .int (nI (x))), (3, .int 0), (2, .int (nI i2_2)), (0, .ref (a 31)), (1, .int (nI p0))]) (fun x C => 0 ≤ x ∧ x ≤ 2147483647) (fun x L M C D F I K hP ih44 => ?_) ((0) : Nat) F I K ⟨by show _ ≤ _; omega, by show _ ≤ _; omega⟩
      obtain ⟨i44_4, rfl⟩ : ∃ z, z = x := ⟨_, rfl⟩
      obtain ⟨hi44_4a, hi44_4b⟩ := hP
      refine g_lv [0, 1, 2, 3, 4] (lv2 := [(4, .int (nI i44_4)), (3, .int 0), (2, .int (nI i2_2)), (0, .ref (a 31)), (1, .int (nI p0))]) rfl ?_
      refine g_iload X dX4_turnByActs_44 (j := 0) rfl ?_
      refine g_iload_n X dX4_turnByActs_46 rfl (j := 1) rfl ?_
      refine g_icmp_ge X dX4_turnByActs_47 (tgt := 88) (by decide) (fun _ => ?_) (fun q => absurd (nI_pos' (by omega)) q)
      refine g_iinc X dX4_turnByActs_88 (j := 2) rfl (v := nI (i2_2 + 1)) (nI_1 i2_2) (by decide) (lv2 := [(2, .int (nI (i2_2 + 1))), (4, .int (nI i44_4)), (3, .int 0), (0, .ref (a 31)), (1, .int (nI p0))]) rfl ?_
      refine g_goto X dX4_turnByActs_91 (tgt := 2) (by decide) ?_
      refine g_lv [0, 3, 4] (lv2 := [(2, .int (nI (i2_2 + 1))), (0, .ref (a 31)), (1, .int (nI p0))]) rfl ?_
      exact ih2 ((i2_2 + 1)) L M C D F I K ⟨by omega, by omega⟩ (by show _ < _; omega)
    · skip
      refine g_if_eq X dX4_turnByActs_21 (tgt := 39) (by decide) (fun q => absurd q (by decide)) (fun _ => ?_)
      refine g_aload_n X dX4_turnByActs_24 rfl (j := 1) rfl ?_
      refine i_get X F 31 rfl rfl fk_X4_37 dX4_turnByActs_25 rfl ?_
      refine i_get X F 3 rfl rfl fk_X4_94 dX4_turnByActs_28 rfl ?_
      refine g_iload_n X dX4_turnByActs_31 rfl (j := 0) rfl ?_
      refine g_iload_n X dX4_turnByActs_32 rfl (j := 2) rfl ?_
      refine g_callVI X (s_X0_timesTurned_10 l G F I i2_2 (by omega) (by omega) p0 (by omega) (by omega) ) lk_X4_98 (F.1 10 rfl).2 (F.1 10 rfl).1 rfl rfl dX4_turnByActs_33 (Nat.le_of_ble_eq_true rfl) ⟨by decide, by decide⟩ ⟨by decide, by decide⟩ (fun r6 L M hp => ?_)
      obtain ⟨C, D, F, I, K1, hr⟩ := hp
      have K := K.step K1 (by decide)
      have ra4 : 1 ≤ (C 5 i2_2).toInt := by rw [(K1 5 (by decide)).1]; exact ra4
      refine g_goto X dX4_turnByActs_36 (tgt := 40) (by decide) ?_
      refine g_istore_n X dX4_turnByActs_40 rfl (by decide) (lv2 := [(3, .int r6), (2, .int (nI i2_2)), (0, .ref (a 31)), (1, .int (nI p0))]) rfl ?_
      refine g_iconst X dX4_turnByActs_41 (v := 0) (by decide) ?_
      refine g_istore X dX4_turnByActs_42 (by decide) (lv2 := [(4, .int 0), (3, .int r6), (2, .int (nI i2_2)), (0, .ref (a 31)), (1, .int (nI p0))]) rfl ?_
      refine g_lv [0, 1, 2, 3, 4] (lv2 := [(4, .int 0), (3, .int r6), (2, .int (nI i2_2)), (0, .ref (a 31)), (1, .int (nI p0))]) rfl ?_
      refine i_loop (mods := [34]) (fun x : Nat => (r6.toInt - (x : Int)).toNat) (fun x => [(4, .int (nI (x))), (3, .int r6), (2, .int (nI i2_2)), (0, .ref (a 31)), (1, .int (nI p0))]) (fun x C => 0 ≤ x ∧ x ≤ 2147483647) (fun x L M C D F I K hP ih44 => ?_) ((0) : Nat) F I K ⟨by show _ ≤ _; omega, by show _ ≤ _; omega⟩
      obtain ⟨i44_4, rfl⟩ : ∃ z, z = x := ⟨_, rfl⟩
      obtain ⟨hi44_4a, hi44_4b⟩ := hP
      refine g_lv [0, 1, 2, 3, 4] (lv2 := [(4, .int (nI i44_4)), (3, .int r6), (2, .int (nI i2_2)), (0, .ref (a 31)), (1, .int (nI p0))]) rfl ?_
      refine g_iload X dX4_turnByActs_44 (j := 0) rfl ?_
      refine g_iload_n X dX4_turnByActs_46 rfl (j := 1) rfl ?_
      refine g_icmp_ge X dX4_turnByActs_47 (tgt := 88) (by decide) (fun q7 => ?_) (fun q7 => ?_)
      · skip
        have q7t : r6.toInt ≤ (nI i44_4).toInt := Int32.le_iff_toInt_le.mp q7
        rw [nI_toInt (by omega)] at q7t
        have q7b := Int32.toInt_lt r6
        refine g_iinc X dX4_turnByActs_88 (j := 2) rfl (v := nI (i2_2 + 1)) (nI_1 i2_2) (by decide) (lv2 := [(2, .int (nI (i2_2 + 1))), (4, .int (nI i44_4)), (3, .int r6), (0, .ref (a 31)), (1, .int (nI p0))]) rfl ?_
        refine g_goto X dX4_turnByActs_91 (tgt := 2) (by decide) ?_
        refine g_lv [0, 3, 4] (lv2 := [(2, .int (nI (i2_2 + 1))), (0, .ref (a 31)), (1, .int (nI p0))]) rfl ?_
        exact ih2 ((i2_2 + 1)) L M C D F I K ⟨by omega, by omega⟩ (by show _ < _; omega)
      · skip
        have q7t : ¬ r6.toInt ≤ (nI i44_4).toInt := fun z => q7 (Int32.le_iff_toInt_le.mpr z)
        rw [nI_toInt (by omega)] at q7t
        have q7b := Int32.toInt_lt r6
        refine g_iload_n X dX4_turnByActs_50 rfl (j := 4) rfl ?_
        refine g_iconst X dX4_turnByActs_51 (v := 1) (by decide) ?_
        refine g_iadd X dX4_turnByActs_52 ?_
        refine Go.top (v := .int (nI (p0 + 1))) (congrArg Value.int (nI_add p0 1)) ?_
        refine g_bipush X dX4_turnByActs_53 (v := 7) (by decide) ?_
        refine g_imul X dX4_turnByActs_55 ?_
        refine Go.top (v := .int (nI ((p0 + 1) * 7))) (congrArg Value.int (pk_mul (p0 + 1) 7)) ?_
        refine g_iload_n X dX4_turnByActs_56 rfl (j := 2) rfl ?_
        refine g_iadd X dX4_turnByActs_57 ?_
        refine Go.top (v := .int (nI (((p0 + 1) * 7) + i2_2))) (congrArg Value.int (nI_add ((p0 + 1) * 7) i2_2)) ?_
        refine g_istore X dX4_turnByActs_58 (by decide) (lv2 := [(5, .int (nI (((p0 + 1) * 7) + i2_2))), (4, .int (nI i44_4)), (3, .int r6), (2, .int (nI i2_2)), (0, .ref (a 31)), (1, .int (nI p0))]) rfl ?_
        refine g_aload_n X dX4_turnByActs_60 rfl (j := 4) rfl ?_
        refine i_get X F 31 rfl rfl fk_X4_28 dX4_turnByActs_61 rfl ?_
        refine g_iload X dX4_turnByActs_64 (j := 0) rfl ?_
        refine g_aload_n X dX4_turnByActs_66 rfl (j := 4) rfl ?_
        refine i_get X F 31 rfl rfl fk_X4_37 dX4_turnByActs_67 rfl ?_
        refine g_iload_n X dX4_turnByActs_70 rfl (j := 3) rfl ?_
        refine g_aload_n X dX4_turnByActs_71 rfl (j := 4) rfl ?_
        refine i_get X F 31 rfl rfl fk_X4_28 dX4_turnByActs_72 rfl ?_
        refine g_iload X dX4_turnByActs_75 (j := 0) rfl ?_
        obtain ⟨n8, hn8, en8⟩ := rg_nat (I 34 (((p0 + 1) * 7) + i2_2)) (by decide)
        refine i_iald X F 34 rfl rfl dX4_turnByActs_77 (vp_in_nI (by omega) (by decide)) (v := nI n8) (by rw [nI_clamp (by omega)]; exact en8) ?_
        refine g_callVI X (s_X2_nextRoad l G F I i2_2 (by omega) (by omega) n8 (by omega) (by omega) ) lk_X4_104 (F.1 3 rfl).2 (F.1 3 rfl).1 rfl rfl dX4_turnByActs_78 (Nat.le_of_ble_eq_true rfl) ⟨by decide, by decide⟩ ⟨by decide, by decide⟩ (fun r9 L M hp => ?_)
        obtain ⟨C, D, F, I, K1, hr⟩ := hp
        have K := K.step K1 (by decide)
        obtain ⟨n10, hn10a, hn10b, rfl⟩ := hr
        refine i_iast X F I 34 rfl (fun _ => rfl) dX4_turnByActs_81 (vp_in_nI (by omega) (by decide)) (rg_of (n := n10) (by omega) (by omega) (by omega)) (fun M C F I K1 hC => ?_)
        have K := K.step K1 (by decide)
        refine g_iinc X dX4_turnByActs_82 (j := 1) rfl (v := nI (i44_4 + 1)) (nI_1 i44_4) (by decide) (lv2 := [(4, .int (nI (i44_4 + 1))), (5, .int (nI (((p0 + 1) * 7) + i2_2))), (3, .int r6), (2, .int (nI i2_2)), (0, .ref (a 31)), (1, .int (nI p0))]) rfl ?_
        refine g_goto X dX4_turnByActs_85 (tgt := 44) (by decide) ?_
        refine g_lv [0, 2, 3, 4, 5] (lv2 := [(4, .int (nI (i44_4 + 1))), (3, .int r6), (2, .int (nI i2_2)), (0, .ref (a 31)), (1, .int (nI p0))]) rfl ?_
        exact ih44 ((i44_4 + 1)) L M C D F I K ⟨by omega, by omega⟩ (by show _ < _; omega)
set_option maxHeartbeats 4000000 in
set_option maxRecDepth 100000 in
theorem s_X4_countGuests_31 (l : Launch) (G : va_G) {cy : Nat → ClassId} {L : List Nat} {M : Nat → va_E} {a : Nat → Nat} {act : Nat → Bool} {C0 : Nat → Nat → Int32} {D0 : Nat → Nat → Int64} {R : Nat → Nat → Option Nat} (F : WI L M a act (ent cy a C0 D0 R)) (I : Inv C0) (p0 : Nat) (hp0a : 0 ≤ p0) (hp0b : p0 ≤ 16)  : MV l G cy yX4_countGuests cX4_countGuests 4 none 1 0 0 [.ref (a 31), .int (nI p0)] L M (fun L2 M2 => ∃ C2 D2, WI L2 M2 a act (ent cy a C2 D2 R) ∧ Inv C2 ∧ Kp [36] C0 D0 C2 D2 ∧ True) := by
  refine MV.of (own := RX4) rfl (by decide) (Nat.le_of_ble_eq_true rfl) ?_
  intro p e s m below meth c A X hrt hnm
  obtain ⟨C, D, hC0, hD0, F, I, K⟩ : ∃ C D, C = C0 ∧ D = D0 ∧ WI L M a act (ent cy a C D R) ∧ Inv C ∧ Kp [36] C0 D0 C D := ⟨C0, D0, rfl, rfl, F, I, Kp.rf⟩
  refine g_aload_n X dX4_countGuests_0 rfl (j := 0) rfl ?_
  refine i_get X F 31 rfl rfl fk_X4_34 dX4_countGuests_1 rfl ?_
  refine g_iconst X dX4_countGuests_4 (v := 0) (by decide) ?_
  refine g_callSV X (s_J7_fill_53178_36 l G F I  ) lk_X4_107 rfl rfl dX4_countGuests_5 (Nat.le_of_ble_eq_true rfl) ⟨by decide, by decide⟩ ⟨by decide, by decide⟩ (fun L M hp => ?_)
  obtain ⟨C, D, F, I, K1, hr⟩ := hp
  have K := K.step K1 (by decide)
  refine g_iconst X dX4_countGuests_8 (v := 0) (by decide) ?_
  refine g_istore_n X dX4_countGuests_9 rfl (by decide) (lv2 := [(2, .int 0), (0, .ref (a 31)), (1, .int (nI p0))]) rfl ?_
  refine g_lv [0, 1, 2] (lv2 := [(2, .int 0), (0, .ref (a 31)), (1, .int (nI p0))]) rfl ?_
  refine i_loop (mods := [36]) (fun x : Nat => 8 - x) (fun x => [(2, .int (nI (x))), (0, .ref (a 31)), (1, .int (nI p0))]) (fun x C => 0 ≤ x ∧ x ≤ 8) (fun x L M C D F I K hP ih10 => ?_) ((0) : Nat) F I K ⟨by show _ ≤ _; omega, by show _ ≤ _; omega⟩
  obtain ⟨i10_2, rfl⟩ : ∃ z, z = x := ⟨_, rfl⟩
  obtain ⟨hi10_2a, hi10_2b⟩ := hP
  refine g_lv [0, 1, 2] (lv2 := [(2, .int (nI i10_2)), (0, .ref (a 31)), (1, .int (nI p0))]) rfl ?_
  refine g_iload_n X dX4_countGuests_10 rfl (j := 0) rfl ?_
  refine g_aload_n X dX4_countGuests_11 rfl (j := 1) rfl ?_
  refine i_get X F 31 rfl rfl fk_X4_37 dX4_countGuests_12 rfl ?_
  obtain ⟨n1, hn1, en1⟩ := rg_nat ((I 3 8).2.2.2 rfl) (by decide)
  refine i_get X F 3 rfl rfl fk_X4_64 dX4_countGuests_15 (v := .int (nI n1)) (congrArg (fun z => some (Value.int z)) en1) ?_
  refine g_icmp_ge X dX4_countGuests_18 (tgt := 53) (by decide) (fun q2 => ?_) (fun q2 => ?_)
  · skip
    have q2 : n1 ≤ i10_2 := (nI_leI (a := n1) (b := i10_2) (by omega) (by omega)).mp q2
    exact g_vret X hrt dX4_countGuests_53 (by decide) (by decide) ⟨C, D, F, I, K, trivial⟩
  · skip
    have q2 : ¬ n1 ≤ i10_2 := fun z => q2 ((nI_leI (a := n1) (b := i10_2) (by omega) (by omega)).mpr z)
    refine g_aload_n X dX4_countGuests_21 rfl (j := 1) rfl ?_
    refine g_iload_n X dX4_countGuests_22 rfl (j := 0) rfl ?_
    refine g_iload_n X dX4_countGuests_23 rfl (j := 2) rfl ?_
    refine g_callVI X (s_X4_placeOf_31 l G F I i10_2 (by omega) (by omega) p0 (by omega) (by omega) ) lk_X4_113 (F.1 31 rfl).2 (F.1 31 rfl).1 rfl rfl dX4_countGuests_24 (Nat.le_of_ble_eq_true rfl) ⟨by decide, by decide⟩ ⟨by decide, by decide⟩ (fun r3 L M hp => ?_)
    obtain ⟨C, D, F, I, K1, hr⟩ := hp
    have K := K.step K1 (by decide)
    obtain ⟨hr, hpln4⟩ := hr
    rcases okp_nat hr with rfl | ⟨n4, hn4, rfl⟩
    · skip
      refine g_istore_n X dX4_countGuests_27 rfl (by decide) (lv2 := [(3, .int (-1)), (2, .int (nI i10_2)), (0, .ref (a 31)), (1, .int (nI p0))]) rfl ?_
      refine g_iload_n X dX4_countGuests_28 rfl (j := 0) rfl ?_
      refine g_bipush X dX4_countGuests_29 (v := 10) (by decide) ?_
      refine g_icmp_lt X dX4_countGuests_31 (tgt := 47) (by decide) (fun _ => ?_) (fun q => absurd (by decide) q)
      refine g_iinc X dX4_countGuests_47 (j := 1) rfl (v := nI (i10_2 + 1)) (nI_1 i10_2) (by decide) (lv2 := [(2, .int (nI (i10_2 + 1))), (3, .int (-1)), (0, .ref (a 31)), (1, .int (nI p0))]) rfl ?_
      refine g_goto X dX4_countGuests_50 (tgt := 10) (by decide) ?_
      refine g_lv [0, 2, 3] (lv2 := [(2, .int (nI (i10_2 + 1))), (0, .ref (a 31)), (1, .int (nI p0))]) rfl ?_
      exact ih10 ((i10_2 + 1)) L M C D F I K ⟨by omega, by omega⟩ (by show _ < _; omega)
    · skip
      refine g_istore_n X dX4_countGuests_27 rfl (by decide) (lv2 := [(3, .int (nI n4)), (2, .int (nI i10_2)), (0, .ref (a 31)), (1, .int (nI p0))]) rfl ?_
      refine g_iload_n X dX4_countGuests_28 rfl (j := 0) rfl ?_
      refine g_bipush X dX4_countGuests_29 (v := 10) (by decide) ?_
      refine g_icmp_lt X dX4_countGuests_31 (tgt := 47) (by decide) (fun q5 => ?_) (fun q5 => ?_)
      · skip
        have q5 : n4 < 10 := (nI_ltI (a := n4) (b := 10) (by omega) (by omega)).mp q5
        refine g_iinc X dX4_countGuests_47 (j := 1) rfl (v := nI (i10_2 + 1)) (nI_1 i10_2) (by decide) (lv2 := [(2, .int (nI (i10_2 + 1))), (3, .int (nI n4)), (0, .ref (a 31)), (1, .int (nI p0))]) rfl ?_
        refine g_goto X dX4_countGuests_50 (tgt := 10) (by decide) ?_
        refine g_lv [0, 2, 3] (lv2 := [(2, .int (nI (i10_2 + 1))), (0, .ref (a 31)), (1, .int (nI p0))]) rfl ?_
        exact ih10 ((i10_2 + 1)) L M C D F I K ⟨by omega, by omega⟩ (by show _ < _; omega)
      · skip
        have q5 : ¬ n4 < 10 := fun z => q5 ((nI_ltI (a := n4) (b := 10) (by omega) (by omega)).mpr z)
        refine g_aload_n X dX4_countGuests_34 rfl (j := 2) rfl ?_
        refine i_get X F 31 rfl rfl fk_X4_34 dX4_countGuests_35 rfl ?_
        refine g_iload_n X dX4_countGuests_38 rfl (j := 0) rfl ?_
        refine g_bipush X dX4_countGuests_39 (v := 10) (by decide) ?_
        refine g_isub X dX4_countGuests_41 ?_
        refine Go.top (v := .int (nI (n4 - 10))) (congrArg Value.int (pk_sub (a := n4) (b := 10) (by omega))) ?_
        refine g_dup2 X dX4_countGuests_42 rfl rfl ?_
        refine i_iald X F 36 rfl rfl dX4_countGuests_43 (vp_in_nI (by omega) (by decide)) rfl ?_
        refine Go.gen (fun o6 => ?_)
        refine g_iconst X dX4_countGuests_44 (v := 1) (by decide) ?_
        refine g_iadd X dX4_countGuests_45 ?_
        refine Go.gen (fun o7 => ?_)
        refine i_iast X F I 36 rfl (fun _ => rfl) dX4_countGuests_46 (vp_in_nI (by omega) (by decide)) trivial (fun M C F I K1 hC => ?_)
        have K := K.step K1 (by decide)
        have hpln4 : nI n4 = C 33 (p0 * 8 + i10_2) := by rw [(K1 33 (by decide)).1]; exact hpln4
        refine g_iinc X dX4_countGuests_47 (j := 1) rfl (v := nI (i10_2 + 1)) (nI_1 i10_2) (by decide) (lv2 := [(2, .int (nI (i10_2 + 1))), (3, .int (nI n4)), (0, .ref (a 31)), (1, .int (nI p0))]) rfl ?_
        refine g_goto X dX4_countGuests_50 (tgt := 10) (by decide) ?_
        refine g_lv [0, 2, 3] (lv2 := [(2, .int (nI (i10_2 + 1))), (0, .ref (a 31)), (1, .int (nI p0))]) rfl ?_
        exact ih10 ((i10_2 + 1)) L M C D F I K ⟨by omega, by omega⟩ (by show _ < _; omega)
set_option maxHeartbeats 4000000 in
set_option maxRecDepth 100000 in
theorem s_X4_isSentFrom_31 (l : Launch) (G : va_G) {cy : Nat → ClassId} {L : List Nat} {M : Nat → va_E} {a : Nat → Nat} {act : Nat → Bool} {C0 : Nat → Nat → Int32} {D0 : Nat → Nat → Int64} {R : Nat → Nat → Option Nat} (F : WI L M a act (ent cy a C0 D0 R)) (I : Inv C0) (p0 : Nat) (hp0a : 0 ≤ p0) (hp0b : p0 ≤ 7) (p1 : Nat) (hp1a : 0 ≤ p1) (hp1b : p1 ≤ 15)  : MI l G cy yX4_isSentFrom cX4_isSentFrom 4 (some .boolean) 1 0 0 [.ref (a 31), .int (nI p0), .int (nI p1)] L M (fun r L2 M2 => ∃ C2 D2, WI L2 M2 a act (ent cy a C2 D2 R) ∧ Inv C2 ∧ Kp [] C0 D0 C2 D2 ∧ (r = 0 ∨ (r = 1 ∧ ∃ n : Nat, n < 7 ∧ C2 33 (p1 * 8 + p0) = nI n ∧ 1 ≤ (C2 5 n).toInt))) := by
  refine MI.of (own := RX4) rfl (by decide) (Nat.le_of_ble_eq_true rfl) ?_
  intro p e s m below meth c A X hrt hnm
  obtain ⟨C, D, hC0, hD0, F, I, K⟩ : ∃ C D, C = C0 ∧ D = D0 ∧ WI L M a act (ent cy a C D R) ∧ Inv C ∧ Kp [] C0 D0 C D := ⟨C0, D0, rfl, rfl, F, I, Kp.rf⟩
  refine g_aload_n X dX4_isSentFrom_0 rfl (j := 0) rfl ?_
  refine g_iload_n X dX4_isSentFrom_1 rfl (j := 1) rfl ?_
  refine g_iload_n X dX4_isSentFrom_2 rfl (j := 2) rfl ?_
  refine g_callVI X (s_X4_placeOf_31 l G F I p0 (by omega) (by omega) p1 (by omega) (by omega) ) lk_X4_113 (F.1 31 rfl).2 (F.1 31 rfl).1 rfl rfl dX4_isSentFrom_3 (Nat.le_of_ble_eq_true rfl) ⟨by decide, by decide⟩ ⟨by decide, by decide⟩ (fun r1 L M hp => ?_)
  obtain ⟨C, D, F, I, K1, hr⟩ := hp
  have K := K.step K1 (by decide)
  obtain ⟨hr, hpln2⟩ := hr
  rcases okp_nat hr with rfl | ⟨n2, hn2, rfl⟩
  · skip
    refine g_istore_n X dX4_isSentFrom_6 rfl (by decide) (lv2 := [(3, .int (-1)), (0, .ref (a 31)), (1, .int (nI p0)), (2, .int (nI p1))]) rfl ?_
    refine g_iload_n X dX4_isSentFrom_7 rfl (j := 0) rfl ?_
    refine g_iconst X dX4_isSentFrom_8 (v := -1) (by decide) ?_
    refine g_icmp_eq X dX4_isSentFrom_9 (tgt := 29) (by decide) (fun _ => ?_) (fun q => absurd (by decide) q)
    refine g_iconst X dX4_isSentFrom_29 (v := 0) (by decide) ?_
    exact g_zret X hrt rfl dX4_isSentFrom_30 (by decide) (by decide) ⟨C, D, F, I, K, Or.inl rfl⟩
  · skip
    refine g_istore_n X dX4_isSentFrom_6 rfl (by decide) (lv2 := [(3, .int (nI n2)), (0, .ref (a 31)), (1, .int (nI p0)), (2, .int (nI p1))]) rfl ?_
    refine g_iload_n X dX4_isSentFrom_7 rfl (j := 0) rfl ?_
    refine g_iconst X dX4_isSentFrom_8 (v := -1) (by decide) ?_
    refine g_icmp_eq X dX4_isSentFrom_9 (tgt := 29) (by decide) (fun q => absurd q (nI_nm1 (by omega))) (fun _ => ?_)
    refine g_iload_n X dX4_isSentFrom_12 rfl (j := 0) rfl ?_
    refine g_bipush X dX4_isSentFrom_13 (v := 10) (by decide) ?_
    refine g_icmp_ge X dX4_isSentFrom_15 (tgt := 29) (by decide) (fun q4 => ?_) (fun q4 => ?_)
    · skip
      have q4 : 10 ≤ n2 := (nI_leI (a := 10) (b := n2) (by omega) (by omega)).mp q4
      refine g_iconst X dX4_isSentFrom_29 (v := 0) (by decide) ?_
      exact g_zret X hrt rfl dX4_isSentFrom_30 (by decide) (by decide) ⟨C, D, F, I, K, Or.inl rfl⟩
    · skip
      have q4 : ¬ 10 ≤ n2 := fun z => q4 ((nI_leI (a := 10) (b := n2) (by omega) (by omega)).mpr z)
      refine g_aload_n X dX4_isSentFrom_18 rfl (j := 1) rfl ?_
      refine i_get X F 31 rfl rfl fk_X4_37 dX4_isSentFrom_19 rfl ?_
      refine g_iload_n X dX4_isSentFrom_22 rfl (j := 0) rfl ?_
      refine g_callVI X (s_X2_hasArm l G F I n2 (by omega) (by omega) ) lk_X4_90 (F.1 3 rfl).2 (F.1 3 rfl).1 rfl rfl dX4_isSentFrom_23 (Nat.le_of_ble_eq_true rfl) ⟨by decide, by decide⟩ ⟨by decide, by decide⟩ (fun r5 L M hp => ?_)
      obtain ⟨C, D, F, I, K1, hr⟩ := hp
      have K := K.step K1 (by decide)
      have hpln2 : nI n2 = C 33 (p1 * 8 + p0) := by rw [(K1 33 (by decide)).1]; exact hpln2
      rcases hr with rfl | ⟨rfl, ra6⟩
      · skip
        refine g_if_ne X dX4_isSentFrom_26 (tgt := 31) (by decide) (fun q => absurd (by decide) q) (fun _ => ?_)
        refine g_iconst X dX4_isSentFrom_29 (v := 0) (by decide) ?_
        exact g_zret X hrt rfl dX4_isSentFrom_30 (by decide) (by decide) ⟨C, D, F, I, K, Or.inl rfl⟩
      · skip
        refine g_if_ne X dX4_isSentFrom_26 (tgt := 31) (by decide) (fun _ => ?_) (fun q => absurd q (by decide))
        refine g_aload_n X dX4_isSentFrom_31 rfl (j := 1) rfl ?_
        refine i_get X F 31 rfl rfl fk_X4_18 dX4_isSentFrom_32 rfl ?_
        refine Go.gen (fun o7 => ?_)
        refine g_iload_n X dX4_isSentFrom_35 rfl (j := 3) rfl ?_
        refine g_ishr X dX4_isSentFrom_36 ?_
        refine Go.gen (fun o8 => ?_)
        refine g_iconst X dX4_isSentFrom_37 (v := 1) (by decide) ?_
        refine g_iand X dX4_isSentFrom_38 ?_
        refine Go.gen (fun o9 => ?_)
        refine g_if_ne X dX4_isSentFrom_39 (tgt := 61) (by decide) (fun q10 => ?_) (fun q10 => ?_)
        · skip
          refine g_iconst X dX4_isSentFrom_61 (v := 0) (by decide) ?_
          exact g_zret X hrt rfl dX4_isSentFrom_62 (by decide) (by decide) ⟨C, D, F, I, K, Or.inl rfl⟩
        · skip
          subst q10
          refine g_aload_n X dX4_isSentFrom_42 rfl (j := 1) rfl ?_
          refine i_get X F 31 rfl rfl fk_X4_37 dX4_isSentFrom_43 rfl ?_
          refine i_get X F 3 rfl rfl fk_X4_94 dX4_isSentFrom_46 rfl ?_
          refine g_iload_n X dX4_isSentFrom_49 rfl (j := 2) rfl ?_
          refine g_iload_n X dX4_isSentFrom_50 rfl (j := 3) rfl ?_
          refine g_callVI X (s_X0_isHeld_10 l G F I p0 (by omega) (by omega) p1 (by omega) (by omega) ) lk_X4_116 (F.1 10 rfl).2 (F.1 10 rfl).1 rfl rfl dX4_isSentFrom_51 (Nat.le_of_ble_eq_true rfl) ⟨by decide, by decide⟩ ⟨by decide, by decide⟩ (fun r11 L M hp => ?_)
          obtain ⟨C, D, F, I, K1, hr⟩ := hp
          have K := K.step K1 (by decide)
          have hpln2 : nI n2 = C 33 (p1 * 8 + p0) := by rw [(K1 33 (by decide)).1]; exact hpln2
          have ra6 : 1 ≤ (C 5 n2).toInt := by rw [(K1 5 (by decide)).1]; exact ra6
          rcases hr with rfl | rfl
          · skip
            refine g_if_ne X dX4_isSentFrom_54 (tgt := 61) (by decide) (fun q => absurd (by decide) q) (fun _ => ?_)
            refine g_iconst X dX4_isSentFrom_57 (v := 1) (by decide) ?_
            refine g_goto X dX4_isSentFrom_58 (tgt := 62) (by decide) ?_
            exact g_zret X hrt rfl dX4_isSentFrom_62 (by decide) (by decide) ⟨C, D, F, I, K, Or.inr ⟨rfl, n2, by omega, hpln2.symm, ra6⟩⟩
          · skip
            refine g_if_ne X dX4_isSentFrom_54 (tgt := 61) (by decide) (fun _ => ?_) (fun q => absurd q (by decide))
            refine g_iconst X dX4_isSentFrom_61 (v := 0) (by decide) ?_
            exact g_zret X hrt rfl dX4_isSentFrom_62 (by decide) (by decide) ⟨C, D, F, I, K, Or.inl rfl⟩
set_option maxHeartbeats 4000000 in
set_option maxRecDepth 100000 in
theorem s_X4_stayOn_31 (l : Launch) (G : va_G) {cy : Nat → ClassId} {L : List Nat} {M : Nat → va_E} {a : Nat → Nat} {act : Nat → Bool} {C0 : Nat → Nat → Int32} {D0 : Nat → Nat → Int64} {R : Nat → Nat → Option Nat} (F : WI L M a act (ent cy a C0 D0 R)) (I : Inv C0) (p0 : Nat) (hp0a : 0 ≤ p0) (hp0b : p0 ≤ 7) (p1 : Nat) (hp1a : 0 ≤ p1) (hp1b : p1 ≤ 15)  : MV l G cy yX4_stayOn cX4_stayOn 4 none 1 0 0 [.ref (a 31), .int (nI p0), .int (nI p1)] L M (fun L2 M2 => ∃ C2 D2, WI L2 M2 a act (ent cy a C2 D2 R) ∧ Inv C2 ∧ Kp [33, 35] C0 D0 C2 D2 ∧ (∃ v : Int32, ∃ u : Int32, C2 35 = upd (C0 35) (p1 * 8 + p0) v ∧ C2 33 = upd (C0 33) ((p1 + 1) * 8 + p0) u ∧ v = -1)) := by
  refine MV.of (own := RX4) rfl (by decide) (Nat.le_of_ble_eq_true rfl) ?_
  intro p e s m below meth c A X hrt hnm
  obtain ⟨C, D, hC0, hD0, F, I, K⟩ : ∃ C D, C = C0 ∧ D = D0 ∧ WI L M a act (ent cy a C D R) ∧ Inv C ∧ Kp [33, 35] C0 D0 C D := ⟨C0, D0, rfl, rfl, F, I, Kp.rf⟩
  have o33 : C 33 = C0 33 := by rw [hC0]
  have o35 : C 35 = C0 35 := by rw [hC0]
  refine g_aload_n X dX4_stayOn_0 rfl (j := 0) rfl ?_
  refine g_iload_n X dX4_stayOn_1 rfl (j := 1) rfl ?_
  refine g_iload_n X dX4_stayOn_2 rfl (j := 2) rfl ?_
  refine g_callVI X (s_X4_placeOf_31 l G F I p0 (by omega) (by omega) p1 (by omega) (by omega) ) lk_X4_113 (F.1 31 rfl).2 (F.1 31 rfl).1 rfl rfl dX4_stayOn_3 (Nat.le_of_ble_eq_true rfl) ⟨by decide, by decide⟩ ⟨by decide, by decide⟩ (fun r1 L M hp => ?_)
  obtain ⟨C, D, F, I, K1, hr⟩ := hp
  have K := K.step K1 (by decide)
  have o33 : C 33 = C0 33 := by rw [(K1 33 (by decide)).1]; exact o33
  have o35 : C 35 = C0 35 := by rw [(K1 35 (by decide)).1]; exact o35
  obtain ⟨hr, hpln2⟩ := hr
  rcases okp_nat hr with rfl | ⟨n2, hn2, rfl⟩
  · skip
    refine g_istore_n X dX4_stayOn_6 rfl (by decide) (lv2 := [(3, .int (-1)), (0, .ref (a 31)), (1, .int (nI p0)), (2, .int (nI p1))]) rfl ?_
    refine g_iload_n X dX4_stayOn_7 rfl (j := 0) rfl ?_
    refine g_iconst X dX4_stayOn_8 (v := -1) (by decide) ?_
    refine g_icmp_ne X dX4_stayOn_9 (tgt := 34) (by decide) (fun q => absurd (by decide) q) (fun _ => ?_)
    refine g_aload_n X dX4_stayOn_12 rfl (j := 1) rfl ?_
    refine i_get X F 31 rfl rfl fk_X4_21 dX4_stayOn_13 rfl ?_
    refine g_iload_n X dX4_stayOn_16 rfl (j := 2) rfl ?_
    refine i_iald X F 32 rfl rfl dX4_stayOn_17 (vp_in_nI (by omega) (by decide)) rfl ?_
    refine Go.gen (fun o3 => ?_)
    refine g_iload_n X dX4_stayOn_18 rfl (j := 3) rfl ?_
    refine g_iconst X dX4_stayOn_19 (v := 1) (by decide) ?_
    refine g_iadd X dX4_stayOn_20 ?_
    refine Go.top (v := .int (nI (p1 + 1))) (congrArg Value.int (nI_add p1 1)) ?_
    refine g_icmp_ne X dX4_stayOn_21 (tgt := 34) (by decide) (fun q4 => ?_) (fun q4 => ?_)
    · skip
      refine g_aload_n X dX4_stayOn_34 rfl (j := 1) rfl ?_
      refine i_get X F 31 rfl rfl fk_X4_31 dX4_stayOn_35 rfl ?_
      refine g_iload_n X dX4_stayOn_38 rfl (j := 3) rfl ?_
      refine g_bipush X dX4_stayOn_39 (v := 8) (by decide) ?_
      refine g_imul X dX4_stayOn_41 ?_
      refine Go.top (v := .int (nI (p1 * 8))) (congrArg Value.int (pk_mul p1 8)) ?_
      refine g_iload_n X dX4_stayOn_42 rfl (j := 2) rfl ?_
      refine g_iadd X dX4_stayOn_43 ?_
      refine Go.top (v := .int (nI ((p1 * 8) + p0))) (congrArg Value.int (nI_add (p1 * 8) p0)) ?_
      refine g_iconst X dX4_stayOn_44 (v := -1) (by decide) ?_
      refine i_iast X F I 35 rfl (fun _ => rfl) dX4_stayOn_45 (vp_in_nI (by omega) (by decide)) (show rg (-1) 3 (-1) from ⟨by decide, by decide⟩) (fun M C F I K1 hC => ?_)
      have K := K.step K1 (by decide)
      have w35 : C 35 = upd (C0 35) (((p1 * 8) + p0)) (-1) := by rw [hC, o35]; rw [nI_clamp (by omega)]
      have o33 : C 33 = C0 33 := by rw [(K1 33 (by decide)).1]; exact o33
      refine g_aload_n X dX4_stayOn_46 rfl (j := 1) rfl ?_
      refine i_get X F 31 rfl rfl fk_X4_25 dX4_stayOn_47 rfl ?_
      refine g_iload_n X dX4_stayOn_50 rfl (j := 3) rfl ?_
      refine g_iconst X dX4_stayOn_51 (v := 1) (by decide) ?_
      refine g_iadd X dX4_stayOn_52 ?_
      refine Go.top (v := .int (nI (p1 + 1))) (congrArg Value.int (nI_add p1 1)) ?_
      refine g_bipush X dX4_stayOn_53 (v := 8) (by decide) ?_
      refine g_imul X dX4_stayOn_55 ?_
      refine Go.top (v := .int (nI ((p1 + 1) * 8))) (congrArg Value.int (pk_mul (p1 + 1) 8)) ?_
      refine g_iload_n X dX4_stayOn_56 rfl (j := 2) rfl ?_
      refine g_iadd X dX4_stayOn_57 ?_
      refine Go.top (v := .int (nI (((p1 + 1) * 8) + p0))) (congrArg Value.int (nI_add ((p1 + 1) * 8) p0)) ?_
      refine g_iload_n X dX4_stayOn_58 rfl (j := 0) rfl ?_
      refine i_iast X F I 33 rfl (fun _ => rfl) dX4_stayOn_59 (vp_in_nI (by omega) (by decide)) okp_m1 (fun M C F I K1 hC => ?_)
      have K := K.step K1 (by decide)
      have w33 : C 33 = upd (C0 33) ((((p1 + 1) * 8) + p0)) (-1) := by rw [hC, o33]; rw [nI_clamp (by omega)]
      have w35 : C 35 = upd (C0 35) (((p1 * 8) + p0)) (-1) := by rw [(K1 35 (by decide)).1]; exact w35
      exact g_vret X hrt dX4_stayOn_60 (by decide) (by decide) ⟨C, D, F, I, K, ⟨_, _, w35, w33, rfl⟩⟩
    · skip
      refine g_aload_n X dX4_stayOn_24 rfl (j := 1) rfl ?_
      refine i_get X F 31 rfl rfl fk_X4_37 dX4_stayOn_25 rfl ?_
      refine i_get X F 3 rfl rfl fk_X4_67 dX4_stayOn_28 rfl ?_
      refine g_iload_n X dX4_stayOn_31 rfl (j := 2) rfl ?_
      obtain ⟨n5, hn5, en5⟩ := rg_nat (I 8 p0) (by decide)
      refine i_iald X F 8 rfl rfl dX4_stayOn_32 (vp_in_nI (by omega) (by decide)) (v := nI n5) (by rw [nI_clamp (by omega)]; exact en5) ?_
      refine g_istore_n X dX4_stayOn_33 rfl (by decide) (lv2 := [(3, .int (nI n5)), (0, .ref (a 31)), (1, .int (nI p0)), (2, .int (nI p1))]) rfl ?_
      refine g_aload_n X dX4_stayOn_34 rfl (j := 1) rfl ?_
      refine i_get X F 31 rfl rfl fk_X4_31 dX4_stayOn_35 rfl ?_
      refine g_iload_n X dX4_stayOn_38 rfl (j := 3) rfl ?_
      refine g_bipush X dX4_stayOn_39 (v := 8) (by decide) ?_
      refine g_imul X dX4_stayOn_41 ?_
      refine Go.top (v := .int (nI (p1 * 8))) (congrArg Value.int (pk_mul p1 8)) ?_
      refine g_iload_n X dX4_stayOn_42 rfl (j := 2) rfl ?_
      refine g_iadd X dX4_stayOn_43 ?_
      refine Go.top (v := .int (nI ((p1 * 8) + p0))) (congrArg Value.int (nI_add (p1 * 8) p0)) ?_
      refine g_iconst X dX4_stayOn_44 (v := -1) (by decide) ?_
      refine i_iast X F I 35 rfl (fun _ => rfl) dX4_stayOn_45 (vp_in_nI (by omega) (by decide)) (show rg (-1) 3 (-1) from ⟨by decide, by decide⟩) (fun M C F I K1 hC => ?_)
      have K := K.step K1 (by decide)
      have w35 : C 35 = upd (C0 35) (((p1 * 8) + p0)) (-1) := by rw [hC, o35]; rw [nI_clamp (by omega)]
      have o33 : C 33 = C0 33 := by rw [(K1 33 (by decide)).1]; exact o33
      refine g_aload_n X dX4_stayOn_46 rfl (j := 1) rfl ?_
      refine i_get X F 31 rfl rfl fk_X4_25 dX4_stayOn_47 rfl ?_
      refine g_iload_n X dX4_stayOn_50 rfl (j := 3) rfl ?_
      refine g_iconst X dX4_stayOn_51 (v := 1) (by decide) ?_
      refine g_iadd X dX4_stayOn_52 ?_
      refine Go.top (v := .int (nI (p1 + 1))) (congrArg Value.int (nI_add p1 1)) ?_
      refine g_bipush X dX4_stayOn_53 (v := 8) (by decide) ?_
      refine g_imul X dX4_stayOn_55 ?_
      refine Go.top (v := .int (nI ((p1 + 1) * 8))) (congrArg Value.int (pk_mul (p1 + 1) 8)) ?_
      refine g_iload_n X dX4_stayOn_56 rfl (j := 2) rfl ?_
      refine g_iadd X dX4_stayOn_57 ?_
      refine Go.top (v := .int (nI (((p1 + 1) * 8) + p0))) (congrArg Value.int (nI_add ((p1 + 1) * 8) p0)) ?_
      refine g_iload_n X dX4_stayOn_58 rfl (j := 0) rfl ?_
      refine i_iast X F I 33 rfl (fun _ => rfl) dX4_stayOn_59 (vp_in_nI (by omega) (by decide)) (okp_of (n := n5) (by omega)) (fun M C F I K1 hC => ?_)
      have K := K.step K1 (by decide)
      have w33 : C 33 = upd (C0 33) ((((p1 + 1) * 8) + p0)) (nI n5) := by rw [hC, o33]; rw [nI_clamp (by omega)]
      have w35 : C 35 = upd (C0 35) (((p1 * 8) + p0)) (-1) := by rw [(K1 35 (by decide)).1]; exact w35
      exact g_vret X hrt dX4_stayOn_60 (by decide) (by decide) ⟨C, D, F, I, K, ⟨_, _, w35, w33, rfl⟩⟩
  · skip
    refine g_istore_n X dX4_stayOn_6 rfl (by decide) (lv2 := [(3, .int (nI n2)), (0, .ref (a 31)), (1, .int (nI p0)), (2, .int (nI p1))]) rfl ?_
    refine g_iload_n X dX4_stayOn_7 rfl (j := 0) rfl ?_
    refine g_iconst X dX4_stayOn_8 (v := -1) (by decide) ?_
    refine g_icmp_ne X dX4_stayOn_9 (tgt := 34) (by decide) (fun _ => ?_) (fun q => absurd q (nI_nm1 (by omega)))
    refine g_aload_n X dX4_stayOn_34 rfl (j := 1) rfl ?_
    refine i_get X F 31 rfl rfl fk_X4_31 dX4_stayOn_35 rfl ?_
    refine g_iload_n X dX4_stayOn_38 rfl (j := 3) rfl ?_
    refine g_bipush X dX4_stayOn_39 (v := 8) (by decide) ?_
    refine g_imul X dX4_stayOn_41 ?_
    refine Go.top (v := .int (nI (p1 * 8))) (congrArg Value.int (pk_mul p1 8)) ?_
    refine g_iload_n X dX4_stayOn_42 rfl (j := 2) rfl ?_
    refine g_iadd X dX4_stayOn_43 ?_
    refine Go.top (v := .int (nI ((p1 * 8) + p0))) (congrArg Value.int (nI_add (p1 * 8) p0)) ?_
    refine g_iconst X dX4_stayOn_44 (v := -1) (by decide) ?_
    refine i_iast X F I 35 rfl (fun _ => rfl) dX4_stayOn_45 (vp_in_nI (by omega) (by decide)) (show rg (-1) 3 (-1) from ⟨by decide, by decide⟩) (fun M C F I K1 hC => ?_)
    have K := K.step K1 (by decide)
    have w35 : C 35 = upd (C0 35) (((p1 * 8) + p0)) (-1) := by rw [hC, o35]; rw [nI_clamp (by omega)]
    have o33 : C 33 = C0 33 := by rw [(K1 33 (by decide)).1]; exact o33
    have hpln2 : nI n2 = C 33 (p1 * 8 + p0) := by rw [(K1 33 (by decide)).1]; exact hpln2
    refine g_aload_n X dX4_stayOn_46 rfl (j := 1) rfl ?_
    refine i_get X F 31 rfl rfl fk_X4_25 dX4_stayOn_47 rfl ?_
    refine g_iload_n X dX4_stayOn_50 rfl (j := 3) rfl ?_
    refine g_iconst X dX4_stayOn_51 (v := 1) (by decide) ?_
    refine g_iadd X dX4_stayOn_52 ?_
    refine Go.top (v := .int (nI (p1 + 1))) (congrArg Value.int (nI_add p1 1)) ?_
    refine g_bipush X dX4_stayOn_53 (v := 8) (by decide) ?_
    refine g_imul X dX4_stayOn_55 ?_
    refine Go.top (v := .int (nI ((p1 + 1) * 8))) (congrArg Value.int (pk_mul (p1 + 1) 8)) ?_
    refine g_iload_n X dX4_stayOn_56 rfl (j := 2) rfl ?_
    refine g_iadd X dX4_stayOn_57 ?_
    refine Go.top (v := .int (nI (((p1 + 1) * 8) + p0))) (congrArg Value.int (nI_add ((p1 + 1) * 8) p0)) ?_
    refine g_iload_n X dX4_stayOn_58 rfl (j := 0) rfl ?_
    refine i_iast X F I 33 rfl (fun _ => rfl) dX4_stayOn_59 (vp_in_nI (by omega) (by decide)) (okp_of (n := n2) (by omega)) (fun M C F I K1 hC => ?_)
    have K := K.step K1 (by decide)
    have w33 : C 33 = upd (C0 33) ((((p1 + 1) * 8) + p0)) (nI n2) := by rw [hC, o33]; rw [nI_clamp (by omega)]
    have w35 : C 35 = upd (C0 35) (((p1 * 8) + p0)) (-1) := by rw [(K1 35 (by decide)).1]; exact w35
    exact g_vret X hrt dX4_stayOn_60 (by decide) (by decide) ⟨C, D, F, I, K, ⟨_, _, w35, w33, rfl⟩⟩
set_option maxHeartbeats 4000000 in
set_option maxRecDepth 100000 in
theorem s_X4_letsIn_31 (l : Launch) (G : va_G) {cy : Nat → ClassId} {L : List Nat} {M : Nat → va_E} {a : Nat → Nat} {act : Nat → Bool} {C0 : Nat → Nat → Int32} {D0 : Nat → Nat → Int64} {R : Nat → Nat → Option Nat} (F : WI L M a act (ent cy a C0 D0 R)) (I : Inv C0) (p0 : Nat) (hp0 : p0 < 7 ∨ (10 ≤ p0 ∧ p0 < 14))  : MI l G cy yX4_letsIn cX4_letsIn 3 (some .boolean) 0 0 0 [.ref (a 31), .int (nI p0)] L M (fun r L2 M2 => ∃ C2 D2, WI L2 M2 a act (ent cy a C2 D2 R) ∧ Inv C2 ∧ Kp [36] C0 D0 C2 D2 ∧ (r = 0 ∨ r = 1)) := by
  refine MI.of (own := RX4) rfl (by decide) (Nat.le_of_ble_eq_true rfl) ?_
  intro p e s m below meth c A X hrt hnm
  obtain ⟨C, D, hC0, hD0, F, I, K⟩ : ∃ C D, C = C0 ∧ D = D0 ∧ WI L M a act (ent cy a C D R) ∧ Inv C ∧ Kp [36] C0 D0 C D := ⟨C0, D0, rfl, rfl, F, I, Kp.rf⟩
  refine g_iload_n X dX4_letsIn_0 rfl (j := 1) rfl ?_
  refine g_bipush X dX4_letsIn_1 (v := 10) (by decide) ?_
  refine g_icmp_ge X dX4_letsIn_3 (tgt := 8) (by decide) (fun q1 => ?_) (fun q1 => ?_)
  · skip
    have q1 : 10 ≤ p0 := (nI_leI (a := 10) (b := p0) (by omega) (by omega)).mp q1
    refine g_iload_n X dX4_letsIn_8 rfl (j := 1) rfl ?_
    refine g_bipush X dX4_letsIn_9 (v := 10) (by decide) ?_
    refine g_isub X dX4_letsIn_11 ?_
    refine Go.top (v := .int (nI (p0 - 10))) (congrArg Value.int (pk_sub (a := p0) (b := 10) (by omega))) ?_
    refine g_istore_n X dX4_letsIn_12 rfl (by decide) (lv2 := [(2, .int (nI (p0 - 10))), (0, .ref (a 31)), (1, .int (nI p0))]) rfl ?_
    refine g_aload_n X dX4_letsIn_13 rfl (j := 1) rfl ?_
    refine i_get X F 31 rfl rfl fk_X4_34 dX4_letsIn_14 rfl ?_
    refine g_iload_n X dX4_letsIn_17 rfl (j := 0) rfl ?_
    refine i_iald X F 36 rfl rfl dX4_letsIn_18 (vp_in_nI (by omega) (by decide)) rfl ?_
    refine Go.gen (fun o2 => ?_)
    refine g_aload_n X dX4_letsIn_19 rfl (j := 1) rfl ?_
    refine i_get X F 31 rfl rfl fk_X4_37 dX4_letsIn_20 rfl ?_
    refine i_get X F 3 rfl rfl fk_X4_129 dX4_letsIn_23 rfl ?_
    refine g_iload_n X dX4_letsIn_26 rfl (j := 0) rfl ?_
    refine i_iald X F 4 rfl rfl dX4_letsIn_27 (vp_in_nI (by omega) (by decide)) rfl ?_
    refine Go.gen (fun o3 => ?_)
    refine g_icmp_lt X dX4_letsIn_28 (tgt := 33) (by decide) (fun q4 => ?_) (fun q4 => ?_)
    · skip
      refine g_aload_n X dX4_letsIn_33 rfl (j := 1) rfl ?_
      refine i_get X F 31 rfl rfl fk_X4_34 dX4_letsIn_34 rfl ?_
      refine g_iload_n X dX4_letsIn_37 rfl (j := 0) rfl ?_
      refine g_dup2 X dX4_letsIn_38 rfl rfl ?_
      refine i_iald X F 36 rfl rfl dX4_letsIn_39 (vp_in_nI (by omega) (by decide)) rfl ?_
      refine Go.gen (fun o5 => ?_)
      refine g_iconst X dX4_letsIn_40 (v := 1) (by decide) ?_
      refine g_iadd X dX4_letsIn_41 ?_
      refine Go.gen (fun o6 => ?_)
      refine i_iast X F I 36 rfl (fun _ => rfl) dX4_letsIn_42 (vp_in_nI (by omega) (by decide)) trivial (fun M C F I K1 hC => ?_)
      have K := K.step K1 (by decide)
      refine g_iconst X dX4_letsIn_43 (v := 1) (by decide) ?_
      exact g_zret X hrt rfl dX4_letsIn_44 (by decide) (by decide) ⟨C, D, F, I, K, Or.inr rfl⟩
    · skip
      refine g_iconst X dX4_letsIn_31 (v := 0) (by decide) ?_
      exact g_zret X hrt rfl dX4_letsIn_32 (by decide) (by decide) ⟨C, D, F, I, K, Or.inl rfl⟩
  · skip
    have q1 : ¬ 10 ≤ p0 := fun z => q1 ((nI_leI (a := 10) (b := p0) (by omega) (by omega)).mpr z)
    refine g_iconst X dX4_letsIn_6 (v := 1) (by decide) ?_
    exact g_zret X hrt rfl dX4_letsIn_7 (by decide) (by decide) ⟨C, D, F, I, K, Or.inr rfl⟩
set_option maxHeartbeats 4000000 in
set_option maxRecDepth 100000 in
theorem s_X4_sendOn_31 (l : Launch) (G : va_G) {cy : Nat → ClassId} {L : List Nat} {M : Nat → va_E} {a : Nat → Nat} {act : Nat → Bool} {C0 : Nat → Nat → Int32} {D0 : Nat → Nat → Int64} {R : Nat → Nat → Option Nat} (F : WI L M a act (ent cy a C0 D0 R)) (I : Inv C0) (p0 : Nat) (hp0a : 0 ≤ p0) (hp0b : p0 ≤ 7) (p1 : Nat) (hp1a : 0 ≤ p1) (hp1b : p1 ≤ 15) (hsn : ∃ n : Nat, n < 7 ∧ C0 33 (p1 * 8 + p0) = nI n ∧ 1 ≤ (C0 5 n).toInt) : MV l G cy yX4_sendOn cX4_sendOn 7 none 1 0 0 [.ref (a 31), .int (nI p0), .int (nI p1)] L M (fun L2 M2 => ∃ C2 D2, WI L2 M2 a act (ent cy a C2 D2 R) ∧ Inv C2 ∧ Kp [33, 34, 35, 36] C0 D0 C2 D2 ∧ (∃ v : Int32, ∃ u : Int32, C2 35 = upd (C0 35) (p1 * 8 + p0) v ∧ C2 33 = upd (C0 33) ((p1 + 1) * 8 + p0) u ∧ True)) := by
  refine MV.of (own := RX4) rfl (by decide) (Nat.le_of_ble_eq_true rfl) ?_
  intro p e s m below meth c A X hrt hnm
  obtain ⟨C, D, hC0, hD0, F, I, K⟩ : ∃ C D, C = C0 ∧ D = D0 ∧ WI L M a act (ent cy a C D R) ∧ Inv C ∧ Kp [33, 34, 35, 36] C0 D0 C D := ⟨C0, D0, rfl, rfl, F, I, Kp.rf⟩
  rw [← hC0] at hsn
  have o33 : C 33 = C0 33 := by rw [hC0]
  have o35 : C 35 = C0 35 := by rw [hC0]
  obtain ⟨ns, hns, ens, hra⟩ := hsn
  refine g_aload_n X dX4_sendOn_0 rfl (j := 0) rfl ?_
  refine g_iload_n X dX4_sendOn_1 rfl (j := 1) rfl ?_
  refine g_iload_n X dX4_sendOn_2 rfl (j := 2) rfl ?_
  refine g_callVI X (s_X4_placeOf_31 l G F I p0 (by omega) (by omega) p1 (by omega) (by omega) ) lk_X4_113 (F.1 31 rfl).2 (F.1 31 rfl).1 rfl rfl dX4_sendOn_3 (Nat.le_of_ble_eq_true rfl) ⟨by decide, by decide⟩ ⟨by decide, by decide⟩ (fun r1 L M hp => ?_)
  obtain ⟨C, D, F, I, K1, hr⟩ := hp
  have K := K.step K1 (by decide)
  have o33 : C 33 = C0 33 := by rw [(K1 33 (by decide)).1]; exact o33
  have o35 : C 35 = C0 35 := by rw [(K1 35 (by decide)).1]; exact o35
  have ens : C 33 (p1 * 8 + p0) = nI ns := by rw [(K1 33 (by decide)).1]; exact ens
  have hra : 1 ≤ (C 5 ns).toInt := by rw [(K1 5 (by decide)).1]; exact hra
  obtain ⟨hr, hpln2⟩ := hr
  rcases okp_nat hr with rfl | ⟨n2, hn2, rfl⟩
  · skip
    exact absurd (hpln2.trans ens).symm (nI_nm1 (by omega))
  · skip
    obtain rfl : n2 = ns := (nI_eq (by omega) (by omega)).mp (hpln2.trans ens)
    refine g_istore_n X dX4_sendOn_6 rfl (by decide) (lv2 := [(3, .int (nI n2)), (0, .ref (a 31)), (1, .int (nI p0)), (2, .int (nI p1))]) rfl ?_
    refine g_aload_n X dX4_sendOn_7 rfl (j := 1) rfl ?_
    refine i_get X F 31 rfl rfl fk_X4_15 dX4_sendOn_8 rfl ?_
    refine Go.gen (fun o3 => ?_)
    refine g_iload_n X dX4_sendOn_11 rfl (j := 0) rfl ?_
    refine g_ishr X dX4_sendOn_12 ?_
    refine Go.gen (fun o4 => ?_)
    refine g_iconst X dX4_sendOn_13 (v := 1) (by decide) ?_
    refine g_iand X dX4_sendOn_14 ?_
    refine Go.gen (fun o5 => ?_)
    refine g_if_ne X dX4_sendOn_15 (tgt := 22) (by decide) (fun q6 => ?_) (fun q6 => ?_)
    · skip
      refine g_aload_n X dX4_sendOn_22 rfl (j := 1) rfl ?_
      refine i_get X F 31 rfl rfl fk_X4_9 dX4_sendOn_23 rfl ?_
      refine Go.gen (fun o7 => ?_)
      refine g_istore X dX4_sendOn_26 (by decide) (lv2 := [(4, .int o7), (3, .int (nI n2)), (0, .ref (a 31)), (1, .int (nI p0)), (2, .int (nI p1))]) rfl ?_
      refine g_aload_n X dX4_sendOn_28 rfl (j := 2) rfl ?_
      refine i_get X F 31 rfl rfl fk_X4_37 dX4_sendOn_29 rfl ?_
      refine g_aload_n X dX4_sendOn_32 rfl (j := 2) rfl ?_
      refine i_get X F 31 rfl rfl fk_X4_28 dX4_sendOn_33 rfl ?_
      refine g_iload_n X dX4_sendOn_36 rfl (j := 4) rfl ?_
      refine g_iconst X dX4_sendOn_37 (v := 1) (by decide) ?_
      refine g_iadd X dX4_sendOn_38 ?_
      refine Go.top (v := .int (nI (p1 + 1))) (congrArg Value.int (nI_add p1 1)) ?_
      refine g_bipush X dX4_sendOn_39 (v := 7) (by decide) ?_
      refine g_imul X dX4_sendOn_41 ?_
      refine Go.top (v := .int (nI ((p1 + 1) * 7))) (congrArg Value.int (pk_mul (p1 + 1) 7)) ?_
      refine g_iload_n X dX4_sendOn_42 rfl (j := 1) rfl ?_
      refine g_iload X dX4_sendOn_43 (j := 0) rfl ?_
      refine g_callVI X (s_X2_sendBy_34 l G F I ((p1 + 1) * 7) (by omega) (by omega) n2 (by omega) (by omega) o7 hra) lk_X4_119 (F.1 3 rfl).2 (F.1 3 rfl).1 rfl rfl dX4_sendOn_45 (Nat.le_of_ble_eq_true rfl) ⟨by decide, by decide⟩ ⟨by decide, by decide⟩ (fun r8 L M hp => ?_)
      obtain ⟨C, D, F, I, K1, hr⟩ := hp
      have K := K.step K1 (by decide)
      have o33 : C 33 = C0 33 := by rw [(K1 33 (by decide)).1]; exact o33
      have o35 : C 35 = C0 35 := by rw [(K1 35 (by decide)).1]; exact o35
      have ens : C 33 (p1 * 8 + p0) = nI n2 := by rw [(K1 33 (by decide)).1]; exact ens
      have hra : 1 ≤ (C 5 n2).toInt := by rw [(K1 5 (by decide)).1]; exact hra
      have hpln2 : nI n2 = C 33 (p1 * 8 + p0) := by rw [(K1 33 (by decide)).1]; exact hpln2
      obtain ⟨n9, hn9a, hn9b, rfl⟩ := hr
      refine g_istore X dX4_sendOn_48 (by decide) (lv2 := [(5, .int (nI n9)), (4, .int o7), (3, .int (nI n2)), (0, .ref (a 31)), (1, .int (nI p0)), (2, .int (nI p1))]) rfl ?_
      refine g_aload_n X dX4_sendOn_50 rfl (j := 3) rfl ?_
      refine i_get X F 31 rfl rfl fk_X4_37 dX4_sendOn_51 rfl ?_
      refine g_iload_n X dX4_sendOn_54 rfl (j := 2) rfl ?_
      refine g_iload X dX4_sendOn_55 (j := 0) rfl ?_
      refine g_callVI X (s_X2_goal l G F I n2 (by omega) (by omega) n9 (by omega) (by omega) ) lk_X4_123 (F.1 3 rfl).2 (F.1 3 rfl).1 rfl rfl dX4_sendOn_57 (Nat.le_of_ble_eq_true rfl) ⟨by decide, by decide⟩ ⟨by decide, by decide⟩ (fun r10 L M hp => ?_)
      obtain ⟨C, D, F, I, K1, hr⟩ := hp
      have K := K.step K1 (by decide)
      have o33 : C 33 = C0 33 := by rw [(K1 33 (by decide)).1]; exact o33
      have o35 : C 35 = C0 35 := by rw [(K1 35 (by decide)).1]; exact o35
      have ens : C 33 (p1 * 8 + p0) = nI n2 := by rw [(K1 33 (by decide)).1]; exact ens
      have hra : 1 ≤ (C 5 n2).toInt := by rw [(K1 5 (by decide)).1]; exact hra
      have hpln2 : nI n2 = C 33 (p1 * 8 + p0) := by rw [(K1 33 (by decide)).1]; exact hpln2
      obtain ⟨n11, hn11, rfl⟩ := hr
      refine g_istore X dX4_sendOn_60 (by decide) (lv2 := [(6, .int (nI n11)), (5, .int (nI n9)), (4, .int o7), (3, .int (nI n2)), (0, .ref (a 31)), (1, .int (nI p0)), (2, .int (nI p1))]) rfl ?_
      refine g_aload_n X dX4_sendOn_62 rfl (j := 4) rfl ?_
      refine i_get X F 31 rfl rfl fk_X4_31 dX4_sendOn_63 rfl ?_
      refine g_iload_n X dX4_sendOn_66 rfl (j := 6) rfl ?_
      refine g_bipush X dX4_sendOn_67 (v := 8) (by decide) ?_
      refine g_imul X dX4_sendOn_69 ?_
      refine Go.top (v := .int (nI (p1 * 8))) (congrArg Value.int (pk_mul p1 8)) ?_
      refine g_iload_n X dX4_sendOn_70 rfl (j := 5) rfl ?_
      refine g_iadd X dX4_sendOn_71 ?_
      refine Go.top (v := .int (nI ((p1 * 8) + p0))) (congrArg Value.int (nI_add (p1 * 8) p0)) ?_
      refine g_iload X dX4_sendOn_72 (j := 1) rfl ?_
      refine i_iast X F I 35 rfl (fun _ => rfl) dX4_sendOn_74 (vp_in_nI (by omega) (by decide)) (rg_of (n := n9) (by omega) (by omega) (by omega)) (fun M C F I K1 hC => ?_)
      have K := K.step K1 (by decide)
      have w35 : C 35 = upd (C0 35) (((p1 * 8) + p0)) (nI n9) := by rw [hC, o35]; rw [nI_clamp (by omega)]
      have o33 : C 33 = C0 33 := by rw [(K1 33 (by decide)).1]; exact o33
      have ens : C 33 (p1 * 8 + p0) = nI n2 := by rw [(K1 33 (by decide)).1]; exact ens
      have hra : 1 ≤ (C 5 n2).toInt := by rw [(K1 5 (by decide)).1]; exact hra
      have hpln2 : nI n2 = C 33 (p1 * 8 + p0) := by rw [(K1 33 (by decide)).1]; exact hpln2
      refine g_aload_n X dX4_sendOn_75 rfl (j := 4) rfl ?_
      refine i_get X F 31 rfl rfl fk_X4_25 dX4_sendOn_76 rfl ?_
      refine g_iload_n X dX4_sendOn_79 rfl (j := 6) rfl ?_
      refine g_iconst X dX4_sendOn_80 (v := 1) (by decide) ?_
      refine g_iadd X dX4_sendOn_81 ?_
      refine Go.top (v := .int (nI (p1 + 1))) (congrArg Value.int (nI_add p1 1)) ?_
      refine g_bipush X dX4_sendOn_82 (v := 8) (by decide) ?_
      refine g_imul X dX4_sendOn_84 ?_
      refine Go.top (v := .int (nI ((p1 + 1) * 8))) (congrArg Value.int (pk_mul (p1 + 1) 8)) ?_
      refine g_iload_n X dX4_sendOn_85 rfl (j := 5) rfl ?_
      refine g_iadd X dX4_sendOn_86 ?_
      refine Go.top (v := .int (nI (((p1 + 1) * 8) + p0))) (congrArg Value.int (nI_add ((p1 + 1) * 8) p0)) ?_
      refine g_aload_n X dX4_sendOn_87 rfl (j := 4) rfl ?_
      refine g_iload X dX4_sendOn_88 (j := 0) rfl ?_
      refine g_callVI X (s_X4_letsIn_31 l G F I n11 (by omega) ) lk_X4_126 (F.1 31 rfl).2 (F.1 31 rfl).1 rfl rfl dX4_sendOn_90 (Nat.le_of_ble_eq_true rfl) ⟨by decide, by decide⟩ ⟨by decide, by decide⟩ (fun r12 L M hp => ?_)
      obtain ⟨C, D, F, I, K1, hr⟩ := hp
      have K := K.step K1 (by decide)
      have o33 : C 33 = C0 33 := by rw [(K1 33 (by decide)).1]; exact o33
      have ens : C 33 (p1 * 8 + p0) = nI n2 := by rw [(K1 33 (by decide)).1]; exact ens
      have hra : 1 ≤ (C 5 n2).toInt := by rw [(K1 5 (by decide)).1]; exact hra
      have hpln2 : nI n2 = C 33 (p1 * 8 + p0) := by rw [(K1 33 (by decide)).1]; exact hpln2
      have w35 : C 35 = upd (C0 35) (((p1 * 8) + p0)) (nI n9) := by rw [(K1 35 (by decide)).1]; exact w35
      rcases hr with rfl | rfl
      · skip
        refine g_if_eq X dX4_sendOn_93 (tgt := 101) (by decide) (fun _ => ?_) (fun q => absurd (by decide) q)
        refine g_iload_n X dX4_sendOn_101 rfl (j := 3) rfl ?_
        refine i_iast X F I 33 rfl (fun _ => rfl) dX4_sendOn_102 (vp_in_nI (by omega) (by decide)) (okp_of (n := n2) (by omega)) (fun M C F I K1 hC => ?_)
        have K := K.step K1 (by decide)
        have w33 : C 33 = upd (C0 33) ((((p1 + 1) * 8) + p0)) (nI n2) := by rw [hC, o33]; rw [nI_clamp (by omega)]
        have hra : 1 ≤ (C 5 n2).toInt := by rw [(K1 5 (by decide)).1]; exact hra
        have w35 : C 35 = upd (C0 35) (((p1 * 8) + p0)) (nI n9) := by rw [(K1 35 (by decide)).1]; exact w35
        exact g_vret X hrt dX4_sendOn_103 (by decide) (by decide) ⟨C, D, F, I, K, ⟨_, _, w35, w33, trivial⟩⟩
      · skip
        refine g_if_eq X dX4_sendOn_93 (tgt := 101) (by decide) (fun q => absurd q (by decide)) (fun _ => ?_)
        refine g_iload X dX4_sendOn_96 (j := 0) rfl ?_
        refine g_goto X dX4_sendOn_98 (tgt := 102) (by decide) ?_
        refine i_iast X F I 33 rfl (fun _ => rfl) dX4_sendOn_102 (vp_in_nI (by omega) (by decide)) (okp_of (n := n11) (by omega)) (fun M C F I K1 hC => ?_)
        have K := K.step K1 (by decide)
        have w33 : C 33 = upd (C0 33) ((((p1 + 1) * 8) + p0)) (nI n11) := by rw [hC, o33]; rw [nI_clamp (by omega)]
        have hra : 1 ≤ (C 5 n2).toInt := by rw [(K1 5 (by decide)).1]; exact hra
        have w35 : C 35 = upd (C0 35) (((p1 * 8) + p0)) (nI n9) := by rw [(K1 35 (by decide)).1]; exact w35
        exact g_vret X hrt dX4_sendOn_103 (by decide) (by decide) ⟨C, D, F, I, K, ⟨_, _, w35, w33, trivial⟩⟩
    · skip
      subst q6
      refine g_iconst X dX4_sendOn_18 (v := -1) (by decide) ?_
      refine g_goto X dX4_sendOn_19 (tgt := 26) (by decide) ?_
      refine g_istore X dX4_sendOn_26 (by decide) (lv2 := [(4, .int (-1)), (3, .int (nI n2)), (0, .ref (a 31)), (1, .int (nI p0)), (2, .int (nI p1))]) rfl ?_
      refine g_aload_n X dX4_sendOn_28 rfl (j := 2) rfl ?_
      refine i_get X F 31 rfl rfl fk_X4_37 dX4_sendOn_29 rfl ?_
      refine g_aload_n X dX4_sendOn_32 rfl (j := 2) rfl ?_
      refine i_get X F 31 rfl rfl fk_X4_28 dX4_sendOn_33 rfl ?_
      refine g_iload_n X dX4_sendOn_36 rfl (j := 4) rfl ?_
      refine g_iconst X dX4_sendOn_37 (v := 1) (by decide) ?_
      refine g_iadd X dX4_sendOn_38 ?_
      refine Go.top (v := .int (nI (p1 + 1))) (congrArg Value.int (nI_add p1 1)) ?_
      refine g_bipush X dX4_sendOn_39 (v := 7) (by decide) ?_
      refine g_imul X dX4_sendOn_41 ?_
      refine Go.top (v := .int (nI ((p1 + 1) * 7))) (congrArg Value.int (pk_mul (p1 + 1) 7)) ?_
      refine g_iload_n X dX4_sendOn_42 rfl (j := 1) rfl ?_
      refine g_iload X dX4_sendOn_43 (j := 0) rfl ?_
      refine g_callVI X (s_X2_sendBy_34 l G F I ((p1 + 1) * 7) (by omega) (by omega) n2 (by omega) (by omega) (-1 : Int32) hra) lk_X4_119 (F.1 3 rfl).2 (F.1 3 rfl).1 rfl rfl dX4_sendOn_45 (Nat.le_of_ble_eq_true rfl) ⟨by decide, by decide⟩ ⟨by decide, by decide⟩ (fun r13 L M hp => ?_)
      obtain ⟨C, D, F, I, K1, hr⟩ := hp
      have K := K.step K1 (by decide)
      have o33 : C 33 = C0 33 := by rw [(K1 33 (by decide)).1]; exact o33
      have o35 : C 35 = C0 35 := by rw [(K1 35 (by decide)).1]; exact o35
      have ens : C 33 (p1 * 8 + p0) = nI n2 := by rw [(K1 33 (by decide)).1]; exact ens
      have hra : 1 ≤ (C 5 n2).toInt := by rw [(K1 5 (by decide)).1]; exact hra
      have hpln2 : nI n2 = C 33 (p1 * 8 + p0) := by rw [(K1 33 (by decide)).1]; exact hpln2
      obtain ⟨n14, hn14a, hn14b, rfl⟩ := hr
      refine g_istore X dX4_sendOn_48 (by decide) (lv2 := [(5, .int (nI n14)), (4, .int (-1)), (3, .int (nI n2)), (0, .ref (a 31)), (1, .int (nI p0)), (2, .int (nI p1))]) rfl ?_
      refine g_aload_n X dX4_sendOn_50 rfl (j := 3) rfl ?_
      refine i_get X F 31 rfl rfl fk_X4_37 dX4_sendOn_51 rfl ?_
      refine g_iload_n X dX4_sendOn_54 rfl (j := 2) rfl ?_
      refine g_iload X dX4_sendOn_55 (j := 0) rfl ?_
      refine g_callVI X (s_X2_goal l G F I n2 (by omega) (by omega) n14 (by omega) (by omega) ) lk_X4_123 (F.1 3 rfl).2 (F.1 3 rfl).1 rfl rfl dX4_sendOn_57 (Nat.le_of_ble_eq_true rfl) ⟨by decide, by decide⟩ ⟨by decide, by decide⟩ (fun r15 L M hp => ?_)
      obtain ⟨C, D, F, I, K1, hr⟩ := hp
      have K := K.step K1 (by decide)
      have o33 : C 33 = C0 33 := by rw [(K1 33 (by decide)).1]; exact o33
      have o35 : C 35 = C0 35 := by rw [(K1 35 (by decide)).1]; exact o35
      have ens : C 33 (p1 * 8 + p0) = nI n2 := by rw [(K1 33 (by decide)).1]; exact ens
      have hra : 1 ≤ (C 5 n2).toInt := by rw [(K1 5 (by decide)).1]; exact hra
      have hpln2 : nI n2 = C 33 (p1 * 8 + p0) := by rw [(K1 33 (by decide)).1]; exact hpln2
      obtain ⟨n16, hn16, rfl⟩ := hr
      refine g_istore X dX4_sendOn_60 (by decide) (lv2 := [(6, .int (nI n16)), (5, .int (nI n14)), (4, .int (-1)), (3, .int (nI n2)), (0, .ref (a 31)), (1, .int (nI p0)), (2, .int (nI p1))]) rfl ?_
      refine g_aload_n X dX4_sendOn_62 rfl (j := 4) rfl ?_
      refine i_get X F 31 rfl rfl fk_X4_31 dX4_sendOn_63 rfl ?_
      refine g_iload_n X dX4_sendOn_66 rfl (j := 6) rfl ?_
      refine g_bipush X dX4_sendOn_67 (v := 8) (by decide) ?_
      refine g_imul X dX4_sendOn_69 ?_
      refine Go.top (v := .int (nI (p1 * 8))) (congrArg Value.int (pk_mul p1 8)) ?_
      refine g_iload_n X dX4_sendOn_70 rfl (j := 5) rfl ?_
      refine g_iadd X dX4_sendOn_71 ?_
      refine Go.top (v := .int (nI ((p1 * 8) + p0))) (congrArg Value.int (nI_add (p1 * 8) p0)) ?_
      refine g_iload X dX4_sendOn_72 (j := 1) rfl ?_
      refine i_iast X F I 35 rfl (fun _ => rfl) dX4_sendOn_74 (vp_in_nI (by omega) (by decide)) (rg_of (n := n14) (by omega) (by omega) (by omega)) (fun M C F I K1 hC => ?_)
      have K := K.step K1 (by decide)
      have w35 : C 35 = upd (C0 35) (((p1 * 8) + p0)) (nI n14) := by rw [hC, o35]; rw [nI_clamp (by omega)]
      have o33 : C 33 = C0 33 := by rw [(K1 33 (by decide)).1]; exact o33
      have ens : C 33 (p1 * 8 + p0) = nI n2 := by rw [(K1 33 (by decide)).1]; exact ens
      have hra : 1 ≤ (C 5 n2).toInt := by rw [(K1 5 (by decide)).1]; exact hra
      have hpln2 : nI n2 = C 33 (p1 * 8 + p0) := by rw [(K1 33 (by decide)).1]; exact hpln2
      refine g_aload_n X dX4_sendOn_75 rfl (j := 4) rfl ?_
      refine i_get X F 31 rfl rfl fk_X4_25 dX4_sendOn_76 rfl ?_
      refine g_iload_n X dX4_sendOn_79 rfl (j := 6) rfl ?_
      refine g_iconst X dX4_sendOn_80 (v := 1) (by decide) ?_
      refine g_iadd X dX4_sendOn_81 ?_
      refine Go.top (v := .int (nI (p1 + 1))) (congrArg Value.int (nI_add p1 1)) ?_
      refine g_bipush X dX4_sendOn_82 (v := 8) (by decide) ?_
      refine g_imul X dX4_sendOn_84 ?_
      refine Go.top (v := .int (nI ((p1 + 1) * 8))) (congrArg Value.int (pk_mul (p1 + 1) 8)) ?_
      refine g_iload_n X dX4_sendOn_85 rfl (j := 5) rfl ?_
      refine g_iadd X dX4_sendOn_86 ?_
      refine Go.top (v := .int (nI (((p1 + 1) * 8) + p0))) (congrArg Value.int (nI_add ((p1 + 1) * 8) p0)) ?_
      refine g_aload_n X dX4_sendOn_87 rfl (j := 4) rfl ?_
      refine g_iload X dX4_sendOn_88 (j := 0) rfl ?_
      refine g_callVI X (s_X4_letsIn_31 l G F I n16 (by omega) ) lk_X4_126 (F.1 31 rfl).2 (F.1 31 rfl).1 rfl rfl dX4_sendOn_90 (Nat.le_of_ble_eq_true rfl) ⟨by decide, by decide⟩ ⟨by decide, by decide⟩ (fun r17 L M hp => ?_)
      obtain ⟨C, D, F, I, K1, hr⟩ := hp
      have K := K.step K1 (by decide)
      have o33 : C 33 = C0 33 := by rw [(K1 33 (by decide)).1]; exact o33
      have ens : C 33 (p1 * 8 + p0) = nI n2 := by rw [(K1 33 (by decide)).1]; exact ens
      have hra : 1 ≤ (C 5 n2).toInt := by rw [(K1 5 (by decide)).1]; exact hra
      have hpln2 : nI n2 = C 33 (p1 * 8 + p0) := by rw [(K1 33 (by decide)).1]; exact hpln2
      have w35 : C 35 = upd (C0 35) (((p1 * 8) + p0)) (nI n14) := by rw [(K1 35 (by decide)).1]; exact w35
      rcases hr with rfl | rfl
      · skip
        refine g_if_eq X dX4_sendOn_93 (tgt := 101) (by decide) (fun _ => ?_) (fun q => absurd (by decide) q)
        refine g_iload_n X dX4_sendOn_101 rfl (j := 3) rfl ?_
        refine i_iast X F I 33 rfl (fun _ => rfl) dX4_sendOn_102 (vp_in_nI (by omega) (by decide)) (okp_of (n := n2) (by omega)) (fun M C F I K1 hC => ?_)
        have K := K.step K1 (by decide)
        have w33 : C 33 = upd (C0 33) ((((p1 + 1) * 8) + p0)) (nI n2) := by rw [hC, o33]; rw [nI_clamp (by omega)]
        have hra : 1 ≤ (C 5 n2).toInt := by rw [(K1 5 (by decide)).1]; exact hra
        have w35 : C 35 = upd (C0 35) (((p1 * 8) + p0)) (nI n14) := by rw [(K1 35 (by decide)).1]; exact w35
        exact g_vret X hrt dX4_sendOn_103 (by decide) (by decide) ⟨C, D, F, I, K, ⟨_, _, w35, w33, trivial⟩⟩
      · skip
        refine g_if_eq X dX4_sendOn_93 (tgt := 101) (by decide) (fun q => absurd q (by decide)) (fun _ => ?_)
        refine g_iload X dX4_sendOn_96 (j := 0) rfl ?_
        refine g_goto X dX4_sendOn_98 (tgt := 102) (by decide) ?_
        refine i_iast X F I 33 rfl (fun _ => rfl) dX4_sendOn_102 (vp_in_nI (by omega) (by decide)) (okp_of (n := n16) (by omega)) (fun M C F I K1 hC => ?_)
        have K := K.step K1 (by decide)
        have w33 : C 33 = upd (C0 33) ((((p1 + 1) * 8) + p0)) (nI n16) := by rw [hC, o33]; rw [nI_clamp (by omega)]
        have hra : 1 ≤ (C 5 n2).toInt := by rw [(K1 5 (by decide)).1]; exact hra
        have w35 : C 35 = upd (C0 35) (((p1 * 8) + p0)) (nI n14) := by rw [(K1 35 (by decide)).1]; exact w35
        exact g_vret X hrt dX4_sendOn_103 (by decide) (by decide) ⟨C, D, F, I, K, ⟨_, _, w35, w33, trivial⟩⟩
set_option maxHeartbeats 4000000 in
set_option maxRecDepth 100000 in
theorem s_X4_passHour_31 (l : Launch) (G : va_G) {cy : Nat → ClassId} {L : List Nat} {M : Nat → va_E} {a : Nat → Nat} {act : Nat → Bool} {C0 : Nat → Nat → Int32} {D0 : Nat → Nat → Int64} {R : Nat → Nat → Option Nat} (F : WI L M a act (ent cy a C0 D0 R)) (I : Inv C0) (p0 : Nat) (hp0a : 0 ≤ p0) (hp0b : p0 ≤ 15)  : MV l G cy yX4_passHour cX4_passHour 3 none 2 0 0 [.ref (a 31), .int (nI p0)] L M (fun L2 M2 => ∃ C2 D2, WI L2 M2 a act (ent cy a C2 D2 R) ∧ Inv C2 ∧ Kp [33, 34, 35, 36] C0 D0 C2 D2 ∧ (∀ j, j < p0 * 8 → C2 35 j = C0 35 j) ∧ (∀ j, j < (p0 + 1) * 8 → C2 33 j = C0 33 j) ∧ ∀ x : Nat, (x : Int) < (C2 3 8).toInt → x < 8 → okat (C2 33) (C2 35) (p0 * 8 + x)) := by
  refine MV.of (own := RX4) rfl (by decide) (Nat.le_of_ble_eq_true rfl) ?_
  intro p e s m below meth c A X hrt hnm
  obtain ⟨C, D, hC0, hD0, F, I, K⟩ : ∃ C D, C = C0 ∧ D = D0 ∧ WI L M a act (ent cy a C D R) ∧ Inv C ∧ Kp [33, 34, 35, 36] C0 D0 C D := ⟨C0, D0, rfl, rfl, F, I, Kp.rf⟩
  obtain ⟨n1, hn1, en1⟩ := rg_nat ((I 3 8).2.2.2 rfl) (by decide)
  rw [hC0] at en1
  have o33 : C 33 = C0 33 := by rw [hC0]
  have o35 : C 35 = C0 35 := by rw [hC0]
  refine g_aload_n X dX4_passHour_0 rfl (j := 0) rfl ?_
  refine i_get X F 31 rfl rfl fk_X4_28 dX4_passHour_1 rfl ?_
  refine g_iload_n X dX4_passHour_4 rfl (j := 1) rfl ?_
  refine g_bipush X dX4_passHour_5 (v := 7) (by decide) ?_
  refine g_imul X dX4_passHour_7 ?_
  refine Go.top (v := .int (nI (p0 * 7))) (congrArg Value.int (pk_mul p0 7)) ?_
  refine g_aload_n X dX4_passHour_8 rfl (j := 0) rfl ?_
  refine i_get X F 31 rfl rfl fk_X4_28 dX4_passHour_9 rfl ?_
  refine g_iload_n X dX4_passHour_12 rfl (j := 1) rfl ?_
  refine g_iconst X dX4_passHour_13 (v := 1) (by decide) ?_
  refine g_iadd X dX4_passHour_14 ?_
  refine Go.top (v := .int (nI (p0 + 1))) (congrArg Value.int (nI_add p0 1)) ?_
  refine g_bipush X dX4_passHour_15 (v := 7) (by decide) ?_
  refine g_imul X dX4_passHour_17 ?_
  refine Go.top (v := .int (nI ((p0 + 1) * 7))) (congrArg Value.int (pk_mul (p0 + 1) 7)) ?_
  refine g_bipush X dX4_passHour_18 (v := 7) (by decide) ?_
  refine i_copyi X F I 34 rfl 34 rfl rfl (fun _ => rfl) (t0 := 1) rfl rfl wd86 wd87 wd88 wd89 (nI_pos (by omega)) (nI_pos (by omega)) (by decide) (by have k7 : (7 : Int32).toNatClampNeg = 7 := (by decide); rw [nI_clamp (show (p0 * 7) < 2 ^ 31 by omega), k7]; omega) (by have k7 : (7 : Int32).toNatClampNeg = 7 := (by decide); rw [nI_clamp (show ((p0 + 1) * 7) < 2 ^ 31 by omega), k7]; omega) (fun _ _ => rfl) (by decide) (Nat.le_of_ble_eq_true rfl) dX4_passHour_20 (cpy_any (P := fun x => okv 34 0 x) (fun j => I 34 j) (fun j => I 34 j)) (fun M C F I K1 hC => ?_)
  have K := K.step K1 (by decide)
  have o33 : C 33 = C0 33 := by rw [(K1 33 (by decide)).1]; exact o33
  have o35 : C 35 = C0 35 := by rw [(K1 35 (by decide)).1]; exact o35
  refine g_aload_n X dX4_passHour_23 rfl (j := 0) rfl ?_
  refine g_iload_n X dX4_passHour_24 rfl (j := 1) rfl ?_
  refine g_callVV X (s_X4_turnByActs_31 l G F I p0 (by omega) (by omega) ) lk_X4_70 (F.1 31 rfl).2 (F.1 31 rfl).1 rfl rfl dX4_passHour_25 (Nat.le_of_ble_eq_true rfl) ⟨by decide, by decide⟩ ⟨by decide, by decide⟩ (fun L M hp => ?_)
  obtain ⟨C, D, F, I, K1, hr⟩ := hp
  have K := K.step K1 (by decide)
  have o33 : C 33 = C0 33 := by rw [(K1 33 (by decide)).1]; exact o33
  have o35 : C 35 = C0 35 := by rw [(K1 35 (by decide)).1]; exact o35
  refine g_aload_n X dX4_passHour_28 rfl (j := 0) rfl ?_
  refine g_iload_n X dX4_passHour_29 rfl (j := 1) rfl ?_
  refine g_callVV X (s_X4_countGuests_31 l G F I p0 (by omega) (by omega) ) lk_X4_73 (F.1 31 rfl).2 (F.1 31 rfl).1 rfl rfl dX4_passHour_30 (Nat.le_of_ble_eq_true rfl) ⟨by decide, by decide⟩ ⟨by decide, by decide⟩ (fun L M hp => ?_)
  obtain ⟨C, D, F, I, K1, hr⟩ := hp
  have K := K.step K1 (by decide)
  have o33 : C 33 = C0 33 := by rw [(K1 33 (by decide)).1]; exact o33
  have o35 : C 35 = C0 35 := by rw [(K1 35 (by decide)).1]; exact o35
  refine g_iconst X dX4_passHour_33 (v := 0) (by decide) ?_
  refine g_istore_n X dX4_passHour_34 rfl (by decide) (lv2 := [(2, .int 0), (0, .ref (a 31)), (1, .int (nI p0))]) rfl ?_
  refine g_lv [0, 1, 2] (lv2 := [(2, .int 0), (0, .ref (a 31)), (1, .int (nI p0))]) rfl ?_
  refine i_loop (mods := [33, 34, 35, 36]) (fun x : Nat => 8 - x) (fun x => [(2, .int (nI (x))), (0, .ref (a 31)), (1, .int (nI p0))]) (fun x C => 0 ≤ x ∧ x ≤ 8 ∧ (∀ y, y < x → okat (C 33) (C 35) (p0 * 8 + y)) ∧ (∀ j, j < p0 * 8 → C 35 j = C0 35 j) ∧ (∀ j, j < (p0 + 1) * 8 → C 33 j = C0 33 j)) (fun x L M C D F I K hP ih35 => ?_) ((0) : Nat) F I K ⟨by show _ ≤ _; omega, by show _ ≤ _; omega, (fun x hx => absurd hx (Nat.not_lt_zero _)), (fun j _ => by rw [o35]), (fun j _ => by rw [o33])⟩
  obtain ⟨i35_2, rfl⟩ : ∃ z, z = x := ⟨_, rfl⟩
  obtain ⟨hi35_2a, hi35_2b, hP1, hA, hB⟩ := hP
  refine g_lv [0, 1, 2] (lv2 := [(2, .int (nI i35_2)), (0, .ref (a 31)), (1, .int (nI p0))]) rfl ?_
  refine g_iload_n X dX4_passHour_35 rfl (j := 0) rfl ?_
  refine g_aload_n X dX4_passHour_36 rfl (j := 1) rfl ?_
  refine i_get X F 31 rfl rfl fk_X4_37 dX4_passHour_37 rfl ?_
  refine i_get X F 3 rfl rfl fk_X4_64 dX4_passHour_40 (v := .int (nI n1)) (congrArg (fun z => some (Value.int z)) ((congrFun (K 3 (by decide)).1 8).trans en1)) ?_
  refine g_icmp_ge X dX4_passHour_43 (tgt := 76) (by decide) (fun q2 => ?_) (fun q2 => ?_)
  · skip
    have q2 : n1 ≤ i35_2 := (nI_leI (a := n1) (b := i35_2) (by omega) (by omega)).mp q2
    exact g_vret X hrt dX4_passHour_76 (by decide) (by decide) ⟨C, D, F, I, K, hA, hB, fun x h1 h2 => hP1 x (by rw [(K 3 (by decide)).1, en1, nI_toInt (by omega)] at h1; omega)⟩
  · skip
    have q2 : ¬ n1 ≤ i35_2 := fun z => q2 ((nI_leI (a := n1) (b := i35_2) (by omega) (by omega)).mpr z)
    refine g_aload_n X dX4_passHour_46 rfl (j := 1) rfl ?_
    refine g_iload_n X dX4_passHour_47 rfl (j := 0) rfl ?_
    refine g_iload_n X dX4_passHour_48 rfl (j := 2) rfl ?_
    refine g_callVI X (s_X4_isSentFrom_31 l G F I i35_2 (by omega) (by omega) p0 (by omega) (by omega) ) lk_X4_76 (F.1 31 rfl).2 (F.1 31 rfl).1 rfl rfl dX4_passHour_49 (Nat.le_of_ble_eq_true rfl) ⟨by decide, by decide⟩ ⟨by decide, by decide⟩ (fun r3 L M hp => ?_)
    obtain ⟨C, D, F, I, K1, hr⟩ := hp
    have K := K.step K1 (by decide)
    have hP1 : ∀ x, x < i35_2 → okat (C 33) (C 35) (p0 * 8 + x) := by rw [(K1 33 (by decide)).1, (K1 35 (by decide)).1]; exact hP1
    have hA : ∀ j, j < p0 * 8 → C 35 j = C0 35 j := by rw [(K1 35 (by decide)).1]; exact hA
    have hB : ∀ j, j < (p0 + 1) * 8 → C 33 j = C0 33 j := by rw [(K1 33 (by decide)).1]; exact hB
    rcases hr with rfl | ⟨rfl, hs4⟩
    · skip
      refine g_if_eq X dX4_passHour_52 (tgt := 64) (by decide) (fun _ => ?_) (fun q => absurd (by decide) q)
      refine g_aload_n X dX4_passHour_64 rfl (j := 1) rfl ?_
      refine g_iload_n X dX4_passHour_65 rfl (j := 0) rfl ?_
      refine g_iload_n X dX4_passHour_66 rfl (j := 2) rfl ?_
      refine g_callVV X (s_X4_stayOn_31 l G F I i35_2 (by omega) (by omega) p0 (by omega) (by omega) ) lk_X4_84 (F.1 31 rfl).2 (F.1 31 rfl).1 rfl rfl dX4_passHour_67 (Nat.le_of_ble_eq_true rfl) ⟨by decide, by decide⟩ ⟨by decide, by decide⟩ (fun L M hp => ?_)
      obtain ⟨C, D, F, I, K1, hr⟩ := hp
      have K := K.step K1 (by decide)
      obtain ⟨v, u, hrt, hpl, hv⟩ := hr
      have hP1 : ∀ x, x < i35_2 + 1 → okat (C 33) (C 35) (p0 * 8 + x) := step_ok hpl hrt (by omega) (Or.inl hv) hP1
      have hA : ∀ j, j < p0 * 8 → C 35 j = C0 35 j := fun j hj => by rw [hrt, pk_un (by omega)]; exact hA j hj
      have hB : ∀ j, j < (p0 + 1) * 8 → C 33 j = C0 33 j := fun j hj => by rw [hpl, pk_un (by omega)]; exact hB j hj
      clear hrt hpl hv v u
      refine g_iinc X dX4_passHour_70 (j := 0) rfl (v := nI (i35_2 + 1)) (nI_1 i35_2) (by decide) (lv2 := [(2, .int (nI (i35_2 + 1))), (0, .ref (a 31)), (1, .int (nI p0))]) rfl ?_
      refine g_goto X dX4_passHour_73 (tgt := 35) (by decide) ?_
      refine g_lv [0, 1, 2] (lv2 := [(2, .int (nI (i35_2 + 1))), (0, .ref (a 31)), (1, .int (nI p0))]) rfl ?_
      exact ih35 ((i35_2 + 1)) L M C D F I K ⟨by omega, by omega, hP1, hA, hB⟩ (by show _ < _; omega)
    · skip
      refine g_if_eq X dX4_passHour_52 (tgt := 64) (by decide) (fun q => absurd q (by decide)) (fun _ => ?_)
      refine g_aload_n X dX4_passHour_55 rfl (j := 1) rfl ?_
      refine g_iload_n X dX4_passHour_56 rfl (j := 0) rfl ?_
      refine g_iload_n X dX4_passHour_57 rfl (j := 2) rfl ?_
      refine g_callVV X (s_X4_sendOn_31 l G F I i35_2 (by omega) (by omega) p0 (by omega) (by omega) hs4) lk_X4_80 (F.1 31 rfl).2 (F.1 31 rfl).1 rfl rfl dX4_passHour_58 (Nat.le_of_ble_eq_true rfl) ⟨by decide, by decide⟩ ⟨by decide, by decide⟩ (fun L M hp => ?_)
      obtain ⟨C, D, F, I, K1, hr⟩ := hp
      have K := K.step K1 (by decide)
      obtain ⟨v, u, hrt, hpl, hv⟩ := hr
      have hP1 : ∀ x, x < i35_2 + 1 → okat (C 33) (C 35) (p0 * 8 + x) := step_ok hpl hrt (by omega) (Or.inr (by obtain ⟨n, h1, h2, -⟩ := hs4; exact ⟨n, h1, h2⟩)) hP1
      have hA : ∀ j, j < p0 * 8 → C 35 j = C0 35 j := fun j hj => by rw [hrt, pk_un (by omega)]; exact hA j hj
      have hB : ∀ j, j < (p0 + 1) * 8 → C 33 j = C0 33 j := fun j hj => by rw [hpl, pk_un (by omega)]; exact hB j hj
      clear hrt hpl hv v u
      refine g_goto X dX4_passHour_61 (tgt := 70) (by decide) ?_
      refine g_iinc X dX4_passHour_70 (j := 0) rfl (v := nI (i35_2 + 1)) (nI_1 i35_2) (by decide) (lv2 := [(2, .int (nI (i35_2 + 1))), (0, .ref (a 31)), (1, .int (nI p0))]) rfl ?_
      refine g_goto X dX4_passHour_73 (tgt := 35) (by decide) ?_
      refine g_lv [0, 1, 2] (lv2 := [(2, .int (nI (i35_2 + 1))), (0, .ref (a 31)), (1, .int (nI p0))]) rfl ?_
      exact ih35 ((i35_2 + 1)) L M C D F I K ⟨by omega, by omega, hP1, hA, hB⟩ (by show _ < _; omega)
set_option maxHeartbeats 4000000 in
set_option maxRecDepth 100000 in
theorem s_X4_run_31 (l : Launch) (G : va_G) {cy : Nat → ClassId} {L : List Nat} {M : Nat → va_E} {a : Nat → Nat} {act : Nat → Bool} {C0 : Nat → Nat → Int32} {D0 : Nat → Nat → Int64} {R : Nat → Nat → Option Nat} (F : WI L M a act (ent cy a C0 D0 R)) (I : Inv C0)   : MV l G cy yX4_run cX4_run 2 none 3 0 0 [.ref (a 31)] L M (fun L2 M2 => ∃ C2 D2, WI L2 M2 a act (ent cy a C2 D2 R) ∧ Inv C2 ∧ Kp [33, 34, 35, 36] C0 D0 C2 D2 ∧ NowOk (C2 3) (C2 33) (C2 35)) := by
  refine MV.of (own := RX4) rfl (by decide) (Nat.le_of_ble_eq_true rfl) ?_
  intro p e s m below meth c A X hrt hnm
  obtain ⟨C, D, hC0, hD0, F, I, K⟩ : ∃ C D, C = C0 ∧ D = D0 ∧ WI L M a act (ent cy a C D R) ∧ Inv C ∧ Kp [33, 34, 35, 36] C0 D0 C D := ⟨C0, D0, rfl, rfl, F, I, Kp.rf⟩
  obtain ⟨n1, hn1, en1⟩ := rg_nat ((I 3 1).1 rfl) (by decide)
  rw [hC0] at en1
  refine g_aload_n X dX4_run_0 rfl (j := 0) rfl ?_
  refine g_callVV X (s_X4_begin_31 l G F I  ) lk_X4_54 (F.1 31 rfl).2 (F.1 31 rfl).1 rfl rfl dX4_run_1 (Nat.le_of_ble_eq_true rfl) ⟨by decide, by decide⟩ ⟨by decide, by decide⟩ (fun L M hp => ?_)
  obtain ⟨C, D, F, I, K1, hr⟩ := hp
  have K := K.step K1 (by decide)
  refine g_iconst X dX4_run_4 (v := 0) (by decide) ?_
  refine g_istore_n X dX4_run_5 rfl (by decide) (lv2 := [(1, .int 0), (0, .ref (a 31))]) rfl ?_
  refine g_lv [0, 1] (lv2 := [(1, .int 0), (0, .ref (a 31))]) rfl ?_
  refine i_loop (mods := [33, 34, 35, 36]) (fun x : Nat => 16 - x) (fun x => [(1, .int (nI (x))), (0, .ref (a 31))]) (fun x C => 0 ≤ x ∧ x ≤ 16 ∧ (∀ h w : Nat, h < x → (w : Int) < (C 3 8).toInt → w < 8 → okat (C 33) (C 35) (h * 8 + w))) (fun x L M C D F I K hP ih6 => ?_) ((0) : Nat) F I K ⟨by show _ ≤ _; omega, by show _ ≤ _; omega, (fun h w hx => absurd hx (Nat.not_lt_zero _))⟩
  obtain ⟨i6_1, rfl⟩ : ∃ z, z = x := ⟨_, rfl⟩
  obtain ⟨hi6_1a, hi6_1b, hR⟩ := hP
  refine g_lv [0, 1] (lv2 := [(1, .int (nI i6_1)), (0, .ref (a 31))]) rfl ?_
  refine g_iload_n X dX4_run_6 rfl (j := 0) rfl ?_
  refine g_aload_n X dX4_run_7 rfl (j := 1) rfl ?_
  refine i_get X F 31 rfl rfl fk_X4_37 dX4_run_8 rfl ?_
  refine i_get X F 3 rfl rfl fk_X4_57 dX4_run_11 (v := .int (nI n1)) (congrArg (fun z => some (Value.int z)) ((congrFun (K 3 (by decide)).1 1).trans en1)) ?_
  refine g_icmp_ge X dX4_run_14 (tgt := 28) (by decide) (fun q2 => ?_) (fun q2 => ?_)
  · skip
    have q2 : n1 ≤ i6_1 := (nI_leI (a := n1) (b := i6_1) (by omega) (by omega)).mp q2
    exact g_vret X hrt dX4_run_28 (by decide) (by decide) ⟨C, D, F, I, K, (fun h w h1 h2 h3 => hR h w (by rw [(K 3 (by decide)).1, en1, nI_toInt (by omega)] at h1; omega) h2 h3)⟩
  · skip
    have q2 : ¬ n1 ≤ i6_1 := fun z => q2 ((nI_leI (a := n1) (b := i6_1) (by omega) (by omega)).mpr z)
    refine g_aload_n X dX4_run_17 rfl (j := 1) rfl ?_
    refine g_iload_n X dX4_run_18 rfl (j := 0) rfl ?_
    refine g_callVV X (s_X4_passHour_31 l G F I i6_1 (by omega) (by omega) ) lk_X4_60 (F.1 31 rfl).2 (F.1 31 rfl).1 rfl rfl dX4_run_19 (Nat.le_of_ble_eq_true rfl) ⟨by decide, by decide⟩ ⟨by decide, by decide⟩ (fun L M hp => ?_)
    obtain ⟨C, D, F, I, K1, hr⟩ := hp
    have K := K.step K1 (by decide)
    have hR : ∀ h w : Nat, h < i6_1 + 1 → (w : Int) < (C 3 8).toInt → w < 8 → okat (C 33) (C 35) (h * 8 + w) := run_st hr (K1 3 (by decide)).1 hR
    refine g_iinc X dX4_run_22 (j := 0) rfl (v := nI (i6_1 + 1)) (nI_1 i6_1) (by decide) (lv2 := [(1, .int (nI (i6_1 + 1))), (0, .ref (a 31))]) rfl ?_
    refine g_goto X dX4_run_25 (tgt := 6) (by decide) ?_
    refine g_lv [0, 1] (lv2 := [(1, .int (nI (i6_1 + 1))), (0, .ref (a 31))]) rfl ?_
    exact ih6 ((i6_1 + 1)) L M C D F I K ⟨by omega, by omega, hR⟩ (by show _ < _; omega)
