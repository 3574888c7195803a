set_option maxHeartbeats 4000000 in
set_option maxRecDepth 100000 in
theorem s_X7_isSlot_0 (l : Launch) (G : va_G) {cy : Nat → ClassId} {L : List Nat} {M : Nat → va_E} {a : Nat → Nat} {act : Nat → Bool} {C0 : Nat → Nat → Int32} {D0 : Nat → Nat → Int64} {R : Nat → Nat → Option Nat} (F : WI L M a act (ent cy a C0 D0 R)) (I : Inv C0)   : MI l G cy yX7_isSlot cX7_isSlot 1 (some .boolean) 0 0 0 [.int 0] L M (fun r L2 M2 => ∃ C2 D2, WI L2 M2 a act (ent cy a C2 D2 R) ∧ Inv C2 ∧ Kp [] C0 D0 C2 D2 ∧ r = 1) := by
  refine MI.of (own := RX7) rfl (by decide) (Nat.le_of_ble_eq_true rfl) ?_
  intro p e s m below meth c A X hrt hnm
  obtain ⟨C, D, hC0, hD0, F, I, K⟩ : ∃ C D, C = C0 ∧ D = D0 ∧ WI L M a act (ent cy a C D R) ∧ Inv C ∧ Kp [] C0 D0 C D := ⟨C0, D0, rfl, rfl, F, I, Kp.rf⟩
  refine g_iload_n X dX7_isSlot_0 rfl (j := 0) rfl ?_
  refine g_if_lt X dX7_isSlot_1 (tgt := 13) (by decide) (fun q => absurd q (by decide)) (fun _ => ?_)
  refine g_iload_n X dX7_isSlot_4 rfl (j := 0) rfl ?_
  refine g_iconst X dX7_isSlot_5 (v := 4) (by decide) ?_
  refine g_icmp_ge X dX7_isSlot_6 (tgt := 13) (by decide) (fun q => absurd q (by decide)) (fun _ => ?_)
  refine g_iconst X dX7_isSlot_9 (v := 1) (by decide) ?_
  refine g_goto X dX7_isSlot_10 (tgt := 14) (by decide) ?_
  exact g_zret X hrt rfl dX7_isSlot_14 (by decide) (by decide) ⟨C, D, F, I, K, rfl⟩
set_option maxHeartbeats 4000000 in
set_option maxRecDepth 100000 in
theorem s_X7_isSlot_1 (l : Launch) (G : va_G) {cy : Nat → ClassId} {L : List Nat} {M : Nat → va_E} {a : Nat → Nat} {act : Nat → Bool} {C0 : Nat → Nat → Int32} {D0 : Nat → Nat → Int64} {R : Nat → Nat → Option Nat} (F : WI L M a act (ent cy a C0 D0 R)) (I : Inv C0)   : MI l G cy yX7_isSlot cX7_isSlot 1 (some .boolean) 0 0 0 [.int 1] L M (fun r L2 M2 => ∃ C2 D2, WI L2 M2 a act (ent cy a C2 D2 R) ∧ Inv C2 ∧ Kp [] C0 D0 C2 D2 ∧ r = 1) := by
  refine MI.of (own := RX7) rfl (by decide) (Nat.le_of_ble_eq_true rfl) ?_
  intro p e s m below meth c A X hrt hnm
  obtain ⟨C, D, hC0, hD0, F, I, K⟩ : ∃ C D, C = C0 ∧ D = D0 ∧ WI L M a act (ent cy a C D R) ∧ Inv C ∧ Kp [] C0 D0 C D := ⟨C0, D0, rfl, rfl, F, I, Kp.rf⟩
  refine g_iload_n X dX7_isSlot_0 rfl (j := 0) rfl ?_
  refine g_if_lt X dX7_isSlot_1 (tgt := 13) (by decide) (fun q => absurd q (by decide)) (fun _ => ?_)
  refine g_iload_n X dX7_isSlot_4 rfl (j := 0) rfl ?_
  refine g_iconst X dX7_isSlot_5 (v := 4) (by decide) ?_
  refine g_icmp_ge X dX7_isSlot_6 (tgt := 13) (by decide) (fun q => absurd q (by decide)) (fun _ => ?_)
  refine g_iconst X dX7_isSlot_9 (v := 1) (by decide) ?_
  refine g_goto X dX7_isSlot_10 (tgt := 14) (by decide) ?_
  exact g_zret X hrt rfl dX7_isSlot_14 (by decide) (by decide) ⟨C, D, F, I, K, rfl⟩
set_option maxHeartbeats 4000000 in
set_option maxRecDepth 100000 in
theorem s_X7_isSlot_2 (l : Launch) (G : va_G) {cy : Nat → ClassId} {L : List Nat} {M : Nat → va_E} {a : Nat → Nat} {act : Nat → Bool} {C0 : Nat → Nat → Int32} {D0 : Nat → Nat → Int64} {R : Nat → Nat → Option Nat} (F : WI L M a act (ent cy a C0 D0 R)) (I : Inv C0)   : MI l G cy yX7_isSlot cX7_isSlot 1 (some .boolean) 0 0 0 [.int 2] L M (fun r L2 M2 => ∃ C2 D2, WI L2 M2 a act (ent cy a C2 D2 R) ∧ Inv C2 ∧ Kp [] C0 D0 C2 D2 ∧ r = 1) := by
  refine MI.of (own := RX7) rfl (by decide) (Nat.le_of_ble_eq_true rfl) ?_
  intro p e s m below meth c A X hrt hnm
  obtain ⟨C, D, hC0, hD0, F, I, K⟩ : ∃ C D, C = C0 ∧ D = D0 ∧ WI L M a act (ent cy a C D R) ∧ Inv C ∧ Kp [] C0 D0 C D := ⟨C0, D0, rfl, rfl, F, I, Kp.rf⟩
  refine g_iload_n X dX7_isSlot_0 rfl (j := 0) rfl ?_
  refine g_if_lt X dX7_isSlot_1 (tgt := 13) (by decide) (fun q => absurd q (by decide)) (fun _ => ?_)
  refine g_iload_n X dX7_isSlot_4 rfl (j := 0) rfl ?_
  refine g_iconst X dX7_isSlot_5 (v := 4) (by decide) ?_
  refine g_icmp_ge X dX7_isSlot_6 (tgt := 13) (by decide) (fun q => absurd q (by decide)) (fun _ => ?_)
  refine g_iconst X dX7_isSlot_9 (v := 1) (by decide) ?_
  refine g_goto X dX7_isSlot_10 (tgt := 14) (by decide) ?_
  exact g_zret X hrt rfl dX7_isSlot_14 (by decide) (by decide) ⟨C, D, F, I, K, rfl⟩
set_option maxHeartbeats 4000000 in
set_option maxRecDepth 100000 in
theorem s_X7_isSlot_3 (l : Launch) (G : va_G) {cy : Nat → ClassId} {L : List Nat} {M : Nat → va_E} {a : Nat → Nat} {act : Nat → Bool} {C0 : Nat → Nat → Int32} {D0 : Nat → Nat → Int64} {R : Nat → Nat → Option Nat} (F : WI L M a act (ent cy a C0 D0 R)) (I : Inv C0)   : MI l G cy yX7_isSlot cX7_isSlot 1 (some .boolean) 0 0 0 [.int 3] L M (fun r L2 M2 => ∃ C2 D2, WI L2 M2 a act (ent cy a C2 D2 R) ∧ Inv C2 ∧ Kp [] C0 D0 C2 D2 ∧ r = 1) := by
  refine MI.of (own := RX7) rfl (by decide) (Nat.le_of_ble_eq_true rfl) ?_
  intro p e s m below meth c A X hrt hnm
  obtain ⟨C, D, hC0, hD0, F, I, K⟩ : ∃ C D, C = C0 ∧ D = D0 ∧ WI L M a act (ent cy a C D R) ∧ Inv C ∧ Kp [] C0 D0 C D := ⟨C0, D0, rfl, rfl, F, I, Kp.rf⟩
  refine g_iload_n X dX7_isSlot_0 rfl (j := 0) rfl ?_
  refine g_if_lt X dX7_isSlot_1 (tgt := 13) (by decide) (fun q => absurd q (by decide)) (fun _ => ?_)
  refine g_iload_n X dX7_isSlot_4 rfl (j := 0) rfl ?_
  refine g_iconst X dX7_isSlot_5 (v := 4) (by decide) ?_
  refine g_icmp_ge X dX7_isSlot_6 (tgt := 13) (by decide) (fun q => absurd q (by decide)) (fun _ => ?_)
  refine g_iconst X dX7_isSlot_9 (v := 1) (by decide) ?_
  refine g_goto X dX7_isSlot_10 (tgt := 14) (by decide) ?_
  exact g_zret X hrt rfl dX7_isSlot_14 (by decide) (by decide) ⟨C, D, F, I, K, rfl⟩
set_option maxHeartbeats 4000000 in
set_option maxRecDepth 100000 in
theorem s_X7_isSlot_x (l : Launch) (G : va_G) {cy : Nat → ClassId} {L : List Nat} {M : Nat → va_E} {a : Nat → Nat} {act : Nat → Bool} {C0 : Nat → Nat → Int32} {D0 : Nat → Nat → Int64} {R : Nat → Nat → Option Nat} (F : WI L M a act (ent cy a C0 D0 R)) (I : Inv C0) (p0 : Int32) (hno : p0 < 0 ∨ 4 ≤ p0) : MI l G cy yX7_isSlot cX7_isSlot 1 (some .boolean) 0 0 0 [.int p0] L M (fun r L2 M2 => ∃ C2 D2, WI L2 M2 a act (ent cy a C2 D2 R) ∧ Inv C2 ∧ Kp [] C0 D0 C2 D2 ∧ r = 0) := by
  refine MI.of (own := RX7) rfl (by decide) (Nat.le_of_ble_eq_true rfl) ?_
  intro p e s m below meth c A X hrt hnm
  obtain ⟨C, D, hC0, hD0, F, I, K⟩ : ∃ C D, C = C0 ∧ D = D0 ∧ WI L M a act (ent cy a C D R) ∧ Inv C ∧ Kp [] C0 D0 C D := ⟨C0, D0, rfl, rfl, F, I, Kp.rf⟩
  refine g_iload_n X dX7_isSlot_0 rfl (j := 0) rfl ?_
  refine g_if_lt X dX7_isSlot_1 (tgt := 13) (by decide) (fun q1 => ?_) (fun q1 => ?_)
  · skip
    have q1t : p0.toInt < (0 : Int32).toInt := Int32.lt_iff_toInt_lt.mp q1
    have q1k : (0 : Int32).toInt = 0 := (by decide)
    have q1b := Int32.toInt_lt p0
    refine g_iconst X dX7_isSlot_13 (v := 0) (by decide) ?_
    exact g_zret X hrt rfl dX7_isSlot_14 (by decide) (by decide) ⟨C, D, F, I, K, rfl⟩
  · skip
    have q1t : ¬ p0.toInt < (0 : Int32).toInt := fun z => q1 (Int32.lt_iff_toInt_lt.mpr z)
    have q1k : (0 : Int32).toInt = 0 := (by decide)
    have q1b := Int32.toInt_lt p0
    obtain ⟨n2, hn2, rfl⟩ := nI_of (x := p0) (fun z => by have z2 := Int32.lt_iff_toInt_lt.mp z; have z3 : (0 : Int32).toInt = 0 := (by decide); omega)
    rw [nI_toInt (by omega)] at q1t
    have tn2 := nI_toInt (n := n2) (by omega)
    refine g_iload_n X dX7_isSlot_4 rfl (j := 0) rfl ?_
    refine g_iconst X dX7_isSlot_5 (v := 4) (by decide) ?_
    refine g_icmp_ge X dX7_isSlot_6 (tgt := 13) (by decide) (fun q3 => ?_) (fun q3 => ?_)
    · skip
      have q3 : 4 ≤ n2 := (nI_leI (a := 4) (b := n2) (by omega) (by omega)).mp q3
      refine g_iconst X dX7_isSlot_13 (v := 0) (by decide) ?_
      exact g_zret X hrt rfl dX7_isSlot_14 (by decide) (by decide) ⟨C, D, F, I, K, rfl⟩
    · skip
      have q3 : ¬ 4 ≤ n2 := fun z => q3 ((nI_leI (a := 4) (b := n2) (by omega) (by omega)).mpr z)
      refine g_iconst X dX7_isSlot_9 (v := 1) (by decide) ?_
      refine g_goto X dX7_isSlot_10 (tgt := 14) (by decide) ?_
      exact g_zret X hrt rfl dX7_isSlot_14 (by decide) (by decide) ⟨C, D, F, I, K, (absurd hno (slot_no (n := n2) (by omega) rfl))⟩
set_option maxHeartbeats 4000000 in
set_option maxRecDepth 100000 in
theorem s_X7_tellsPlaces_80 (l : Launch) (G : va_G) {cy : Nat → ClassId} {L : List Nat} {M : Nat → va_E} {a : Nat → Nat} {act : Nat → Bool} {C0 : Nat → Nat → Int32} {D0 : Nat → Nat → Int64} {R : Nat → Nat → Option Nat} (F : WI L M a act (ent cy a C0 D0 R)) (I : Inv C0)  (act80 : (baseact 80 || act 80) = true) (act81 : (baseact 81 || act 81) = true) : MI l G cy yX7_tellsPlaces cX7_tellsPlaces 9 (some .boolean) 2 0 0 [.ref (a 0), .ref (a 80)] L M (fun r L2 M2 => ∃ C2 D2, WI L2 M2 a act (ent cy a C2 D2 R) ∧ Inv C2 ∧ Kp [] C0 D0 C2 D2 ∧ (r = 0 ∨ (r = 1 ∧ ∃ k : Nat, k ≤ 60 ∧ k % 3 = 0 ∧ C2 80 2 = nI k ∧ seen (D2 81) k))) := by
  refine MI.of (own := RX7) rfl (by decide) (Nat.le_of_ble_eq_true rfl) ?_
  intro p e s m below meth c A X hrt hnm
  obtain ⟨C, D, hC0, hD0, F, I, K⟩ : ∃ C D, C = C0 ∧ D = D0 ∧ WI L M a act (ent cy a C D R) ∧ Inv C ∧ Kp [] C0 D0 C D := ⟨C0, D0, rfl, rfl, F, I, Kp.rf⟩
  obtain ⟨n1, hn1, en1⟩ := rg_nat (I 80 2 rfl) (by decide)
  rw [hC0] at en1
  obtain ⟨sz, hsz⟩ : ∃ z, z = n1 := ⟨_, rfl⟩
  refine g_aload_n X dX7_tellsPlaces_0 rfl (j := 1) rfl ?_
  refine i_get X F 80 (act80) rfl fk_X7_395 dX7_tellsPlaces_1 (v := .int (nI n1)) (congrArg (fun z => some (Value.int z)) ((congrFun (K 80 (by decide)).1 2).trans en1)) ?_
  refine g_iconst X dX7_tellsPlaces_4 (v := 3) (by decide) ?_
  refine g_irem X dX7_tellsPlaces_5 (by decide) ?_
  refine Go.top (v := .int (nI (n1 % 3))) (congrArg Value.int (pk_rem (a := n1) (d := 3) (by omega) (by omega) (by omega))) ?_
  obtain ⟨n2, en2⟩ : ∃ z : Nat, z = n1 % 3 := ⟨_, rfl⟩
  refine Go.top (v := .int (nI n2)) (by rw [en2]) ?_
  have hn2 : n2 < 3 := by rw [en2]; exact Nat.mod_lt _ (by omega)
  refine g_if_eq X dX7_tellsPlaces_6 (tgt := 11) (by decide) (fun q3 => ?_) (fun q3 => ?_)
  · skip
    have q3 : n2 = 0 := (nI_eq (a := n2) (b := 0) (by omega) (by omega)).mp q3
    refine g_iconst X dX7_tellsPlaces_11 (v := 0) (by decide) ?_
    refine g_istore_n X dX7_tellsPlaces_12 rfl (by decide) (lv2 := [(2, .int 0), (0, .ref (a 0)), (1, .ref (a 80))]) rfl ?_
    refine g_lv [0, 1, 2] (lv2 := [(2, .int 0), (0, .ref (a 0)), (1, .ref (a 80))]) rfl ?_
    refine i_loop (mods := []) (fun x : Nat => 60 - x) (fun x => [(2, .int (nI (x))), (0, .ref (a 0)), (1, .ref (a 80))]) (fun x C => 0 ≤ x ∧ x ≤ 60 ∧ (x % 3 = 0) ∧ (seen (D0 81) (x)) ∧ (x ≤ sz)) (fun x L M C D F I K hP ih13 => ?_) ((0) : Nat) F I K ⟨by show _ ≤ _; omega, by show _ ≤ _; omega, (by decide), seen_0, (Nat.zero_le _)⟩
    obtain ⟨i13_2, rfl⟩ : ∃ z, z = x := ⟨_, rfl⟩
    obtain ⟨hi13_2a, hi13_2b, hm3, hsee, hisz⟩ := hP
    refine g_lv [0, 1, 2] (lv2 := [(2, .int (nI i13_2)), (0, .ref (a 0)), (1, .ref (a 80))]) rfl ?_
    refine g_iload_n X dX7_tellsPlaces_13 rfl (j := 0) rfl ?_
    refine g_iconst X dX7_tellsPlaces_14 (v := 2) (by decide) ?_
    refine g_iadd X dX7_tellsPlaces_15 ?_
    refine Go.top (v := .int (nI (i13_2 + 2))) (congrArg Value.int (nI_add i13_2 2)) ?_
    refine g_aload_n X dX7_tellsPlaces_16 rfl (j := 2) rfl ?_
    refine i_get X F 80 (act80) rfl fk_X7_395 dX7_tellsPlaces_17 (v := .int (nI n1)) (congrArg (fun z => some (Value.int z)) ((congrFun (K 80 (by decide)).1 2).trans en1)) ?_
    refine g_icmp_ge X dX7_tellsPlaces_20 (tgt := 142) (by decide) (fun q4 => ?_) (fun q4 => ?_)
    · skip
      have q4 : n1 ≤ (i13_2 + 2) := (nI_leI (a := n1) (b := (i13_2 + 2)) (by omega) (by omega)).mp q4
      refine g_iconst X dX7_tellsPlaces_142 (v := 1) (by decide) ?_
      exact g_zret X hrt rfl dX7_tellsPlaces_143 (by decide) (by decide) ⟨C, D, F, I, K, Or.inr ⟨rfl, n1, by omega, by omega, (congrFun (K 80 (by decide)).1 2).trans en1, by rw [(K 81 (by decide)).2, show n1 = i13_2 by omega]; exact hsee⟩⟩
    · skip
      have q4 : ¬ n1 ≤ (i13_2 + 2) := fun z => q4 ((nI_leI (a := n1) (b := (i13_2 + 2)) (by omega) (by omega)).mpr z)
      refine g_aload_n X dX7_tellsPlaces_23 rfl (j := 2) rfl ?_
      refine i_get X F 80 (act80) rfl fk_X7_406 dX7_tellsPlaces_24 rfl ?_
      refine g_iload_n X dX7_tellsPlaces_27 rfl (j := 0) rfl ?_
      refine i_lald X F 81 (act81) rfl dX7_tellsPlaces_28 (vp_in_nI (by omega) (by decide)) (v := D0 81 (i13_2)) (by rw [nI_clamp (by omega), (K 81 (by decide)).2]) ?_
      refine g_lstore_n X dX7_tellsPlaces_29 rfl (by decide) (lv2 := [(3, .long ((D0 81 (i13_2)))), (2, .int (nI i13_2)), (0, .ref (a 0)), (1, .ref (a 80))]) rfl ?_
      refine g_aload_n X dX7_tellsPlaces_30 rfl (j := 3) rfl ?_
      refine i_get X F 80 (act80) rfl fk_X7_406 dX7_tellsPlaces_31 rfl ?_
      refine g_iload_n X dX7_tellsPlaces_34 rfl (j := 1) rfl ?_
      refine g_iconst X dX7_tellsPlaces_35 (v := 1) (by decide) ?_
      refine g_iadd X dX7_tellsPlaces_36 ?_
      refine Go.top (v := .int (nI (i13_2 + 1))) (congrArg Value.int (nI_add i13_2 1)) ?_
      refine i_lald X F 81 (act81) rfl dX7_tellsPlaces_37 (vp_in_nI (by omega) (by decide)) (v := D0 81 ((i13_2 + 1))) (by rw [nI_clamp (by omega), (K 81 (by decide)).2]) ?_
      refine g_lstore X dX7_tellsPlaces_38 (by decide) (lv2 := [(5, .long ((D0 81 ((i13_2 + 1))))), (3, .long ((D0 81 (i13_2)))), (2, .int (nI i13_2)), (0, .ref (a 0)), (1, .ref (a 80))]) rfl ?_
      refine g_aload_n X dX7_tellsPlaces_40 rfl (j := 4) rfl ?_
      refine i_get X F 80 (act80) rfl fk_X7_406 dX7_tellsPlaces_41 rfl ?_
      refine g_iload_n X dX7_tellsPlaces_44 rfl (j := 2) rfl ?_
      refine g_iconst X dX7_tellsPlaces_45 (v := 2) (by decide) ?_
      refine g_iadd X dX7_tellsPlaces_46 ?_
      refine Go.top (v := .int (nI (i13_2 + 2))) (congrArg Value.int (nI_add i13_2 2)) ?_
      refine i_lald X F 81 (act81) rfl dX7_tellsPlaces_47 (vp_in_nI (by omega) (by decide)) rfl ?_
      refine Go.genL (fun o5 => ?_)
      refine g_lstore X dX7_tellsPlaces_48 (by decide) (lv2 := [(7, .long o5), (5, .long ((D0 81 ((i13_2 + 1))))), (3, .long ((D0 81 (i13_2)))), (2, .int (nI i13_2)), (0, .ref (a 0)), (1, .ref (a 80))]) rfl ?_
      refine g_lload_n X dX7_tellsPlaces_50 rfl (j := 2) rfl ?_
      refine g_lconst X dX7_tellsPlaces_51 (v := 0) (by decide) ?_
      refine g_lcmp X dX7_tellsPlaces_52 ?_
      refine g_if_lt X dX7_tellsPlaces_53 (tgt := 90) (by decide) (fun q6 => ?_) (fun q6 => ?_)
      · skip
        have q6t : ((D0 81 (i13_2))).toInt < (0 : Int64).toInt := Int64.lt_iff_toInt_lt.mp ((lg_cmp_lt _ _).mp q6)
        have q6k0 : (0 : Int64).toInt = 0 := (by decide)
        refine g_iconst X dX7_tellsPlaces_90 (v := 0) (by decide) ?_
        exact g_zret X hrt rfl dX7_tellsPlaces_91 (by decide) (by decide) ⟨C, D, F, I, K, Or.inl rfl⟩
      · skip
        have q6t : ¬ ((D0 81 (i13_2))).toInt < (0 : Int64).toInt := fun z => q6 ((lg_cmp_lt _ _).mpr (Int64.lt_iff_toInt_lt.mpr z))
        have q6k0 : (0 : Int64).toInt = 0 := (by decide)
        refine g_lload_n X dX7_tellsPlaces_56 rfl (j := 2) rfl ?_
        refine g_aload_n X dX7_tellsPlaces_57 rfl (j := 4) rfl ?_
        refine i_get X F 0 rfl rfl fk_X7_19 dX7_tellsPlaces_58 rfl ?_
        obtain ⟨n7, hn7, en7⟩ := rg_nat ((I 3 8).2.2.2 rfl) (by decide)
        refine i_get X F 3 rfl rfl fk_X7_276 dX7_tellsPlaces_61 (v := .int (nI n7)) (congrArg (fun z => some (Value.int z)) en7) ?_
        refine g_i2l X dX7_tellsPlaces_64 rfl ?_
        refine g_lcmp X dX7_tellsPlaces_65 ?_
        refine g_if_ge X dX7_tellsPlaces_66 (tgt := 90) (by decide) (fun q8 => ?_) (fun q8 => ?_)
        · skip
          have q8t : ((Int32.toInt64 (nI n7))).toInt ≤ ((D0 81 (i13_2))).toInt := Int64.le_iff_toInt_le.mp ((lg_cmp_ge _ _).mp q8)
          have q8wb := Jvm.Kit.i64_of_i32 (nI n7)
          rw [nI_toInt (by omega)] at q8wb
          refine g_iconst X dX7_tellsPlaces_90 (v := 0) (by decide) ?_
          exact g_zret X hrt rfl dX7_tellsPlaces_91 (by decide) (by decide) ⟨C, D, F, I, K, Or.inl rfl⟩
        · skip
          have q8t : ¬ ((Int32.toInt64 (nI n7))).toInt ≤ ((D0 81 (i13_2))).toInt := fun z => q8 ((lg_cmp_ge _ _).mpr (Int64.le_iff_toInt_le.mpr z))
          have q8wb := Jvm.Kit.i64_of_i32 (nI n7)
          rw [nI_toInt (by omega)] at q8wb
          refine g_lload X dX7_tellsPlaces_69 (j := 1) rfl ?_
          refine g_lconst X dX7_tellsPlaces_71 (v := 0) (by decide) ?_
          refine g_lcmp X dX7_tellsPlaces_72 ?_
          refine g_if_lt X dX7_tellsPlaces_73 (tgt := 90) (by decide) (fun q9 => ?_) (fun q9 => ?_)
          · skip
            have q9t : ((D0 81 ((i13_2 + 1)))).toInt < (0 : Int64).toInt := Int64.lt_iff_toInt_lt.mp ((lg_cmp_lt _ _).mp q9)
            have q9k0 : (0 : Int64).toInt = 0 := (by decide)
            refine g_iconst X dX7_tellsPlaces_90 (v := 0) (by decide) ?_
            exact g_zret X hrt rfl dX7_tellsPlaces_91 (by decide) (by decide) ⟨C, D, F, I, K, Or.inl rfl⟩
          · skip
            have q9t : ¬ ((D0 81 ((i13_2 + 1)))).toInt < (0 : Int64).toInt := fun z => q9 ((lg_cmp_lt _ _).mpr (Int64.lt_iff_toInt_lt.mpr z))
            have q9k0 : (0 : Int64).toInt = 0 := (by decide)
            refine g_lload X dX7_tellsPlaces_76 (j := 1) rfl ?_
            refine g_aload_n X dX7_tellsPlaces_78 rfl (j := 4) rfl ?_
            refine i_get X F 0 rfl rfl fk_X7_19 dX7_tellsPlaces_79 rfl ?_
            obtain ⟨n10, hn10, en10⟩ := rg_nat ((I 3 1).1 rfl) (by decide)
            refine i_get X F 3 rfl rfl fk_X7_168 dX7_tellsPlaces_82 (v := .int (nI n10)) (congrArg (fun z => some (Value.int z)) en10) ?_
            refine g_i2l X dX7_tellsPlaces_85 rfl ?_
            refine g_lcmp X dX7_tellsPlaces_86 ?_
            refine g_if_le X dX7_tellsPlaces_87 (tgt := 92) (by decide) (fun q11 => ?_) (fun q11 => ?_)
            · skip
              have q11t : ((D0 81 ((i13_2 + 1)))).toInt ≤ ((Int32.toInt64 (nI n10))).toInt := Int64.le_iff_toInt_le.mp ((lg_cmp_le _ _).mp q11)
              have q11wb := Jvm.Kit.i64_of_i32 (nI n10)
              rw [nI_toInt (by omega)] at q11wb
              refine g_lload X dX7_tellsPlaces_92 (j := 0) rfl ?_
              refine g_ldc2 X (v := -1) wd602 dX7_tellsPlaces_94 ?_
              refine g_lcmp X dX7_tellsPlaces_97 ?_
              refine g_if_lt X dX7_tellsPlaces_98 (tgt := 110) (by decide) (fun q12 => ?_) (fun q12 => ?_)
              · skip
                have q12t : o5.toInt < (-1 : Int64).toInt := Int64.lt_iff_toInt_lt.mp ((lg_cmp_lt _ _).mp q12)
                have q12k1 : (-1 : Int64).toInt = -1 := (by decide)
                refine g_iconst X dX7_tellsPlaces_110 (v := 0) (by decide) ?_
                exact g_zret X hrt rfl dX7_tellsPlaces_111 (by decide) (by decide) ⟨C, D, F, I, K, Or.inl rfl⟩
              · skip
                have q12t : ¬ o5.toInt < (-1 : Int64).toInt := fun z => q12 ((lg_cmp_lt _ _).mpr (Int64.lt_iff_toInt_lt.mpr z))
                have q12k1 : (-1 : Int64).toInt = -1 := (by decide)
                refine g_lload X dX7_tellsPlaces_101 (j := 0) rfl ?_
                refine g_ldc2 X (v := 14) wd603 dX7_tellsPlaces_103 ?_
                refine g_lcmp X dX7_tellsPlaces_106 ?_
                refine g_if_lt X dX7_tellsPlaces_107 (tgt := 112) (by decide) (fun q13 => ?_) (fun q13 => ?_)
                · skip
                  have q13t : o5.toInt < (14 : Int64).toInt := Int64.lt_iff_toInt_lt.mp ((lg_cmp_lt _ _).mp q13)
                  have q13k14 : (14 : Int64).toInt = 14 := (by decide)
                  refine g_lload X dX7_tellsPlaces_112 (j := 0) rfl ?_
                  refine g_ldc2 X (v := -1) wd602 dX7_tellsPlaces_114 ?_
                  refine g_lcmp X dX7_tellsPlaces_117 ?_
                  refine g_if_eq X dX7_tellsPlaces_118 (tgt := 136) (by decide) (fun q14 => ?_) (fun q14 => ?_)
                  · skip
                    have q14t : o5 = (-1 : Int64) := (lg_cmp_eq _ _).mp q14
                    have q14k1 : (-1 : Int64).toInt = -1 := (by decide)
                    refine g_iinc X dX7_tellsPlaces_136 (j := 3) rfl (v := nI (i13_2 + 3)) (nI_add i13_2 3) (by decide) (lv2 := [(2, .int (nI (i13_2 + 3))), (7, .long o5), (5, .long ((D0 81 ((i13_2 + 1))))), (3, .long ((D0 81 (i13_2)))), (0, .ref (a 0)), (1, .ref (a 80))]) rfl ?_
                    refine g_goto X dX7_tellsPlaces_139 (tgt := 13) (by decide) ?_
                    refine g_lv [0, 4, 5] (lv2 := [(2, .int (nI (i13_2 + 3))), (0, .ref (a 0)), (1, .ref (a 80))]) rfl ?_
                    exact ih13 ((i13_2 + 3)) L M C D F I K ⟨by omega, by omega, (by show _ % 3 = 0; omega), (seen_st (by omega) hsee (by omega) (by omega) (by omega) (by omega)), (by show _ ≤ sz; omega)⟩ (by show _ < _; omega)
                  · skip
                    have q14t : ¬ o5 = (-1 : Int64) := fun z => q14 ((lg_cmp_eq _ _).mpr z)
                    have q14k1 : (-1 : Int64).toInt = -1 := (by decide)
                    refine g_aload_n X dX7_tellsPlaces_121 rfl (j := 4) rfl ?_
                    refine i_get X F 0 rfl rfl fk_X7_19 dX7_tellsPlaces_122 rfl ?_
                    refine g_lload X dX7_tellsPlaces_125 (j := 0) rfl ?_
                    refine g_l2i X dX7_tellsPlaces_127 rfl ?_
                    refine Go.gen (fun o15 => ?_)
                    refine g_callVI X (s_X2_hasPlace l G F I o15 ) lk_X7_143 (F.1 3 rfl).2 (F.1 3 rfl).1 rfl rfl dX7_tellsPlaces_128 (Nat.le_of_ble_eq_true rfl) ⟨by decide, by decide⟩ ⟨by decide, by decide⟩ (fun r16 L M hp => ?_)
                    obtain ⟨C, D, F, I, K1, hr⟩ := hp
                    have K := K.step K1 (by decide)
                    rcases hr with rfl | ⟨rfl, n17, hn17, en17⟩
                    · skip
                      refine g_if_ne X dX7_tellsPlaces_131 (tgt := 136) (by decide) (fun q => absurd (by decide) q) (fun _ => ?_)
                      refine g_iconst X dX7_tellsPlaces_134 (v := 0) (by decide) ?_
                      exact g_zret X hrt rfl dX7_tellsPlaces_135 (by decide) (by decide) ⟨C, D, F, I, K, Or.inl rfl⟩
                    · skip
                      subst en17
                      refine g_if_ne X dX7_tellsPlaces_131 (tgt := 136) (by decide) (fun _ => ?_) (fun q => absurd q (by decide))
                      refine g_iinc X dX7_tellsPlaces_136 (j := 3) rfl (v := nI (i13_2 + 3)) (nI_add i13_2 3) (by decide) (lv2 := [(2, .int (nI (i13_2 + 3))), (7, .long o5), (5, .long ((D0 81 ((i13_2 + 1))))), (3, .long ((D0 81 (i13_2)))), (0, .ref (a 0)), (1, .ref (a 80))]) rfl ?_
                      refine g_goto X dX7_tellsPlaces_139 (tgt := 13) (by decide) ?_
                      refine g_lv [0, 4, 5] (lv2 := [(2, .int (nI (i13_2 + 3))), (0, .ref (a 0)), (1, .ref (a 80))]) rfl ?_
                      exact ih13 ((i13_2 + 3)) L M C D F I K ⟨by omega, by omega, (by show _ % 3 = 0; omega), (seen_st (by omega) hsee (by omega) (by omega) (by omega) (by omega)), (by show _ ≤ sz; omega)⟩ (by show _ < _; omega)
                · skip
                  have q13t : ¬ o5.toInt < (14 : Int64).toInt := fun z => q13 ((lg_cmp_lt _ _).mpr (Int64.lt_iff_toInt_lt.mpr z))
                  have q13k14 : (14 : Int64).toInt = 14 := (by decide)
                  refine g_iconst X dX7_tellsPlaces_110 (v := 0) (by decide) ?_
                  exact g_zret X hrt rfl dX7_tellsPlaces_111 (by decide) (by decide) ⟨C, D, F, I, K, Or.inl rfl⟩
            · skip
              have q11t : ¬ ((D0 81 ((i13_2 + 1)))).toInt ≤ ((Int32.toInt64 (nI n10))).toInt := fun z => q11 ((lg_cmp_le _ _).mpr (Int64.le_iff_toInt_le.mpr z))
              have q11wb := Jvm.Kit.i64_of_i32 (nI n10)
              rw [nI_toInt (by omega)] at q11wb
              refine g_iconst X dX7_tellsPlaces_90 (v := 0) (by decide) ?_
              exact g_zret X hrt rfl dX7_tellsPlaces_91 (by decide) (by decide) ⟨C, D, F, I, K, Or.inl rfl⟩
  · skip
    have q3 : ¬ n2 = 0 := fun z => q3 ((nI_eq (a := n2) (b := 0) (by omega) (by omega)).mpr z)
    refine g_iconst X dX7_tellsPlaces_9 (v := 0) (by decide) ?_
    exact g_zret X hrt rfl dX7_tellsPlaces_10 (by decide) (by decide) ⟨C, D, F, I, K, Or.inl rfl⟩
set_option maxHeartbeats 4000000 in
set_option maxRecDepth 100000 in
theorem s_X7_agrees_80 (l : Launch) (G : va_G) {cy : Nat → ClassId} {L : List Nat} {M : Nat → va_E} {a : Nat → Nat} {act : Nat → Bool} {C0 : Nat → Nat → Int32} {D0 : Nat → Nat → Int64} {R : Nat → Nat → Option Nat} (F : WI L M a act (ent cy a C0 D0 R)) (I : Inv C0)  (act80 : (baseact 80 || act 80) = true) (act81 : (baseact 81 || act 81) = true) (gsn : ∃ k : Nat, k ≤ 60 ∧ k % 3 = 0 ∧ C0 80 2 = nI k ∧ seen (D0 81) k) : MI l G cy yX7_agrees cX7_agrees 6 (some .boolean) 1 0 0 [.ref (a 0), .ref (a 80), .ref (a 31)] L M (fun r L2 M2 => ∃ C2 D2, WI L2 M2 a act (ent cy a C2 D2 R) ∧ Inv C2 ∧ Kp [] C0 D0 C2 D2 ∧ (r = 0 ∨ r = 1)) := by
  refine MI.of (own := RX7) rfl (by decide) (Nat.le_of_ble_eq_true rfl) ?_
  intro p e s m below meth c A X hrt hnm
  obtain ⟨C, D, hC0, hD0, F, I, K⟩ : ∃ C D, C = C0 ∧ D = D0 ∧ WI L M a act (ent cy a C D R) ∧ Inv C ∧ Kp [] C0 D0 C D := ⟨C0, D0, rfl, rfl, F, I, Kp.rf⟩
  obtain ⟨n1, hn1, en1⟩ := rg_nat (I 80 2 rfl) (by decide)
  rw [hC0] at en1
  obtain ⟨kz, hkz, hk3, ekz, hsn⟩ := gsn
  obtain rfl : n1 = kz := (nI_eq (by omega) (by omega)).mp (en1.symm.trans ekz)
  refine g_iconst X dX7_agrees_0 (v := 0) (by decide) ?_
  refine g_istore_n X dX7_agrees_1 rfl (by decide) (lv2 := [(3, .int 0), (0, .ref (a 0)), (1, .ref (a 80)), (2, .ref (a 31))]) rfl ?_
  refine g_lv [0, 1, 2, 3] (lv2 := [(3, .int 0), (0, .ref (a 0)), (1, .ref (a 80)), (2, .ref (a 31))]) rfl ?_
  refine i_loop (mods := []) (fun x : Nat => 60 - x) (fun x => [(3, .int (nI (x))), (0, .ref (a 0)), (1, .ref (a 80)), (2, .ref (a 31))]) (fun x C => 0 ≤ x ∧ x ≤ 60 ∧ (x % 3 = 0)) (fun x L M C D F I K hP ih2 => ?_) ((0) : Nat) F I K ⟨by show _ ≤ _; omega, by show _ ≤ _; omega, (by decide)⟩
  obtain ⟨i2_3, rfl⟩ : ∃ z, z = x := ⟨_, rfl⟩
  obtain ⟨hi2_3a, hi2_3b, hm3⟩ := hP
  refine g_lv [0, 1, 2, 3] (lv2 := [(3, .int (nI i2_3)), (0, .ref (a 0)), (1, .ref (a 80)), (2, .ref (a 31))]) rfl ?_
  refine g_iload_n X dX7_agrees_2 rfl (j := 0) rfl ?_
  refine g_iconst X dX7_agrees_3 (v := 2) (by decide) ?_
  refine g_iadd X dX7_agrees_4 ?_
  refine Go.top (v := .int (nI (i2_3 + 2))) (congrArg Value.int (nI_add i2_3 2)) ?_
  refine g_aload_n X dX7_agrees_5 rfl (j := 2) rfl ?_
  refine i_get X F 80 (act80) rfl fk_X7_395 dX7_agrees_6 (v := .int (nI n1)) (congrArg (fun z => some (Value.int z)) ((congrFun (K 80 (by decide)).1 2).trans en1)) ?_
  refine g_icmp_ge X dX7_agrees_9 (tgt := 61) (by decide) (fun q2 => ?_) (fun q2 => ?_)
  · skip
    have q2 : n1 ≤ (i2_3 + 2) := (nI_leI (a := n1) (b := (i2_3 + 2)) (by omega) (by omega)).mp q2
    refine g_iconst X dX7_agrees_61 (v := 1) (by decide) ?_
    exact g_zret X hrt rfl dX7_agrees_62 (by decide) (by decide) ⟨C, D, F, I, K, Or.inr rfl⟩
  · skip
    have q2 : ¬ n1 ≤ (i2_3 + 2) := fun z => q2 ((nI_leI (a := n1) (b := (i2_3 + 2)) (by omega) (by omega)).mpr z)
    refine g_aload_n X dX7_agrees_12 rfl (j := 2) rfl ?_
    refine i_get X F 80 (act80) rfl fk_X7_406 dX7_agrees_13 rfl ?_
    refine g_iload_n X dX7_agrees_16 rfl (j := 0) rfl ?_
    refine i_lald X F 81 (act81) rfl dX7_agrees_17 (vp_in_nI (by omega) (by decide)) (v := D0 81 (i2_3)) (by rw [nI_clamp (by omega), (K 81 (by decide)).2]) ?_
    have hi3 := hsn (i2_3 / 3) (by omega)
    rw [show 3 * (i2_3 / 3) = i2_3 by omega] at hi3
    obtain ⟨n3, hn3, en3⟩ := l2i_nat (hi := 7) hi3.1.1 (by have z := hi3.1.2; omega) (by decide)
    refine g_l2i X dX7_agrees_18 (v := nI n3) en3 ?_
    refine g_istore X dX7_agrees_19 (by decide) (lv2 := [(4, .int (nI n3)), (3, .int (nI i2_3)), (0, .ref (a 0)), (1, .ref (a 80)), (2, .ref (a 31))]) rfl ?_
    refine g_aload_n X dX7_agrees_21 rfl (j := 3) rfl ?_
    refine i_get X F 80 (act80) rfl fk_X7_406 dX7_agrees_22 rfl ?_
    refine g_iload_n X dX7_agrees_25 rfl (j := 1) rfl ?_
    refine g_iconst X dX7_agrees_26 (v := 1) (by decide) ?_
    refine g_iadd X dX7_agrees_27 ?_
    refine Go.top (v := .int (nI (i2_3 + 1))) (congrArg Value.int (nI_add i2_3 1)) ?_
    refine i_lald X F 81 (act81) rfl dX7_agrees_28 (vp_in_nI (by omega) (by decide)) (v := D0 81 ((i2_3 + 1))) (by rw [nI_clamp (by omega), (K 81 (by decide)).2]) ?_
    have hi3 := hsn (i2_3 / 3) (by omega)
    rw [show 3 * (i2_3 / 3) = i2_3 by omega] at hi3
    obtain ⟨n4, hn4, en4⟩ := l2i_nat (hi := 16) hi3.2.1 (by have z := hi3.2.2; omega) (by decide)
    refine g_l2i X dX7_agrees_29 (v := nI n4) en4 ?_
    refine g_istore X dX7_agrees_30 (by decide) (lv2 := [(5, .int (nI n4)), (4, .int (nI n3)), (3, .int (nI i2_3)), (0, .ref (a 0)), (1, .ref (a 80)), (2, .ref (a 31))]) rfl ?_
    refine g_aload_n X dX7_agrees_32 rfl (j := 5) rfl ?_
    refine g_iload X dX7_agrees_33 (j := 1) rfl ?_
    refine g_iload X dX7_agrees_35 (j := 0) rfl ?_
    refine g_callVI X (s_X4_placeOf_31 l G F I n3 (by omega) (by omega) n4 (by omega) (by omega) ) lk_X7_137 (F.1 31 rfl).2 (F.1 31 rfl).1 rfl rfl dX7_agrees_37 (Nat.le_of_ble_eq_true rfl) ⟨by decide, by decide⟩ ⟨by decide, by decide⟩ (fun r5 L M hp => ?_)
    obtain ⟨C, D, F, I, K1, hr⟩ := hp
    have K := K.step K1 (by decide)
    obtain ⟨hr, hpln6⟩ := hr
    rcases okp_nat hr with rfl | ⟨n6, hn6, rfl⟩
    · skip
      refine g_i2l X dX7_agrees_40 rfl ?_
      refine Go.top (v := .long (-1)) (by decide) ?_
      refine g_aload_n X dX7_agrees_41 rfl (j := 4) rfl ?_
      refine i_get X F 80 (act80) rfl fk_X7_406 dX7_agrees_42 rfl ?_
      refine g_iload_n X dX7_agrees_45 rfl (j := 2) rfl ?_
      refine g_iconst X dX7_agrees_46 (v := 2) (by decide) ?_
      refine g_iadd X dX7_agrees_47 ?_
      refine Go.top (v := .int (nI (i2_3 + 2))) (congrArg Value.int (nI_add i2_3 2)) ?_
      refine i_lald X F 81 (act81) rfl dX7_agrees_48 (vp_in_nI (by omega) (by decide)) rfl ?_
      refine Go.genL (fun o7 => ?_)
      refine g_lcmp X dX7_agrees_49 ?_
      refine g_if_eq X dX7_agrees_50 (tgt := 55) (by decide) (fun q8 => ?_) (fun q8 => ?_)
      · skip
        have q8t : (-1 : Int64) = o7 := (lg_cmp_eq _ _).mp q8
        have q8k1 : (-1 : Int64).toInt = -1 := (by decide)
        refine g_iinc X dX7_agrees_55 (j := 2) rfl (v := nI (i2_3 + 3)) (nI_add i2_3 3) (by decide) (lv2 := [(3, .int (nI (i2_3 + 3))), (5, .int (nI n4)), (4, .int (nI n3)), (0, .ref (a 0)), (1, .ref (a 80)), (2, .ref (a 31))]) rfl ?_
        refine g_goto X dX7_agrees_58 (tgt := 2) (by decide) ?_
        refine g_lv [0, 3, 4, 5] (lv2 := [(3, .int (nI (i2_3 + 3))), (0, .ref (a 0)), (1, .ref (a 80)), (2, .ref (a 31))]) rfl ?_
        exact ih2 ((i2_3 + 3)) L M C D F I K ⟨by omega, by omega, (by show _ % 3 = 0; omega)⟩ (by show _ < _; omega)
      · skip
        have q8t : ¬ (-1 : Int64) = o7 := fun z => q8 ((lg_cmp_eq _ _).mpr z)
        have q8k1 : (-1 : Int64).toInt = -1 := (by decide)
        refine g_iconst X dX7_agrees_53 (v := 0) (by decide) ?_
        exact g_zret X hrt rfl dX7_agrees_54 (by decide) (by decide) ⟨C, D, F, I, K, Or.inl rfl⟩
    · skip
      refine g_i2l X dX7_agrees_40 rfl ?_
      refine g_aload_n X dX7_agrees_41 rfl (j := 4) rfl ?_
      refine i_get X F 80 (act80) rfl fk_X7_406 dX7_agrees_42 rfl ?_
      refine g_iload_n X dX7_agrees_45 rfl (j := 2) rfl ?_
      refine g_iconst X dX7_agrees_46 (v := 2) (by decide) ?_
      refine g_iadd X dX7_agrees_47 ?_
      refine Go.top (v := .int (nI (i2_3 + 2))) (congrArg Value.int (nI_add i2_3 2)) ?_
      refine i_lald X F 81 (act81) rfl dX7_agrees_48 (vp_in_nI (by omega) (by decide)) rfl ?_
      refine Go.genL (fun o9 => ?_)
      refine g_lcmp X dX7_agrees_49 ?_
      refine g_if_eq X dX7_agrees_50 (tgt := 55) (by decide) (fun q10 => ?_) (fun q10 => ?_)
      · skip
        have q10t : ((Int32.toInt64 (nI n6))) = o9 := (lg_cmp_eq _ _).mp q10
        have q10wa := Jvm.Kit.i64_of_i32 (nI n6)
        rw [nI_toInt (by omega)] at q10wa
        refine g_iinc X dX7_agrees_55 (j := 2) rfl (v := nI (i2_3 + 3)) (nI_add i2_3 3) (by decide) (lv2 := [(3, .int (nI (i2_3 + 3))), (5, .int (nI n4)), (4, .int (nI n3)), (0, .ref (a 0)), (1, .ref (a 80)), (2, .ref (a 31))]) rfl ?_
        refine g_goto X dX7_agrees_58 (tgt := 2) (by decide) ?_
        refine g_lv [0, 3, 4, 5] (lv2 := [(3, .int (nI (i2_3 + 3))), (0, .ref (a 0)), (1, .ref (a 80)), (2, .ref (a 31))]) rfl ?_
        exact ih2 ((i2_3 + 3)) L M C D F I K ⟨by omega, by omega, (by show _ % 3 = 0; omega)⟩ (by show _ < _; omega)
      · skip
        have q10t : ¬ ((Int32.toInt64 (nI n6))) = o9 := fun z => q10 ((lg_cmp_eq _ _).mpr z)
        have q10wa := Jvm.Kit.i64_of_i32 (nI n6)
        rw [nI_toInt (by omega)] at q10wa
        refine g_iconst X dX7_agrees_53 (v := 0) (by decide) ?_
        exact g_zret X hrt rfl dX7_agrees_54 (by decide) (by decide) ⟨C, D, F, I, K, Or.inl rfl⟩
set_option maxHeartbeats 4000000 in
set_option maxRecDepth 100000 in
theorem s_X7_possibleRoads_80 (l : Launch) (G : va_G) {cy : Nat → ClassId} {L : List Nat} {M : Nat → va_E} {a : Nat → Nat} {act : Nat → Bool} {C0 : Nat → Nat → Int32} {D0 : Nat → Nat → Int64} {R : Nat → Nat → Option Nat} (F : WI L M a act (ent cy a C0 D0 R)) (I : Inv C0) (p1 : Nat) (hp1a : 0 ≤ p1) (hp1b : p1 ≤ 6) (act80 : (baseact 80 || act 80) = true) (act81 : (baseact 81 || act 81) = true) (gsn : ∃ k : Nat, k ≤ 60 ∧ k % 3 = 0 ∧ C0 80 2 = nI k ∧ seen (D0 81) k) : MI l G cy yX7_possibleRoads cX7_possibleRoads 5 (some .int) 5 0 0 [.ref (a 0), .ref (a 80), .int (nI p1)] L M (fun r L2 M2 => ∃ C2 D2, WI L2 M2 a act (ent cy a C2 D2 R) ∧ Inv C2 ∧ Kp [31, 32, 33, 34, 35, 36, 42] C0 D0 C2 D2 ∧ True) := by
  refine MI.of (own := RX7) rfl (by decide) (Nat.le_of_ble_eq_true rfl) ?_
  intro p e s m below meth c A X hrt hnm
  obtain ⟨C, D, hC0, hD0, F, I, K⟩ : ∃ C D, C = C0 ∧ D = D0 ∧ WI L M a act (ent cy a C D R) ∧ Inv C ∧ Kp [31, 32, 33, 34, 35, 36, 42] C0 D0 C D := ⟨C0, D0, rfl, rfl, F, I, Kp.rf⟩
  refine g_iconst X dX7_possibleRoads_0 (v := 0) (by decide) ?_
  refine g_istore_n X dX7_possibleRoads_1 rfl (by decide) (lv2 := [(3, .int 0), (0, .ref (a 0)), (1, .ref (a 80)), (2, .int (nI p1))]) rfl ?_
  refine g_iconst X dX7_possibleRoads_2 (v := 0) (by decide) ?_
  refine g_istore X dX7_possibleRoads_3 (by decide) (lv2 := [(4, .int 0), (3, .int 0), (0, .ref (a 0)), (1, .ref (a 80)), (2, .int (nI p1))]) rfl ?_
  refine g_lv [0, 1, 2, 3, 4] (lv2 := [(4, .int 0), (3, .int 0), (0, .ref (a 0)), (1, .ref (a 80)), (2, .int (nI p1))]) rfl ?_
  refine i_loop (mods := [31, 32, 33, 34, 35, 36, 42]) (fun x : Nat × Int32 => 4 - x.1) (fun x => [(4, .int (nI (x.1))), (3, .int (x.2)), (0, .ref (a 0)), (1, .ref (a 80)), (2, .int (nI p1))]) (fun x C => 0 ≤ x.1 ∧ x.1 ≤ 4) (fun x L M C D F I K hP ih5 => ?_) ((0, 0) : Nat × Int32) F I K ⟨by show _ ≤ _; omega, by show _ ≤ _; omega⟩
  rcases x with ⟨i5_4, v5_3⟩
  obtain ⟨hi5_4a, hi5_4b⟩ := hP
  refine g_lv [0, 1, 2, 3, 4] (lv2 := [(4, .int (nI i5_4)), (3, .int v5_3), (0, .ref (a 0)), (1, .ref (a 80)), (2, .int (nI p1))]) rfl ?_
  refine g_iload X dX7_possibleRoads_5 (j := 0) rfl ?_
  refine g_aload_n X dX7_possibleRoads_7 rfl (j := 2) rfl ?_
  refine i_get X F 0 rfl rfl fk_X7_19 dX7_possibleRoads_8 rfl ?_
  refine i_get X F 3 rfl rfl fk_X7_109 dX7_possibleRoads_11 rfl ?_
  refine g_iload_n X dX7_possibleRoads_14 rfl (j := 4) rfl ?_
  obtain ⟨n1, hn1, en1⟩ := rg_nat (I 5 p1) (by decide)
  refine i_iald X F 5 rfl rfl dX7_possibleRoads_15 (vp_in_nI (by omega) (by decide)) (v := nI n1) (by rw [nI_clamp (by omega)]; exact en1) ?_
  refine g_icmp_ge X dX7_possibleRoads_16 (tgt := 75) (by decide) (fun q2 => ?_) (fun q2 => ?_)
  · skip
    have q2 : n1 ≤ i5_4 := (nI_leI (a := n1) (b := i5_4) (by omega) (by omega)).mp q2
    refine g_iload_n X dX7_possibleRoads_75 rfl (j := 1) rfl ?_
    exact g_iret X hrt dX7_possibleRoads_76 (by decide) (by decide) ⟨C, D, F, I, K, trivial⟩
  · skip
    have q2 : ¬ n1 ≤ i5_4 := fun z => q2 ((nI_leI (a := n1) (b := i5_4) (by omega) (by omega)).mpr z)
    refine g_aload_n X dX7_possibleRoads_19 rfl (j := 2) rfl ?_
    refine g_iload_n X dX7_possibleRoads_20 rfl (j := 4) rfl ?_
    refine g_iload X dX7_possibleRoads_21 (j := 0) rfl ?_
    refine g_callVV X (s_X7_runPointed l G F I p1 (by omega) (by omega) i5_4 (by omega) (by omega) ) lk_X7_267 (F.1 0 rfl).2 (F.1 0 rfl).1 rfl rfl dX7_possibleRoads_23 (Nat.le_of_ble_eq_true rfl) ⟨by decide, by decide⟩ ⟨by decide, by decide⟩ (fun L M hp => ?_)
    obtain ⟨C, D, F, I, K1, hr⟩ := hp
    have K := K.step K1 (by decide)
    refine g_aload_n X dX7_possibleRoads_26 rfl (j := 2) rfl ?_
    refine i_get X F 0 rfl rfl fk_X7_45 dX7_possibleRoads_27 rfl ?_
    refine i_get X F 31 rfl rfl fk_X7_441 dX7_possibleRoads_30 rfl ?_
    refine g_iconst X dX7_possibleRoads_33 (v := 0) (by decide) ?_
    refine g_aload_n X dX7_possibleRoads_34 rfl (j := 2) rfl ?_
    refine i_get X F 0 rfl rfl fk_X7_70 dX7_possibleRoads_35 rfl ?_
    refine g_iload X dX7_possibleRoads_38 (j := 0) rfl ?_
    refine g_sipush X dX7_possibleRoads_40 (v := 136) (by decide) ?_
    refine g_imul X dX7_possibleRoads_43 ?_
    refine Go.top (v := .int (nI (i5_4 * 136))) (congrArg Value.int (pk_mul i5_4 136)) ?_
    refine g_sipush X dX7_possibleRoads_44 (v := 136) (by decide) ?_
    refine i_copyi X F I 33 rfl 42 rfl rfl (fun _ => rfl) (t0 := 1) rfl rfl wd604 wd87 wd88 wd89 (by decide) (nI_pos (by omega)) (by decide) (by decide) (by have k136 : (136 : Int32).toNatClampNeg = 136 := (by decide); rw [nI_clamp (show (i5_4 * 136) < 2 ^ 31 by omega), k136]; omega) (fun _ _ => rfl) (by decide) (Nat.le_of_ble_eq_true rfl) dX7_possibleRoads_47 (fun j => trivial) (fun M C F I K1 hC => ?_)
    have K := K.step K1 (by decide)
    refine g_aload_n X dX7_possibleRoads_50 rfl (j := 2) rfl ?_
    refine g_aload_n X dX7_possibleRoads_51 rfl (j := 3) rfl ?_
    refine g_aload_n X dX7_possibleRoads_52 rfl (j := 2) rfl ?_
    refine i_get X F 0 rfl rfl fk_X7_45 dX7_possibleRoads_53 rfl ?_
    refine g_callVI X (s_X7_agrees_80 l G F I  act80 act81 (by rw [(K 80 (by decide)).1, (K 81 (by decide)).2]; exact gsn)) lk_X7_306 (F.1 0 rfl).2 (F.1 0 rfl).1 rfl rfl dX7_possibleRoads_56 (Nat.le_of_ble_eq_true rfl) ⟨by decide, by decide⟩ ⟨by decide, by decide⟩ (fun r3 L M hp => ?_)
    obtain ⟨C, D, F, I, K1, hr⟩ := hp
    have K := K.step K1 (by decide)
    rcases hr with rfl | rfl
    · skip
      refine g_if_eq X dX7_possibleRoads_59 (tgt := 69) (by decide) (fun _ => ?_) (fun q => absurd (by decide) q)
      refine g_iinc X dX7_possibleRoads_69 (j := 0) rfl (v := nI (i5_4 + 1)) (nI_1 i5_4) (by decide) (lv2 := [(4, .int (nI (i5_4 + 1))), (3, .int v5_3), (0, .ref (a 0)), (1, .ref (a 80)), (2, .int (nI p1))]) rfl ?_
      refine g_goto X dX7_possibleRoads_72 (tgt := 5) (by decide) ?_
      refine g_lv [0, 1, 2, 3, 4] (lv2 := [(4, .int (nI (i5_4 + 1))), (3, .int v5_3), (0, .ref (a 0)), (1, .ref (a 80)), (2, .int (nI p1))]) rfl ?_
      exact ih5 ((i5_4 + 1), v5_3) L M C D F I K ⟨by omega, by omega⟩ (by show _ < _; omega)
    · skip
      refine g_if_eq X dX7_possibleRoads_59 (tgt := 69) (by decide) (fun q => absurd q (by decide)) (fun _ => ?_)
      refine g_iload_n X dX7_possibleRoads_62 rfl (j := 1) rfl ?_
      refine g_iconst X dX7_possibleRoads_63 (v := 1) (by decide) ?_
      refine g_iload X dX7_possibleRoads_64 (j := 0) rfl ?_
      refine g_ishl X dX7_possibleRoads_66 ?_
      refine Go.gen (fun o4 => ?_)
      refine g_ior X dX7_possibleRoads_67 ?_
      refine Go.gen (fun o5 => ?_)
      refine g_istore_n X dX7_possibleRoads_68 rfl (by decide) (lv2 := [(3, .int o5), (4, .int (nI i5_4)), (0, .ref (a 0)), (1, .ref (a 80)), (2, .int (nI p1))]) rfl ?_
      refine g_iinc X dX7_possibleRoads_69 (j := 1) rfl (v := nI (i5_4 + 1)) (nI_1 i5_4) (by decide) (lv2 := [(4, .int (nI (i5_4 + 1))), (3, .int o5), (0, .ref (a 0)), (1, .ref (a 80)), (2, .int (nI p1))]) rfl ?_
      refine g_goto X dX7_possibleRoads_72 (tgt := 5) (by decide) ?_
      refine g_lv [0, 1, 2, 3, 4] (lv2 := [(4, .int (nI (i5_4 + 1))), (3, .int o5), (0, .ref (a 0)), (1, .ref (a 80)), (2, .int (nI p1))]) rfl ?_
      exact ih5 ((i5_4 + 1), o5) L M C D F I K ⟨by omega, by omega⟩ (by show _ < _; omega)
set_option maxHeartbeats 4000000 in
set_option maxRecDepth 100000 in
theorem s_X7_refusalOfSeen_0 (l : Launch) (G : va_G) {cy : Nat → ClassId} {L : List Nat} {M : Nat → va_E} {a : Nat → Nat} {act : Nat → Bool} {C0 : Nat → Nat → Int32} {D0 : Nat → Nat → Int64} {R : Nat → Nat → Option Nat} (F : WI L M a act (ent cy a C0 D0 R)) (I : Inv C0) (p1 : Int32) (HR : RA a act R) : MI l G cy yX7_refusalOfSeen cX7_refusalOfSeen 3 (some .int) 3 0 0 [.ref (a 0), .int 0, .int p1] L M (fun r L2 M2 => ∃ C2 D2, WI L2 M2 a act (ent cy a C2 D2 R) ∧ Inv C2 ∧ Kp [] C0 D0 C2 D2 ∧ (¬ r = 0 ∨ (r = 0 ∧ act 80 = true ∧ ¬ p1 = 0 ∧ ∃ k : Nat, k ≤ 60 ∧ k % 3 = 0 ∧ C2 80 2 = nI k ∧ seen (D2 81) k))) := by
  refine MI.of (own := RX7) rfl (by decide) (Nat.le_of_ble_eq_true rfl) ?_
  intro p e s m below meth c A X hrt hnm
  obtain ⟨C, D, hC0, hD0, F, I, K⟩ : ∃ C D, C = C0 ∧ D = D0 ∧ WI L M a act (ent cy a C D R) ∧ Inv C ∧ Kp [] C0 D0 C D := ⟨C0, D0, rfl, rfl, F, I, Kp.rf⟩
  refine g_iload_n X dX7_refusalOfSeen_0 rfl (j := 1) rfl ?_
  refine g_callSI X (s_X7_isSlot_0 l G F I  ) lk_X7_389 rfl rfl dX7_refusalOfSeen_1 (Nat.le_of_ble_eq_true rfl) ⟨by decide, by decide⟩ ⟨by decide, by decide⟩ (fun r1 L M hp => ?_)
  obtain ⟨C, D, F, I, K1, hr⟩ := hp
  have K := K.step K1 (by decide)
  subst hr
  refine g_if_eq X dX7_refusalOfSeen_4 (tgt := 11) (by decide) (fun q => absurd q (by decide)) (fun _ => ?_)
  refine g_iload_n X dX7_refusalOfSeen_7 rfl (j := 2) rfl ?_
  refine g_if_ne X dX7_refusalOfSeen_8 (tgt := 14) (by decide) (fun q2 => ?_) (fun q2 => ?_)
  · skip
    refine g_aload_n X dX7_refusalOfSeen_14 rfl (j := 0) rfl ?_
    refine i_get X F 0 rfl rfl fk_X7_32 dX7_refusalOfSeen_15 rfl ?_
    refine g_iload_n X dX7_refusalOfSeen_18 rfl (j := 1) rfl ?_
    rcases (Bool.eq_false_or_eq_true (act 80)).symm with hA80 | hA80
    · skip
      refine i_aald X F 24 rfl (t0 := 5) rfl rfl dX7_refusalOfSeen_19 (vp_in_iff.mpr (by decide)) (v := .null) (by show va_rf (R 24 0) = _; rw [HR.1 0 (by decide)]; rw [if_neg (by rw [hA80]; decide)]; rfl) ?_
      refine g_ifnonnullN X dX7_refusalOfSeen_20 ?_
      refine g_bipush X dX7_refusalOfSeen_23 (v := -6) (by decide) ?_
      exact g_iret X hrt dX7_refusalOfSeen_25 (by decide) (by decide) ⟨C, D, F, I, K, Or.inl (by decide)⟩
    · skip
      have act80 : (baseact 80 || act 80) = true := by rw [hA80]; rfl
      have act81 : (baseact 81 || act 81) = true := by rw [((HR.2.2.1 0 (by decide)).trans hA80)]; rfl
      refine i_aald X F 24 rfl (t0 := 5) rfl rfl dX7_refusalOfSeen_19 (vp_in_iff.mpr (by decide)) (v := .ref (a 80)) (by show va_rf (R 24 0) = _; rw [HR.1 0 (by decide)]; rw [if_pos hA80]; rfl) ?_
      refine g_ifnonnull X dX7_refusalOfSeen_20 (tgt := 26) (by decide) ?_
      refine g_aload_n X dX7_refusalOfSeen_26 rfl (j := 0) rfl ?_
      refine g_aload_n X dX7_refusalOfSeen_27 rfl (j := 0) rfl ?_
      refine i_get X F 0 rfl rfl fk_X7_32 dX7_refusalOfSeen_28 rfl ?_
      refine g_iload_n X dX7_refusalOfSeen_31 rfl (j := 1) rfl ?_
      refine i_aald X F 24 rfl (t0 := 5) rfl rfl dX7_refusalOfSeen_32 (vp_in_iff.mpr (by decide)) (v := .ref (a 80)) (by show va_rf (R 24 0) = _; rw [HR.1 0 (by decide)]; rw [if_pos hA80]; rfl) ?_
      refine g_callVI X (s_X7_tellsPlaces_80 l G F I  act80 act81) lk_X7_433 (F.1 0 rfl).2 (F.1 0 rfl).1 rfl rfl dX7_refusalOfSeen_33 (Nat.le_of_ble_eq_true rfl) ⟨by decide, by decide⟩ ⟨by decide, by decide⟩ (fun r5 L M hp => ?_)
      obtain ⟨C, D, F, I, K1, hr⟩ := hp
      have K := K.step K1 (by decide)
      rcases hr with rfl | ⟨rfl, hz6⟩
      · skip
        refine g_if_eq X dX7_refusalOfSeen_36 (tgt := 43) (by decide) (fun _ => ?_) (fun q => absurd (by decide) q)
        refine g_bipush X dX7_refusalOfSeen_43 (v := -2) (by decide) ?_
        exact g_iret X hrt dX7_refusalOfSeen_45 (by decide) (by decide) ⟨C, D, F, I, K, Or.inl (by decide)⟩
      · skip
        refine g_if_eq X dX7_refusalOfSeen_36 (tgt := 43) (by decide) (fun q => absurd q (by decide)) (fun _ => ?_)
        refine g_iconst X dX7_refusalOfSeen_39 (v := 0) (by decide) ?_
        refine g_goto X dX7_refusalOfSeen_40 (tgt := 45) (by decide) ?_
        exact g_iret X hrt dX7_refusalOfSeen_45 (by decide) (by decide) ⟨C, D, F, I, K, Or.inr ⟨rfl, hA80, q2, by have z := hz6; exact z⟩⟩
  · skip
    subst q2
    refine g_bipush X dX7_refusalOfSeen_11 (v := -2) (by decide) ?_
    exact g_iret X hrt dX7_refusalOfSeen_13 (by decide) (by decide) ⟨C, D, F, I, K, Or.inl (by decide)⟩
set_option maxHeartbeats 4000000 in
set_option maxRecDepth 100000 in
theorem s_X7_tellsPlaces_82 (l : Launch) (G : va_G) {cy : Nat → ClassId} {L : List Nat} {M : Nat → va_E} {a : Nat → Nat} {act : Nat → Bool} {C0 : Nat → Nat → Int32} {D0 : Nat → Nat → Int64} {R : Nat → Nat → Option Nat} (F : WI L M a act (ent cy a C0 D0 R)) (I : Inv C0)  (act82 : (baseact 82 || act 82) = true) (act83 : (baseact 83 || act 83) = true) : MI l G cy yX7_tellsPlaces cX7_tellsPlaces 9 (some .boolean) 2 0 0 [.ref (a 0), .ref (a 82)] L M (fun r L2 M2 => ∃ C2 D2, WI L2 M2 a act (ent cy a C2 D2 R) ∧ Inv C2 ∧ Kp [] C0 D0 C2 D2 ∧ (r = 0 ∨ (r = 1 ∧ ∃ k : Nat, k ≤ 60 ∧ k % 3 = 0 ∧ C2 82 2 = nI k ∧ seen (D2 83) k))) := by
  refine MI.of (own := RX7) rfl (by decide) (Nat.le_of_ble_eq_true rfl) ?_
  intro p e s m below meth c A X hrt hnm
  obtain ⟨C, D, hC0, hD0, F, I, K⟩ : ∃ C D, C = C0 ∧ D = D0 ∧ WI L M a act (ent cy a C D R) ∧ Inv C ∧ Kp [] C0 D0 C D := ⟨C0, D0, rfl, rfl, F, I, Kp.rf⟩
  obtain ⟨n1, hn1, en1⟩ := rg_nat (I 82 2 rfl) (by decide)
  rw [hC0] at en1
  obtain ⟨sz, hsz⟩ : ∃ z, z = n1 := ⟨_, rfl⟩
  refine g_aload_n X dX7_tellsPlaces_0 rfl (j := 1) rfl ?_
  refine i_get X F 82 (act82) rfl fk_X7_395 dX7_tellsPlaces_1 (v := .int (nI n1)) (congrArg (fun z => some (Value.int z)) ((congrFun (K 82 (by decide)).1 2).trans en1)) ?_
  refine g_iconst X dX7_tellsPlaces_4 (v := 3) (by decide) ?_
  refine g_irem X dX7_tellsPlaces_5 (by decide) ?_
  refine Go.top (v := .int (nI (n1 % 3))) (congrArg Value.int (pk_rem (a := n1) (d := 3) (by omega) (by omega) (by omega))) ?_
  obtain ⟨n2, en2⟩ : ∃ z : Nat, z = n1 % 3 := ⟨_, rfl⟩
  refine Go.top (v := .int (nI n2)) (by rw [en2]) ?_
  have hn2 : n2 < 3 := by rw [en2]; exact Nat.mod_lt _ (by omega)
  refine g_if_eq X dX7_tellsPlaces_6 (tgt := 11) (by decide) (fun q3 => ?_) (fun q3 => ?_)
  · skip
    have q3 : n2 = 0 := (nI_eq (a := n2) (b := 0) (by omega) (by omega)).mp q3
    refine g_iconst X dX7_tellsPlaces_11 (v := 0) (by decide) ?_
    refine g_istore_n X dX7_tellsPlaces_12 rfl (by decide) (lv2 := [(2, .int 0), (0, .ref (a 0)), (1, .ref (a 82))]) rfl ?_
    refine g_lv [0, 1, 2] (lv2 := [(2, .int 0), (0, .ref (a 0)), (1, .ref (a 82))]) rfl ?_
    refine i_loop (mods := []) (fun x : Nat => 60 - x) (fun x => [(2, .int (nI (x))), (0, .ref (a 0)), (1, .ref (a 82))]) (fun x C => 0 ≤ x ∧ x ≤ 60 ∧ (x % 3 = 0) ∧ (seen (D0 83) (x)) ∧ (x ≤ sz)) (fun x L M C D F I K hP ih13 => ?_) ((0) : Nat) F I K ⟨by show _ ≤ _; omega, by show _ ≤ _; omega, (by decide), seen_0, (Nat.zero_le _)⟩
    obtain ⟨i13_2, rfl⟩ : ∃ z, z = x := ⟨_, rfl⟩
    obtain ⟨hi13_2a, hi13_2b, hm3, hsee, hisz⟩ := hP
    refine g_lv [0, 1, 2] (lv2 := [(2, .int (nI i13_2)), (0, .ref (a 0)), (1, .ref (a 82))]) rfl ?_
    refine g_iload_n X dX7_tellsPlaces_13 rfl (j := 0) rfl ?_
    refine g_iconst X dX7_tellsPlaces_14 (v := 2) (by decide) ?_
    refine g_iadd X dX7_tellsPlaces_15 ?_
    refine Go.top (v := .int (nI (i13_2 + 2))) (congrArg Value.int (nI_add i13_2 2)) ?_
    refine g_aload_n X dX7_tellsPlaces_16 rfl (j := 2) rfl ?_
    refine i_get X F 82 (act82) rfl fk_X7_395 dX7_tellsPlaces_17 (v := .int (nI n1)) (congrArg (fun z => some (Value.int z)) ((congrFun (K 82 (by decide)).1 2).trans en1)) ?_
    refine g_icmp_ge X dX7_tellsPlaces_20 (tgt := 142) (by decide) (fun q4 => ?_) (fun q4 => ?_)
    · skip
      have q4 : n1 ≤ (i13_2 + 2) := (nI_leI (a := n1) (b := (i13_2 + 2)) (by omega) (by omega)).mp q4
      refine g_iconst X dX7_tellsPlaces_142 (v := 1) (by decide) ?_
      exact g_zret X hrt rfl dX7_tellsPlaces_143 (by decide) (by decide) ⟨C, D, F, I, K, Or.inr ⟨rfl, n1, by omega, by omega, (congrFun (K 82 (by decide)).1 2).trans en1, by rw [(K 83 (by decide)).2, show n1 = i13_2 by omega]; exact hsee⟩⟩
    · skip
      have q4 : ¬ n1 ≤ (i13_2 + 2) := fun z => q4 ((nI_leI (a := n1) (b := (i13_2 + 2)) (by omega) (by omega)).mpr z)
      refine g_aload_n X dX7_tellsPlaces_23 rfl (j := 2) rfl ?_
      refine i_get X F 82 (act82) rfl fk_X7_406 dX7_tellsPlaces_24 rfl ?_
      refine g_iload_n X dX7_tellsPlaces_27 rfl (j := 0) rfl ?_
      refine i_lald X F 83 (act83) rfl dX7_tellsPlaces_28 (vp_in_nI (by omega) (by decide)) (v := D0 83 (i13_2)) (by rw [nI_clamp (by omega), (K 83 (by decide)).2]) ?_
      refine g_lstore_n X dX7_tellsPlaces_29 rfl (by decide) (lv2 := [(3, .long ((D0 83 (i13_2)))), (2, .int (nI i13_2)), (0, .ref (a 0)), (1, .ref (a 82))]) rfl ?_
      refine g_aload_n X dX7_tellsPlaces_30 rfl (j := 3) rfl ?_
      refine i_get X F 82 (act82) rfl fk_X7_406 dX7_tellsPlaces_31 rfl ?_
      refine g_iload_n X dX7_tellsPlaces_34 rfl (j := 1) rfl ?_
      refine g_iconst X dX7_tellsPlaces_35 (v := 1) (by decide) ?_
      refine g_iadd X dX7_tellsPlaces_36 ?_
      refine Go.top (v := .int (nI (i13_2 + 1))) (congrArg Value.int (nI_add i13_2 1)) ?_
      refine i_lald X F 83 (act83) rfl dX7_tellsPlaces_37 (vp_in_nI (by omega) (by decide)) (v := D0 83 ((i13_2 + 1))) (by rw [nI_clamp (by omega), (K 83 (by decide)).2]) ?_
      refine g_lstore X dX7_tellsPlaces_38 (by decide) (lv2 := [(5, .long ((D0 83 ((i13_2 + 1))))), (3, .long ((D0 83 (i13_2)))), (2, .int (nI i13_2)), (0, .ref (a 0)), (1, .ref (a 82))]) rfl ?_
      refine g_aload_n X dX7_tellsPlaces_40 rfl (j := 4) rfl ?_
      refine i_get X F 82 (act82) rfl fk_X7_406 dX7_tellsPlaces_41 rfl ?_
      refine g_iload_n X dX7_tellsPlaces_44 rfl (j := 2) rfl ?_
      refine g_iconst X dX7_tellsPlaces_45 (v := 2) (by decide) ?_
      refine g_iadd X dX7_tellsPlaces_46 ?_
      refine Go.top (v := .int (nI (i13_2 + 2))) (congrArg Value.int (nI_add i13_2 2)) ?_
      refine i_lald X F 83 (act83) rfl dX7_tellsPlaces_47 (vp_in_nI (by omega) (by decide)) rfl ?_
      refine Go.genL (fun o5 => ?_)
      refine g_lstore X dX7_tellsPlaces_48 (by decide) (lv2 := [(7, .long o5), (5, .long ((D0 83 ((i13_2 + 1))))), (3, .long ((D0 83 (i13_2)))), (2, .int (nI i13_2)), (0, .ref (a 0)), (1, .ref (a 82))]) rfl ?_
      refine g_lload_n X dX7_tellsPlaces_50 rfl (j := 2) rfl ?_
      refine g_lconst X dX7_tellsPlaces_51 (v := 0) (by decide) ?_
      refine g_lcmp X dX7_tellsPlaces_52 ?_
      refine g_if_lt X dX7_tellsPlaces_53 (tgt := 90) (by decide) (fun q6 => ?_) (fun q6 => ?_)
      · skip
        have q6t : ((D0 83 (i13_2))).toInt < (0 : Int64).toInt := Int64.lt_iff_toInt_lt.mp ((lg_cmp_lt _ _).mp q6)
        have q6k0 : (0 : Int64).toInt = 0 := (by decide)
        refine g_iconst X dX7_tellsPlaces_90 (v := 0) (by decide) ?_
        exact g_zret X hrt rfl dX7_tellsPlaces_91 (by decide) (by decide) ⟨C, D, F, I, K, Or.inl rfl⟩
      · skip
        have q6t : ¬ ((D0 83 (i13_2))).toInt < (0 : Int64).toInt := fun z => q6 ((lg_cmp_lt _ _).mpr (Int64.lt_iff_toInt_lt.mpr z))
        have q6k0 : (0 : Int64).toInt = 0 := (by decide)
        refine g_lload_n X dX7_tellsPlaces_56 rfl (j := 2) rfl ?_
        refine g_aload_n X dX7_tellsPlaces_57 rfl (j := 4) rfl ?_
        refine i_get X F 0 rfl rfl fk_X7_19 dX7_tellsPlaces_58 rfl ?_
        obtain ⟨n7, hn7, en7⟩ := rg_nat ((I 3 8).2.2.2 rfl) (by decide)
        refine i_get X F 3 rfl rfl fk_X7_276 dX7_tellsPlaces_61 (v := .int (nI n7)) (congrArg (fun z => some (Value.int z)) en7) ?_
        refine g_i2l X dX7_tellsPlaces_64 rfl ?_
        refine g_lcmp X dX7_tellsPlaces_65 ?_
        refine g_if_ge X dX7_tellsPlaces_66 (tgt := 90) (by decide) (fun q8 => ?_) (fun q8 => ?_)
        · skip
          have q8t : ((Int32.toInt64 (nI n7))).toInt ≤ ((D0 83 (i13_2))).toInt := Int64.le_iff_toInt_le.mp ((lg_cmp_ge _ _).mp q8)
          have q8wb := Jvm.Kit.i64_of_i32 (nI n7)
          rw [nI_toInt (by omega)] at q8wb
          refine g_iconst X dX7_tellsPlaces_90 (v := 0) (by decide) ?_
          exact g_zret X hrt rfl dX7_tellsPlaces_91 (by decide) (by decide) ⟨C, D, F, I, K, Or.inl rfl⟩
        · skip
          have q8t : ¬ ((Int32.toInt64 (nI n7))).toInt ≤ ((D0 83 (i13_2))).toInt := fun z => q8 ((lg_cmp_ge _ _).mpr (Int64.le_iff_toInt_le.mpr z))
          have q8wb := Jvm.Kit.i64_of_i32 (nI n7)
          rw [nI_toInt (by omega)] at q8wb
          refine g_lload X dX7_tellsPlaces_69 (j := 1) rfl ?_
          refine g_lconst X dX7_tellsPlaces_71 (v := 0) (by decide) ?_
          refine g_lcmp X dX7_tellsPlaces_72 ?_
          refine g_if_lt X dX7_tellsPlaces_73 (tgt := 90) (by decide) (fun q9 => ?_) (fun q9 => ?_)
          · skip
            have q9t : ((D0 83 ((i13_2 + 1)))).toInt < (0 : Int64).toInt := Int64.lt_iff_toInt_lt.mp ((lg_cmp_lt _ _).mp q9)
            have q9k0 : (0 : Int64).toInt = 0 := (by decide)
            refine g_iconst X dX7_tellsPlaces_90 (v := 0) (by decide) ?_
            exact g_zret X hrt rfl dX7_tellsPlaces_91 (by decide) (by decide) ⟨C, D, F, I, K, Or.inl rfl⟩
          · skip
            have q9t : ¬ ((D0 83 ((i13_2 + 1)))).toInt < (0 : Int64).toInt := fun z => q9 ((lg_cmp_lt _ _).mpr (Int64.lt_iff_toInt_lt.mpr z))
            have q9k0 : (0 : Int64).toInt = 0 := (by decide)
            refine g_lload X dX7_tellsPlaces_76 (j := 1) rfl ?_
            refine g_aload_n X dX7_tellsPlaces_78 rfl (j := 4) rfl ?_
            refine i_get X F 0 rfl rfl fk_X7_19 dX7_tellsPlaces_79 rfl ?_
            obtain ⟨n10, hn10, en10⟩ := rg_nat ((I 3 1).1 rfl) (by decide)
            refine i_get X F 3 rfl rfl fk_X7_168 dX7_tellsPlaces_82 (v := .int (nI n10)) (congrArg (fun z => some (Value.int z)) en10) ?_
            refine g_i2l X dX7_tellsPlaces_85 rfl ?_
            refine g_lcmp X dX7_tellsPlaces_86 ?_
            refine g_if_le X dX7_tellsPlaces_87 (tgt := 92) (by decide) (fun q11 => ?_) (fun q11 => ?_)
            · skip
              have q11t : ((D0 83 ((i13_2 + 1)))).toInt ≤ ((Int32.toInt64 (nI n10))).toInt := Int64.le_iff_toInt_le.mp ((lg_cmp_le _ _).mp q11)
              have q11wb := Jvm.Kit.i64_of_i32 (nI n10)
              rw [nI_toInt (by omega)] at q11wb
              refine g_lload X dX7_tellsPlaces_92 (j := 0) rfl ?_
              refine g_ldc2 X (v := -1) wd602 dX7_tellsPlaces_94 ?_
              refine g_lcmp X dX7_tellsPlaces_97 ?_
              refine g_if_lt X dX7_tellsPlaces_98 (tgt := 110) (by decide) (fun q12 => ?_) (fun q12 => ?_)
              · skip
                have q12t : o5.toInt < (-1 : Int64).toInt := Int64.lt_iff_toInt_lt.mp ((lg_cmp_lt _ _).mp q12)
                have q12k1 : (-1 : Int64).toInt = -1 := (by decide)
                refine g_iconst X dX7_tellsPlaces_110 (v := 0) (by decide) ?_
                exact g_zret X hrt rfl dX7_tellsPlaces_111 (by decide) (by decide) ⟨C, D, F, I, K, Or.inl rfl⟩
              · skip
                have q12t : ¬ o5.toInt < (-1 : Int64).toInt := fun z => q12 ((lg_cmp_lt _ _).mpr (Int64.lt_iff_toInt_lt.mpr z))
                have q12k1 : (-1 : Int64).toInt = -1 := (by decide)
                refine g_lload X dX7_tellsPlaces_101 (j := 0) rfl ?_
                refine g_ldc2 X (v := 14) wd603 dX7_tellsPlaces_103 ?_
                refine g_lcmp X dX7_tellsPlaces_106 ?_
                refine g_if_lt X dX7_tellsPlaces_107 (tgt := 112) (by decide) (fun q13 => ?_) (fun q13 => ?_)
                · skip
                  have q13t : o5.toInt < (14 : Int64).toInt := Int64.lt_iff_toInt_lt.mp ((lg_cmp_lt _ _).mp q13)
                  have q13k14 : (14 : Int64).toInt = 14 := (by decide)
                  refine g_lload X dX7_tellsPlaces_112 (j := 0) rfl ?_
                  refine g_ldc2 X (v := -1) wd602 dX7_tellsPlaces_114 ?_
                  refine g_lcmp X dX7_tellsPlaces_117 ?_
                  refine g_if_eq X dX7_tellsPlaces_118 (tgt := 136) (by decide) (fun q14 => ?_) (fun q14 => ?_)
                  · skip
                    have q14t : o5 = (-1 : Int64) := (lg_cmp_eq _ _).mp q14
                    have q14k1 : (-1 : Int64).toInt = -1 := (by decide)
                    refine g_iinc X dX7_tellsPlaces_136 (j := 3) rfl (v := nI (i13_2 + 3)) (nI_add i13_2 3) (by decide) (lv2 := [(2, .int (nI (i13_2 + 3))), (7, .long o5), (5, .long ((D0 83 ((i13_2 + 1))))), (3, .long ((D0 83 (i13_2)))), (0, .ref (a 0)), (1, .ref (a 82))]) rfl ?_
                    refine g_goto X dX7_tellsPlaces_139 (tgt := 13) (by decide) ?_
                    refine g_lv [0, 4, 5] (lv2 := [(2, .int (nI (i13_2 + 3))), (0, .ref (a 0)), (1, .ref (a 82))]) rfl ?_
                    exact ih13 ((i13_2 + 3)) L M C D F I K ⟨by omega, by omega, (by show _ % 3 = 0; omega), (seen_st (by omega) hsee (by omega) (by omega) (by omega) (by omega)), (by show _ ≤ sz; omega)⟩ (by show _ < _; omega)
                  · skip
                    have q14t : ¬ o5 = (-1 : Int64) := fun z => q14 ((lg_cmp_eq _ _).mpr z)
                    have q14k1 : (-1 : Int64).toInt = -1 := (by decide)
                    refine g_aload_n X dX7_tellsPlaces_121 rfl (j := 4) rfl ?_
                    refine i_get X F 0 rfl rfl fk_X7_19 dX7_tellsPlaces_122 rfl ?_
                    refine g_lload X dX7_tellsPlaces_125 (j := 0) rfl ?_
                    refine g_l2i X dX7_tellsPlaces_127 rfl ?_
                    refine Go.gen (fun o15 => ?_)
                    refine g_callVI X (s_X2_hasPlace l G F I o15 ) lk_X7_143 (F.1 3 rfl).2 (F.1 3 rfl).1 rfl rfl dX7_tellsPlaces_128 (Nat.le_of_ble_eq_true rfl) ⟨by decide, by decide⟩ ⟨by decide, by decide⟩ (fun r16 L M hp => ?_)
                    obtain ⟨C, D, F, I, K1, hr⟩ := hp
                    have K := K.step K1 (by decide)
                    rcases hr with rfl | ⟨rfl, n17, hn17, en17⟩
                    · skip
                      refine g_if_ne X dX7_tellsPlaces_131 (tgt := 136) (by decide) (fun q => absurd (by decide) q) (fun _ => ?_)
                      refine g_iconst X dX7_tellsPlaces_134 (v := 0) (by decide) ?_
                      exact g_zret X hrt rfl dX7_tellsPlaces_135 (by decide) (by decide) ⟨C, D, F, I, K, Or.inl rfl⟩
                    · skip
                      subst en17
                      refine g_if_ne X dX7_tellsPlaces_131 (tgt := 136) (by decide) (fun _ => ?_) (fun q => absurd q (by decide))
                      refine g_iinc X dX7_tellsPlaces_136 (j := 3) rfl (v := nI (i13_2 + 3)) (nI_add i13_2 3) (by decide) (lv2 := [(2, .int (nI (i13_2 + 3))), (7, .long o5), (5, .long ((D0 83 ((i13_2 + 1))))), (3, .long ((D0 83 (i13_2)))), (0, .ref (a 0)), (1, .ref (a 82))]) rfl ?_
                      refine g_goto X dX7_tellsPlaces_139 (tgt := 13) (by decide) ?_
                      refine g_lv [0, 4, 5] (lv2 := [(2, .int (nI (i13_2 + 3))), (0, .ref (a 0)), (1, .ref (a 82))]) rfl ?_
                      exact ih13 ((i13_2 + 3)) L M C D F I K ⟨by omega, by omega, (by show _ % 3 = 0; omega), (seen_st (by omega) hsee (by omega) (by omega) (by omega) (by omega)), (by show _ ≤ sz; omega)⟩ (by show _ < _; omega)
                · skip
                  have q13t : ¬ o5.toInt < (14 : Int64).toInt := fun z => q13 ((lg_cmp_lt _ _).mpr (Int64.lt_iff_toInt_lt.mpr z))
                  have q13k14 : (14 : Int64).toInt = 14 := (by decide)
                  refine g_iconst X dX7_tellsPlaces_110 (v := 0) (by decide) ?_
                  exact g_zret X hrt rfl dX7_tellsPlaces_111 (by decide) (by decide) ⟨C, D, F, I, K, Or.inl rfl⟩
            · skip
              have q11t : ¬ ((D0 83 ((i13_2 + 1)))).toInt ≤ ((Int32.toInt64 (nI n10))).toInt := fun z => q11 ((lg_cmp_le _ _).mpr (Int64.le_iff_toInt_le.mpr z))
              have q11wb := Jvm.Kit.i64_of_i32 (nI n10)
              rw [nI_toInt (by omega)] at q11wb
              refine g_iconst X dX7_tellsPlaces_90 (v := 0) (by decide) ?_
              exact g_zret X hrt rfl dX7_tellsPlaces_91 (by decide) (by decide) ⟨C, D, F, I, K, Or.inl rfl⟩
  · skip
    have q3 : ¬ n2 = 0 := fun z => q3 ((nI_eq (a := n2) (b := 0) (by omega) (by omega)).mpr z)
    refine g_iconst X dX7_tellsPlaces_9 (v := 0) (by decide) ?_
    exact g_zret X hrt rfl dX7_tellsPlaces_10 (by decide) (by decide) ⟨C, D, F, I, K, Or.inl rfl⟩
set_option maxHeartbeats 4000000 in
set_option maxRecDepth 100000 in
theorem s_X7_agrees_82 (l : Launch) (G : va_G) {cy : Nat → ClassId} {L : List Nat} {M : Nat → va_E} {a : Nat → Nat} {act : Nat → Bool} {C0 : Nat → Nat → Int32} {D0 : Nat → Nat → Int64} {R : Nat → Nat → Option Nat} (F : WI L M a act (ent cy a C0 D0 R)) (I : Inv C0)  (act82 : (baseact 82 || act 82) = true) (act83 : (baseact 83 || act 83) = true) (gsn : ∃ k : Nat, k ≤ 60 ∧ k % 3 = 0 ∧ C0 82 2 = nI k ∧ seen (D0 83) k) : MI l G cy yX7_agrees cX7_agrees 6 (some .boolean) 1 0 0 [.ref (a 0), .ref (a 82), .ref (a 31)] L M (fun r L2 M2 => ∃ C2 D2, WI L2 M2 a act (ent cy a C2 D2 R) ∧ Inv C2 ∧ Kp [] C0 D0 C2 D2 ∧ (r = 0 ∨ r = 1)) := by
  refine MI.of (own := RX7) rfl (by decide) (Nat.le_of_ble_eq_true rfl) ?_
  intro p e s m below meth c A X hrt hnm
  obtain ⟨C, D, hC0, hD0, F, I, K⟩ : ∃ C D, C = C0 ∧ D = D0 ∧ WI L M a act (ent cy a C D R) ∧ Inv C ∧ Kp [] C0 D0 C D := ⟨C0, D0, rfl, rfl, F, I, Kp.rf⟩
  obtain ⟨n1, hn1, en1⟩ := rg_nat (I 82 2 rfl) (by decide)
  rw [hC0] at en1
  obtain ⟨kz, hkz, hk3, ekz, hsn⟩ := gsn
  obtain rfl : n1 = kz := (nI_eq (by omega) (by omega)).mp (en1.symm.trans ekz)
  refine g_iconst X dX7_agrees_0 (v := 0) (by decide) ?_
  refine g_istore_n X dX7_agrees_1 rfl (by decide) (lv2 := [(3, .int 0), (0, .ref (a 0)), (1, .ref (a 82)), (2, .ref (a 31))]) rfl ?_
  refine g_lv [0, 1, 2, 3] (lv2 := [(3, .int 0), (0, .ref (a 0)), (1, .ref (a 82)), (2, .ref (a 31))]) rfl ?_
  refine i_loop (mods := []) (fun x : Nat => 60 - x) (fun x => [(3, .int (nI (x))), (0, .ref (a 0)), (1, .ref (a 82)), (2, .ref (a 31))]) (fun x C => 0 ≤ x ∧ x ≤ 60 ∧ (x % 3 = 0)) (fun x L M C D F I K hP ih2 => ?_) ((0) : Nat) F I K ⟨by show _ ≤ _; omega, by show _ ≤ _; omega, (by decide)⟩
  obtain ⟨i2_3, rfl⟩ : ∃ z, z = x := ⟨_, rfl⟩
  obtain ⟨hi2_3a, hi2_3b, hm3⟩ := hP
  refine g_lv [0, 1, 2, 3] (lv2 := [(3, .int (nI i2_3)), (0, .ref (a 0)), (1, .ref (a 82)), (2, .ref (a 31))]) rfl ?_
  refine g_iload_n X dX7_agrees_2 rfl (j := 0) rfl ?_
  refine g_iconst X dX7_agrees_3 (v := 2) (by decide) ?_
  refine g_iadd X dX7_agrees_4 ?_
  refine Go.top (v := .int (nI (i2_3 + 2))) (congrArg Value.int (nI_add i2_3 2)) ?_
  refine g_aload_n X dX7_agrees_5 rfl (j := 2) rfl ?_
  refine i_get X F 82 (act82) rfl fk_X7_395 dX7_agrees_6 (v := .int (nI n1)) (congrArg (fun z => some (Value.int z)) ((congrFun (K 82 (by decide)).1 2).trans en1)) ?_
  refine g_icmp_ge X dX7_agrees_9 (tgt := 61) (by decide) (fun q2 => ?_) (fun q2 => ?_)
  · skip
    have q2 : n1 ≤ (i2_3 + 2) := (nI_leI (a := n1) (b := (i2_3 + 2)) (by omega) (by omega)).mp q2
    refine g_iconst X dX7_agrees_61 (v := 1) (by decide) ?_
    exact g_zret X hrt rfl dX7_agrees_62 (by decide) (by decide) ⟨C, D, F, I, K, Or.inr rfl⟩
  · skip
    have q2 : ¬ n1 ≤ (i2_3 + 2) := fun z => q2 ((nI_leI (a := n1) (b := (i2_3 + 2)) (by omega) (by omega)).mpr z)
    refine g_aload_n X dX7_agrees_12 rfl (j := 2) rfl ?_
    refine i_get X F 82 (act82) rfl fk_X7_406 dX7_agrees_13 rfl ?_
    refine g_iload_n X dX7_agrees_16 rfl (j := 0) rfl ?_
    refine i_lald X F 83 (act83) rfl dX7_agrees_17 (vp_in_nI (by omega) (by decide)) (v := D0 83 (i2_3)) (by rw [nI_clamp (by omega), (K 83 (by decide)).2]) ?_
    have hi3 := hsn (i2_3 / 3) (by omega)
    rw [show 3 * (i2_3 / 3) = i2_3 by omega] at hi3
    obtain ⟨n3, hn3, en3⟩ := l2i_nat (hi := 7) hi3.1.1 (by have z := hi3.1.2; omega) (by decide)
    refine g_l2i X dX7_agrees_18 (v := nI n3) en3 ?_
    refine g_istore X dX7_agrees_19 (by decide) (lv2 := [(4, .int (nI n3)), (3, .int (nI i2_3)), (0, .ref (a 0)), (1, .ref (a 82)), (2, .ref (a 31))]) rfl ?_
    refine g_aload_n X dX7_agrees_21 rfl (j := 3) rfl ?_
    refine i_get X F 82 (act82) rfl fk_X7_406 dX7_agrees_22 rfl ?_
    refine g_iload_n X dX7_agrees_25 rfl (j := 1) rfl ?_
    refine g_iconst X dX7_agrees_26 (v := 1) (by decide) ?_
    refine g_iadd X dX7_agrees_27 ?_
    refine Go.top (v := .int (nI (i2_3 + 1))) (congrArg Value.int (nI_add i2_3 1)) ?_
    refine i_lald X F 83 (act83) rfl dX7_agrees_28 (vp_in_nI (by omega) (by decide)) (v := D0 83 ((i2_3 + 1))) (by rw [nI_clamp (by omega), (K 83 (by decide)).2]) ?_
    have hi3 := hsn (i2_3 / 3) (by omega)
    rw [show 3 * (i2_3 / 3) = i2_3 by omega] at hi3
    obtain ⟨n4, hn4, en4⟩ := l2i_nat (hi := 16) hi3.2.1 (by have z := hi3.2.2; omega) (by decide)
    refine g_l2i X dX7_agrees_29 (v := nI n4) en4 ?_
    refine g_istore X dX7_agrees_30 (by decide) (lv2 := [(5, .int (nI n4)), (4, .int (nI n3)), (3, .int (nI i2_3)), (0, .ref (a 0)), (1, .ref (a 82)), (2, .ref (a 31))]) rfl ?_
    refine g_aload_n X dX7_agrees_32 rfl (j := 5) rfl ?_
    refine g_iload X dX7_agrees_33 (j := 1) rfl ?_
    refine g_iload X dX7_agrees_35 (j := 0) rfl ?_
    refine g_callVI X (s_X4_placeOf_31 l G F I n3 (by omega) (by omega) n4 (by omega) (by omega) ) lk_X7_137 (F.1 31 rfl).2 (F.1 31 rfl).1 rfl rfl dX7_agrees_37 (Nat.le_of_ble_eq_true rfl) ⟨by decide, by decide⟩ ⟨by decide, by decide⟩ (fun r5 L M hp => ?_)
    obtain ⟨C, D, F, I, K1, hr⟩ := hp
    have K := K.step K1 (by decide)
    obtain ⟨hr, hpln6⟩ := hr
    rcases okp_nat hr with rfl | ⟨n6, hn6, rfl⟩
    · skip
      refine g_i2l X dX7_agrees_40 rfl ?_
      refine Go.top (v := .long (-1)) (by decide) ?_
      refine g_aload_n X dX7_agrees_41 rfl (j := 4) rfl ?_
      refine i_get X F 82 (act82) rfl fk_X7_406 dX7_agrees_42 rfl ?_
      refine g_iload_n X dX7_agrees_45 rfl (j := 2) rfl ?_
      refine g_iconst X dX7_agrees_46 (v := 2) (by decide) ?_
      refine g_iadd X dX7_agrees_47 ?_
      refine Go.top (v := .int (nI (i2_3 + 2))) (congrArg Value.int (nI_add i2_3 2)) ?_
      refine i_lald X F 83 (act83) rfl dX7_agrees_48 (vp_in_nI (by omega) (by decide)) rfl ?_
      refine Go.genL (fun o7 => ?_)
      refine g_lcmp X dX7_agrees_49 ?_
      refine g_if_eq X dX7_agrees_50 (tgt := 55) (by decide) (fun q8 => ?_) (fun q8 => ?_)
      · skip
        have q8t : (-1 : Int64) = o7 := (lg_cmp_eq _ _).mp q8
        have q8k1 : (-1 : Int64).toInt = -1 := (by decide)
        refine g_iinc X dX7_agrees_55 (j := 2) rfl (v := nI (i2_3 + 3)) (nI_add i2_3 3) (by decide) (lv2 := [(3, .int (nI (i2_3 + 3))), (5, .int (nI n4)), (4, .int (nI n3)), (0, .ref (a 0)), (1, .ref (a 82)), (2, .ref (a 31))]) rfl ?_
        refine g_goto X dX7_agrees_58 (tgt := 2) (by decide) ?_
        refine g_lv [0, 3, 4, 5] (lv2 := [(3, .int (nI (i2_3 + 3))), (0, .ref (a 0)), (1, .ref (a 82)), (2, .ref (a 31))]) rfl ?_
        exact ih2 ((i2_3 + 3)) L M C D F I K ⟨by omega, by omega, (by show _ % 3 = 0; omega)⟩ (by show _ < _; omega)
      · skip
        have q8t : ¬ (-1 : Int64) = o7 := fun z => q8 ((lg_cmp_eq _ _).mpr z)
        have q8k1 : (-1 : Int64).toInt = -1 := (by decide)
        refine g_iconst X dX7_agrees_53 (v := 0) (by decide) ?_
        exact g_zret X hrt rfl dX7_agrees_54 (by decide) (by decide) ⟨C, D, F, I, K, Or.inl rfl⟩
    · skip
      refine g_i2l X dX7_agrees_40 rfl ?_
      refine g_aload_n X dX7_agrees_41 rfl (j := 4) rfl ?_
      refine i_get X F 82 (act82) rfl fk_X7_406 dX7_agrees_42 rfl ?_
      refine g_iload_n X dX7_agrees_45 rfl (j := 2) rfl ?_
      refine g_iconst X dX7_agrees_46 (v := 2) (by decide) ?_
      refine g_iadd X dX7_agrees_47 ?_
      refine Go.top (v := .int (nI (i2_3 + 2))) (congrArg Value.int (nI_add i2_3 2)) ?_
      refine i_lald X F 83 (act83) rfl dX7_agrees_48 (vp_in_nI (by omega) (by decide)) rfl ?_
      refine Go.genL (fun o9 => ?_)
      refine g_lcmp X dX7_agrees_49 ?_
      refine g_if_eq X dX7_agrees_50 (tgt := 55) (by decide) (fun q10 => ?_) (fun q10 => ?_)
      · skip
        have q10t : ((Int32.toInt64 (nI n6))) = o9 := (lg_cmp_eq _ _).mp q10
        have q10wa := Jvm.Kit.i64_of_i32 (nI n6)
        rw [nI_toInt (by omega)] at q10wa
        refine g_iinc X dX7_agrees_55 (j := 2) rfl (v := nI (i2_3 + 3)) (nI_add i2_3 3) (by decide) (lv2 := [(3, .int (nI (i2_3 + 3))), (5, .int (nI n4)), (4, .int (nI n3)), (0, .ref (a 0)), (1, .ref (a 82)), (2, .ref (a 31))]) rfl ?_
        refine g_goto X dX7_agrees_58 (tgt := 2) (by decide) ?_
        refine g_lv [0, 3, 4, 5] (lv2 := [(3, .int (nI (i2_3 + 3))), (0, .ref (a 0)), (1, .ref (a 82)), (2, .ref (a 31))]) rfl ?_
        exact ih2 ((i2_3 + 3)) L M C D F I K ⟨by omega, by omega, (by show _ % 3 = 0; omega)⟩ (by show _ < _; omega)
      · skip
        have q10t : ¬ ((Int32.toInt64 (nI n6))) = o9 := fun z => q10 ((lg_cmp_eq _ _).mpr z)
        have q10wa := Jvm.Kit.i64_of_i32 (nI n6)
        rw [nI_toInt (by omega)] at q10wa
        refine g_iconst X dX7_agrees_53 (v := 0) (by decide) ?_
        exact g_zret X hrt rfl dX7_agrees_54 (by decide) (by decide) ⟨C, D, F, I, K, Or.inl rfl⟩
set_option maxHeartbeats 4000000 in
set_option maxRecDepth 100000 in
theorem s_X7_possibleRoads_82 (l : Launch) (G : va_G) {cy : Nat → ClassId} {L : List Nat} {M : Nat → va_E} {a : Nat → Nat} {act : Nat → Bool} {C0 : Nat → Nat → Int32} {D0 : Nat → Nat → Int64} {R : Nat → Nat → Option Nat} (F : WI L M a act (ent cy a C0 D0 R)) (I : Inv C0) (p1 : Nat) (hp1a : 0 ≤ p1) (hp1b : p1 ≤ 6) (act82 : (baseact 82 || act 82) = true) (act83 : (baseact 83 || act 83) = true) (gsn : ∃ k : Nat, k ≤ 60 ∧ k % 3 = 0 ∧ C0 82 2 = nI k ∧ seen (D0 83) k) : MI l G cy yX7_possibleRoads cX7_possibleRoads 5 (some .int) 5 0 0 [.ref (a 0), .ref (a 82), .int (nI p1)] L M (fun r L2 M2 => ∃ C2 D2, WI L2 M2 a act (ent cy a C2 D2 R) ∧ Inv C2 ∧ Kp [31, 32, 33, 34, 35, 36, 42] C0 D0 C2 D2 ∧ True) := by
  refine MI.of (own := RX7) rfl (by decide) (Nat.le_of_ble_eq_true rfl) ?_
  intro p e s m below meth c A X hrt hnm
  obtain ⟨C, D, hC0, hD0, F, I, K⟩ : ∃ C D, C = C0 ∧ D = D0 ∧ WI L M a act (ent cy a C D R) ∧ Inv C ∧ Kp [31, 32, 33, 34, 35, 36, 42] C0 D0 C D := ⟨C0, D0, rfl, rfl, F, I, Kp.rf⟩
  refine g_iconst X dX7_possibleRoads_0 (v := 0) (by decide) ?_
  refine g_istore_n X dX7_possibleRoads_1 rfl (by decide) (lv2 := [(3, .int 0), (0, .ref (a 0)), (1, .ref (a 82)), (2, .int (nI p1))]) rfl ?_
  refine g_iconst X dX7_possibleRoads_2 (v := 0) (by decide) ?_
  refine g_istore X dX7_possibleRoads_3 (by decide) (lv2 := [(4, .int 0), (3, .int 0), (0, .ref (a 0)), (1, .ref (a 82)), (2, .int (nI p1))]) rfl ?_
  refine g_lv [0, 1, 2, 3, 4] (lv2 := [(4, .int 0), (3, .int 0), (0, .ref (a 0)), (1, .ref (a 82)), (2, .int (nI p1))]) rfl ?_
  refine i_loop (mods := [31, 32, 33, 34, 35, 36, 42]) (fun x : Nat × Int32 => 4 - x.1) (fun x => [(4, .int (nI (x.1))), (3, .int (x.2)), (0, .ref (a 0)), (1, .ref (a 82)), (2, .int (nI p1))]) (fun x C => 0 ≤ x.1 ∧ x.1 ≤ 4) (fun x L M C D F I K hP ih5 => ?_) ((0, 0) : Nat × Int32) F I K ⟨by show _ ≤ _; omega, by show _ ≤ _; omega⟩
  rcases x with ⟨i5_4, v5_3⟩
  obtain ⟨hi5_4a, hi5_4b⟩ := hP
  refine g_lv [0, 1, 2, 3, 4] (lv2 := [(4, .int (nI i5_4)), (3, .int v5_3), (0, .ref (a 0)), (1, .ref (a 82)), (2, .int (nI p1))]) rfl ?_
  refine g_iload X dX7_possibleRoads_5 (j := 0) rfl ?_
  refine g_aload_n X dX7_possibleRoads_7 rfl (j := 2) rfl ?_
  refine i_get X F 0 rfl rfl fk_X7_19 dX7_possibleRoads_8 rfl ?_
  refine i_get X F 3 rfl rfl fk_X7_109 dX7_possibleRoads_11 rfl ?_
  refine g_iload_n X dX7_possibleRoads_14 rfl (j := 4) rfl ?_
  obtain ⟨n1, hn1, en1⟩ := rg_nat (I 5 p1) (by decide)
  refine i_iald X F 5 rfl rfl dX7_possibleRoads_15 (vp_in_nI (by omega) (by decide)) (v := nI n1) (by rw [nI_clamp (by omega)]; exact en1) ?_
  refine g_icmp_ge X dX7_possibleRoads_16 (tgt := 75) (by decide) (fun q2 => ?_) (fun q2 => ?_)
  · skip
    have q2 : n1 ≤ i5_4 := (nI_leI (a := n1) (b := i5_4) (by omega) (by omega)).mp q2
    refine g_iload_n X dX7_possibleRoads_75 rfl (j := 1) rfl ?_
    exact g_iret X hrt dX7_possibleRoads_76 (by decide) (by decide) ⟨C, D, F, I, K, trivial⟩
  · skip
    have q2 : ¬ n1 ≤ i5_4 := fun z => q2 ((nI_leI (a := n1) (b := i5_4) (by omega) (by omega)).mpr z)
    refine g_aload_n X dX7_possibleRoads_19 rfl (j := 2) rfl ?_
    refine g_iload_n X dX7_possibleRoads_20 rfl (j := 4) rfl ?_
    refine g_iload X dX7_possibleRoads_21 (j := 0) rfl ?_
    refine g_callVV X (s_X7_runPointed l G F I p1 (by omega) (by omega) i5_4 (by omega) (by omega) ) lk_X7_267 (F.1 0 rfl).2 (F.1 0 rfl).1 rfl rfl dX7_possibleRoads_23 (Nat.le_of_ble_eq_true rfl) ⟨by decide, by decide⟩ ⟨by decide, by decide⟩ (fun L M hp => ?_)
    obtain ⟨C, D, F, I, K1, hr⟩ := hp
    have K := K.step K1 (by decide)
    refine g_aload_n X dX7_possibleRoads_26 rfl (j := 2) rfl ?_
    refine i_get X F 0 rfl rfl fk_X7_45 dX7_possibleRoads_27 rfl ?_
    refine i_get X F 31 rfl rfl fk_X7_441 dX7_possibleRoads_30 rfl ?_
    refine g_iconst X dX7_possibleRoads_33 (v := 0) (by decide) ?_
    refine g_aload_n X dX7_possibleRoads_34 rfl (j := 2) rfl ?_
    refine i_get X F 0 rfl rfl fk_X7_70 dX7_possibleRoads_35 rfl ?_
    refine g_iload X dX7_possibleRoads_38 (j := 0) rfl ?_
    refine g_sipush X dX7_possibleRoads_40 (v := 136) (by decide) ?_
    refine g_imul X dX7_possibleRoads_43 ?_
    refine Go.top (v := .int (nI (i5_4 * 136))) (congrArg Value.int (pk_mul i5_4 136)) ?_
    refine g_sipush X dX7_possibleRoads_44 (v := 136) (by decide) ?_
    refine i_copyi X F I 33 rfl 42 rfl rfl (fun _ => rfl) (t0 := 1) rfl rfl wd604 wd87 wd88 wd89 (by decide) (nI_pos (by omega)) (by decide) (by decide) (by have k136 : (136 : Int32).toNatClampNeg = 136 := (by decide); rw [nI_clamp (show (i5_4 * 136) < 2 ^ 31 by omega), k136]; omega) (fun _ _ => rfl) (by decide) (Nat.le_of_ble_eq_true rfl) dX7_possibleRoads_47 (fun j => trivial) (fun M C F I K1 hC => ?_)
    have K := K.step K1 (by decide)
    refine g_aload_n X dX7_possibleRoads_50 rfl (j := 2) rfl ?_
    refine g_aload_n X dX7_possibleRoads_51 rfl (j := 3) rfl ?_
    refine g_aload_n X dX7_possibleRoads_52 rfl (j := 2) rfl ?_
    refine i_get X F 0 rfl rfl fk_X7_45 dX7_possibleRoads_53 rfl ?_
    refine g_callVI X (s_X7_agrees_82 l G F I  act82 act83 (by rw [(K 82 (by decide)).1, (K 83 (by decide)).2]; exact gsn)) lk_X7_306 (F.1 0 rfl).2 (F.1 0 rfl).1 rfl rfl dX7_possibleRoads_56 (Nat.le_of_ble_eq_true rfl) ⟨by decide, by decide⟩ ⟨by decide, by decide⟩ (fun r3 L M hp => ?_)
    obtain ⟨C, D, F, I, K1, hr⟩ := hp
    have K := K.step K1 (by decide)
    rcases hr with rfl | rfl
    · skip
      refine g_if_eq X dX7_possibleRoads_59 (tgt := 69) (by decide) (fun _ => ?_) (fun q => absurd (by decide) q)
      refine g_iinc X dX7_possibleRoads_69 (j := 0) rfl (v := nI (i5_4 + 1)) (nI_1 i5_4) (by decide) (lv2 := [(4, .int (nI (i5_4 + 1))), (3, .int v5_3), (0, .ref (a 0)), (1, .ref (a 82)), (2, .int (nI p1))]) rfl ?_
      refine g_goto X dX7_possibleRoads_72 (tgt := 5) (by decide) ?_
      refine g_lv [0, 1, 2, 3, 4] (lv2 := [(4, .int (nI (i5_4 + 1))), (3, .int v5_3), (0, .ref (a 0)), (1, .ref (a 82)), (2, .int (nI p1))]) rfl ?_
      exact ih5 ((i5_4 + 1), v5_3) L M C D F I K ⟨by omega, by omega⟩ (by show _ < _; omega)
    · skip
      refine g_if_eq X dX7_possibleRoads_59 (tgt := 69) (by decide) (fun q => absurd q (by decide)) (fun _ => ?_)
      refine g_iload_n X dX7_possibleRoads_62 rfl (j := 1) rfl ?_
      refine g_iconst X dX7_possibleRoads_63 (v := 1) (by decide) ?_
      refine g_iload X dX7_possibleRoads_64 (j := 0) rfl ?_
      refine g_ishl X dX7_possibleRoads_66 ?_
      refine Go.gen (fun o4 => ?_)
      refine g_ior X dX7_possibleRoads_67 ?_
      refine Go.gen (fun o5 => ?_)
      refine g_istore_n X dX7_possibleRoads_68 rfl (by decide) (lv2 := [(3, .int o5), (4, .int (nI i5_4)), (0, .ref (a 0)), (1, .ref (a 82)), (2, .int (nI p1))]) rfl ?_
      refine g_iinc X dX7_possibleRoads_69 (j := 1) rfl (v := nI (i5_4 + 1)) (nI_1 i5_4) (by decide) (lv2 := [(4, .int (nI (i5_4 + 1))), (3, .int o5), (0, .ref (a 0)), (1, .ref (a 82)), (2, .int (nI p1))]) rfl ?_
      refine g_goto X dX7_possibleRoads_72 (tgt := 5) (by decide) ?_
      refine g_lv [0, 1, 2, 3, 4] (lv2 := [(4, .int (nI (i5_4 + 1))), (3, .int o5), (0, .ref (a 0)), (1, .ref (a 82)), (2, .int (nI p1))]) rfl ?_
      exact ih5 ((i5_4 + 1), o5) L M C D F I K ⟨by omega, by omega⟩ (by show _ < _; omega)
set_option maxHeartbeats 4000000 in
set_option maxRecDepth 100000 in
theorem s_X7_refusalOfSeen_1 (l : Launch) (G : va_G) {cy : Nat → ClassId} {L : List Nat} {M : Nat → va_E} {a : Nat → Nat} {act : Nat → Bool} {C0 : Nat → Nat → Int32} {D0 : Nat → Nat → Int64} {R : Nat → Nat → Option Nat} (F : WI L M a act (ent cy a C0 D0 R)) (I : Inv C0) (p1 : Int32) (HR : RA a act R) : MI l G cy yX7_refusalOfSeen cX7_refusalOfSeen 3 (some .int) 3 0 0 [.ref (a 0), .int 1, .int p1] L M (fun r L2 M2 => ∃ C2 D2, WI L2 M2 a act (ent cy a C2 D2 R) ∧ Inv C2 ∧ Kp [] C0 D0 C2 D2 ∧ (¬ r = 0 ∨ (r = 0 ∧ act 82 = true ∧ ¬ p1 = 0 ∧ ∃ k : Nat, k ≤ 60 ∧ k % 3 = 0 ∧ C2 82 2 = nI k ∧ seen (D2 83) k))) := by
  refine MI.of (own := RX7) rfl (by decide) (Nat.le_of_ble_eq_true rfl) ?_
  intro p e s m below meth c A X hrt hnm
  obtain ⟨C, D, hC0, hD0, F, I, K⟩ : ∃ C D, C = C0 ∧ D = D0 ∧ WI L M a act (ent cy a C D R) ∧ Inv C ∧ Kp [] C0 D0 C D := ⟨C0, D0, rfl, rfl, F, I, Kp.rf⟩
  refine g_iload_n X dX7_refusalOfSeen_0 rfl (j := 1) rfl ?_
  refine g_callSI X (s_X7_isSlot_1 l G F I  ) lk_X7_389 rfl rfl dX7_refusalOfSeen_1 (Nat.le_of_ble_eq_true rfl) ⟨by decide, by decide⟩ ⟨by decide, by decide⟩ (fun r1 L M hp => ?_)
  obtain ⟨C, D, F, I, K1, hr⟩ := hp
  have K := K.step K1 (by decide)
  subst hr
  refine g_if_eq X dX7_refusalOfSeen_4 (tgt := 11) (by decide) (fun q => absurd q (by decide)) (fun _ => ?_)
  refine g_iload_n X dX7_refusalOfSeen_7 rfl (j := 2) rfl ?_
  refine g_if_ne X dX7_refusalOfSeen_8 (tgt := 14) (by decide) (fun q2 => ?_) (fun q2 => ?_)
  · skip
    refine g_aload_n X dX7_refusalOfSeen_14 rfl (j := 0) rfl ?_
    refine i_get X F 0 rfl rfl fk_X7_32 dX7_refusalOfSeen_15 rfl ?_
    refine g_iload_n X dX7_refusalOfSeen_18 rfl (j := 1) rfl ?_
    rcases (Bool.eq_false_or_eq_true (act 82)).symm with hA82 | hA82
    · skip
      refine i_aald X F 24 rfl (t0 := 5) rfl rfl dX7_refusalOfSeen_19 (vp_in_iff.mpr (by decide)) (v := .null) (by show va_rf (R 24 1) = _; rw [HR.1 1 (by decide)]; rw [if_neg (by rw [hA82]; decide)]; rfl) ?_
      refine g_ifnonnullN X dX7_refusalOfSeen_20 ?_
      refine g_bipush X dX7_refusalOfSeen_23 (v := -6) (by decide) ?_
      exact g_iret X hrt dX7_refusalOfSeen_25 (by decide) (by decide) ⟨C, D, F, I, K, Or.inl (by decide)⟩
    · skip
      have act82 : (baseact 82 || act 82) = true := by rw [hA82]; rfl
      have act83 : (baseact 83 || act 83) = true := by rw [((HR.2.2.1 1 (by decide)).trans hA82)]; rfl
      refine i_aald X F 24 rfl (t0 := 5) rfl rfl dX7_refusalOfSeen_19 (vp_in_iff.mpr (by decide)) (v := .ref (a 82)) (by show va_rf (R 24 1) = _; rw [HR.1 1 (by decide)]; rw [if_pos hA82]; rfl) ?_
      refine g_ifnonnull X dX7_refusalOfSeen_20 (tgt := 26) (by decide) ?_
      refine g_aload_n X dX7_refusalOfSeen_26 rfl (j := 0) rfl ?_
      refine g_aload_n X dX7_refusalOfSeen_27 rfl (j := 0) rfl ?_
      refine i_get X F 0 rfl rfl fk_X7_32 dX7_refusalOfSeen_28 rfl ?_
      refine g_iload_n X dX7_refusalOfSeen_31 rfl (j := 1) rfl ?_
      refine i_aald X F 24 rfl (t0 := 5) rfl rfl dX7_refusalOfSeen_32 (vp_in_iff.mpr (by decide)) (v := .ref (a 82)) (by show va_rf (R 24 1) = _; rw [HR.1 1 (by decide)]; rw [if_pos hA82]; rfl) ?_
      refine g_callVI X (s_X7_tellsPlaces_82 l G F I  act82 act83) lk_X7_433 (F.1 0 rfl).2 (F.1 0 rfl).1 rfl rfl dX7_refusalOfSeen_33 (Nat.le_of_ble_eq_true rfl) ⟨by decide, by decide⟩ ⟨by decide, by decide⟩ (fun r5 L M hp => ?_)
      obtain ⟨C, D, F, I, K1, hr⟩ := hp
      have K := K.step K1 (by decide)
      rcases hr with rfl | ⟨rfl, hz6⟩
      · skip
        refine g_if_eq X dX7_refusalOfSeen_36 (tgt := 43) (by decide) (fun _ => ?_) (fun q => absurd (by decide) q)
        refine g_bipush X dX7_refusalOfSeen_43 (v := -2) (by decide) ?_
        exact g_iret X hrt dX7_refusalOfSeen_45 (by decide) (by decide) ⟨C, D, F, I, K, Or.inl (by decide)⟩
      · skip
        refine g_if_eq X dX7_refusalOfSeen_36 (tgt := 43) (by decide) (fun q => absurd q (by decide)) (fun _ => ?_)
        refine g_iconst X dX7_refusalOfSeen_39 (v := 0) (by decide) ?_
        refine g_goto X dX7_refusalOfSeen_40 (tgt := 45) (by decide) ?_
        exact g_iret X hrt dX7_refusalOfSeen_45 (by decide) (by decide) ⟨C, D, F, I, K, Or.inr ⟨rfl, hA82, q2, by have z := hz6; exact z⟩⟩
  · skip
    subst q2
    refine g_bipush X dX7_refusalOfSeen_11 (v := -2) (by decide) ?_
    exact g_iret X hrt dX7_refusalOfSeen_13 (by decide) (by decide) ⟨C, D, F, I, K, Or.inl (by decide)⟩
set_option maxHeartbeats 4000000 in
set_option maxRecDepth 100000 in
theorem s_X7_tellsPlaces_84 (l : Launch) (G : va_G) {cy : Nat → ClassId} {L : List Nat} {M : Nat → va_E} {a : Nat → Nat} {act : Nat → Bool} {C0 : Nat → Nat → Int32} {D0 : Nat → Nat → Int64} {R : Nat → Nat → Option Nat} (F : WI L M a act (ent cy a C0 D0 R)) (I : Inv C0)  (act84 : (baseact 84 || act 84) = true) (act85 : (baseact 85 || act 85) = true) : MI l G cy yX7_tellsPlaces cX7_tellsPlaces 9 (some .boolean) 2 0 0 [.ref (a 0), .ref (a 84)] L M (fun r L2 M2 => ∃ C2 D2, WI L2 M2 a act (ent cy a C2 D2 R) ∧ Inv C2 ∧ Kp [] C0 D0 C2 D2 ∧ (r = 0 ∨ (r = 1 ∧ ∃ k : Nat, k ≤ 60 ∧ k % 3 = 0 ∧ C2 84 2 = nI k ∧ seen (D2 85) k))) := by
  refine MI.of (own := RX7) rfl (by decide) (Nat.le_of_ble_eq_true rfl) ?_
  intro p e s m below meth c A X hrt hnm
  obtain ⟨C, D, hC0, hD0, F, I, K⟩ : ∃ C D, C = C0 ∧ D = D0 ∧ WI L M a act (ent cy a C D R) ∧ Inv C ∧ Kp [] C0 D0 C D := ⟨C0, D0, rfl, rfl, F, I, Kp.rf⟩
  obtain ⟨n1, hn1, en1⟩ := rg_nat (I 84 2 rfl) (by decide)
  rw [hC0] at en1
  obtain ⟨sz, hsz⟩ : ∃ z, z = n1 := ⟨_, rfl⟩
  refine g_aload_n X dX7_tellsPlaces_0 rfl (j := 1) rfl ?_
  refine i_get X F 84 (act84) rfl fk_X7_395 dX7_tellsPlaces_1 (v := .int (nI n1)) (congrArg (fun z => some (Value.int z)) ((congrFun (K 84 (by decide)).1 2).trans en1)) ?_
  refine g_iconst X dX7_tellsPlaces_4 (v := 3) (by decide) ?_
  refine g_irem X dX7_tellsPlaces_5 (by decide) ?_
  refine Go.top (v := .int (nI (n1 % 3))) (congrArg Value.int (pk_rem (a := n1) (d := 3) (by omega) (by omega) (by omega))) ?_
  obtain ⟨n2, en2⟩ : ∃ z : Nat, z = n1 % 3 := ⟨_, rfl⟩
  refine Go.top (v := .int (nI n2)) (by rw [en2]) ?_
  have hn2 : n2 < 3 := by rw [en2]; exact Nat.mod_lt _ (by omega)
  refine g_if_eq X dX7_tellsPlaces_6 (tgt := 11) (by decide) (fun q3 => ?_) (fun q3 => ?_)
  · skip
    have q3 : n2 = 0 := (nI_eq (a := n2) (b := 0) (by omega) (by omega)).mp q3
    refine g_iconst X dX7_tellsPlaces_11 (v := 0) (by decide) ?_
    refine g_istore_n X dX7_tellsPlaces_12 rfl (by decide) (lv2 := [(2, .int 0), (0, .ref (a 0)), (1, .ref (a 84))]) rfl ?_
    refine g_lv [0, 1, 2] (lv2 := [(2, .int 0), (0, .ref (a 0)), (1, .ref (a 84))]) rfl ?_
    refine i_loop (mods := []) (fun x : Nat => 60 - x) (fun x => [(2, .int (nI (x))), (0, .ref (a 0)), (1, .ref (a 84))]) (fun x C => 0 ≤ x ∧ x ≤ 60 ∧ (x % 3 = 0) ∧ (seen (D0 85) (x)) ∧ (x ≤ sz)) (fun x L M C D F I K hP ih13 => ?_) ((0) : Nat) F I K ⟨by show _ ≤ _; omega, by show _ ≤ _; omega, (by decide), seen_0, (Nat.zero_le _)⟩
    obtain ⟨i13_2, rfl⟩ : ∃ z, z = x := ⟨_, rfl⟩
    obtain ⟨hi13_2a, hi13_2b, hm3, hsee, hisz⟩ := hP
    refine g_lv [0, 1, 2] (lv2 := [(2, .int (nI i13_2)), (0, .ref (a 0)), (1, .ref (a 84))]) rfl ?_
    refine g_iload_n X dX7_tellsPlaces_13 rfl (j := 0) rfl ?_
    refine g_iconst X dX7_tellsPlaces_14 (v := 2) (by decide) ?_
    refine g_iadd X dX7_tellsPlaces_15 ?_
    refine Go.top (v := .int (nI (i13_2 + 2))) (congrArg Value.int (nI_add i13_2 2)) ?_
    refine g_aload_n X dX7_tellsPlaces_16 rfl (j := 2) rfl ?_
    refine i_get X F 84 (act84) rfl fk_X7_395 dX7_tellsPlaces_17 (v := .int (nI n1)) (congrArg (fun z => some (Value.int z)) ((congrFun (K 84 (by decide)).1 2).trans en1)) ?_
    refine g_icmp_ge X dX7_tellsPlaces_20 (tgt := 142) (by decide) (fun q4 => ?_) (fun q4 => ?_)
    · skip
      have q4 : n1 ≤ (i13_2 + 2) := (nI_leI (a := n1) (b := (i13_2 + 2)) (by omega) (by omega)).mp q4
      refine g_iconst X dX7_tellsPlaces_142 (v := 1) (by decide) ?_
      exact g_zret X hrt rfl dX7_tellsPlaces_143 (by decide) (by decide) ⟨C, D, F, I, K, Or.inr ⟨rfl, n1, by omega, by omega, (congrFun (K 84 (by decide)).1 2).trans en1, by rw [(K 85 (by decide)).2, show n1 = i13_2 by omega]; exact hsee⟩⟩
    · skip
      have q4 : ¬ n1 ≤ (i13_2 + 2) := fun z => q4 ((nI_leI (a := n1) (b := (i13_2 + 2)) (by omega) (by omega)).mpr z)
      refine g_aload_n X dX7_tellsPlaces_23 rfl (j := 2) rfl ?_
      refine i_get X F 84 (act84) rfl fk_X7_406 dX7_tellsPlaces_24 rfl ?_
      refine g_iload_n X dX7_tellsPlaces_27 rfl (j := 0) rfl ?_
      refine i_lald X F 85 (act85) rfl dX7_tellsPlaces_28 (vp_in_nI (by omega) (by decide)) (v := D0 85 (i13_2)) (by rw [nI_clamp (by omega), (K 85 (by decide)).2]) ?_
      refine g_lstore_n X dX7_tellsPlaces_29 rfl (by decide) (lv2 := [(3, .long ((D0 85 (i13_2)))), (2, .int (nI i13_2)), (0, .ref (a 0)), (1, .ref (a 84))]) rfl ?_
      refine g_aload_n X dX7_tellsPlaces_30 rfl (j := 3) rfl ?_
      refine i_get X F 84 (act84) rfl fk_X7_406 dX7_tellsPlaces_31 rfl ?_
      refine g_iload_n X dX7_tellsPlaces_34 rfl (j := 1) rfl ?_
      refine g_iconst X dX7_tellsPlaces_35 (v := 1) (by decide) ?_
      refine g_iadd X dX7_tellsPlaces_36 ?_
      refine Go.top (v := .int (nI (i13_2 + 1))) (congrArg Value.int (nI_add i13_2 1)) ?_
      refine i_lald X F 85 (act85) rfl dX7_tellsPlaces_37 (vp_in_nI (by omega) (by decide)) (v := D0 85 ((i13_2 + 1))) (by rw [nI_clamp (by omega), (K 85 (by decide)).2]) ?_
      refine g_lstore X dX7_tellsPlaces_38 (by decide) (lv2 := [(5, .long ((D0 85 ((i13_2 + 1))))), (3, .long ((D0 85 (i13_2)))), (2, .int (nI i13_2)), (0, .ref (a 0)), (1, .ref (a 84))]) rfl ?_
      refine g_aload_n X dX7_tellsPlaces_40 rfl (j := 4) rfl ?_
      refine i_get X F 84 (act84) rfl fk_X7_406 dX7_tellsPlaces_41 rfl ?_
      refine g_iload_n X dX7_tellsPlaces_44 rfl (j := 2) rfl ?_
      refine g_iconst X dX7_tellsPlaces_45 (v := 2) (by decide) ?_
      refine g_iadd X dX7_tellsPlaces_46 ?_
      refine Go.top (v := .int (nI (i13_2 + 2))) (congrArg Value.int (nI_add i13_2 2)) ?_
      refine i_lald X F 85 (act85) rfl dX7_tellsPlaces_47 (vp_in_nI (by omega) (by decide)) rfl ?_
      refine Go.genL (fun o5 => ?_)
      refine g_lstore X dX7_tellsPlaces_48 (by decide) (lv2 := [(7, .long o5), (5, .long ((D0 85 ((i13_2 + 1))))), (3, .long ((D0 85 (i13_2)))), (2, .int (nI i13_2)), (0, .ref (a 0)), (1, .ref (a 84))]) rfl ?_
      refine g_lload_n X dX7_tellsPlaces_50 rfl (j := 2) rfl ?_
      refine g_lconst X dX7_tellsPlaces_51 (v := 0) (by decide) ?_
      refine g_lcmp X dX7_tellsPlaces_52 ?_
      refine g_if_lt X dX7_tellsPlaces_53 (tgt := 90) (by decide) (fun q6 => ?_) (fun q6 => ?_)
      · skip
        have q6t : ((D0 85 (i13_2))).toInt < (0 : Int64).toInt := Int64.lt_iff_toInt_lt.mp ((lg_cmp_lt _ _).mp q6)
        have q6k0 : (0 : Int64).toInt = 0 := (by decide)
        refine g_iconst X dX7_tellsPlaces_90 (v := 0) (by decide) ?_
        exact g_zret X hrt rfl dX7_tellsPlaces_91 (by decide) (by decide) ⟨C, D, F, I, K, Or.inl rfl⟩
      · skip
        have q6t : ¬ ((D0 85 (i13_2))).toInt < (0 : Int64).toInt := fun z => q6 ((lg_cmp_lt _ _).mpr (Int64.lt_iff_toInt_lt.mpr z))
        have q6k0 : (0 : Int64).toInt = 0 := (by decide)
        refine g_lload_n X dX7_tellsPlaces_56 rfl (j := 2) rfl ?_
        refine g_aload_n X dX7_tellsPlaces_57 rfl (j := 4) rfl ?_
        refine i_get X F 0 rfl rfl fk_X7_19 dX7_tellsPlaces_58 rfl ?_
        obtain ⟨n7, hn7, en7⟩ := rg_nat ((I 3 8).2.2.2 rfl) (by decide)
        refine i_get X F 3 rfl rfl fk_X7_276 dX7_tellsPlaces_61 (v := .int (nI n7)) (congrArg (fun z => some (Value.int z)) en7) ?_
        refine g_i2l X dX7_tellsPlaces_64 rfl ?_
        refine g_lcmp X dX7_tellsPlaces_65 ?_
        refine g_if_ge X dX7_tellsPlaces_66 (tgt := 90) (by decide) (fun q8 => ?_) (fun q8 => ?_)
        · skip
          have q8t : ((Int32.toInt64 (nI n7))).toInt ≤ ((D0 85 (i13_2))).toInt := Int64.le_iff_toInt_le.mp ((lg_cmp_ge _ _).mp q8)
          have q8wb := Jvm.Kit.i64_of_i32 (nI n7)
          rw [nI_toInt (by omega)] at q8wb
          refine g_iconst X dX7_tellsPlaces_90 (v := 0) (by decide) ?_
          exact g_zret X hrt rfl dX7_tellsPlaces_91 (by decide) (by decide) ⟨C, D, F, I, K, Or.inl rfl⟩
        · skip
          have q8t : ¬ ((Int32.toInt64 (nI n7))).toInt ≤ ((D0 85 (i13_2))).toInt := fun z => q8 ((lg_cmp_ge _ _).mpr (Int64.le_iff_toInt_le.mpr z))
          have q8wb := Jvm.Kit.i64_of_i32 (nI n7)
          rw [nI_toInt (by omega)] at q8wb
          refine g_lload X dX7_tellsPlaces_69 (j := 1) rfl ?_
          refine g_lconst X dX7_tellsPlaces_71 (v := 0) (by decide) ?_
          refine g_lcmp X dX7_tellsPlaces_72 ?_
          refine g_if_lt X dX7_tellsPlaces_73 (tgt := 90) (by decide) (fun q9 => ?_) (fun q9 => ?_)
          · skip
            have q9t : ((D0 85 ((i13_2 + 1)))).toInt < (0 : Int64).toInt := Int64.lt_iff_toInt_lt.mp ((lg_cmp_lt _ _).mp q9)
            have q9k0 : (0 : Int64).toInt = 0 := (by decide)
            refine g_iconst X dX7_tellsPlaces_90 (v := 0) (by decide) ?_
            exact g_zret X hrt rfl dX7_tellsPlaces_91 (by decide) (by decide) ⟨C, D, F, I, K, Or.inl rfl⟩
          · skip
            have q9t : ¬ ((D0 85 ((i13_2 + 1)))).toInt < (0 : Int64).toInt := fun z => q9 ((lg_cmp_lt _ _).mpr (Int64.lt_iff_toInt_lt.mpr z))
            have q9k0 : (0 : Int64).toInt = 0 := (by decide)
            refine g_lload X dX7_tellsPlaces_76 (j := 1) rfl ?_
            refine g_aload_n X dX7_tellsPlaces_78 rfl (j := 4) rfl ?_
            refine i_get X F 0 rfl rfl fk_X7_19 dX7_tellsPlaces_79 rfl ?_
            obtain ⟨n10, hn10, en10⟩ := rg_nat ((I 3 1).1 rfl) (by decide)
            refine i_get X F 3 rfl rfl fk_X7_168 dX7_tellsPlaces_82 (v := .int (nI n10)) (congrArg (fun z => some (Value.int z)) en10) ?_
            refine g_i2l X dX7_tellsPlaces_85 rfl ?_
            refine g_lcmp X dX7_tellsPlaces_86 ?_
            refine g_if_le X dX7_tellsPlaces_87 (tgt := 92) (by decide) (fun q11 => ?_) (fun q11 => ?_)
            · skip
              have q11t : ((D0 85 ((i13_2 + 1)))).toInt ≤ ((Int32.toInt64 (nI n10))).toInt := Int64.le_iff_toInt_le.mp ((lg_cmp_le _ _).mp q11)
              have q11wb := Jvm.Kit.i64_of_i32 (nI n10)
              rw [nI_toInt (by omega)] at q11wb
              refine g_lload X dX7_tellsPlaces_92 (j := 0) rfl ?_
              refine g_ldc2 X (v := -1) wd602 dX7_tellsPlaces_94 ?_
              refine g_lcmp X dX7_tellsPlaces_97 ?_
              refine g_if_lt X dX7_tellsPlaces_98 (tgt := 110) (by decide) (fun q12 => ?_) (fun q12 => ?_)
              · skip
                have q12t : o5.toInt < (-1 : Int64).toInt := Int64.lt_iff_toInt_lt.mp ((lg_cmp_lt _ _).mp q12)
                have q12k1 : (-1 : Int64).toInt = -1 := (by decide)
                refine g_iconst X dX7_tellsPlaces_110 (v := 0) (by decide) ?_
                exact g_zret X hrt rfl dX7_tellsPlaces_111 (by decide) (by decide) ⟨C, D, F, I, K, Or.inl rfl⟩
              · skip
                have q12t : ¬ o5.toInt < (-1 : Int64).toInt := fun z => q12 ((lg_cmp_lt _ _).mpr (Int64.lt_iff_toInt_lt.mpr z))
                have q12k1 : (-1 : Int64).toInt = -1 := (by decide)
                refine g_lload X dX7_tellsPlaces_101 (j := 0) rfl ?_
                refine g_ldc2 X (v := 14) wd603 dX7_tellsPlaces_103 ?_
                refine g_lcmp X dX7_tellsPlaces_106 ?_
                refine g_if_lt X dX7_tellsPlaces_107 (tgt := 112) (by decide) (fun q13 => ?_) (fun q13 => ?_)
                · skip
                  have q13t : o5.toInt < (14 : Int64).toInt := Int64.lt_iff_toInt_lt.mp ((lg_cmp_lt _ _).mp q13)
                  have q13k14 : (14 : Int64).toInt = 14 := (by decide)
                  refine g_lload X dX7_tellsPlaces_112 (j := 0) rfl ?_
                  refine g_ldc2 X (v := -1) wd602 dX7_tellsPlaces_114 ?_
                  refine g_lcmp X dX7_tellsPlaces_117 ?_
                  refine g_if_eq X dX7_tellsPlaces_118 (tgt := 136) (by decide) (fun q14 => ?_) (fun q14 => ?_)
                  · skip
                    have q14t : o5 = (-1 : Int64) := (lg_cmp_eq _ _).mp q14
                    have q14k1 : (-1 : Int64).toInt = -1 := (by decide)
                    refine g_iinc X dX7_tellsPlaces_136 (j := 3) rfl (v := nI (i13_2 + 3)) (nI_add i13_2 3) (by decide) (lv2 := [(2, .int (nI (i13_2 + 3))), (7, .long o5), (5, .long ((D0 85 ((i13_2 + 1))))), (3, .long ((D0 85 (i13_2)))), (0, .ref (a 0)), (1, .ref (a 84))]) rfl ?_
                    refine g_goto X dX7_tellsPlaces_139 (tgt := 13) (by decide) ?_
                    refine g_lv [0, 4, 5] (lv2 := [(2, .int (nI (i13_2 + 3))), (0, .ref (a 0)), (1, .ref (a 84))]) rfl ?_
                    exact ih13 ((i13_2 + 3)) L M C D F I K ⟨by omega, by omega, (by show _ % 3 = 0; omega), (seen_st (by omega) hsee (by omega) (by omega) (by omega) (by omega)), (by show _ ≤ sz; omega)⟩ (by show _ < _; omega)
                  · skip
                    have q14t : ¬ o5 = (-1 : Int64) := fun z => q14 ((lg_cmp_eq _ _).mpr z)
                    have q14k1 : (-1 : Int64).toInt = -1 := (by decide)
                    refine g_aload_n X dX7_tellsPlaces_121 rfl (j := 4) rfl ?_
                    refine i_get X F 0 rfl rfl fk_X7_19 dX7_tellsPlaces_122 rfl ?_
                    refine g_lload X dX7_tellsPlaces_125 (j := 0) rfl ?_
                    refine g_l2i X dX7_tellsPlaces_127 rfl ?_
                    refine Go.gen (fun o15 => ?_)
                    refine g_callVI X (s_X2_hasPlace l G F I o15 ) lk_X7_143 (F.1 3 rfl).2 (F.1 3 rfl).1 rfl rfl dX7_tellsPlaces_128 (Nat.le_of_ble_eq_true rfl) ⟨by decide, by decide⟩ ⟨by decide, by decide⟩ (fun r16 L M hp => ?_)
                    obtain ⟨C, D, F, I, K1, hr⟩ := hp
                    have K := K.step K1 (by decide)
                    rcases hr with rfl | ⟨rfl, n17, hn17, en17⟩
                    · skip
                      refine g_if_ne X dX7_tellsPlaces_131 (tgt := 136) (by decide) (fun q => absurd (by decide) q) (fun _ => ?_)
                      refine g_iconst X dX7_tellsPlaces_134 (v := 0) (by decide) ?_
                      exact g_zret X hrt rfl dX7_tellsPlaces_135 (by decide) (by decide) ⟨C, D, F, I, K, Or.inl rfl⟩
                    · skip
                      subst en17
                      refine g_if_ne X dX7_tellsPlaces_131 (tgt := 136) (by decide) (fun _ => ?_) (fun q => absurd q (by decide))
                      refine g_iinc X dX7_tellsPlaces_136 (j := 3) rfl (v := nI (i13_2 + 3)) (nI_add i13_2 3) (by decide) (lv2 := [(2, .int (nI (i13_2 + 3))), (7, .long o5), (5, .long ((D0 85 ((i13_2 + 1))))), (3, .long ((D0 85 (i13_2)))), (0, .ref (a 0)), (1, .ref (a 84))]) rfl ?_
                      refine g_goto X dX7_tellsPlaces_139 (tgt := 13) (by decide) ?_
                      refine g_lv [0, 4, 5] (lv2 := [(2, .int (nI (i13_2 + 3))), (0, .ref (a 0)), (1, .ref (a 84))]) rfl ?_
                      exact ih13 ((i13_2 + 3)) L M C D F I K ⟨by omega, by omega, (by show _ % 3 = 0; omega), (seen_st (by omega) hsee (by omega) (by omega) (by omega) (by omega)), (by show _ ≤ sz; omega)⟩ (by show _ < _; omega)
                · skip
                  have q13t : ¬ o5.toInt < (14 : Int64).toInt := fun z => q13 ((lg_cmp_lt _ _).mpr (Int64.lt_iff_toInt_lt.mpr z))
                  have q13k14 : (14 : Int64).toInt = 14 := (by decide)
                  refine g_iconst X dX7_tellsPlaces_110 (v := 0) (by decide) ?_
                  exact g_zret X hrt rfl dX7_tellsPlaces_111 (by decide) (by decide) ⟨C, D, F, I, K, Or.inl rfl⟩
            · skip
              have q11t : ¬ ((D0 85 ((i13_2 + 1)))).toInt ≤ ((Int32.toInt64 (nI n10))).toInt := fun z => q11 ((lg_cmp_le _ _).mpr (Int64.le_iff_toInt_le.mpr z))
              have q11wb := Jvm.Kit.i64_of_i32 (nI n10)
              rw [nI_toInt (by omega)] at q11wb
              refine g_iconst X dX7_tellsPlaces_90 (v := 0) (by decide) ?_
              exact g_zret X hrt rfl dX7_tellsPlaces_91 (by decide) (by decide) ⟨C, D, F, I, K, Or.inl rfl⟩
  · skip
    have q3 : ¬ n2 = 0 := fun z => q3 ((nI_eq (a := n2) (b := 0) (by omega) (by omega)).mpr z)
    refine g_iconst X dX7_tellsPlaces_9 (v := 0) (by decide) ?_
    exact g_zret X hrt rfl dX7_tellsPlaces_10 (by decide) (by decide) ⟨C, D, F, I, K, Or.inl rfl⟩
set_option maxHeartbeats 4000000 in
set_option maxRecDepth 100000 in
theorem s_X7_agrees_84 (l : Launch) (G : va_G) {cy : Nat → ClassId} {L : List Nat} {M : Nat → va_E} {a : Nat → Nat} {act : Nat → Bool} {C0 : Nat → Nat → Int32} {D0 : Nat → Nat → Int64} {R : Nat → Nat → Option Nat} (F : WI L M a act (ent cy a C0 D0 R)) (I : Inv C0)  (act84 : (baseact 84 || act 84) = true) (act85 : (baseact 85 || act 85) = true) (gsn : ∃ k : Nat, k ≤ 60 ∧ k % 3 = 0 ∧ C0 84 2 = nI k ∧ seen (D0 85) k) : MI l G cy yX7_agrees cX7_agrees 6 (some .boolean) 1 0 0 [.ref (a 0), .ref (a 84), .ref (a 31)] L M (fun r L2 M2 => ∃ C2 D2, WI L2 M2 a act (ent cy a C2 D2 R) ∧ Inv C2 ∧ Kp [] C0 D0 C2 D2 ∧ (r = 0 ∨ r = 1)) := by
  refine MI.of (own := RX7) rfl (by decide) (Nat.le_of_ble_eq_true rfl) ?_
  intro p e s m below meth c A X hrt hnm
  obtain ⟨C, D, hC0, hD0, F, I, K⟩ : ∃ C D, C = C0 ∧ D = D0 ∧ WI L M a act (ent cy a C D R) ∧ Inv C ∧ Kp [] C0 D0 C D := ⟨C0, D0, rfl, rfl, F, I, Kp.rf⟩
  obtain ⟨n1, hn1, en1⟩ := rg_nat (I 84 2 rfl) (by decide)
  rw [hC0] at en1
  obtain ⟨kz, hkz, hk3, ekz, hsn⟩ := gsn
  obtain rfl : n1 = kz := (nI_eq (by omega) (by omega)).mp (en1.symm.trans ekz)
  refine g_iconst X dX7_agrees_0 (v := 0) (by decide) ?_
  refine g_istore_n X dX7_agrees_1 rfl (by decide) (lv2 := [(3, .int 0), (0, .ref (a 0)), (1, .ref (a 84)), (2, .ref (a 31))]) rfl ?_
  refine g_lv [0, 1, 2, 3] (lv2 := [(3, .int 0), (0, .ref (a 0)), (1, .ref (a 84)), (2, .ref (a 31))]) rfl ?_
  refine i_loop (mods := []) (fun x : Nat => 60 - x) (fun x => [(3, .int (nI (x))), (0, .ref (a 0)), (1, .ref (a 84)), (2, .ref (a 31))]) (fun x C => 0 ≤ x ∧ x ≤ 60 ∧ (x % 3 = 0)) (fun x L M C D F I K hP ih2 => ?_) ((0) : Nat) F I K ⟨by show _ ≤ _; omega, by show _ ≤ _; omega, (by decide)⟩
  obtain ⟨i2_3, rfl⟩ : ∃ z, z = x := ⟨_, rfl⟩
  obtain ⟨hi2_3a, hi2_3b, hm3⟩ := hP
  refine g_lv [0, 1, 2, 3] (lv2 := [(3, .int (nI i2_3)), (0, .ref (a 0)), (1, .ref (a 84)), (2, .ref (a 31))]) rfl ?_
  refine g_iload_n X dX7_agrees_2 rfl (j := 0) rfl ?_
  refine g_iconst X dX7_agrees_3 (v := 2) (by decide) ?_
  refine g_iadd X dX7_agrees_4 ?_
  refine Go.top (v := .int (nI (i2_3 + 2))) (congrArg Value.int (nI_add i2_3 2)) ?_
  refine g_aload_n X dX7_agrees_5 rfl (j := 2) rfl ?_
  refine i_get X F 84 (act84) rfl fk_X7_395 dX7_agrees_6 (v := .int (nI n1)) (congrArg (fun z => some (Value.int z)) ((congrFun (K 84 (by decide)).1 2).trans en1)) ?_
  refine g_icmp_ge X dX7_agrees_9 (tgt := 61) (by decide) (fun q2 => ?_) (fun q2 => ?_)
  · skip
    have q2 : n1 ≤ (i2_3 + 2) := (nI_leI (a := n1) (b := (i2_3 + 2)) (by omega) (by omega)).mp q2
    refine g_iconst X dX7_agrees_61 (v := 1) (by decide) ?_
    exact g_zret X hrt rfl dX7_agrees_62 (by decide) (by decide) ⟨C, D, F, I, K, Or.inr rfl⟩
  · skip
    have q2 : ¬ n1 ≤ (i2_3 + 2) := fun z => q2 ((nI_leI (a := n1) (b := (i2_3 + 2)) (by omega) (by omega)).mpr z)
    refine g_aload_n X dX7_agrees_12 rfl (j := 2) rfl ?_
    refine i_get X F 84 (act84) rfl fk_X7_406 dX7_agrees_13 rfl ?_
    refine g_iload_n X dX7_agrees_16 rfl (j := 0) rfl ?_
    refine i_lald X F 85 (act85) rfl dX7_agrees_17 (vp_in_nI (by omega) (by decide)) (v := D0 85 (i2_3)) (by rw [nI_clamp (by omega), (K 85 (by decide)).2]) ?_
    have hi3 := hsn (i2_3 / 3) (by omega)
    rw [show 3 * (i2_3 / 3) = i2_3 by omega] at hi3
    obtain ⟨n3, hn3, en3⟩ := l2i_nat (hi := 7) hi3.1.1 (by have z := hi3.1.2; omega) (by decide)
    refine g_l2i X dX7_agrees_18 (v := nI n3) en3 ?_
    refine g_istore X dX7_agrees_19 (by decide) (lv2 := [(4, .int (nI n3)), (3, .int (nI i2_3)), (0, .ref (a 0)), (1, .ref (a 84)), (2, .ref (a 31))]) rfl ?_
    refine g_aload_n X dX7_agrees_21 rfl (j := 3) rfl ?_
    refine i_get X F 84 (act84) rfl fk_X7_406 dX7_agrees_22 rfl ?_
    refine g_iload_n X dX7_agrees_25 rfl (j := 1) rfl ?_
    refine g_iconst X dX7_agrees_26 (v := 1) (by decide) ?_
    refine g_iadd X dX7_agrees_27 ?_
    refine Go.top (v := .int (nI (i2_3 + 1))) (congrArg Value.int (nI_add i2_3 1)) ?_
    refine i_lald X F 85 (act85) rfl dX7_agrees_28 (vp_in_nI (by omega) (by decide)) (v := D0 85 ((i2_3 + 1))) (by rw [nI_clamp (by omega), (K 85 (by decide)).2]) ?_
    have hi3 := hsn (i2_3 / 3) (by omega)
    rw [show 3 * (i2_3 / 3) = i2_3 by omega] at hi3
    obtain ⟨n4, hn4, en4⟩ := l2i_nat (hi := 16) hi3.2.1 (by have z := hi3.2.2; omega) (by decide)
    refine g_l2i X dX7_agrees_29 (v := nI n4) en4 ?_
    refine g_istore X dX7_agrees_30 (by decide) (lv2 := [(5, .int (nI n4)), (4, .int (nI n3)), (3, .int (nI i2_3)), (0, .ref (a 0)), (1, .ref (a 84)), (2, .ref (a 31))]) rfl ?_
    refine g_aload_n X dX7_agrees_32 rfl (j := 5) rfl ?_
    refine g_iload X dX7_agrees_33 (j := 1) rfl ?_
    refine g_iload X dX7_agrees_35 (j := 0) rfl ?_
    refine g_callVI X (s_X4_placeOf_31 l G F I n3 (by omega) (by omega) n4 (by omega) (by omega) ) lk_X7_137 (F.1 31 rfl).2 (F.1 31 rfl).1 rfl rfl dX7_agrees_37 (Nat.le_of_ble_eq_true rfl) ⟨by decide, by decide⟩ ⟨by decide, by decide⟩ (fun r5 L M hp => ?_)
    obtain ⟨C, D, F, I, K1, hr⟩ := hp
    have K := K.step K1 (by decide)
    obtain ⟨hr, hpln6⟩ := hr
    rcases okp_nat hr with rfl | ⟨n6, hn6, rfl⟩
    · skip
      refine g_i2l X dX7_agrees_40 rfl ?_
      refine Go.top (v := .long (-1)) (by decide) ?_
      refine g_aload_n X dX7_agrees_41 rfl (j := 4) rfl ?_
      refine i_get X F 84 (act84) rfl fk_X7_406 dX7_agrees_42 rfl ?_
      refine g_iload_n X dX7_agrees_45 rfl (j := 2) rfl ?_
      refine g_iconst X dX7_agrees_46 (v := 2) (by decide) ?_
      refine g_iadd X dX7_agrees_47 ?_
      refine Go.top (v := .int (nI (i2_3 + 2))) (congrArg Value.int (nI_add i2_3 2)) ?_
      refine i_lald X F 85 (act85) rfl dX7_agrees_48 (vp_in_nI (by omega) (by decide)) rfl ?_
      refine Go.genL (fun o7 => ?_)
      refine g_lcmp X dX7_agrees_49 ?_
      refine g_if_eq X dX7_agrees_50 (tgt := 55) (by decide) (fun q8 => ?_) (fun q8 => ?_)
      · skip
        have q8t : (-1 : Int64) = o7 := (lg_cmp_eq _ _).mp q8
        have q8k1 : (-1 : Int64).toInt = -1 := (by decide)
        refine g_iinc X dX7_agrees_55 (j := 2) rfl (v := nI (i2_3 + 3)) (nI_add i2_3 3) (by decide) (lv2 := [(3, .int (nI (i2_3 + 3))), (5, .int (nI n4)), (4, .int (nI n3)), (0, .ref (a 0)), (1, .ref (a 84)), (2, .ref (a 31))]) rfl ?_
        refine g_goto X dX7_agrees_58 (tgt := 2) (by decide) ?_
        refine g_lv [0, 3, 4, 5] (lv2 := [(3, .int (nI (i2_3 + 3))), (0, .ref (a 0)), (1, .ref (a 84)), (2, .ref (a 31))]) rfl ?_
        exact ih2 ((i2_3 + 3)) L M C D F I K ⟨by omega, by omega, (by show _ % 3 = 0; omega)⟩ (by show _ < _; omega)
      · skip
        have q8t : ¬ (-1 : Int64) = o7 := fun z => q8 ((lg_cmp_eq _ _).mpr z)
        have q8k1 : (-1 : Int64).toInt = -1 := (by decide)
        refine g_iconst X dX7_agrees_53 (v := 0) (by decide) ?_
        exact g_zret X hrt rfl dX7_agrees_54 (by decide) (by decide) ⟨C, D, F, I, K, Or.inl rfl⟩
    · skip
      refine g_i2l X dX7_agrees_40 rfl ?_
      refine g_aload_n X dX7_agrees_41 rfl (j := 4) rfl ?_
      refine i_get X F 84 (act84) rfl fk_X7_406 dX7_agrees_42 rfl ?_
      refine g_iload_n X dX7_agrees_45 rfl (j := 2) rfl ?_
      refine g_iconst X dX7_agrees_46 (v := 2) (by decide) ?_
      refine g_iadd X dX7_agrees_47 ?_
      refine Go.top (v := .int (nI (i2_3 + 2))) (congrArg Value.int (nI_add i2_3 2)) ?_
      refine i_lald X F 85 (act85) rfl dX7_agrees_48 (vp_in_nI (by omega) (by decide)) rfl ?_
      refine Go.genL (fun o9 => ?_)
      refine g_lcmp X dX7_agrees_49 ?_
      refine g_if_eq X dX7_agrees_50 (tgt := 55) (by decide) (fun q10 => ?_) (fun q10 => ?_)
      · skip
        have q10t : ((Int32.toInt64 (nI n6))) = o9 := (lg_cmp_eq _ _).mp q10
        have q10wa := Jvm.Kit.i64_of_i32 (nI n6)
        rw [nI_toInt (by omega)] at q10wa
        refine g_iinc X dX7_agrees_55 (j := 2) rfl (v := nI (i2_3 + 3)) (nI_add i2_3 3) (by decide) (lv2 := [(3, .int (nI (i2_3 + 3))), (5, .int (nI n4)), (4, .int (nI n3)), (0, .ref (a 0)), (1, .ref (a 84)), (2, .ref (a 31))]) rfl ?_
        refine g_goto X dX7_agrees_58 (tgt := 2) (by decide) ?_
        refine g_lv [0, 3, 4, 5] (lv2 := [(3, .int (nI (i2_3 + 3))), (0, .ref (a 0)), (1, .ref (a 84)), (2, .ref (a 31))]) rfl ?_
        exact ih2 ((i2_3 + 3)) L M C D F I K ⟨by omega, by omega, (by show _ % 3 = 0; omega)⟩ (by show _ < _; omega)
      · skip
        have q10t : ¬ ((Int32.toInt64 (nI n6))) = o9 := fun z => q10 ((lg_cmp_eq _ _).mpr z)
        have q10wa := Jvm.Kit.i64_of_i32 (nI n6)
        rw [nI_toInt (by omega)] at q10wa
        refine g_iconst X dX7_agrees_53 (v := 0) (by decide) ?_
        exact g_zret X hrt rfl dX7_agrees_54 (by decide) (by decide) ⟨C, D, F, I, K, Or.inl rfl⟩
set_option maxHeartbeats 4000000 in
set_option maxRecDepth 100000 in
theorem s_X7_possibleRoads_84 (l : Launch) (G : va_G) {cy : Nat → ClassId} {L : List Nat} {M : Nat → va_E} {a : Nat → Nat} {act : Nat → Bool} {C0 : Nat → Nat → Int32} {D0 : Nat → Nat → Int64} {R : Nat → Nat → Option Nat} (F : WI L M a act (ent cy a C0 D0 R)) (I : Inv C0) (p1 : Nat) (hp1a : 0 ≤ p1) (hp1b : p1 ≤ 6) (act84 : (baseact 84 || act 84) = true) (act85 : (baseact 85 || act 85) = true) (gsn : ∃ k : Nat, k ≤ 60 ∧ k % 3 = 0 ∧ C0 84 2 = nI k ∧ seen (D0 85) k) : MI l G cy yX7_possibleRoads cX7_possibleRoads 5 (some .int) 5 0 0 [.ref (a 0), .ref (a 84), .int (nI p1)] L M (fun r L2 M2 => ∃ C2 D2, WI L2 M2 a act (ent cy a C2 D2 R) ∧ Inv C2 ∧ Kp [31, 32, 33, 34, 35, 36, 42] C0 D0 C2 D2 ∧ True) := by
  refine MI.of (own := RX7) rfl (by decide) (Nat.le_of_ble_eq_true rfl) ?_
  intro p e s m below meth c A X hrt hnm
  obtain ⟨C, D, hC0, hD0, F, I, K⟩ : ∃ C D, C = C0 ∧ D = D0 ∧ WI L M a act (ent cy a C D R) ∧ Inv C ∧ Kp [31, 32, 33, 34, 35, 36, 42] C0 D0 C D := ⟨C0, D0, rfl, rfl, F, I, Kp.rf⟩
  refine g_iconst X dX7_possibleRoads_0 (v := 0) (by decide) ?_
  refine g_istore_n X dX7_possibleRoads_1 rfl (by decide) (lv2 := [(3, .int 0), (0, .ref (a 0)), (1, .ref (a 84)), (2, .int (nI p1))]) rfl ?_
  refine g_iconst X dX7_possibleRoads_2 (v := 0) (by decide) ?_
  refine g_istore X dX7_possibleRoads_3 (by decide) (lv2 := [(4, .int 0), (3, .int 0), (0, .ref (a 0)), (1, .ref (a 84)), (2, .int (nI p1))]) rfl ?_
  refine g_lv [0, 1, 2, 3, 4] (lv2 := [(4, .int 0), (3, .int 0), (0, .ref (a 0)), (1, .ref (a 84)), (2, .int (nI p1))]) rfl ?_
  refine i_loop (mods := [31, 32, 33, 34, 35, 36, 42]) (fun x : Nat × Int32 => 4 - x.1) (fun x => [(4, .int (nI (x.1))), (3, .int (x.2)), (0, .ref (a 0)), (1, .ref (a 84)), (2, .int (nI p1))]) (fun x C => 0 ≤ x.1 ∧ x.1 ≤ 4) (fun x L M C D F I K hP ih5 => ?_) ((0, 0) : Nat × Int32) F I K ⟨by show _ ≤ _; omega, by show _ ≤ _; omega⟩
  rcases x with ⟨i5_4, v5_3⟩
  obtain ⟨hi5_4a, hi5_4b⟩ := hP
  refine g_lv [0, 1, 2, 3, 4] (lv2 := [(4, .int (nI i5_4)), (3, .int v5_3), (0, .ref (a 0)), (1, .ref (a 84)), (2, .int (nI p1))]) rfl ?_
  refine g_iload X dX7_possibleRoads_5 (j := 0) rfl ?_
  refine g_aload_n X dX7_possibleRoads_7 rfl (j := 2) rfl ?_
  refine i_get X F 0 rfl rfl fk_X7_19 dX7_possibleRoads_8 rfl ?_
  refine i_get X F 3 rfl rfl fk_X7_109 dX7_possibleRoads_11 rfl ?_
  refine g_iload_n X dX7_possibleRoads_14 rfl (j := 4) rfl ?_
  obtain ⟨n1, hn1, en1⟩ := rg_nat (I 5 p1) (by decide)
  refine i_iald X F 5 rfl rfl dX7_possibleRoads_15 (vp_in_nI (by omega) (by decide)) (v := nI n1) (by rw [nI_clamp (by omega)]; exact en1) ?_
  refine g_icmp_ge X dX7_possibleRoads_16 (tgt := 75) (by decide) (fun q2 => ?_) (fun q2 => ?_)
  · skip
    have q2 : n1 ≤ i5_4 := (nI_leI (a := n1) (b := i5_4) (by omega) (by omega)).mp q2
    refine g_iload_n X dX7_possibleRoads_75 rfl (j := 1) rfl ?_
    exact g_iret X hrt dX7_possibleRoads_76 (by decide) (by decide) ⟨C, D, F, I, K, trivial⟩
  · skip
    have q2 : ¬ n1 ≤ i5_4 := fun z => q2 ((nI_leI (a := n1) (b := i5_4) (by omega) (by omega)).mpr z)
    refine g_aload_n X dX7_possibleRoads_19 rfl (j := 2) rfl ?_
    refine g_iload_n X dX7_possibleRoads_20 rfl (j := 4) rfl ?_
    refine g_iload X dX7_possibleRoads_21 (j := 0) rfl ?_
    refine g_callVV X (s_X7_runPointed l G F I p1 (by omega) (by omega) i5_4 (by omega) (by omega) ) lk_X7_267 (F.1 0 rfl).2 (F.1 0 rfl).1 rfl rfl dX7_possibleRoads_23 (Nat.le_of_ble_eq_true rfl) ⟨by decide, by decide⟩ ⟨by decide, by decide⟩ (fun L M hp => ?_)
    obtain ⟨C, D, F, I, K1, hr⟩ := hp
    have K := K.step K1 (by decide)
    refine g_aload_n X dX7_possibleRoads_26 rfl (j := 2) rfl ?_
    refine i_get X F 0 rfl rfl fk_X7_45 dX7_possibleRoads_27 rfl ?_
    refine i_get X F 31 rfl rfl fk_X7_441 dX7_possibleRoads_30 rfl ?_
    refine g_iconst X dX7_possibleRoads_33 (v := 0) (by decide) ?_
    refine g_aload_n X dX7_possibleRoads_34 rfl (j := 2) rfl ?_
    refine i_get X F 0 rfl rfl fk_X7_70 dX7_possibleRoads_35 rfl ?_
    refine g_iload X dX7_possibleRoads_38 (j := 0) rfl ?_
    refine g_sipush X dX7_possibleRoads_40 (v := 136) (by decide) ?_
    refine g_imul X dX7_possibleRoads_43 ?_
    refine Go.top (v := .int (nI (i5_4 * 136))) (congrArg Value.int (pk_mul i5_4 136)) ?_
    refine g_sipush X dX7_possibleRoads_44 (v := 136) (by decide) ?_
    refine i_copyi X F I 33 rfl 42 rfl rfl (fun _ => rfl) (t0 := 1) rfl rfl wd604 wd87 wd88 wd89 (by decide) (nI_pos (by omega)) (by decide) (by decide) (by have k136 : (136 : Int32).toNatClampNeg = 136 := (by decide); rw [nI_clamp (show (i5_4 * 136) < 2 ^ 31 by omega), k136]; omega) (fun _ _ => rfl) (by decide) (Nat.le_of_ble_eq_true rfl) dX7_possibleRoads_47 (fun j => trivial) (fun M C F I K1 hC => ?_)
    have K := K.step K1 (by decide)
    refine g_aload_n X dX7_possibleRoads_50 rfl (j := 2) rfl ?_
    refine g_aload_n X dX7_possibleRoads_51 rfl (j := 3) rfl ?_
    refine g_aload_n X dX7_possibleRoads_52 rfl (j := 2) rfl ?_
    refine i_get X F 0 rfl rfl fk_X7_45 dX7_possibleRoads_53 rfl ?_
    refine g_callVI X (s_X7_agrees_84 l G F I  act84 act85 (by rw [(K 84 (by decide)).1, (K 85 (by decide)).2]; exact gsn)) lk_X7_306 (F.1 0 rfl).2 (F.1 0 rfl).1 rfl rfl dX7_possibleRoads_56 (Nat.le_of_ble_eq_true rfl) ⟨by decide, by decide⟩ ⟨by decide, by decide⟩ (fun r3 L M hp => ?_)
    obtain ⟨C, D, F, I, K1, hr⟩ := hp
    have K := K.step K1 (by decide)
    rcases hr with rfl | rfl
    · skip
      refine g_if_eq X dX7_possibleRoads_59 (tgt := 69) (by decide) (fun _ => ?_) (fun q => absurd (by decide) q)
      refine g_iinc X dX7_possibleRoads_69 (j := 0) rfl (v := nI (i5_4 + 1)) (nI_1 i5_4) (by decide) (lv2 := [(4, .int (nI (i5_4 + 1))), (3, .int v5_3), (0, .ref (a 0)), (1, .ref (a 84)), (2, .int (nI p1))]) rfl ?_
      refine g_goto X dX7_possibleRoads_72 (tgt := 5) (by decide) ?_
      refine g_lv [0, 1, 2, 3, 4] (lv2 := [(4, .int (nI (i5_4 + 1))), (3, .int v5_3), (0, .ref (a 0)), (1, .ref (a 84)), (2, .int (nI p1))]) rfl ?_
      exact ih5 ((i5_4 + 1), v5_3) L M C D F I K ⟨by omega, by omega⟩ (by show _ < _; omega)
    · skip
      refine g_if_eq X dX7_possibleRoads_59 (tgt := 69) (by decide) (fun q => absurd q (by decide)) (fun _ => ?_)
      refine g_iload_n X dX7_possibleRoads_62 rfl (j := 1) rfl ?_
      refine g_iconst X dX7_possibleRoads_63 (v := 1) (by decide) ?_
      refine g_iload X dX7_possibleRoads_64 (j := 0) rfl ?_
      refine g_ishl X dX7_possibleRoads_66 ?_
      refine Go.gen (fun o4 => ?_)
      refine g_ior X dX7_possibleRoads_67 ?_
      refine Go.gen (fun o5 => ?_)
      refine g_istore_n X dX7_possibleRoads_68 rfl (by decide) (lv2 := [(3, .int o5), (4, .int (nI i5_4)), (0, .ref (a 0)), (1, .ref (a 84)), (2, .int (nI p1))]) rfl ?_
      refine g_iinc X dX7_possibleRoads_69 (j := 1) rfl (v := nI (i5_4 + 1)) (nI_1 i5_4) (by decide) (lv2 := [(4, .int (nI (i5_4 + 1))), (3, .int o5), (0, .ref (a 0)), (1, .ref (a 84)), (2, .int (nI p1))]) rfl ?_
      refine g_goto X dX7_possibleRoads_72 (tgt := 5) (by decide) ?_
      refine g_lv [0, 1, 2, 3, 4] (lv2 := [(4, .int (nI (i5_4 + 1))), (3, .int o5), (0, .ref (a 0)), (1, .ref (a 84)), (2, .int (nI p1))]) rfl ?_
      exact ih5 ((i5_4 + 1), o5) L M C D F I K ⟨by omega, by omega⟩ (by show _ < _; omega)
set_option maxHeartbeats 4000000 in
set_option maxRecDepth 100000 in
theorem s_X7_refusalOfSeen_2 (l : Launch) (G : va_G) {cy : Nat → ClassId} {L : List Nat} {M : Nat → va_E} {a : Nat → Nat} {act : Nat → Bool} {C0 : Nat → Nat → Int32} {D0 : Nat → Nat → Int64} {R : Nat → Nat → Option Nat} (F : WI L M a act (ent cy a C0 D0 R)) (I : Inv C0) (p1 : Int32) (HR : RA a act R) : MI l G cy yX7_refusalOfSeen cX7_refusalOfSeen 3 (some .int) 3 0 0 [.ref (a 0), .int 2, .int p1] L M (fun r L2 M2 => ∃ C2 D2, WI L2 M2 a act (ent cy a C2 D2 R) ∧ Inv C2 ∧ Kp [] C0 D0 C2 D2 ∧ (¬ r = 0 ∨ (r = 0 ∧ act 84 = true ∧ ¬ p1 = 0 ∧ ∃ k : Nat, k ≤ 60 ∧ k % 3 = 0 ∧ C2 84 2 = nI k ∧ seen (D2 85) k))) := by
  refine MI.of (own := RX7) rfl (by decide) (Nat.le_of_ble_eq_true rfl) ?_
  intro p e s m below meth c A X hrt hnm
  obtain ⟨C, D, hC0, hD0, F, I, K⟩ : ∃ C D, C = C0 ∧ D = D0 ∧ WI L M a act (ent cy a C D R) ∧ Inv C ∧ Kp [] C0 D0 C D := ⟨C0, D0, rfl, rfl, F, I, Kp.rf⟩
  refine g_iload_n X dX7_refusalOfSeen_0 rfl (j := 1) rfl ?_
  refine g_callSI X (s_X7_isSlot_2 l G F I  ) lk_X7_389 rfl rfl dX7_refusalOfSeen_1 (Nat.le_of_ble_eq_true rfl) ⟨by decide, by decide⟩ ⟨by decide, by decide⟩ (fun r1 L M hp => ?_)
  obtain ⟨C, D, F, I, K1, hr⟩ := hp
  have K := K.step K1 (by decide)
  subst hr
  refine g_if_eq X dX7_refusalOfSeen_4 (tgt := 11) (by decide) (fun q => absurd q (by decide)) (fun _ => ?_)
  refine g_iload_n X dX7_refusalOfSeen_7 rfl (j := 2) rfl ?_
  refine g_if_ne X dX7_refusalOfSeen_8 (tgt := 14) (by decide) (fun q2 => ?_) (fun q2 => ?_)
  · skip
    refine g_aload_n X dX7_refusalOfSeen_14 rfl (j := 0) rfl ?_
    refine i_get X F 0 rfl rfl fk_X7_32 dX7_refusalOfSeen_15 rfl ?_
    refine g_iload_n X dX7_refusalOfSeen_18 rfl (j := 1) rfl ?_
    rcases (Bool.eq_false_or_eq_true (act 84)).symm with hA84 | hA84
    · skip
      refine i_aald X F 24 rfl (t0 := 5) rfl rfl dX7_refusalOfSeen_19 (vp_in_iff.mpr (by decide)) (v := .null) (by show va_rf (R 24 2) = _; rw [HR.1 2 (by decide)]; rw [if_neg (by rw [hA84]; decide)]; rfl) ?_
      refine g_ifnonnullN X dX7_refusalOfSeen_20 ?_
      refine g_bipush X dX7_refusalOfSeen_23 (v := -6) (by decide) ?_
      exact g_iret X hrt dX7_refusalOfSeen_25 (by decide) (by decide) ⟨C, D, F, I, K, Or.inl (by decide)⟩
    · skip
      have act84 : (baseact 84 || act 84) = true := by rw [hA84]; rfl
      have act85 : (baseact 85 || act 85) = true := by rw [((HR.2.2.1 2 (by decide)).trans hA84)]; rfl
      refine i_aald X F 24 rfl (t0 := 5) rfl rfl dX7_refusalOfSeen_19 (vp_in_iff.mpr (by decide)) (v := .ref (a 84)) (by show va_rf (R 24 2) = _; rw [HR.1 2 (by decide)]; rw [if_pos hA84]; rfl) ?_
      refine g_ifnonnull X dX7_refusalOfSeen_20 (tgt := 26) (by decide) ?_
      refine g_aload_n X dX7_refusalOfSeen_26 rfl (j := 0) rfl ?_
      refine g_aload_n X dX7_refusalOfSeen_27 rfl (j := 0) rfl ?_
      refine i_get X F 0 rfl rfl fk_X7_32 dX7_refusalOfSeen_28 rfl ?_
      refine g_iload_n X dX7_refusalOfSeen_31 rfl (j := 1) rfl ?_
      refine i_aald X F 24 rfl (t0 := 5) rfl rfl dX7_refusalOfSeen_32 (vp_in_iff.mpr (by decide)) (v := .ref (a 84)) (by show va_rf (R 24 2) = _; rw [HR.1 2 (by decide)]; rw [if_pos hA84]; rfl) ?_
      refine g_callVI X (s_X7_tellsPlaces_84 l G F I  act84 act85) lk_X7_433 (F.1 0 rfl).2 (F.1 0 rfl).1 rfl rfl dX7_refusalOfSeen_33 (Nat.le_of_ble_eq_true rfl) ⟨by decide, by decide⟩ ⟨by decide, by decide⟩ (fun r5 L M hp => ?_)
      obtain ⟨C, D, F, I, K1, hr⟩ := hp
      have K := K.step K1 (by decide)
      rcases hr with rfl | ⟨rfl, hz6⟩
      · skip
        refine g_if_eq X dX7_refusalOfSeen_36 (tgt := 43) (by decide) (fun _ => ?_) (fun q => absurd (by decide) q)
        refine g_bipush X dX7_refusalOfSeen_43 (v := -2) (by decide) ?_
        exact g_iret X hrt dX7_refusalOfSeen_45 (by decide) (by decide) ⟨C, D, F, I, K, Or.inl (by decide)⟩
      · skip
        refine g_if_eq X dX7_refusalOfSeen_36 (tgt := 43) (by decide) (fun q => absurd q (by decide)) (fun _ => ?_)
        refine g_iconst X dX7_refusalOfSeen_39 (v := 0) (by decide) ?_
        refine g_goto X dX7_refusalOfSeen_40 (tgt := 45) (by decide) ?_
        exact g_iret X hrt dX7_refusalOfSeen_45 (by decide) (by decide) ⟨C, D, F, I, K, Or.inr ⟨rfl, hA84, q2, by have z := hz6; exact z⟩⟩
  · skip
    subst q2
    refine g_bipush X dX7_refusalOfSeen_11 (v := -2) (by decide) ?_
    exact g_iret X hrt dX7_refusalOfSeen_13 (by decide) (by decide) ⟨C, D, F, I, K, Or.inl (by decide)⟩
set_option maxHeartbeats 4000000 in
set_option maxRecDepth 100000 in
theorem s_X7_tellsPlaces_86 (l : Launch) (G : va_G) {cy : Nat → ClassId} {L : List Nat} {M : Nat → va_E} {a : Nat → Nat} {act : Nat → Bool} {C0 : Nat → Nat → Int32} {D0 : Nat → Nat → Int64} {R : Nat → Nat → Option Nat} (F : WI L M a act (ent cy a C0 D0 R)) (I : Inv C0)  (act86 : (baseact 86 || act 86) = true) (act87 : (baseact 87 || act 87) = true) : MI l G cy yX7_tellsPlaces cX7_tellsPlaces 9 (some .boolean) 2 0 0 [.ref (a 0), .ref (a 86)] L M (fun r L2 M2 => ∃ C2 D2, WI L2 M2 a act (ent cy a C2 D2 R) ∧ Inv C2 ∧ Kp [] C0 D0 C2 D2 ∧ (r = 0 ∨ (r = 1 ∧ ∃ k : Nat, k ≤ 60 ∧ k % 3 = 0 ∧ C2 86 2 = nI k ∧ seen (D2 87) k))) := by
  refine MI.of (own := RX7) rfl (by decide) (Nat.le_of_ble_eq_true rfl) ?_
  intro p e s m below meth c A X hrt hnm
  obtain ⟨C, D, hC0, hD0, F, I, K⟩ : ∃ C D, C = C0 ∧ D = D0 ∧ WI L M a act (ent cy a C D R) ∧ Inv C ∧ Kp [] C0 D0 C D := ⟨C0, D0, rfl, rfl, F, I, Kp.rf⟩
  obtain ⟨n1, hn1, en1⟩ := rg_nat (I 86 2 rfl) (by decide)
  rw [hC0] at en1
  obtain ⟨sz, hsz⟩ : ∃ z, z = n1 := ⟨_, rfl⟩
  refine g_aload_n X dX7_tellsPlaces_0 rfl (j := 1) rfl ?_
  refine i_get X F 86 (act86) rfl fk_X7_395 dX7_tellsPlaces_1 (v := .int (nI n1)) (congrArg (fun z => some (Value.int z)) ((congrFun (K 86 (by decide)).1 2).trans en1)) ?_
  refine g_iconst X dX7_tellsPlaces_4 (v := 3) (by decide) ?_
  refine g_irem X dX7_tellsPlaces_5 (by decide) ?_
  refine Go.top (v := .int (nI (n1 % 3))) (congrArg Value.int (pk_rem (a := n1) (d := 3) (by omega) (by omega) (by omega))) ?_
  obtain ⟨n2, en2⟩ : ∃ z : Nat, z = n1 % 3 := ⟨_, rfl⟩
  refine Go.top (v := .int (nI n2)) (by rw [en2]) ?_
  have hn2 : n2 < 3 := by rw [en2]; exact Nat.mod_lt _ (by omega)
  refine g_if_eq X dX7_tellsPlaces_6 (tgt := 11) (by decide) (fun q3 => ?_) (fun q3 => ?_)
  · skip
    have q3 : n2 = 0 := (nI_eq (a := n2) (b := 0) (by omega) (by omega)).mp q3
    refine g_iconst X dX7_tellsPlaces_11 (v := 0) (by decide) ?_
    refine g_istore_n X dX7_tellsPlaces_12 rfl (by decide) (lv2 := [(2, .int 0), (0, .ref (a 0)), (1, .ref (a 86))]) rfl ?_
    refine g_lv [0, 1, 2] (lv2 := [(2, .int 0), (0, .ref (a 0)), (1, .ref (a 86))]) rfl ?_
    refine i_loop (mods := []) (fun x : Nat => 60 - x) (fun x => [(2, .int (nI (x))), (0, .ref (a 0)), (1, .ref (a 86))]) (fun x C => 0 ≤ x ∧ x ≤ 60 ∧ (x % 3 = 0) ∧ (seen (D0 87) (x)) ∧ (x ≤ sz)) (fun x L M C D F I K hP ih13 => ?_) ((0) : Nat) F I K ⟨by show _ ≤ _; omega, by show _ ≤ _; omega, (by decide), seen_0, (Nat.zero_le _)⟩
    obtain ⟨i13_2, rfl⟩ : ∃ z, z = x := ⟨_, rfl⟩
    obtain ⟨hi13_2a, hi13_2b, hm3, hsee, hisz⟩ := hP
    refine g_lv [0, 1, 2] (lv2 := [(2, .int (nI i13_2)), (0, .ref (a 0)), (1, .ref (a 86))]) rfl ?_
    refine g_iload_n X dX7_tellsPlaces_13 rfl (j := 0) rfl ?_
    refine g_iconst X dX7_tellsPlaces_14 (v := 2) (by decide) ?_
    refine g_iadd X dX7_tellsPlaces_15 ?_
    refine Go.top (v := .int (nI (i13_2 + 2))) (congrArg Value.int (nI_add i13_2 2)) ?_
    refine g_aload_n X dX7_tellsPlaces_16 rfl (j := 2) rfl ?_
    refine i_get X F 86 (act86) rfl fk_X7_395 dX7_tellsPlaces_17 (v := .int (nI n1)) (congrArg (fun z => some (Value.int z)) ((congrFun (K 86 (by decide)).1 2).trans en1)) ?_
    refine g_icmp_ge X dX7_tellsPlaces_20 (tgt := 142) (by decide) (fun q4 => ?_) (fun q4 => ?_)
    · skip
      have q4 : n1 ≤ (i13_2 + 2) := (nI_leI (a := n1) (b := (i13_2 + 2)) (by omega) (by omega)).mp q4
      refine g_iconst X dX7_tellsPlaces_142 (v := 1) (by decide) ?_
      exact g_zret X hrt rfl dX7_tellsPlaces_143 (by decide) (by decide) ⟨C, D, F, I, K, Or.inr ⟨rfl, n1, by omega, by omega, (congrFun (K 86 (by decide)).1 2).trans en1, by rw [(K 87 (by decide)).2, show n1 = i13_2 by omega]; exact hsee⟩⟩
    · skip
      have q4 : ¬ n1 ≤ (i13_2 + 2) := fun z => q4 ((nI_leI (a := n1) (b := (i13_2 + 2)) (by omega) (by omega)).mpr z)
      refine g_aload_n X dX7_tellsPlaces_23 rfl (j := 2) rfl ?_
      refine i_get X F 86 (act86) rfl fk_X7_406 dX7_tellsPlaces_24 rfl ?_
      refine g_iload_n X dX7_tellsPlaces_27 rfl (j := 0) rfl ?_
      refine i_lald X F 87 (act87) rfl dX7_tellsPlaces_28 (vp_in_nI (by omega) (by decide)) (v := D0 87 (i13_2)) (by rw [nI_clamp (by omega), (K 87 (by decide)).2]) ?_
      refine g_lstore_n X dX7_tellsPlaces_29 rfl (by decide) (lv2 := [(3, .long ((D0 87 (i13_2)))), (2, .int (nI i13_2)), (0, .ref (a 0)), (1, .ref (a 86))]) rfl ?_
      refine g_aload_n X dX7_tellsPlaces_30 rfl (j := 3) rfl ?_
      refine i_get X F 86 (act86) rfl fk_X7_406 dX7_tellsPlaces_31 rfl ?_
      refine g_iload_n X dX7_tellsPlaces_34 rfl (j := 1) rfl ?_
      refine g_iconst X dX7_tellsPlaces_35 (v := 1) (by decide) ?_
      refine g_iadd X dX7_tellsPlaces_36 ?_
      refine Go.top (v := .int (nI (i13_2 + 1))) (congrArg Value.int (nI_add i13_2 1)) ?_
      refine i_lald X F 87 (act87) rfl dX7_tellsPlaces_37 (vp_in_nI (by omega) (by decide)) (v := D0 87 ((i13_2 + 1))) (by rw [nI_clamp (by omega), (K 87 (by decide)).2]) ?_
      refine g_lstore X dX7_tellsPlaces_38 (by decide) (lv2 := [(5, .long ((D0 87 ((i13_2 + 1))))), (3, .long ((D0 87 (i13_2)))), (2, .int (nI i13_2)), (0, .ref (a 0)), (1, .ref (a 86))]) rfl ?_
      refine g_aload_n X dX7_tellsPlaces_40 rfl (j := 4) rfl ?_
      refine i_get X F 86 (act86) rfl fk_X7_406 dX7_tellsPlaces_41 rfl ?_
      refine g_iload_n X dX7_tellsPlaces_44 rfl (j := 2) rfl ?_
      refine g_iconst X dX7_tellsPlaces_45 (v := 2) (by decide) ?_
      refine g_iadd X dX7_tellsPlaces_46 ?_
      refine Go.top (v := .int (nI (i13_2 + 2))) (congrArg Value.int (nI_add i13_2 2)) ?_
      refine i_lald X F 87 (act87) rfl dX7_tellsPlaces_47 (vp_in_nI (by omega) (by decide)) rfl ?_
      refine Go.genL (fun o5 => ?_)
      refine g_lstore X dX7_tellsPlaces_48 (by decide) (lv2 := [(7, .long o5), (5, .long ((D0 87 ((i13_2 + 1))))), (3, .long ((D0 87 (i13_2)))), (2, .int (nI i13_2)), (0, .ref (a 0)), (1, .ref (a 86))]) rfl ?_
      refine g_lload_n X dX7_tellsPlaces_50 rfl (j := 2) rfl ?_
      refine g_lconst X dX7_tellsPlaces_51 (v := 0) (by decide) ?_
      refine g_lcmp X dX7_tellsPlaces_52 ?_
      refine g_if_lt X dX7_tellsPlaces_53 (tgt := 90) (by decide) (fun q6 => ?_) (fun q6 => ?_)
      · skip
        have q6t : ((D0 87 (i13_2))).toInt < (0 : Int64).toInt := Int64.lt_iff_toInt_lt.mp ((lg_cmp_lt _ _).mp q6)
        have q6k0 : (0 : Int64).toInt = 0 := (by decide)
        refine g_iconst X dX7_tellsPlaces_90 (v := 0) (by decide) ?_
        exact g_zret X hrt rfl dX7_tellsPlaces_91 (by decide) (by decide) ⟨C, D, F, I, K, Or.inl rfl⟩
      · skip
        have q6t : ¬ ((D0 87 (i13_2))).toInt < (0 : Int64).toInt := fun z => q6 ((lg_cmp_lt _ _).mpr (Int64.lt_iff_toInt_lt.mpr z))
        have q6k0 : (0 : Int64).toInt = 0 := (by decide)
        refine g_lload_n X dX7_tellsPlaces_56 rfl (j := 2) rfl ?_
        refine g_aload_n X dX7_tellsPlaces_57 rfl (j := 4) rfl ?_
        refine i_get X F 0 rfl rfl fk_X7_19 dX7_tellsPlaces_58 rfl ?_
        obtain ⟨n7, hn7, en7⟩ := rg_nat ((I 3 8).2.2.2 rfl) (by decide)
        refine i_get X F 3 rfl rfl fk_X7_276 dX7_tellsPlaces_61 (v := .int (nI n7)) (congrArg (fun z => some (Value.int z)) en7) ?_
        refine g_i2l X dX7_tellsPlaces_64 rfl ?_
        refine g_lcmp X dX7_tellsPlaces_65 ?_
        refine g_if_ge X dX7_tellsPlaces_66 (tgt := 90) (by decide) (fun q8 => ?_) (fun q8 => ?_)
        · skip
          have q8t : ((Int32.toInt64 (nI n7))).toInt ≤ ((D0 87 (i13_2))).toInt := Int64.le_iff_toInt_le.mp ((lg_cmp_ge _ _).mp q8)
          have q8wb := Jvm.Kit.i64_of_i32 (nI n7)
          rw [nI_toInt (by omega)] at q8wb
          refine g_iconst X dX7_tellsPlaces_90 (v := 0) (by decide) ?_
          exact g_zret X hrt rfl dX7_tellsPlaces_91 (by decide) (by decide) ⟨C, D, F, I, K, Or.inl rfl⟩
        · skip
          have q8t : ¬ ((Int32.toInt64 (nI n7))).toInt ≤ ((D0 87 (i13_2))).toInt := fun z => q8 ((lg_cmp_ge _ _).mpr (Int64.le_iff_toInt_le.mpr z))
          have q8wb := Jvm.Kit.i64_of_i32 (nI n7)
          rw [nI_toInt (by omega)] at q8wb
          refine g_lload X dX7_tellsPlaces_69 (j := 1) rfl ?_
          refine g_lconst X dX7_tellsPlaces_71 (v := 0) (by decide) ?_
          refine g_lcmp X dX7_tellsPlaces_72 ?_
          refine g_if_lt X dX7_tellsPlaces_73 (tgt := 90) (by decide) (fun q9 => ?_) (fun q9 => ?_)
          · skip
            have q9t : ((D0 87 ((i13_2 + 1)))).toInt < (0 : Int64).toInt := Int64.lt_iff_toInt_lt.mp ((lg_cmp_lt _ _).mp q9)
            have q9k0 : (0 : Int64).toInt = 0 := (by decide)
            refine g_iconst X dX7_tellsPlaces_90 (v := 0) (by decide) ?_
            exact g_zret X hrt rfl dX7_tellsPlaces_91 (by decide) (by decide) ⟨C, D, F, I, K, Or.inl rfl⟩
          · skip
            have q9t : ¬ ((D0 87 ((i13_2 + 1)))).toInt < (0 : Int64).toInt := fun z => q9 ((lg_cmp_lt _ _).mpr (Int64.lt_iff_toInt_lt.mpr z))
            have q9k0 : (0 : Int64).toInt = 0 := (by decide)
            refine g_lload X dX7_tellsPlaces_76 (j := 1) rfl ?_
            refine g_aload_n X dX7_tellsPlaces_78 rfl (j := 4) rfl ?_
            refine i_get X F 0 rfl rfl fk_X7_19 dX7_tellsPlaces_79 rfl ?_
            obtain ⟨n10, hn10, en10⟩ := rg_nat ((I 3 1).1 rfl) (by decide)
            refine i_get X F 3 rfl rfl fk_X7_168 dX7_tellsPlaces_82 (v := .int (nI n10)) (congrArg (fun z => some (Value.int z)) en10) ?_
            refine g_i2l X dX7_tellsPlaces_85 rfl ?_
            refine g_lcmp X dX7_tellsPlaces_86 ?_
            refine g_if_le X dX7_tellsPlaces_87 (tgt := 92) (by decide) (fun q11 => ?_) (fun q11 => ?_)
            · skip
              have q11t : ((D0 87 ((i13_2 + 1)))).toInt ≤ ((Int32.toInt64 (nI n10))).toInt := Int64.le_iff_toInt_le.mp ((lg_cmp_le _ _).mp q11)
              have q11wb := Jvm.Kit.i64_of_i32 (nI n10)
              rw [nI_toInt (by omega)] at q11wb
              refine g_lload X dX7_tellsPlaces_92 (j := 0) rfl ?_
              refine g_ldc2 X (v := -1) wd602 dX7_tellsPlaces_94 ?_
              refine g_lcmp X dX7_tellsPlaces_97 ?_
              refine g_if_lt X dX7_tellsPlaces_98 (tgt := 110) (by decide) (fun q12 => ?_) (fun q12 => ?_)
              · skip
                have q12t : o5.toInt < (-1 : Int64).toInt := Int64.lt_iff_toInt_lt.mp ((lg_cmp_lt _ _).mp q12)
                have q12k1 : (-1 : Int64).toInt = -1 := (by decide)
                refine g_iconst X dX7_tellsPlaces_110 (v := 0) (by decide) ?_
                exact g_zret X hrt rfl dX7_tellsPlaces_111 (by decide) (by decide) ⟨C, D, F, I, K, Or.inl rfl⟩
              · skip
                have q12t : ¬ o5.toInt < (-1 : Int64).toInt := fun z => q12 ((lg_cmp_lt _ _).mpr (Int64.lt_iff_toInt_lt.mpr z))
                have q12k1 : (-1 : Int64).toInt = -1 := (by decide)
                refine g_lload X dX7_tellsPlaces_101 (j := 0) rfl ?_
                refine g_ldc2 X (v := 14) wd603 dX7_tellsPlaces_103 ?_
                refine g_lcmp X dX7_tellsPlaces_106 ?_
                refine g_if_lt X dX7_tellsPlaces_107 (tgt := 112) (by decide) (fun q13 => ?_) (fun q13 => ?_)
                · skip
                  have q13t : o5.toInt < (14 : Int64).toInt := Int64.lt_iff_toInt_lt.mp ((lg_cmp_lt _ _).mp q13)
                  have q13k14 : (14 : Int64).toInt = 14 := (by decide)
                  refine g_lload X dX7_tellsPlaces_112 (j := 0) rfl ?_
                  refine g_ldc2 X (v := -1) wd602 dX7_tellsPlaces_114 ?_
                  refine g_lcmp X dX7_tellsPlaces_117 ?_
                  refine g_if_eq X dX7_tellsPlaces_118 (tgt := 136) (by decide) (fun q14 => ?_) (fun q14 => ?_)
                  · skip
                    have q14t : o5 = (-1 : Int64) := (lg_cmp_eq _ _).mp q14
                    have q14k1 : (-1 : Int64).toInt = -1 := (by decide)
                    refine g_iinc X dX7_tellsPlaces_136 (j := 3) rfl (v := nI (i13_2 + 3)) (nI_add i13_2 3) (by decide) (lv2 := [(2, .int (nI (i13_2 + 3))), (7, .long o5), (5, .long ((D0 87 ((i13_2 + 1))))), (3, .long ((D0 87 (i13_2)))), (0, .ref (a 0)), (1, .ref (a 86))]) rfl ?_
                    refine g_goto X dX7_tellsPlaces_139 (tgt := 13) (by decide) ?_
                    refine g_lv [0, 4, 5] (lv2 := [(2, .int (nI (i13_2 + 3))), (0, .ref (a 0)), (1, .ref (a 86))]) rfl ?_
                    exact ih13 ((i13_2 + 3)) L M C D F I K ⟨by omega, by omega, (by show _ % 3 = 0; omega), (seen_st (by omega) hsee (by omega) (by omega) (by omega) (by omega)), (by show _ ≤ sz; omega)⟩ (by show _ < _; omega)
                  · skip
                    have q14t : ¬ o5 = (-1 : Int64) := fun z => q14 ((lg_cmp_eq _ _).mpr z)
                    have q14k1 : (-1 : Int64).toInt = -1 := (by decide)
                    refine g_aload_n X dX7_tellsPlaces_121 rfl (j := 4) rfl ?_
                    refine i_get X F 0 rfl rfl fk_X7_19 dX7_tellsPlaces_122 rfl ?_
                    refine g_lload X dX7_tellsPlaces_125 (j := 0) rfl ?_
                    refine g_l2i X dX7_tellsPlaces_127 rfl ?_
                    refine Go.gen (fun o15 => ?_)
                    refine g_callVI X (s_X2_hasPlace l G F I o15 ) lk_X7_143 (F.1 3 rfl).2 (F.1 3 rfl).1 rfl rfl dX7_tellsPlaces_128 (Nat.le_of_ble_eq_true rfl) ⟨by decide, by decide⟩ ⟨by decide, by decide⟩ (fun r16 L M hp => ?_)
                    obtain ⟨C, D, F, I, K1, hr⟩ := hp
                    have K := K.step K1 (by decide)
                    rcases hr with rfl | ⟨rfl, n17, hn17, en17⟩
                    · skip
                      refine g_if_ne X dX7_tellsPlaces_131 (tgt := 136) (by decide) (fun q => absurd (by decide) q) (fun _ => ?_)
                      refine g_iconst X dX7_tellsPlaces_134 (v := 0) (by decide) ?_
                      exact g_zret X hrt rfl dX7_tellsPlaces_135 (by decide) (by decide) ⟨C, D, F, I, K, Or.inl rfl⟩
                    · skip
                      subst en17
                      refine g_if_ne X dX7_tellsPlaces_131 (tgt := 136) (by decide) (fun _ => ?_) (fun q => absurd q (by decide))
                      refine g_iinc X dX7_tellsPlaces_136 (j := 3) rfl (v := nI (i13_2 + 3)) (nI_add i13_2 3) (by decide) (lv2 := [(2, .int (nI (i13_2 + 3))), (7, .long o5), (5, .long ((D0 87 ((i13_2 + 1))))), (3, .long ((D0 87 (i13_2)))), (0, .ref (a 0)), (1, .ref (a 86))]) rfl ?_
                      refine g_goto X dX7_tellsPlaces_139 (tgt := 13) (by decide) ?_
                      refine g_lv [0, 4, 5] (lv2 := [(2, .int (nI (i13_2 + 3))), (0, .ref (a 0)), (1, .ref (a 86))]) rfl ?_
                      exact ih13 ((i13_2 + 3)) L M C D F I K ⟨by omega, by omega, (by show _ % 3 = 0; omega), (seen_st (by omega) hsee (by omega) (by omega) (by omega) (by omega)), (by show _ ≤ sz; omega)⟩ (by show _ < _; omega)
                · skip
                  have q13t : ¬ o5.toInt < (14 : Int64).toInt := fun z => q13 ((lg_cmp_lt _ _).mpr (Int64.lt_iff_toInt_lt.mpr z))
                  have q13k14 : (14 : Int64).toInt = 14 := (by decide)
                  refine g_iconst X dX7_tellsPlaces_110 (v := 0) (by decide) ?_
                  exact g_zret X hrt rfl dX7_tellsPlaces_111 (by decide) (by decide) ⟨C, D, F, I, K, Or.inl rfl⟩
            · skip
              have q11t : ¬ ((D0 87 ((i13_2 + 1)))).toInt ≤ ((Int32.toInt64 (nI n10))).toInt := fun z => q11 ((lg_cmp_le _ _).mpr (Int64.le_iff_toInt_le.mpr z))
              have q11wb := Jvm.Kit.i64_of_i32 (nI n10)
              rw [nI_toInt (by omega)] at q11wb
              refine g_iconst X dX7_tellsPlaces_90 (v := 0) (by decide) ?_
              exact g_zret X hrt rfl dX7_tellsPlaces_91 (by decide) (by decide) ⟨C, D, F, I, K, Or.inl rfl⟩
  · skip
    have q3 : ¬ n2 = 0 := fun z => q3 ((nI_eq (a := n2) (b := 0) (by omega) (by omega)).mpr z)
    refine g_iconst X dX7_tellsPlaces_9 (v := 0) (by decide) ?_
    exact g_zret X hrt rfl dX7_tellsPlaces_10 (by decide) (by decide) ⟨C, D, F, I, K, Or.inl rfl⟩
set_option maxHeartbeats 4000000 in
set_option maxRecDepth 100000 in
theorem s_X7_agrees_86 (l : Launch) (G : va_G) {cy : Nat → ClassId} {L : List Nat} {M : Nat → va_E} {a : Nat → Nat} {act : Nat → Bool} {C0 : Nat → Nat → Int32} {D0 : Nat → Nat → Int64} {R : Nat → Nat → Option Nat} (F : WI L M a act (ent cy a C0 D0 R)) (I : Inv C0)  (act86 : (baseact 86 || act 86) = true) (act87 : (baseact 87 || act 87) = true) (gsn : ∃ k : Nat, k ≤ 60 ∧ k % 3 = 0 ∧ C0 86 2 = nI k ∧ seen (D0 87) k) : MI l G cy yX7_agrees cX7_agrees 6 (some .boolean) 1 0 0 [.ref (a 0), .ref (a 86), .ref (a 31)] L M (fun r L2 M2 => ∃ C2 D2, WI L2 M2 a act (ent cy a C2 D2 R) ∧ Inv C2 ∧ Kp [] C0 D0 C2 D2 ∧ (r = 0 ∨ r = 1)) := by
  refine MI.of (own := RX7) rfl (by decide) (Nat.le_of_ble_eq_true rfl) ?_
  intro p e s m below meth c A X hrt hnm
  obtain ⟨C, D, hC0, hD0, F, I, K⟩ : ∃ C D, C = C0 ∧ D = D0 ∧ WI L M a act (ent cy a C D R) ∧ Inv C ∧ Kp [] C0 D0 C D := ⟨C0, D0, rfl, rfl, F, I, Kp.rf⟩
  obtain ⟨n1, hn1, en1⟩ := rg_nat (I 86 2 rfl) (by decide)
  rw [hC0] at en1
  obtain ⟨kz, hkz, hk3, ekz, hsn⟩ := gsn
  obtain rfl : n1 = kz := (nI_eq (by omega) (by omega)).mp (en1.symm.trans ekz)
  refine g_iconst X dX7_agrees_0 (v := 0) (by decide) ?_
  refine g_istore_n X dX7_agrees_1 rfl (by decide) (lv2 := [(3, .int 0), (0, .ref (a 0)), (1, .ref (a 86)), (2, .ref (a 31))]) rfl ?_
  refine g_lv [0, 1, 2, 3] (lv2 := [(3, .int 0), (0, .ref (a 0)), (1, .ref (a 86)), (2, .ref (a 31))]) rfl ?_
  refine i_loop (mods := []) (fun x : Nat => 60 - x) (fun x => [(3, .int (nI (x))), (0, .ref (a 0)), (1, .ref (a 86)), (2, .ref (a 31))]) (fun x C => 0 ≤ x ∧ x ≤ 60 ∧ (x % 3 = 0)) (fun x L M C D F I K hP ih2 => ?_) ((0) : Nat) F I K ⟨by show _ ≤ _; omega, by show _ ≤ _; omega, (by decide)⟩
  obtain ⟨i2_3, rfl⟩ : ∃ z, z = x := ⟨_, rfl⟩
  obtain ⟨hi2_3a, hi2_3b, hm3⟩ := hP
  refine g_lv [0, 1, 2, 3] (lv2 := [(3, .int (nI i2_3)), (0, .ref (a 0)), (1, .ref (a 86)), (2, .ref (a 31))]) rfl ?_
  refine g_iload_n X dX7_agrees_2 rfl (j := 0) rfl ?_
  refine g_iconst X dX7_agrees_3 (v := 2) (by decide) ?_
  refine g_iadd X dX7_agrees_4 ?_
  refine Go.top (v := .int (nI (i2_3 + 2))) (congrArg Value.int (nI_add i2_3 2)) ?_
  refine g_aload_n X dX7_agrees_5 rfl (j := 2) rfl ?_
  refine i_get X F 86 (act86) rfl fk_X7_395 dX7_agrees_6 (v := .int (nI n1)) (congrArg (fun z => some (Value.int z)) ((congrFun (K 86 (by decide)).1 2).trans en1)) ?_
  refine g_icmp_ge X dX7_agrees_9 (tgt := 61) (by decide) (fun q2 => ?_) (fun q2 => ?_)
  · skip
    have q2 : n1 ≤ (i2_3 + 2) := (nI_leI (a := n1) (b := (i2_3 + 2)) (by omega) (by omega)).mp q2
    refine g_iconst X dX7_agrees_61 (v := 1) (by decide) ?_
    exact g_zret X hrt rfl dX7_agrees_62 (by decide) (by decide) ⟨C, D, F, I, K, Or.inr rfl⟩
  · skip
    have q2 : ¬ n1 ≤ (i2_3 + 2) := fun z => q2 ((nI_leI (a := n1) (b := (i2_3 + 2)) (by omega) (by omega)).mpr z)
    refine g_aload_n X dX7_agrees_12 rfl (j := 2) rfl ?_
    refine i_get X F 86 (act86) rfl fk_X7_406 dX7_agrees_13 rfl ?_
    refine g_iload_n X dX7_agrees_16 rfl (j := 0) rfl ?_
    refine i_lald X F 87 (act87) rfl dX7_agrees_17 (vp_in_nI (by omega) (by decide)) (v := D0 87 (i2_3)) (by rw [nI_clamp (by omega), (K 87 (by decide)).2]) ?_
    have hi3 := hsn (i2_3 / 3) (by omega)
    rw [show 3 * (i2_3 / 3) = i2_3 by omega] at hi3
    obtain ⟨n3, hn3, en3⟩ := l2i_nat (hi := 7) hi3.1.1 (by have z := hi3.1.2; omega) (by decide)
    refine g_l2i X dX7_agrees_18 (v := nI n3) en3 ?_
    refine g_istore X dX7_agrees_19 (by decide) (lv2 := [(4, .int (nI n3)), (3, .int (nI i2_3)), (0, .ref (a 0)), (1, .ref (a 86)), (2, .ref (a 31))]) rfl ?_
    refine g_aload_n X dX7_agrees_21 rfl (j := 3) rfl ?_
    refine i_get X F 86 (act86) rfl fk_X7_406 dX7_agrees_22 rfl ?_
    refine g_iload_n X dX7_agrees_25 rfl (j := 1) rfl ?_
    refine g_iconst X dX7_agrees_26 (v := 1) (by decide) ?_
    refine g_iadd X dX7_agrees_27 ?_
    refine Go.top (v := .int (nI (i2_3 + 1))) (congrArg Value.int (nI_add i2_3 1)) ?_
    refine i_lald X F 87 (act87) rfl dX7_agrees_28 (vp_in_nI (by omega) (by decide)) (v := D0 87 ((i2_3 + 1))) (by rw [nI_clamp (by omega), (K 87 (by decide)).2]) ?_
    have hi3 := hsn (i2_3 / 3) (by omega)
    rw [show 3 * (i2_3 / 3) = i2_3 by omega] at hi3
    obtain ⟨n4, hn4, en4⟩ := l2i_nat (hi := 16) hi3.2.1 (by have z := hi3.2.2; omega) (by decide)
    refine g_l2i X dX7_agrees_29 (v := nI n4) en4 ?_
    refine g_istore X dX7_agrees_30 (by decide) (lv2 := [(5, .int (nI n4)), (4, .int (nI n3)), (3, .int (nI i2_3)), (0, .ref (a 0)), (1, .ref (a 86)), (2, .ref (a 31))]) rfl ?_
    refine g_aload_n X dX7_agrees_32 rfl (j := 5) rfl ?_
    refine g_iload X dX7_agrees_33 (j := 1) rfl ?_
    refine g_iload X dX7_agrees_35 (j := 0) rfl ?_
    refine g_callVI X (s_X4_placeOf_31 l G F I n3 (by omega) (by omega) n4 (by omega) (by omega) ) lk_X7_137 (F.1 31 rfl).2 (F.1 31 rfl).1 rfl rfl dX7_agrees_37 (Nat.le_of_ble_eq_true rfl) ⟨by decide, by decide⟩ ⟨by decide, by decide⟩ (fun r5 L M hp => ?_)
    obtain ⟨C, D, F, I, K1, hr⟩ := hp
    have K := K.step K1 (by decide)
    obtain ⟨hr, hpln6⟩ := hr
    rcases okp_nat hr with rfl | ⟨n6, hn6, rfl⟩
    · skip
      refine g_i2l X dX7_agrees_40 rfl ?_
      refine Go.top (v := .long (-1)) (by decide) ?_
      refine g_aload_n X dX7_agrees_41 rfl (j := 4) rfl ?_
      refine i_get X F 86 (act86) rfl fk_X7_406 dX7_agrees_42 rfl ?_
      refine g_iload_n X dX7_agrees_45 rfl (j := 2) rfl ?_
      refine g_iconst X dX7_agrees_46 (v := 2) (by decide) ?_
      refine g_iadd X dX7_agrees_47 ?_
      refine Go.top (v := .int (nI (i2_3 + 2))) (congrArg Value.int (nI_add i2_3 2)) ?_
      refine i_lald X F 87 (act87) rfl dX7_agrees_48 (vp_in_nI (by omega) (by decide)) rfl ?_
      refine Go.genL (fun o7 => ?_)
      refine g_lcmp X dX7_agrees_49 ?_
      refine g_if_eq X dX7_agrees_50 (tgt := 55) (by decide) (fun q8 => ?_) (fun q8 => ?_)
      · skip
        have q8t : (-1 : Int64) = o7 := (lg_cmp_eq _ _).mp q8
        have q8k1 : (-1 : Int64).toInt = -1 := (by decide)
        refine g_iinc X dX7_agrees_55 (j := 2) rfl (v := nI (i2_3 + 3)) (nI_add i2_3 3) (by decide) (lv2 := [(3, .int (nI (i2_3 + 3))), (5, .int (nI n4)), (4, .int (nI n3)), (0, .ref (a 0)), (1, .ref (a 86)), (2, .ref (a 31))]) rfl ?_
        refine g_goto X dX7_agrees_58 (tgt := 2) (by decide) ?_
        refine g_lv [0, 3, 4, 5] (lv2 := [(3, .int (nI (i2_3 + 3))), (0, .ref (a 0)), (1, .ref (a 86)), (2, .ref (a 31))]) rfl ?_
        exact ih2 ((i2_3 + 3)) L M C D F I K ⟨by omega, by omega, (by show _ % 3 = 0; omega)⟩ (by show _ < _; omega)
      · skip
        have q8t : ¬ (-1 : Int64) = o7 := fun z => q8 ((lg_cmp_eq _ _).mpr z)
        have q8k1 : (-1 : Int64).toInt = -1 := (by decide)
        refine g_iconst X dX7_agrees_53 (v := 0) (by decide) ?_
        exact g_zret X hrt rfl dX7_agrees_54 (by decide) (by decide) ⟨C, D, F, I, K, Or.inl rfl⟩
    · skip
      refine g_i2l X dX7_agrees_40 rfl ?_
      refine g_aload_n X dX7_agrees_41 rfl (j := 4) rfl ?_
      refine i_get X F 86 (act86) rfl fk_X7_406 dX7_agrees_42 rfl ?_
      refine g_iload_n X dX7_agrees_45 rfl (j := 2) rfl ?_
      refine g_iconst X dX7_agrees_46 (v := 2) (by decide) ?_
      refine g_iadd X dX7_agrees_47 ?_
      refine Go.top (v := .int (nI (i2_3 + 2))) (congrArg Value.int (nI_add i2_3 2)) ?_
      refine i_lald X F 87 (act87) rfl dX7_agrees_48 (vp_in_nI (by omega) (by decide)) rfl ?_
      refine Go.genL (fun o9 => ?_)
      refine g_lcmp X dX7_agrees_49 ?_
      refine g_if_eq X dX7_agrees_50 (tgt := 55) (by decide) (fun q10 => ?_) (fun q10 => ?_)
      · skip
        have q10t : ((Int32.toInt64 (nI n6))) = o9 := (lg_cmp_eq _ _).mp q10
        have q10wa := Jvm.Kit.i64_of_i32 (nI n6)
        rw [nI_toInt (by omega)] at q10wa
        refine g_iinc X dX7_agrees_55 (j := 2) rfl (v := nI (i2_3 + 3)) (nI_add i2_3 3) (by decide) (lv2 := [(3, .int (nI (i2_3 + 3))), (5, .int (nI n4)), (4, .int (nI n3)), (0, .ref (a 0)), (1, .ref (a 86)), (2, .ref (a 31))]) rfl ?_
        refine g_goto X dX7_agrees_58 (tgt := 2) (by decide) ?_
        refine g_lv [0, 3, 4, 5] (lv2 := [(3, .int (nI (i2_3 + 3))), (0, .ref (a 0)), (1, .ref (a 86)), (2, .ref (a 31))]) rfl ?_
        exact ih2 ((i2_3 + 3)) L M C D F I K ⟨by omega, by omega, (by show _ % 3 = 0; omega)⟩ (by show _ < _; omega)
      · skip
        have q10t : ¬ ((Int32.toInt64 (nI n6))) = o9 := fun z => q10 ((lg_cmp_eq _ _).mpr z)
        have q10wa := Jvm.Kit.i64_of_i32 (nI n6)
        rw [nI_toInt (by omega)] at q10wa
        refine g_iconst X dX7_agrees_53 (v := 0) (by decide) ?_
        exact g_zret X hrt rfl dX7_agrees_54 (by decide) (by decide) ⟨C, D, F, I, K, Or.inl rfl⟩
set_option maxHeartbeats 4000000 in
set_option maxRecDepth 100000 in
theorem s_X7_possibleRoads_86 (l : Launch) (G : va_G) {cy : Nat → ClassId} {L : List Nat} {M : Nat → va_E} {a : Nat → Nat} {act : Nat → Bool} {C0 : Nat → Nat → Int32} {D0 : Nat → Nat → Int64} {R : Nat → Nat → Option Nat} (F : WI L M a act (ent cy a C0 D0 R)) (I : Inv C0) (p1 : Nat) (hp1a : 0 ≤ p1) (hp1b : p1 ≤ 6) (act86 : (baseact 86 || act 86) = true) (act87 : (baseact 87 || act 87) = true) (gsn : ∃ k : Nat, k ≤ 60 ∧ k % 3 = 0 ∧ C0 86 2 = nI k ∧ seen (D0 87) k) : MI l G cy yX7_possibleRoads cX7_possibleRoads 5 (some .int) 5 0 0 [.ref (a 0), .ref (a 86), .int (nI p1)] L M (fun r L2 M2 => ∃ C2 D2, WI L2 M2 a act (ent cy a C2 D2 R) ∧ Inv C2 ∧ Kp [31, 32, 33, 34, 35, 36, 42] C0 D0 C2 D2 ∧ True) := by
  refine MI.of (own := RX7) rfl (by decide) (Nat.le_of_ble_eq_true rfl) ?_
  intro p e s m below meth c A X hrt hnm
  obtain ⟨C, D, hC0, hD0, F, I, K⟩ : ∃ C D, C = C0 ∧ D = D0 ∧ WI L M a act (ent cy a C D R) ∧ Inv C ∧ Kp [31, 32, 33, 34, 35, 36, 42] C0 D0 C D := ⟨C0, D0, rfl, rfl, F, I, Kp.rf⟩
  refine g_iconst X dX7_possibleRoads_0 (v := 0) (by decide) ?_
  refine g_istore_n X dX7_possibleRoads_1 rfl (by decide) (lv2 := [(3, .int 0), (0, .ref (a 0)), (1, .ref (a 86)), (2, .int (nI p1))]) rfl ?_
  refine g_iconst X dX7_possibleRoads_2 (v := 0) (by decide) ?_
  refine g_istore X dX7_possibleRoads_3 (by decide) (lv2 := [(4, .int 0), (3, .int 0), (0, .ref (a 0)), (1, .ref (a 86)), (2, .int (nI p1))]) rfl ?_
  refine g_lv [0, 1, 2, 3, 4] (lv2 := [(4, .int 0), (3, .int 0), (0, .ref (a 0)), (1, .ref (a 86)), (2, .int (nI p1))]) rfl ?_
  refine i_loop (mods := [31, 32, 33, 34, 35, 36, 42]) (fun x : Nat × Int32 => 4 - x.1) (fun x => [(4, .int (nI (x.1))), (3, .int (x.2)), (0, .ref (a 0)), (1, .ref (a 86)), (2, .int (nI p1))]) (fun x C => 0 ≤ x.1 ∧ x.1 ≤ 4) (fun x L M C D F I K hP ih5 => ?_) ((0, 0) : Nat × Int32) F I K ⟨by show _ ≤ _; omega, by show _ ≤ _; omega⟩
  rcases x with ⟨i5_4, v5_3⟩
  obtain ⟨hi5_4a, hi5_4b⟩ := hP
  refine g_lv [0, 1, 2, 3, 4] (lv2 := [(4, .int (nI i5_4)), (3, .int v5_3), (0, .ref (a 0)), (1, .ref (a 86)), (2, .int (nI p1))]) rfl ?_
  refine g_iload X dX7_possibleRoads_5 (j := 0) rfl ?_
  refine g_aload_n X dX7_possibleRoads_7 rfl (j := 2) rfl ?_
  refine i_get X F 0 rfl rfl fk_X7_19 dX7_possibleRoads_8 rfl ?_
  refine i_get X F 3 rfl rfl fk_X7_109 dX7_possibleRoads_11 rfl ?_
  refine g_iload_n X dX7_possibleRoads_14 rfl (j := 4) rfl ?_
  obtain ⟨n1, hn1, en1⟩ := rg_nat (I 5 p1) (by decide)
  refine i_iald X F 5 rfl rfl dX7_possibleRoads_15 (vp_in_nI (by omega) (by decide)) (v := nI n1) (by rw [nI_clamp (by omega)]; exact en1) ?_
  refine g_icmp_ge X dX7_possibleRoads_16 (tgt := 75) (by decide) (fun q2 => ?_) (fun q2 => ?_)
  · skip
    have q2 : n1 ≤ i5_4 := (nI_leI (a := n1) (b := i5_4) (by omega) (by omega)).mp q2
    refine g_iload_n X dX7_possibleRoads_75 rfl (j := 1) rfl ?_
    exact g_iret X hrt dX7_possibleRoads_76 (by decide) (by decide) ⟨C, D, F, I, K, trivial⟩
  · skip
    have q2 : ¬ n1 ≤ i5_4 := fun z => q2 ((nI_leI (a := n1) (b := i5_4) (by omega) (by omega)).mpr z)
    refine g_aload_n X dX7_possibleRoads_19 rfl (j := 2) rfl ?_
    refine g_iload_n X dX7_possibleRoads_20 rfl (j := 4) rfl ?_
    refine g_iload X dX7_possibleRoads_21 (j := 0) rfl ?_
    refine g_callVV X (s_X7_runPointed l G F I p1 (by omega) (by omega) i5_4 (by omega) (by omega) ) lk_X7_267 (F.1 0 rfl).2 (F.1 0 rfl).1 rfl rfl dX7_possibleRoads_23 (Nat.le_of_ble_eq_true rfl) ⟨by decide, by decide⟩ ⟨by decide, by decide⟩ (fun L M hp => ?_)
    obtain ⟨C, D, F, I, K1, hr⟩ := hp
    have K := K.step K1 (by decide)
    refine g_aload_n X dX7_possibleRoads_26 rfl (j := 2) rfl ?_
    refine i_get X F 0 rfl rfl fk_X7_45 dX7_possibleRoads_27 rfl ?_
    refine i_get X F 31 rfl rfl fk_X7_441 dX7_possibleRoads_30 rfl ?_
    refine g_iconst X dX7_possibleRoads_33 (v := 0) (by decide) ?_
    refine g_aload_n X dX7_possibleRoads_34 rfl (j := 2) rfl ?_
    refine i_get X F 0 rfl rfl fk_X7_70 dX7_possibleRoads_35 rfl ?_
    refine g_iload X dX7_possibleRoads_38 (j := 0) rfl ?_
    refine g_sipush X dX7_possibleRoads_40 (v := 136) (by decide) ?_
    refine g_imul X dX7_possibleRoads_43 ?_
    refine Go.top (v := .int (nI (i5_4 * 136))) (congrArg Value.int (pk_mul i5_4 136)) ?_
    refine g_sipush X dX7_possibleRoads_44 (v := 136) (by decide) ?_
    refine i_copyi X F I 33 rfl 42 rfl rfl (fun _ => rfl) (t0 := 1) rfl rfl wd604 wd87 wd88 wd89 (by decide) (nI_pos (by omega)) (by decide) (by decide) (by have k136 : (136 : Int32).toNatClampNeg = 136 := (by decide); rw [nI_clamp (show (i5_4 * 136) < 2 ^ 31 by omega), k136]; omega) (fun _ _ => rfl) (by decide) (Nat.le_of_ble_eq_true rfl) dX7_possibleRoads_47 (fun j => trivial) (fun M C F I K1 hC => ?_)
    have K := K.step K1 (by decide)
    refine g_aload_n X dX7_possibleRoads_50 rfl (j := 2) rfl ?_
    refine g_aload_n X dX7_possibleRoads_51 rfl (j := 3) rfl ?_
    refine g_aload_n X dX7_possibleRoads_52 rfl (j := 2) rfl ?_
    refine i_get X F 0 rfl rfl fk_X7_45 dX7_possibleRoads_53 rfl ?_
    refine g_callVI X (s_X7_agrees_86 l G F I  act86 act87 (by rw [(K 86 (by decide)).1, (K 87 (by decide)).2]; exact gsn)) lk_X7_306 (F.1 0 rfl).2 (F.1 0 rfl).1 rfl rfl dX7_possibleRoads_56 (Nat.le_of_ble_eq_true rfl) ⟨by decide, by decide⟩ ⟨by decide, by decide⟩ (fun r3 L M hp => ?_)
    obtain ⟨C, D, F, I, K1, hr⟩ := hp
    have K := K.step K1 (by decide)
    rcases hr with rfl | rfl
    · skip
      refine g_if_eq X dX7_possibleRoads_59 (tgt := 69) (by decide) (fun _ => ?_) (fun q => absurd (by decide) q)
      refine g_iinc X dX7_possibleRoads_69 (j := 0) rfl (v := nI (i5_4 + 1)) (nI_1 i5_4) (by decide) (lv2 := [(4, .int (nI (i5_4 + 1))), (3, .int v5_3), (0, .ref (a 0)), (1, .ref (a 86)), (2, .int (nI p1))]) rfl ?_
      refine g_goto X dX7_possibleRoads_72 (tgt := 5) (by decide) ?_
      refine g_lv [0, 1, 2, 3, 4] (lv2 := [(4, .int (nI (i5_4 + 1))), (3, .int v5_3), (0, .ref (a 0)), (1, .ref (a 86)), (2, .int (nI p1))]) rfl ?_
      exact ih5 ((i5_4 + 1), v5_3) L M C D F I K ⟨by omega, by omega⟩ (by show _ < _; omega)
    · skip
      refine g_if_eq X dX7_possibleRoads_59 (tgt := 69) (by decide) (fun q => absurd q (by decide)) (fun _ => ?_)
      refine g_iload_n X dX7_possibleRoads_62 rfl (j := 1) rfl ?_
      refine g_iconst X dX7_possibleRoads_63 (v := 1) (by decide) ?_
      refine g_iload X dX7_possibleRoads_64 (j := 0) rfl ?_
      refine g_ishl X dX7_possibleRoads_66 ?_
      refine Go.gen (fun o4 => ?_)
      refine g_ior X dX7_possibleRoads_67 ?_
      refine Go.gen (fun o5 => ?_)
      refine g_istore_n X dX7_possibleRoads_68 rfl (by decide) (lv2 := [(3, .int o5), (4, .int (nI i5_4)), (0, .ref (a 0)), (1, .ref (a 86)), (2, .int (nI p1))]) rfl ?_
      refine g_iinc X dX7_possibleRoads_69 (j := 1) rfl (v := nI (i5_4 + 1)) (nI_1 i5_4) (by decide) (lv2 := [(4, .int (nI (i5_4 + 1))), (3, .int o5), (0, .ref (a 0)), (1, .ref (a 86)), (2, .int (nI p1))]) rfl ?_
      refine g_goto X dX7_possibleRoads_72 (tgt := 5) (by decide) ?_
      refine g_lv [0, 1, 2, 3, 4] (lv2 := [(4, .int (nI (i5_4 + 1))), (3, .int o5), (0, .ref (a 0)), (1, .ref (a 86)), (2, .int (nI p1))]) rfl ?_
      exact ih5 ((i5_4 + 1), o5) L M C D F I K ⟨by omega, by omega⟩ (by show _ < _; omega)
set_option maxHeartbeats 4000000 in
set_option maxRecDepth 100000 in
theorem s_X7_refusalOfSeen_3 (l : Launch) (G : va_G) {cy : Nat → ClassId} {L : List Nat} {M : Nat → va_E} {a : Nat → Nat} {act : Nat → Bool} {C0 : Nat → Nat → Int32} {D0 : Nat → Nat → Int64} {R : Nat → Nat → Option Nat} (F : WI L M a act (ent cy a C0 D0 R)) (I : Inv C0) (p1 : Int32) (HR : RA a act R) : MI l G cy yX7_refusalOfSeen cX7_refusalOfSeen 3 (some .int) 3 0 0 [.ref (a 0), .int 3, .int p1] L M (fun r L2 M2 => ∃ C2 D2, WI L2 M2 a act (ent cy a C2 D2 R) ∧ Inv C2 ∧ Kp [] C0 D0 C2 D2 ∧ (¬ r = 0 ∨ (r = 0 ∧ act 86 = true ∧ ¬ p1 = 0 ∧ ∃ k : Nat, k ≤ 60 ∧ k % 3 = 0 ∧ C2 86 2 = nI k ∧ seen (D2 87) k))) := by
  refine MI.of (own := RX7) rfl (by decide) (Nat.le_of_ble_eq_true rfl) ?_
  intro p e s m below meth c A X hrt hnm
  obtain ⟨C, D, hC0, hD0, F, I, K⟩ : ∃ C D, C = C0 ∧ D = D0 ∧ WI L M a act (ent cy a C D R) ∧ Inv C ∧ Kp [] C0 D0 C D := ⟨C0, D0, rfl, rfl, F, I, Kp.rf⟩
  refine g_iload_n X dX7_refusalOfSeen_0 rfl (j := 1) rfl ?_
  refine g_callSI X (s_X7_isSlot_3 l G F I  ) lk_X7_389 rfl rfl dX7_refusalOfSeen_1 (Nat.le_of_ble_eq_true rfl) ⟨by decide, by decide⟩ ⟨by decide, by decide⟩ (fun r1 L M hp => ?_)
  obtain ⟨C, D, F, I, K1, hr⟩ := hp
  have K := K.step K1 (by decide)
  subst hr
  refine g_if_eq X dX7_refusalOfSeen_4 (tgt := 11) (by decide) (fun q => absurd q (by decide)) (fun _ => ?_)
  refine g_iload_n X dX7_refusalOfSeen_7 rfl (j := 2) rfl ?_
  refine g_if_ne X dX7_refusalOfSeen_8 (tgt := 14) (by decide) (fun q2 => ?_) (fun q2 => ?_)
  · skip
    refine g_aload_n X dX7_refusalOfSeen_14 rfl (j := 0) rfl ?_
    refine i_get X F 0 rfl rfl fk_X7_32 dX7_refusalOfSeen_15 rfl ?_
    refine g_iload_n X dX7_refusalOfSeen_18 rfl (j := 1) rfl ?_
    rcases (Bool.eq_false_or_eq_true (act 86)).symm with hA86 | hA86
    · skip
      refine i_aald X F 24 rfl (t0 := 5) rfl rfl dX7_refusalOfSeen_19 (vp_in_iff.mpr (by decide)) (v := .null) (by show va_rf (R 24 3) = _; rw [HR.1 3 (by decide)]; rw [if_neg (by rw [hA86]; decide)]; rfl) ?_
      refine g_ifnonnullN X dX7_refusalOfSeen_20 ?_
      refine g_bipush X dX7_refusalOfSeen_23 (v := -6) (by decide) ?_
      exact g_iret X hrt dX7_refusalOfSeen_25 (by decide) (by decide) ⟨C, D, F, I, K, Or.inl (by decide)⟩
    · skip
      have act86 : (baseact 86 || act 86) = true := by rw [hA86]; rfl
      have act87 : (baseact 87 || act 87) = true := by rw [((HR.2.2.1 3 (by decide)).trans hA86)]; rfl
      refine i_aald X F 24 rfl (t0 := 5) rfl rfl dX7_refusalOfSeen_19 (vp_in_iff.mpr (by decide)) (v := .ref (a 86)) (by show va_rf (R 24 3) = _; rw [HR.1 3 (by decide)]; rw [if_pos hA86]; rfl) ?_
      refine g_ifnonnull X dX7_refusalOfSeen_20 (tgt := 26) (by decide) ?_
      refine g_aload_n X dX7_refusalOfSeen_26 rfl (j := 0) rfl ?_
      refine g_aload_n X dX7_refusalOfSeen_27 rfl (j := 0) rfl ?_
      refine i_get X F 0 rfl rfl fk_X7_32 dX7_refusalOfSeen_28 rfl ?_
      refine g_iload_n X dX7_refusalOfSeen_31 rfl (j := 1) rfl ?_
      refine i_aald X F 24 rfl (t0 := 5) rfl rfl dX7_refusalOfSeen_32 (vp_in_iff.mpr (by decide)) (v := .ref (a 86)) (by show va_rf (R 24 3) = _; rw [HR.1 3 (by decide)]; rw [if_pos hA86]; rfl) ?_
      refine g_callVI X (s_X7_tellsPlaces_86 l G F I  act86 act87) lk_X7_433 (F.1 0 rfl).2 (F.1 0 rfl).1 rfl rfl dX7_refusalOfSeen_33 (Nat.le_of_ble_eq_true rfl) ⟨by decide, by decide⟩ ⟨by decide, by decide⟩ (fun r5 L M hp => ?_)
      obtain ⟨C, D, F, I, K1, hr⟩ := hp
      have K := K.step K1 (by decide)
      rcases hr with rfl | ⟨rfl, hz6⟩
      · skip
        refine g_if_eq X dX7_refusalOfSeen_36 (tgt := 43) (by decide) (fun _ => ?_) (fun q => absurd (by decide) q)
        refine g_bipush X dX7_refusalOfSeen_43 (v := -2) (by decide) ?_
        exact g_iret X hrt dX7_refusalOfSeen_45 (by decide) (by decide) ⟨C, D, F, I, K, Or.inl (by decide)⟩
      · skip
        refine g_if_eq X dX7_refusalOfSeen_36 (tgt := 43) (by decide) (fun q => absurd q (by decide)) (fun _ => ?_)
        refine g_iconst X dX7_refusalOfSeen_39 (v := 0) (by decide) ?_
        refine g_goto X dX7_refusalOfSeen_40 (tgt := 45) (by decide) ?_
        exact g_iret X hrt dX7_refusalOfSeen_45 (by decide) (by decide) ⟨C, D, F, I, K, Or.inr ⟨rfl, hA86, q2, by have z := hz6; exact z⟩⟩
  · skip
    subst q2
    refine g_bipush X dX7_refusalOfSeen_11 (v := -2) (by decide) ?_
    exact g_iret X hrt dX7_refusalOfSeen_13 (by decide) (by decide) ⟨C, D, F, I, K, Or.inl (by decide)⟩
set_option maxHeartbeats 4000000 in
set_option maxRecDepth 100000 in
theorem s_X7_refusalOfSeen_x (l : Launch) (G : va_G) {cy : Nat → ClassId} {L : List Nat} {M : Nat → va_E} {a : Nat → Nat} {act : Nat → Bool} {C0 : Nat → Nat → Int32} {D0 : Nat → Nat → Int64} {R : Nat → Nat → Option Nat} (F : WI L M a act (ent cy a C0 D0 R)) (I : Inv C0) (p0 : Int32) (p1 : Int32) (hno : p0 < 0 ∨ 4 ≤ p0) : MI l G cy yX7_refusalOfSeen cX7_refusalOfSeen 3 (some .int) 1 0 0 [.ref (a 0), .int p0, .int p1] L M (fun r L2 M2 => ∃ C2 D2, WI L2 M2 a act (ent cy a C2 D2 R) ∧ Inv C2 ∧ Kp [] C0 D0 C2 D2 ∧ ¬ r = 0) := by
  refine MI.of (own := RX7) rfl (by decide) (Nat.le_of_ble_eq_true rfl) ?_
  intro p e s m below meth c A X hrt hnm
  obtain ⟨C, D, hC0, hD0, F, I, K⟩ : ∃ C D, C = C0 ∧ D = D0 ∧ WI L M a act (ent cy a C D R) ∧ Inv C ∧ Kp [] C0 D0 C D := ⟨C0, D0, rfl, rfl, F, I, Kp.rf⟩
  refine g_iload_n X dX7_refusalOfSeen_0 rfl (j := 1) rfl ?_
  refine g_callSI X (s_X7_isSlot_x l G F I p0 hno) lk_X7_389 rfl rfl dX7_refusalOfSeen_1 (Nat.le_of_ble_eq_true rfl) ⟨by decide, by decide⟩ ⟨by decide, by decide⟩ (fun r1 L M hp => ?_)
  obtain ⟨C, D, F, I, K1, hr⟩ := hp
  have K := K.step K1 (by decide)
  subst hr
  refine g_if_eq X dX7_refusalOfSeen_4 (tgt := 11) (by decide) (fun _ => ?_) (fun q => absurd (by decide) q)
  refine g_bipush X dX7_refusalOfSeen_11 (v := -2) (by decide) ?_
  exact g_iret X hrt dX7_refusalOfSeen_13 (by decide) (by decide) ⟨C, D, F, I, K, (by decide)⟩
set_option maxHeartbeats 4000000 in
set_option maxRecDepth 100000 in
theorem s_X7_may (l : Launch) (G : va_G) {cy : Nat → ClassId} {L : List Nat} {M : Nat → va_E} {a : Nat → Nat} {act : Nat → Bool} {C0 : Nat → Nat → Int32} {D0 : Nat → Nat → Int64} {R : Nat → Nat → Option Nat} (F : WI L M a act (ent cy a C0 D0 R)) (I : Inv C0) (p0 : Int32) (p1 : Int32) (HR : RA a act R) : MI l G cy yX7_may cX7_may 4 (some .int) 6 0 0 [.ref (a 0), .int p0, .int p1] L M (fun r L2 M2 => ∃ C2 D2, WI L2 M2 a act (ent cy a C2 D2 R) ∧ Inv C2 ∧ Kp [31, 32, 33, 34, 35, 36, 42] C0 D0 C2 D2 ∧ True) := by
  refine MI.of (own := RX7) rfl (by decide) (Nat.le_of_ble_eq_true rfl) ?_
  intro p e s m below meth c A X hrt hnm
  obtain ⟨C, D, hC0, hD0, F, I, K⟩ : ∃ C D, C = C0 ∧ D = D0 ∧ WI L M a act (ent cy a C D R) ∧ Inv C ∧ Kp [31, 32, 33, 34, 35, 36, 42] C0 D0 C D := ⟨C0, D0, rfl, rfl, F, I, Kp.rf⟩
  rcases sc4 p0 with hx1 | hx1 | rfl | rfl | rfl | rfl
  · skip
    have hno1 : p0 < 0 ∨ 4 ≤ p0 := Or.inl hx1
    refine g_aload_n X dX7_may_0 rfl (j := 0) rfl ?_
    refine g_iload_n X dX7_may_1 rfl (j := 1) rfl ?_
    refine g_aload_n X dX7_may_2 rfl (j := 0) rfl ?_
    refine i_get X F 0 rfl rfl fk_X7_19 dX7_may_3 rfl ?_
    refine g_iload_n X dX7_may_6 rfl (j := 2) rfl ?_
    refine g_callVI X (s_X2_hasPost l G F I p1 ) lk_X7_106 (F.1 3 rfl).2 (F.1 3 rfl).1 rfl rfl dX7_may_7 (Nat.le_of_ble_eq_true rfl) ⟨by decide, by decide⟩ ⟨by decide, by decide⟩ (fun r2 L M hp => ?_)
    obtain ⟨C, D, F, I, K1, hr⟩ := hp
    have K := K.step K1 (by decide)
    rcases hr with rfl | ⟨rfl, n3, hn3a, hn3b, en3⟩
    · skip
      refine g_callVI X (s_X7_refusalOfSeen_x l G F I p0 (0 : Int32) hno1) lk_X7_288 (F.1 0 rfl).2 (F.1 0 rfl).1 rfl rfl dX7_may_10 (Nat.le_of_ble_eq_true rfl) ⟨by decide, by decide⟩ ⟨by decide, by decide⟩ (fun r4 L M hp => ?_)
      obtain ⟨C, D, F, I, K1, hr⟩ := hp
      have K := K.step K1 (by decide)
      have hz5 := hr
      refine g_istore_n X dX7_may_13 rfl (by decide) (lv2 := [(3, .int r4), (0, .ref (a 0)), (1, .int p0), (2, .int p1)]) rfl ?_
      refine g_iload_n X dX7_may_14 rfl (j := 0) rfl ?_
      refine g_if_eq X dX7_may_15 (tgt := 22) (by decide) (fun q => absurd q hz5) (fun _ => ?_)
      refine g_iload_n X dX7_may_18 rfl (j := 0) rfl ?_
      refine g_goto X dX7_may_19 (tgt := 33) (by decide) ?_
      exact g_iret X hrt dX7_may_33 (by decide) (by decide) ⟨C, D, F, I, K, trivial⟩
    · skip
      subst en3
      refine g_callVI X (s_X7_refusalOfSeen_x l G F I p0 (1 : Int32) hno1) lk_X7_288 (F.1 0 rfl).2 (F.1 0 rfl).1 rfl rfl dX7_may_10 (Nat.le_of_ble_eq_true rfl) ⟨by decide, by decide⟩ ⟨by decide, by decide⟩ (fun r7 L M hp => ?_)
      obtain ⟨C, D, F, I, K1, hr⟩ := hp
      have K := K.step K1 (by decide)
      have hz8 := hr
      refine g_istore_n X dX7_may_13 rfl (by decide) (lv2 := [(3, .int r7), (0, .ref (a 0)), (1, .int p0), (2, .int (nI n3))]) rfl ?_
      refine g_iload_n X dX7_may_14 rfl (j := 0) rfl ?_
      refine g_if_eq X dX7_may_15 (tgt := 22) (by decide) (fun q => absurd q hz8) (fun _ => ?_)
      refine g_iload_n X dX7_may_18 rfl (j := 0) rfl ?_
      refine g_goto X dX7_may_19 (tgt := 33) (by decide) ?_
      exact g_iret X hrt dX7_may_33 (by decide) (by decide) ⟨C, D, F, I, K, trivial⟩
  · skip
    have hno1 : p0 < 0 ∨ 4 ≤ p0 := Or.inr hx1
    refine g_aload_n X dX7_may_0 rfl (j := 0) rfl ?_
    refine g_iload_n X dX7_may_1 rfl (j := 1) rfl ?_
    refine g_aload_n X dX7_may_2 rfl (j := 0) rfl ?_
    refine i_get X F 0 rfl rfl fk_X7_19 dX7_may_3 rfl ?_
    refine g_iload_n X dX7_may_6 rfl (j := 2) rfl ?_
    refine g_callVI X (s_X2_hasPost l G F I p1 ) lk_X7_106 (F.1 3 rfl).2 (F.1 3 rfl).1 rfl rfl dX7_may_7 (Nat.le_of_ble_eq_true rfl) ⟨by decide, by decide⟩ ⟨by decide, by decide⟩ (fun r10 L M hp => ?_)
    obtain ⟨C, D, F, I, K1, hr⟩ := hp
    have K := K.step K1 (by decide)
    rcases hr with rfl | ⟨rfl, n11, hn11a, hn11b, en11⟩
    · skip
      refine g_callVI X (s_X7_refusalOfSeen_x l G F I p0 (0 : Int32) hno1) lk_X7_288 (F.1 0 rfl).2 (F.1 0 rfl).1 rfl rfl dX7_may_10 (Nat.le_of_ble_eq_true rfl) ⟨by decide, by decide⟩ ⟨by decide, by decide⟩ (fun r12 L M hp => ?_)
      obtain ⟨C, D, F, I, K1, hr⟩ := hp
      have K := K.step K1 (by decide)
      have hz13 := hr
      refine g_istore_n X dX7_may_13 rfl (by decide) (lv2 := [(3, .int r12), (0, .ref (a 0)), (1, .int p0), (2, .int p1)]) rfl ?_
      refine g_iload_n X dX7_may_14 rfl (j := 0) rfl ?_
      refine g_if_eq X dX7_may_15 (tgt := 22) (by decide) (fun q => absurd q hz13) (fun _ => ?_)
      refine g_iload_n X dX7_may_18 rfl (j := 0) rfl ?_
      refine g_goto X dX7_may_19 (tgt := 33) (by decide) ?_
      exact g_iret X hrt dX7_may_33 (by decide) (by decide) ⟨C, D, F, I, K, trivial⟩
    · skip
      subst en11
      refine g_callVI X (s_X7_refusalOfSeen_x l G F I p0 (1 : Int32) hno1) lk_X7_288 (F.1 0 rfl).2 (F.1 0 rfl).1 rfl rfl dX7_may_10 (Nat.le_of_ble_eq_true rfl) ⟨by decide, by decide⟩ ⟨by decide, by decide⟩ (fun r15 L M hp => ?_)
      obtain ⟨C, D, F, I, K1, hr⟩ := hp
      have K := K.step K1 (by decide)
      have hz16 := hr
      refine g_istore_n X dX7_may_13 rfl (by decide) (lv2 := [(3, .int r15), (0, .ref (a 0)), (1, .int p0), (2, .int (nI n11))]) rfl ?_
      refine g_iload_n X dX7_may_14 rfl (j := 0) rfl ?_
      refine g_if_eq X dX7_may_15 (tgt := 22) (by decide) (fun q => absurd q hz16) (fun _ => ?_)
      refine g_iload_n X dX7_may_18 rfl (j := 0) rfl ?_
      refine g_goto X dX7_may_19 (tgt := 33) (by decide) ?_
      exact g_iret X hrt dX7_may_33 (by decide) (by decide) ⟨C, D, F, I, K, trivial⟩
  · skip
    refine g_aload_n X dX7_may_0 rfl (j := 0) rfl ?_
    refine g_iload_n X dX7_may_1 rfl (j := 1) rfl ?_
    refine g_aload_n X dX7_may_2 rfl (j := 0) rfl ?_
    refine i_get X F 0 rfl rfl fk_X7_19 dX7_may_3 rfl ?_
    refine g_iload_n X dX7_may_6 rfl (j := 2) rfl ?_
    refine g_callVI X (s_X2_hasPost l G F I p1 ) lk_X7_106 (F.1 3 rfl).2 (F.1 3 rfl).1 rfl rfl dX7_may_7 (Nat.le_of_ble_eq_true rfl) ⟨by decide, by decide⟩ ⟨by decide, by decide⟩ (fun r18 L M hp => ?_)
    obtain ⟨C, D, F, I, K1, hr⟩ := hp
    have K := K.step K1 (by decide)
    rcases hr with rfl | ⟨rfl, n19, hn19a, hn19b, en19⟩
    · skip
      refine g_callVI X (s_X7_refusalOfSeen_0 l G F I (0 : Int32) HR) lk_X7_288 (F.1 0 rfl).2 (F.1 0 rfl).1 rfl rfl dX7_may_10 (Nat.le_of_ble_eq_true rfl) ⟨by decide, by decide⟩ ⟨by decide, by decide⟩ (fun r20 L M hp => ?_)
      obtain ⟨C, D, F, I, K1, hr⟩ := hp
      have K := K.step K1 (by decide)
      rcases hr with hz21 | ⟨rfl, hA80, hz21n, gsn⟩
      · skip
        refine g_istore_n X dX7_may_13 rfl (by decide) (lv2 := [(3, .int r20), (0, .ref (a 0)), (1, .int 0), (2, .int p1)]) rfl ?_
        refine g_iload_n X dX7_may_14 rfl (j := 0) rfl ?_
        refine g_if_eq X dX7_may_15 (tgt := 22) (by decide) (fun q => absurd q hz21) (fun _ => ?_)
        refine g_iload_n X dX7_may_18 rfl (j := 0) rfl ?_
        refine g_goto X dX7_may_19 (tgt := 33) (by decide) ?_
        exact g_iret X hrt dX7_may_33 (by decide) (by decide) ⟨C, D, F, I, K, trivial⟩
      · skip
        exact absurd rfl hz21n
    · skip
      subst en19
      refine g_callVI X (s_X7_refusalOfSeen_0 l G F I (1 : Int32) HR) lk_X7_288 (F.1 0 rfl).2 (F.1 0 rfl).1 rfl rfl dX7_may_10 (Nat.le_of_ble_eq_true rfl) ⟨by decide, by decide⟩ ⟨by decide, by decide⟩ (fun r23 L M hp => ?_)
      obtain ⟨C, D, F, I, K1, hr⟩ := hp
      have K := K.step K1 (by decide)
      rcases hr with hz24 | ⟨rfl, hA80, hz24n, gsn⟩
      · skip
        refine g_istore_n X dX7_may_13 rfl (by decide) (lv2 := [(3, .int r23), (0, .ref (a 0)), (1, .int 0), (2, .int (nI n19))]) rfl ?_
        refine g_iload_n X dX7_may_14 rfl (j := 0) rfl ?_
        refine g_if_eq X dX7_may_15 (tgt := 22) (by decide) (fun q => absurd q hz24) (fun _ => ?_)
        refine g_iload_n X dX7_may_18 rfl (j := 0) rfl ?_
        refine g_goto X dX7_may_19 (tgt := 33) (by decide) ?_
        exact g_iret X hrt dX7_may_33 (by decide) (by decide) ⟨C, D, F, I, K, trivial⟩
      · skip
        have act80 : (baseact 80 || act 80) = true := by rw [hA80]; rfl
        have act81 : (baseact 81 || act 81) = true := by rw [((HR.2.2.1 0 (by decide)).trans hA80)]; rfl
        rw [(K 80 (by decide)).1, (K 81 (by decide)).2] at gsn
        refine g_istore_n X dX7_may_13 rfl (by decide) (lv2 := [(3, .int 0), (0, .ref (a 0)), (1, .int 0), (2, .int (nI n19))]) rfl ?_
        refine g_iload_n X dX7_may_14 rfl (j := 0) rfl ?_
        refine g_if_eq X dX7_may_15 (tgt := 22) (by decide) (fun _ => ?_) (fun q => absurd (by decide) q)
        refine g_aload_n X dX7_may_22 rfl (j := 1) rfl ?_
        refine g_aload_n X dX7_may_23 rfl (j := 1) rfl ?_
        refine i_get X F 0 rfl rfl fk_X7_32 dX7_may_24 rfl ?_
        refine g_iload_n X dX7_may_27 rfl (j := 2) rfl ?_
        refine i_aald X F 24 rfl (t0 := 5) rfl rfl dX7_may_28 (vp_in_iff.mpr (by decide)) (v := .ref (a 80)) (by show va_rf (R 24 0) = _; rw [HR.1 0 (by decide)]; rw [if_pos hA80]; rfl) ?_
        refine g_iload_n X dX7_may_29 rfl (j := 3) rfl ?_
        refine g_callVI X (s_X7_possibleRoads_80 l G F I n19 (by omega) (by omega) act80 act81 (by rw [(K 80 (by decide)).1, (K 81 (by decide)).2]; exact gsn)) lk_X7_292 (F.1 0 rfl).2 (F.1 0 rfl).1 rfl rfl dX7_may_30 (Nat.le_of_ble_eq_true rfl) ⟨by decide, by decide⟩ ⟨by decide, by decide⟩ (fun r27 L M hp => ?_)
        obtain ⟨C, D, F, I, K1, hr⟩ := hp
        have K := K.step K1 (by decide)
        exact g_iret X hrt dX7_may_33 (by decide) (by decide) ⟨C, D, F, I, K, trivial⟩
  · skip
    refine g_aload_n X dX7_may_0 rfl (j := 0) rfl ?_
    refine g_iload_n X dX7_may_1 rfl (j := 1) rfl ?_
    refine g_aload_n X dX7_may_2 rfl (j := 0) rfl ?_
    refine i_get X F 0 rfl rfl fk_X7_19 dX7_may_3 rfl ?_
    refine g_iload_n X dX7_may_6 rfl (j := 2) rfl ?_
    refine g_callVI X (s_X2_hasPost l G F I p1 ) lk_X7_106 (F.1 3 rfl).2 (F.1 3 rfl).1 rfl rfl dX7_may_7 (Nat.le_of_ble_eq_true rfl) ⟨by decide, by decide⟩ ⟨by decide, by decide⟩ (fun r28 L M hp => ?_)
    obtain ⟨C, D, F, I, K1, hr⟩ := hp
    have K := K.step K1 (by decide)
    rcases hr with rfl | ⟨rfl, n29, hn29a, hn29b, en29⟩
    · skip
      refine g_callVI X (s_X7_refusalOfSeen_1 l G F I (0 : Int32) HR) lk_X7_288 (F.1 0 rfl).2 (F.1 0 rfl).1 rfl rfl dX7_may_10 (Nat.le_of_ble_eq_true rfl) ⟨by decide, by decide⟩ ⟨by decide, by decide⟩ (fun r30 L M hp => ?_)
      obtain ⟨C, D, F, I, K1, hr⟩ := hp
      have K := K.step K1 (by decide)
      rcases hr with hz31 | ⟨rfl, hA82, hz31n, gsn⟩
      · skip
        refine g_istore_n X dX7_may_13 rfl (by decide) (lv2 := [(3, .int r30), (0, .ref (a 0)), (1, .int 1), (2, .int p1)]) rfl ?_
        refine g_iload_n X dX7_may_14 rfl (j := 0) rfl ?_
        refine g_if_eq X dX7_may_15 (tgt := 22) (by decide) (fun q => absurd q hz31) (fun _ => ?_)
        refine g_iload_n X dX7_may_18 rfl (j := 0) rfl ?_
        refine g_goto X dX7_may_19 (tgt := 33) (by decide) ?_
        exact g_iret X hrt dX7_may_33 (by decide) (by decide) ⟨C, D, F, I, K, trivial⟩
      · skip
        exact absurd rfl hz31n
    · skip
      subst en29
      refine g_callVI X (s_X7_refusalOfSeen_1 l G F I (1 : Int32) HR) lk_X7_288 (F.1 0 rfl).2 (F.1 0 rfl).1 rfl rfl dX7_may_10 (Nat.le_of_ble_eq_true rfl) ⟨by decide, by decide⟩ ⟨by decide, by decide⟩ (fun r33 L M hp => ?_)
      obtain ⟨C, D, F, I, K1, hr⟩ := hp
      have K := K.step K1 (by decide)
      rcases hr with hz34 | ⟨rfl, hA82, hz34n, gsn⟩
      · skip
        refine g_istore_n X dX7_may_13 rfl (by decide) (lv2 := [(3, .int r33), (0, .ref (a 0)), (1, .int 1), (2, .int (nI n29))]) rfl ?_
        refine g_iload_n X dX7_may_14 rfl (j := 0) rfl ?_
        refine g_if_eq X dX7_may_15 (tgt := 22) (by decide) (fun q => absurd q hz34) (fun _ => ?_)
        refine g_iload_n X dX7_may_18 rfl (j := 0) rfl ?_
        refine g_goto X dX7_may_19 (tgt := 33) (by decide) ?_
        exact g_iret X hrt dX7_may_33 (by decide) (by decide) ⟨C, D, F, I, K, trivial⟩
      · skip
        have act82 : (baseact 82 || act 82) = true := by rw [hA82]; rfl
        have act83 : (baseact 83 || act 83) = true := by rw [((HR.2.2.1 1 (by decide)).trans hA82)]; rfl
        rw [(K 82 (by decide)).1, (K 83 (by decide)).2] at gsn
        refine g_istore_n X dX7_may_13 rfl (by decide) (lv2 := [(3, .int 0), (0, .ref (a 0)), (1, .int 1), (2, .int (nI n29))]) rfl ?_
        refine g_iload_n X dX7_may_14 rfl (j := 0) rfl ?_
        refine g_if_eq X dX7_may_15 (tgt := 22) (by decide) (fun _ => ?_) (fun q => absurd (by decide) q)
        refine g_aload_n X dX7_may_22 rfl (j := 1) rfl ?_
        refine g_aload_n X dX7_may_23 rfl (j := 1) rfl ?_
        refine i_get X F 0 rfl rfl fk_X7_32 dX7_may_24 rfl ?_
        refine g_iload_n X dX7_may_27 rfl (j := 2) rfl ?_
        refine i_aald X F 24 rfl (t0 := 5) rfl rfl dX7_may_28 (vp_in_iff.mpr (by decide)) (v := .ref (a 82)) (by show va_rf (R 24 1) = _; rw [HR.1 1 (by decide)]; rw [if_pos hA82]; rfl) ?_
        refine g_iload_n X dX7_may_29 rfl (j := 3) rfl ?_
        refine g_callVI X (s_X7_possibleRoads_82 l G F I n29 (by omega) (by omega) act82 act83 (by rw [(K 82 (by decide)).1, (K 83 (by decide)).2]; exact gsn)) lk_X7_292 (F.1 0 rfl).2 (F.1 0 rfl).1 rfl rfl dX7_may_30 (Nat.le_of_ble_eq_true rfl) ⟨by decide, by decide⟩ ⟨by decide, by decide⟩ (fun r37 L M hp => ?_)
        obtain ⟨C, D, F, I, K1, hr⟩ := hp
        have K := K.step K1 (by decide)
        exact g_iret X hrt dX7_may_33 (by decide) (by decide) ⟨C, D, F, I, K, trivial⟩
  · skip
    refine g_aload_n X dX7_may_0 rfl (j := 0) rfl ?_
    refine g_iload_n X dX7_may_1 rfl (j := 1) rfl ?_
    refine g_aload_n X dX7_may_2 rfl (j := 0) rfl ?_
    refine i_get X F 0 rfl rfl fk_X7_19 dX7_may_3 rfl ?_
    refine g_iload_n X dX7_may_6 rfl (j := 2) rfl ?_
    refine g_callVI X (s_X2_hasPost l G F I p1 ) lk_X7_106 (F.1 3 rfl).2 (F.1 3 rfl).1 rfl rfl dX7_may_7 (Nat.le_of_ble_eq_true rfl) ⟨by decide, by decide⟩ ⟨by decide, by decide⟩ (fun r38 L M hp => ?_)
    obtain ⟨C, D, F, I, K1, hr⟩ := hp
    have K := K.step K1 (by decide)
    rcases hr with rfl | ⟨rfl, n39, hn39a, hn39b, en39⟩
    · skip
      refine g_callVI X (s_X7_refusalOfSeen_2 l G F I (0 : Int32) HR) lk_X7_288 (F.1 0 rfl).2 (F.1 0 rfl).1 rfl rfl dX7_may_10 (Nat.le_of_ble_eq_true rfl) ⟨by decide, by decide⟩ ⟨by decide, by decide⟩ (fun r40 L M hp => ?_)
      obtain ⟨C, D, F, I, K1, hr⟩ := hp
      have K := K.step K1 (by decide)
      rcases hr with hz41 | ⟨rfl, hA84, hz41n, gsn⟩
      · skip
        refine g_istore_n X dX7_may_13 rfl (by decide) (lv2 := [(3, .int r40), (0, .ref (a 0)), (1, .int 2), (2, .int p1)]) rfl ?_
        refine g_iload_n X dX7_may_14 rfl (j := 0) rfl ?_
        refine g_if_eq X dX7_may_15 (tgt := 22) (by decide) (fun q => absurd q hz41) (fun _ => ?_)
        refine g_iload_n X dX7_may_18 rfl (j := 0) rfl ?_
        refine g_goto X dX7_may_19 (tgt := 33) (by decide) ?_
        exact g_iret X hrt dX7_may_33 (by decide) (by decide) ⟨C, D, F, I, K, trivial⟩
      · skip
        exact absurd rfl hz41n
    · skip
      subst en39
      refine g_callVI X (s_X7_refusalOfSeen_2 l G F I (1 : Int32) HR) lk_X7_288 (F.1 0 rfl).2 (F.1 0 rfl).1 rfl rfl dX7_may_10 (Nat.le_of_ble_eq_true rfl) ⟨by decide, by decide⟩ ⟨by decide, by decide⟩ (fun r43 L M hp => ?_)
      obtain ⟨C, D, F, I, K1, hr⟩ := hp
      have K := K.step K1 (by decide)
      rcases hr with hz44 | ⟨rfl, hA84, hz44n, gsn⟩
      · skip
        refine g_istore_n X dX7_may_13 rfl (by decide) (lv2 := [(3, .int r43), (0, .ref (a 0)), (1, .int 2), (2, .int (nI n39))]) rfl ?_
        refine g_iload_n X dX7_may_14 rfl (j := 0) rfl ?_
        refine g_if_eq X dX7_may_15 (tgt := 22) (by decide) (fun q => absurd q hz44) (fun _ => ?_)
        refine g_iload_n X dX7_may_18 rfl (j := 0) rfl ?_
        refine g_goto X dX7_may_19 (tgt := 33) (by decide) ?_
        exact g_iret X hrt dX7_may_33 (by decide) (by decide) ⟨C, D, F, I, K, trivial⟩
      · skip
        have act84 : (baseact 84 || act 84) = true := by rw [hA84]; rfl
        have act85 : (baseact 85 || act 85) = true := by rw [((HR.2.2.1 2 (by decide)).trans hA84)]; rfl
        rw [(K 84 (by decide)).1, (K 85 (by decide)).2] at gsn
        refine g_istore_n X dX7_may_13 rfl (by decide) (lv2 := [(3, .int 0), (0, .ref (a 0)), (1, .int 2), (2, .int (nI n39))]) rfl ?_
        refine g_iload_n X dX7_may_14 rfl (j := 0) rfl ?_
        refine g_if_eq X dX7_may_15 (tgt := 22) (by decide) (fun _ => ?_) (fun q => absurd (by decide) q)
        refine g_aload_n X dX7_may_22 rfl (j := 1) rfl ?_
        refine g_aload_n X dX7_may_23 rfl (j := 1) rfl ?_
        refine i_get X F 0 rfl rfl fk_X7_32 dX7_may_24 rfl ?_
        refine g_iload_n X dX7_may_27 rfl (j := 2) rfl ?_
        refine i_aald X F 24 rfl (t0 := 5) rfl rfl dX7_may_28 (vp_in_iff.mpr (by decide)) (v := .ref (a 84)) (by show va_rf (R 24 2) = _; rw [HR.1 2 (by decide)]; rw [if_pos hA84]; rfl) ?_
        refine g_iload_n X dX7_may_29 rfl (j := 3) rfl ?_
        refine g_callVI X (s_X7_possibleRoads_84 l G F I n39 (by omega) (by omega) act84 act85 (by rw [(K 84 (by decide)).1, (K 85 (by decide)).2]; exact gsn)) lk_X7_292 (F.1 0 rfl).2 (F.1 0 rfl).1 rfl rfl dX7_may_30 (Nat.le_of_ble_eq_true rfl) ⟨by decide, by decide⟩ ⟨by decide, by decide⟩ (fun r47 L M hp => ?_)
        obtain ⟨C, D, F, I, K1, hr⟩ := hp
        have K := K.step K1 (by decide)
        exact g_iret X hrt dX7_may_33 (by decide) (by decide) ⟨C, D, F, I, K, trivial⟩
  · skip
    refine g_aload_n X dX7_may_0 rfl (j := 0) rfl ?_
    refine g_iload_n X dX7_may_1 rfl (j := 1) rfl ?_
    refine g_aload_n X dX7_may_2 rfl (j := 0) rfl ?_
    refine i_get X F 0 rfl rfl fk_X7_19 dX7_may_3 rfl ?_
    refine g_iload_n X dX7_may_6 rfl (j := 2) rfl ?_
    refine g_callVI X (s_X2_hasPost l G F I p1 ) lk_X7_106 (F.1 3 rfl).2 (F.1 3 rfl).1 rfl rfl dX7_may_7 (Nat.le_of_ble_eq_true rfl) ⟨by decide, by decide⟩ ⟨by decide, by decide⟩ (fun r48 L M hp => ?_)
    obtain ⟨C, D, F, I, K1, hr⟩ := hp
    have K := K.step K1 (by decide)
    rcases hr with rfl | ⟨rfl, n49, hn49a, hn49b, en49⟩
    · skip
      refine g_callVI X (s_X7_refusalOfSeen_3 l G F I (0 : Int32) HR) lk_X7_288 (F.1 0 rfl).2 (F.1 0 rfl).1 rfl rfl dX7_may_10 (Nat.le_of_ble_eq_true rfl) ⟨by decide, by decide⟩ ⟨by decide, by decide⟩ (fun r50 L M hp => ?_)
      obtain ⟨C, D, F, I, K1, hr⟩ := hp
      have K := K.step K1 (by decide)
      rcases hr with hz51 | ⟨rfl, hA86, hz51n, gsn⟩
      · skip
        refine g_istore_n X dX7_may_13 rfl (by decide) (lv2 := [(3, .int r50), (0, .ref (a 0)), (1, .int 3), (2, .int p1)]) rfl ?_
        refine g_iload_n X dX7_may_14 rfl (j := 0) rfl ?_
        refine g_if_eq X dX7_may_15 (tgt := 22) (by decide) (fun q => absurd q hz51) (fun _ => ?_)
        refine g_iload_n X dX7_may_18 rfl (j := 0) rfl ?_
        refine g_goto X dX7_may_19 (tgt := 33) (by decide) ?_
        exact g_iret X hrt dX7_may_33 (by decide) (by decide) ⟨C, D, F, I, K, trivial⟩
      · skip
        exact absurd rfl hz51n
    · skip
      subst en49
      refine g_callVI X (s_X7_refusalOfSeen_3 l G F I (1 : Int32) HR) lk_X7_288 (F.1 0 rfl).2 (F.1 0 rfl).1 rfl rfl dX7_may_10 (Nat.le_of_ble_eq_true rfl) ⟨by decide, by decide⟩ ⟨by decide, by decide⟩ (fun r53 L M hp => ?_)
      obtain ⟨C, D, F, I, K1, hr⟩ := hp
      have K := K.step K1 (by decide)
      rcases hr with hz54 | ⟨rfl, hA86, hz54n, gsn⟩
      · skip
        refine g_istore_n X dX7_may_13 rfl (by decide) (lv2 := [(3, .int r53), (0, .ref (a 0)), (1, .int 3), (2, .int (nI n49))]) rfl ?_
        refine g_iload_n X dX7_may_14 rfl (j := 0) rfl ?_
        refine g_if_eq X dX7_may_15 (tgt := 22) (by decide) (fun q => absurd q hz54) (fun _ => ?_)
        refine g_iload_n X dX7_may_18 rfl (j := 0) rfl ?_
        refine g_goto X dX7_may_19 (tgt := 33) (by decide) ?_
        exact g_iret X hrt dX7_may_33 (by decide) (by decide) ⟨C, D, F, I, K, trivial⟩
      · skip
        have act86 : (baseact 86 || act 86) = true := by rw [hA86]; rfl
        have act87 : (baseact 87 || act 87) = true := by rw [((HR.2.2.1 3 (by decide)).trans hA86)]; rfl
        rw [(K 86 (by decide)).1, (K 87 (by decide)).2] at gsn
        refine g_istore_n X dX7_may_13 rfl (by decide) (lv2 := [(3, .int 0), (0, .ref (a 0)), (1, .int 3), (2, .int (nI n49))]) rfl ?_
        refine g_iload_n X dX7_may_14 rfl (j := 0) rfl ?_
        refine g_if_eq X dX7_may_15 (tgt := 22) (by decide) (fun _ => ?_) (fun q => absurd (by decide) q)
        refine g_aload_n X dX7_may_22 rfl (j := 1) rfl ?_
        refine g_aload_n X dX7_may_23 rfl (j := 1) rfl ?_
        refine i_get X F 0 rfl rfl fk_X7_32 dX7_may_24 rfl ?_
        refine g_iload_n X dX7_may_27 rfl (j := 2) rfl ?_
        refine i_aald X F 24 rfl (t0 := 5) rfl rfl dX7_may_28 (vp_in_iff.mpr (by decide)) (v := .ref (a 86)) (by show va_rf (R 24 3) = _; rw [HR.1 3 (by decide)]; rw [if_pos hA86]; rfl) ?_
        refine g_iload_n X dX7_may_29 rfl (j := 3) rfl ?_
        refine g_callVI X (s_X7_possibleRoads_86 l G F I n49 (by omega) (by omega) act86 act87 (by rw [(K 86 (by decide)).1, (K 87 (by decide)).2]; exact gsn)) lk_X7_292 (F.1 0 rfl).2 (F.1 0 rfl).1 rfl rfl dX7_may_30 (Nat.le_of_ble_eq_true rfl) ⟨by decide, by decide⟩ ⟨by decide, by decide⟩ (fun r57 L M hp => ?_)
        obtain ⟨C, D, F, I, K1, hr⟩ := hp
        have K := K.step K1 (by decide)
        exact g_iret X hrt dX7_may_33 (by decide) (by decide) ⟨C, D, F, I, K, trivial⟩
set_option maxHeartbeats 4000000 in
set_option maxRecDepth 100000 in
theorem s_X7_ask (l : Launch) (G : va_G) {cy : Nat → ClassId} {L : List Nat} {M : Nat → va_E} {a : Nat → Nat} {act : Nat → Bool} {C0 : Nat → Nat → Int32} {D0 : Nat → Nat → Int64} {R : Nat → Nat → Option Nat} (F : WI L M a act (ent cy a C0 D0 R)) (I : Inv C0) (p0 : Int32) (p1 : Int32) (HR : RA a act R) : MI l G cy yX7_ask cX7_ask 4 (some .int) 6 0 0 [.ref (a 0), .int p0, .int p1] L M (fun r L2 M2 => ∃ C2 D2, WI L2 M2 a act (ent cy a C2 D2 R) ∧ Inv C2 ∧ Kp [31, 32, 33, 34, 35, 36, 42] C0 D0 C2 D2 ∧ True) := by
  refine MI.of (own := RX7) rfl (by decide) (Nat.le_of_ble_eq_true rfl) ?_
  intro p e s m below meth c A X hrt hnm
  obtain ⟨C, D, hC0, hD0, F, I, K⟩ : ∃ C D, C = C0 ∧ D = D0 ∧ WI L M a act (ent cy a C D R) ∧ Inv C ∧ Kp [31, 32, 33, 34, 35, 36, 42] C0 D0 C D := ⟨C0, D0, rfl, rfl, F, I, Kp.rf⟩
  rcases sc4 p0 with hx1 | hx1 | rfl | rfl | rfl | rfl
  · skip
    have hno1 : p0 < 0 ∨ 4 ≤ p0 := Or.inl hx1
    refine g_aload_n X dX7_ask_0 rfl (j := 0) rfl ?_
    refine g_iload_n X dX7_ask_1 rfl (j := 1) rfl ?_
    refine g_aload_n X dX7_ask_2 rfl (j := 0) rfl ?_
    refine i_get X F 0 rfl rfl fk_X7_19 dX7_ask_3 rfl ?_
    refine g_iload_n X dX7_ask_6 rfl (j := 2) rfl ?_
    refine g_callVI X (s_X2_hasPost l G F I p1 ) lk_X7_106 (F.1 3 rfl).2 (F.1 3 rfl).1 rfl rfl dX7_ask_7 (Nat.le_of_ble_eq_true rfl) ⟨by decide, by decide⟩ ⟨by decide, by decide⟩ (fun r2 L M hp => ?_)
    obtain ⟨C, D, F, I, K1, hr⟩ := hp
    have K := K.step K1 (by decide)
    rcases hr with rfl | ⟨rfl, n3, hn3a, hn3b, en3⟩
    · skip
      refine g_callVI X (s_X7_refusalOfSeen_x l G F I p0 (0 : Int32) hno1) lk_X7_288 (F.1 0 rfl).2 (F.1 0 rfl).1 rfl rfl dX7_ask_10 (Nat.le_of_ble_eq_true rfl) ⟨by decide, by decide⟩ ⟨by decide, by decide⟩ (fun r4 L M hp => ?_)
      obtain ⟨C, D, F, I, K1, hr⟩ := hp
      have K := K.step K1 (by decide)
      have hz5 := hr
      refine g_istore_n X dX7_ask_13 rfl (by decide) (lv2 := [(3, .int r4), (0, .ref (a 0)), (1, .int p0), (2, .int p1)]) rfl ?_
      refine g_iload_n X dX7_ask_14 rfl (j := 0) rfl ?_
      refine g_if_eq X dX7_ask_15 (tgt := 20) (by decide) (fun q => absurd q hz5) (fun _ => ?_)
      refine g_iload_n X dX7_ask_18 rfl (j := 0) rfl ?_
      exact g_iret X hrt dX7_ask_19 (by decide) (by decide) ⟨C, D, F, I, K, trivial⟩
    · skip
      subst en3
      refine g_callVI X (s_X7_refusalOfSeen_x l G F I p0 (1 : Int32) hno1) lk_X7_288 (F.1 0 rfl).2 (F.1 0 rfl).1 rfl rfl dX7_ask_10 (Nat.le_of_ble_eq_true rfl) ⟨by decide, by decide⟩ ⟨by decide, by decide⟩ (fun r7 L M hp => ?_)
      obtain ⟨C, D, F, I, K1, hr⟩ := hp
      have K := K.step K1 (by decide)
      have hz8 := hr
      refine g_istore_n X dX7_ask_13 rfl (by decide) (lv2 := [(3, .int r7), (0, .ref (a 0)), (1, .int p0), (2, .int (nI n3))]) rfl ?_
      refine g_iload_n X dX7_ask_14 rfl (j := 0) rfl ?_
      refine g_if_eq X dX7_ask_15 (tgt := 20) (by decide) (fun q => absurd q hz8) (fun _ => ?_)
      refine g_iload_n X dX7_ask_18 rfl (j := 0) rfl ?_
      exact g_iret X hrt dX7_ask_19 (by decide) (by decide) ⟨C, D, F, I, K, trivial⟩
  · skip
    have hno1 : p0 < 0 ∨ 4 ≤ p0 := Or.inr hx1
    refine g_aload_n X dX7_ask_0 rfl (j := 0) rfl ?_
    refine g_iload_n X dX7_ask_1 rfl (j := 1) rfl ?_
    refine g_aload_n X dX7_ask_2 rfl (j := 0) rfl ?_
    refine i_get X F 0 rfl rfl fk_X7_19 dX7_ask_3 rfl ?_
    refine g_iload_n X dX7_ask_6 rfl (j := 2) rfl ?_
    refine g_callVI X (s_X2_hasPost l G F I p1 ) lk_X7_106 (F.1 3 rfl).2 (F.1 3 rfl).1 rfl rfl dX7_ask_7 (Nat.le_of_ble_eq_true rfl) ⟨by decide, by decide⟩ ⟨by decide, by decide⟩ (fun r10 L M hp => ?_)
    obtain ⟨C, D, F, I, K1, hr⟩ := hp
    have K := K.step K1 (by decide)
    rcases hr with rfl | ⟨rfl, n11, hn11a, hn11b, en11⟩
    · skip
      refine g_callVI X (s_X7_refusalOfSeen_x l G F I p0 (0 : Int32) hno1) lk_X7_288 (F.1 0 rfl).2 (F.1 0 rfl).1 rfl rfl dX7_ask_10 (Nat.le_of_ble_eq_true rfl) ⟨by decide, by decide⟩ ⟨by decide, by decide⟩ (fun r12 L M hp => ?_)
      obtain ⟨C, D, F, I, K1, hr⟩ := hp
      have K := K.step K1 (by decide)
      have hz13 := hr
      refine g_istore_n X dX7_ask_13 rfl (by decide) (lv2 := [(3, .int r12), (0, .ref (a 0)), (1, .int p0), (2, .int p1)]) rfl ?_
      refine g_iload_n X dX7_ask_14 rfl (j := 0) rfl ?_
      refine g_if_eq X dX7_ask_15 (tgt := 20) (by decide) (fun q => absurd q hz13) (fun _ => ?_)
      refine g_iload_n X dX7_ask_18 rfl (j := 0) rfl ?_
      exact g_iret X hrt dX7_ask_19 (by decide) (by decide) ⟨C, D, F, I, K, trivial⟩
    · skip
      subst en11
      refine g_callVI X (s_X7_refusalOfSeen_x l G F I p0 (1 : Int32) hno1) lk_X7_288 (F.1 0 rfl).2 (F.1 0 rfl).1 rfl rfl dX7_ask_10 (Nat.le_of_ble_eq_true rfl) ⟨by decide, by decide⟩ ⟨by decide, by decide⟩ (fun r15 L M hp => ?_)
      obtain ⟨C, D, F, I, K1, hr⟩ := hp
      have K := K.step K1 (by decide)
      have hz16 := hr
      refine g_istore_n X dX7_ask_13 rfl (by decide) (lv2 := [(3, .int r15), (0, .ref (a 0)), (1, .int p0), (2, .int (nI n11))]) rfl ?_
      refine g_iload_n X dX7_ask_14 rfl (j := 0) rfl ?_
      refine g_if_eq X dX7_ask_15 (tgt := 20) (by decide) (fun q => absurd q hz16) (fun _ => ?_)
      refine g_iload_n X dX7_ask_18 rfl (j := 0) rfl ?_
      exact g_iret X hrt dX7_ask_19 (by decide) (by decide) ⟨C, D, F, I, K, trivial⟩
  · skip
    refine g_aload_n X dX7_ask_0 rfl (j := 0) rfl ?_
    refine g_iload_n X dX7_ask_1 rfl (j := 1) rfl ?_
    refine g_aload_n X dX7_ask_2 rfl (j := 0) rfl ?_
    refine i_get X F 0 rfl rfl fk_X7_19 dX7_ask_3 rfl ?_
    refine g_iload_n X dX7_ask_6 rfl (j := 2) rfl ?_
    refine g_callVI X (s_X2_hasPost l G F I p1 ) lk_X7_106 (F.1 3 rfl).2 (F.1 3 rfl).1 rfl rfl dX7_ask_7 (Nat.le_of_ble_eq_true rfl) ⟨by decide, by decide⟩ ⟨by decide, by decide⟩ (fun r18 L M hp => ?_)
    obtain ⟨C, D, F, I, K1, hr⟩ := hp
    have K := K.step K1 (by decide)
    rcases hr with rfl | ⟨rfl, n19, hn19a, hn19b, en19⟩
    · skip
      refine g_callVI X (s_X7_refusalOfSeen_0 l G F I (0 : Int32) HR) lk_X7_288 (F.1 0 rfl).2 (F.1 0 rfl).1 rfl rfl dX7_ask_10 (Nat.le_of_ble_eq_true rfl) ⟨by decide, by decide⟩ ⟨by decide, by decide⟩ (fun r20 L M hp => ?_)
      obtain ⟨C, D, F, I, K1, hr⟩ := hp
      have K := K.step K1 (by decide)
      rcases hr with hz21 | ⟨rfl, hA80, hz21n, gsn⟩
      · skip
        refine g_istore_n X dX7_ask_13 rfl (by decide) (lv2 := [(3, .int r20), (0, .ref (a 0)), (1, .int 0), (2, .int p1)]) rfl ?_
        refine g_iload_n X dX7_ask_14 rfl (j := 0) rfl ?_
        refine g_if_eq X dX7_ask_15 (tgt := 20) (by decide) (fun q => absurd q hz21) (fun _ => ?_)
        refine g_iload_n X dX7_ask_18 rfl (j := 0) rfl ?_
        exact g_iret X hrt dX7_ask_19 (by decide) (by decide) ⟨C, D, F, I, K, trivial⟩
      · skip
        exact absurd rfl hz21n
    · skip
      subst en19
      refine g_callVI X (s_X7_refusalOfSeen_0 l G F I (1 : Int32) HR) lk_X7_288 (F.1 0 rfl).2 (F.1 0 rfl).1 rfl rfl dX7_ask_10 (Nat.le_of_ble_eq_true rfl) ⟨by decide, by decide⟩ ⟨by decide, by decide⟩ (fun r23 L M hp => ?_)
      obtain ⟨C, D, F, I, K1, hr⟩ := hp
      have K := K.step K1 (by decide)
      rcases hr with hz24 | ⟨rfl, hA80, hz24n, gsn⟩
      · skip
        refine g_istore_n X dX7_ask_13 rfl (by decide) (lv2 := [(3, .int r23), (0, .ref (a 0)), (1, .int 0), (2, .int (nI n19))]) rfl ?_
        refine g_iload_n X dX7_ask_14 rfl (j := 0) rfl ?_
        refine g_if_eq X dX7_ask_15 (tgt := 20) (by decide) (fun q => absurd q hz24) (fun _ => ?_)
        refine g_iload_n X dX7_ask_18 rfl (j := 0) rfl ?_
        exact g_iret X hrt dX7_ask_19 (by decide) (by decide) ⟨C, D, F, I, K, trivial⟩
      · skip
        have act80 : (baseact 80 || act 80) = true := by rw [hA80]; rfl
        have act81 : (baseact 81 || act 81) = true := by rw [((HR.2.2.1 0 (by decide)).trans hA80)]; rfl
        rw [(K 80 (by decide)).1, (K 81 (by decide)).2] at gsn
        refine g_istore_n X dX7_ask_13 rfl (by decide) (lv2 := [(3, .int 0), (0, .ref (a 0)), (1, .int 0), (2, .int (nI n19))]) rfl ?_
        refine g_iload_n X dX7_ask_14 rfl (j := 0) rfl ?_
        refine g_if_eq X dX7_ask_15 (tgt := 20) (by decide) (fun _ => ?_) (fun q => absurd (by decide) q)
        refine g_aload_n X dX7_ask_20 rfl (j := 1) rfl ?_
        refine g_aload_n X dX7_ask_21 rfl (j := 1) rfl ?_
        refine g_aload_n X dX7_ask_22 rfl (j := 1) rfl ?_
        refine i_get X F 0 rfl rfl fk_X7_32 dX7_ask_23 rfl ?_
        refine g_iload_n X dX7_ask_26 rfl (j := 2) rfl ?_
        refine i_aald X F 24 rfl (t0 := 5) rfl rfl dX7_ask_27 (vp_in_iff.mpr (by decide)) (v := .ref (a 80)) (by show va_rf (R 24 0) = _; rw [HR.1 0 (by decide)]; rw [if_pos hA80]; rfl) ?_
        refine g_iload_n X dX7_ask_28 rfl (j := 3) rfl ?_
        refine g_callVI X (s_X7_possibleRoads_80 l G F I n19 (by omega) (by omega) act80 act81 (by rw [(K 80 (by decide)).1, (K 81 (by decide)).2]; exact gsn)) lk_X7_292 (F.1 0 rfl).2 (F.1 0 rfl).1 rfl rfl dX7_ask_29 (Nat.le_of_ble_eq_true rfl) ⟨by decide, by decide⟩ ⟨by decide, by decide⟩ (fun r27 L M hp => ?_)
        obtain ⟨C, D, F, I, K1, hr⟩ := hp
        have K := K.step K1 (by decide)
        refine g_callVI X (s_X7_bestQuestion l G F I r27 ) lk_X7_296 (F.1 0 rfl).2 (F.1 0 rfl).1 rfl rfl dX7_ask_32 (Nat.le_of_ble_eq_true rfl) ⟨by decide, by decide⟩ ⟨by decide, by decide⟩ (fun r28 L M hp => ?_)
        obtain ⟨C, D, F, I, K1, hr⟩ := hp
        have K := K.step K1 (by decide)
        rcases hr with rfl | ⟨n29, rfl, hn29a, hn29b, hn29c⟩
        · skip
          exact g_iret X hrt dX7_ask_35 (by decide) (by decide) ⟨C, D, F, I, K, trivial⟩
        · skip
          exact g_iret X hrt dX7_ask_35 (by decide) (by decide) ⟨C, D, F, I, K, trivial⟩
  · skip
    refine g_aload_n X dX7_ask_0 rfl (j := 0) rfl ?_
    refine g_iload_n X dX7_ask_1 rfl (j := 1) rfl ?_
    refine g_aload_n X dX7_ask_2 rfl (j := 0) rfl ?_
    refine i_get X F 0 rfl rfl fk_X7_19 dX7_ask_3 rfl ?_
    refine g_iload_n X dX7_ask_6 rfl (j := 2) rfl ?_
    refine g_callVI X (s_X2_hasPost l G F I p1 ) lk_X7_106 (F.1 3 rfl).2 (F.1 3 rfl).1 rfl rfl dX7_ask_7 (Nat.le_of_ble_eq_true rfl) ⟨by decide, by decide⟩ ⟨by decide, by decide⟩ (fun r30 L M hp => ?_)
    obtain ⟨C, D, F, I, K1, hr⟩ := hp
    have K := K.step K1 (by decide)
    rcases hr with rfl | ⟨rfl, n31, hn31a, hn31b, en31⟩
    · skip
      refine g_callVI X (s_X7_refusalOfSeen_1 l G F I (0 : Int32) HR) lk_X7_288 (F.1 0 rfl).2 (F.1 0 rfl).1 rfl rfl dX7_ask_10 (Nat.le_of_ble_eq_true rfl) ⟨by decide, by decide⟩ ⟨by decide, by decide⟩ (fun r32 L M hp => ?_)
      obtain ⟨C, D, F, I, K1, hr⟩ := hp
      have K := K.step K1 (by decide)
      rcases hr with hz33 | ⟨rfl, hA82, hz33n, gsn⟩
      · skip
        refine g_istore_n X dX7_ask_13 rfl (by decide) (lv2 := [(3, .int r32), (0, .ref (a 0)), (1, .int 1), (2, .int p1)]) rfl ?_
        refine g_iload_n X dX7_ask_14 rfl (j := 0) rfl ?_
        refine g_if_eq X dX7_ask_15 (tgt := 20) (by decide) (fun q => absurd q hz33) (fun _ => ?_)
        refine g_iload_n X dX7_ask_18 rfl (j := 0) rfl ?_
        exact g_iret X hrt dX7_ask_19 (by decide) (by decide) ⟨C, D, F, I, K, trivial⟩
      · skip
        exact absurd rfl hz33n
    · skip
      subst en31
      refine g_callVI X (s_X7_refusalOfSeen_1 l G F I (1 : Int32) HR) lk_X7_288 (F.1 0 rfl).2 (F.1 0 rfl).1 rfl rfl dX7_ask_10 (Nat.le_of_ble_eq_true rfl) ⟨by decide, by decide⟩ ⟨by decide, by decide⟩ (fun r35 L M hp => ?_)
      obtain ⟨C, D, F, I, K1, hr⟩ := hp
      have K := K.step K1 (by decide)
      rcases hr with hz36 | ⟨rfl, hA82, hz36n, gsn⟩
      · skip
        refine g_istore_n X dX7_ask_13 rfl (by decide) (lv2 := [(3, .int r35), (0, .ref (a 0)), (1, .int 1), (2, .int (nI n31))]) rfl ?_
        refine g_iload_n X dX7_ask_14 rfl (j := 0) rfl ?_
        refine g_if_eq X dX7_ask_15 (tgt := 20) (by decide) (fun q => absurd q hz36) (fun _ => ?_)
        refine g_iload_n X dX7_ask_18 rfl (j := 0) rfl ?_
        exact g_iret X hrt dX7_ask_19 (by decide) (by decide) ⟨C, D, F, I, K, trivial⟩
      · skip
        have act82 : (baseact 82 || act 82) = true := by rw [hA82]; rfl
        have act83 : (baseact 83 || act 83) = true := by rw [((HR.2.2.1 1 (by decide)).trans hA82)]; rfl
        rw [(K 82 (by decide)).1, (K 83 (by decide)).2] at gsn
        refine g_istore_n X dX7_ask_13 rfl (by decide) (lv2 := [(3, .int 0), (0, .ref (a 0)), (1, .int 1), (2, .int (nI n31))]) rfl ?_
        refine g_iload_n X dX7_ask_14 rfl (j := 0) rfl ?_
        refine g_if_eq X dX7_ask_15 (tgt := 20) (by decide) (fun _ => ?_) (fun q => absurd (by decide) q)
        refine g_aload_n X dX7_ask_20 rfl (j := 1) rfl ?_
        refine g_aload_n X dX7_ask_21 rfl (j := 1) rfl ?_
        refine g_aload_n X dX7_ask_22 rfl (j := 1) rfl ?_
        refine i_get X F 0 rfl rfl fk_X7_32 dX7_ask_23 rfl ?_
        refine g_iload_n X dX7_ask_26 rfl (j := 2) rfl ?_
        refine i_aald X F 24 rfl (t0 := 5) rfl rfl dX7_ask_27 (vp_in_iff.mpr (by decide)) (v := .ref (a 82)) (by show va_rf (R 24 1) = _; rw [HR.1 1 (by decide)]; rw [if_pos hA82]; rfl) ?_
        refine g_iload_n X dX7_ask_28 rfl (j := 3) rfl ?_
        refine g_callVI X (s_X7_possibleRoads_82 l G F I n31 (by omega) (by omega) act82 act83 (by rw [(K 82 (by decide)).1, (K 83 (by decide)).2]; exact gsn)) lk_X7_292 (F.1 0 rfl).2 (F.1 0 rfl).1 rfl rfl dX7_ask_29 (Nat.le_of_ble_eq_true rfl) ⟨by decide, by decide⟩ ⟨by decide, by decide⟩ (fun r39 L M hp => ?_)
        obtain ⟨C, D, F, I, K1, hr⟩ := hp
        have K := K.step K1 (by decide)
        refine g_callVI X (s_X7_bestQuestion l G F I r39 ) lk_X7_296 (F.1 0 rfl).2 (F.1 0 rfl).1 rfl rfl dX7_ask_32 (Nat.le_of_ble_eq_true rfl) ⟨by decide, by decide⟩ ⟨by decide, by decide⟩ (fun r40 L M hp => ?_)
        obtain ⟨C, D, F, I, K1, hr⟩ := hp
        have K := K.step K1 (by decide)
        rcases hr with rfl | ⟨n41, rfl, hn41a, hn41b, hn41c⟩
        · skip
          exact g_iret X hrt dX7_ask_35 (by decide) (by decide) ⟨C, D, F, I, K, trivial⟩
        · skip
          exact g_iret X hrt dX7_ask_35 (by decide) (by decide) ⟨C, D, F, I, K, trivial⟩
  · skip
    refine g_aload_n X dX7_ask_0 rfl (j := 0) rfl ?_
    refine g_iload_n X dX7_ask_1 rfl (j := 1) rfl ?_
    refine g_aload_n X dX7_ask_2 rfl (j := 0) rfl ?_
    refine i_get X F 0 rfl rfl fk_X7_19 dX7_ask_3 rfl ?_
    refine g_iload_n X dX7_ask_6 rfl (j := 2) rfl ?_
    refine g_callVI X (s_X2_hasPost l G F I p1 ) lk_X7_106 (F.1 3 rfl).2 (F.1 3 rfl).1 rfl rfl dX7_ask_7 (Nat.le_of_ble_eq_true rfl) ⟨by decide, by decide⟩ ⟨by decide, by decide⟩ (fun r42 L M hp => ?_)
    obtain ⟨C, D, F, I, K1, hr⟩ := hp
    have K := K.step K1 (by decide)
    rcases hr with rfl | ⟨rfl, n43, hn43a, hn43b, en43⟩
    · skip
      refine g_callVI X (s_X7_refusalOfSeen_2 l G F I (0 : Int32) HR) lk_X7_288 (F.1 0 rfl).2 (F.1 0 rfl).1 rfl rfl dX7_ask_10 (Nat.le_of_ble_eq_true rfl) ⟨by decide, by decide⟩ ⟨by decide, by decide⟩ (fun r44 L M hp => ?_)
      obtain ⟨C, D, F, I, K1, hr⟩ := hp
      have K := K.step K1 (by decide)
      rcases hr with hz45 | ⟨rfl, hA84, hz45n, gsn⟩
      · skip
        refine g_istore_n X dX7_ask_13 rfl (by decide) (lv2 := [(3, .int r44), (0, .ref (a 0)), (1, .int 2), (2, .int p1)]) rfl ?_
        refine g_iload_n X dX7_ask_14 rfl (j := 0) rfl ?_
        refine g_if_eq X dX7_ask_15 (tgt := 20) (by decide) (fun q => absurd q hz45) (fun _ => ?_)
        refine g_iload_n X dX7_ask_18 rfl (j := 0) rfl ?_
        exact g_iret X hrt dX7_ask_19 (by decide) (by decide) ⟨C, D, F, I, K, trivial⟩
      · skip
        exact absurd rfl hz45n
    · skip
      subst en43
      refine g_callVI X (s_X7_refusalOfSeen_2 l G F I (1 : Int32) HR) lk_X7_288 (F.1 0 rfl).2 (F.1 0 rfl).1 rfl rfl dX7_ask_10 (Nat.le_of_ble_eq_true rfl) ⟨by decide, by decide⟩ ⟨by decide, by decide⟩ (fun r47 L M hp => ?_)
      obtain ⟨C, D, F, I, K1, hr⟩ := hp
      have K := K.step K1 (by decide)
      rcases hr with hz48 | ⟨rfl, hA84, hz48n, gsn⟩
      · skip
        refine g_istore_n X dX7_ask_13 rfl (by decide) (lv2 := [(3, .int r47), (0, .ref (a 0)), (1, .int 2), (2, .int (nI n43))]) rfl ?_
        refine g_iload_n X dX7_ask_14 rfl (j := 0) rfl ?_
        refine g_if_eq X dX7_ask_15 (tgt := 20) (by decide) (fun q => absurd q hz48) (fun _ => ?_)
        refine g_iload_n X dX7_ask_18 rfl (j := 0) rfl ?_
        exact g_iret X hrt dX7_ask_19 (by decide) (by decide) ⟨C, D, F, I, K, trivial⟩
      · skip
        have act84 : (baseact 84 || act 84) = true := by rw [hA84]; rfl
        have act85 : (baseact 85 || act 85) = true := by rw [((HR.2.2.1 2 (by decide)).trans hA84)]; rfl
        rw [(K 84 (by decide)).1, (K 85 (by decide)).2] at gsn
        refine g_istore_n X dX7_ask_13 rfl (by decide) (lv2 := [(3, .int 0), (0, .ref (a 0)), (1, .int 2), (2, .int (nI n43))]) rfl ?_
        refine g_iload_n X dX7_ask_14 rfl (j := 0) rfl ?_
        refine g_if_eq X dX7_ask_15 (tgt := 20) (by decide) (fun _ => ?_) (fun q => absurd (by decide) q)
        refine g_aload_n X dX7_ask_20 rfl (j := 1) rfl ?_
        refine g_aload_n X dX7_ask_21 rfl (j := 1) rfl ?_
        refine g_aload_n X dX7_ask_22 rfl (j := 1) rfl ?_
        refine i_get X F 0 rfl rfl fk_X7_32 dX7_ask_23 rfl ?_
        refine g_iload_n X dX7_ask_26 rfl (j := 2) rfl ?_
        refine i_aald X F 24 rfl (t0 := 5) rfl rfl dX7_ask_27 (vp_in_iff.mpr (by decide)) (v := .ref (a 84)) (by show va_rf (R 24 2) = _; rw [HR.1 2 (by decide)]; rw [if_pos hA84]; rfl) ?_
        refine g_iload_n X dX7_ask_28 rfl (j := 3) rfl ?_
        refine g_callVI X (s_X7_possibleRoads_84 l G F I n43 (by omega) (by omega) act84 act85 (by rw [(K 84 (by decide)).1, (K 85 (by decide)).2]; exact gsn)) lk_X7_292 (F.1 0 rfl).2 (F.1 0 rfl).1 rfl rfl dX7_ask_29 (Nat.le_of_ble_eq_true rfl) ⟨by decide, by decide⟩ ⟨by decide, by decide⟩ (fun r51 L M hp => ?_)
        obtain ⟨C, D, F, I, K1, hr⟩ := hp
        have K := K.step K1 (by decide)
        refine g_callVI X (s_X7_bestQuestion l G F I r51 ) lk_X7_296 (F.1 0 rfl).2 (F.1 0 rfl).1 rfl rfl dX7_ask_32 (Nat.le_of_ble_eq_true rfl) ⟨by decide, by decide⟩ ⟨by decide, by decide⟩ (fun r52 L M hp => ?_)
        obtain ⟨C, D, F, I, K1, hr⟩ := hp
        have K := K.step K1 (by decide)
        rcases hr with rfl | ⟨n53, rfl, hn53a, hn53b, hn53c⟩
        · skip
          exact g_iret X hrt dX7_ask_35 (by decide) (by decide) ⟨C, D, F, I, K, trivial⟩
        · skip
          exact g_iret X hrt dX7_ask_35 (by decide) (by decide) ⟨C, D, F, I, K, trivial⟩
  · skip
    refine g_aload_n X dX7_ask_0 rfl (j := 0) rfl ?_
    refine g_iload_n X dX7_ask_1 rfl (j := 1) rfl ?_
    refine g_aload_n X dX7_ask_2 rfl (j := 0) rfl ?_
    refine i_get X F 0 rfl rfl fk_X7_19 dX7_ask_3 rfl ?_
    refine g_iload_n X dX7_ask_6 rfl (j := 2) rfl ?_
    refine g_callVI X (s_X2_hasPost l G F I p1 ) lk_X7_106 (F.1 3 rfl).2 (F.1 3 rfl).1 rfl rfl dX7_ask_7 (Nat.le_of_ble_eq_true rfl) ⟨by decide, by decide⟩ ⟨by decide, by decide⟩ (fun r54 L M hp => ?_)
    obtain ⟨C, D, F, I, K1, hr⟩ := hp
    have K := K.step K1 (by decide)
    rcases hr with rfl | ⟨rfl, n55, hn55a, hn55b, en55⟩
    · skip
      refine g_callVI X (s_X7_refusalOfSeen_3 l G F I (0 : Int32) HR) lk_X7_288 (F.1 0 rfl).2 (F.1 0 rfl).1 rfl rfl dX7_ask_10 (Nat.le_of_ble_eq_true rfl) ⟨by decide, by decide⟩ ⟨by decide, by decide⟩ (fun r56 L M hp => ?_)
      obtain ⟨C, D, F, I, K1, hr⟩ := hp
      have K := K.step K1 (by decide)
      rcases hr with hz57 | ⟨rfl, hA86, hz57n, gsn⟩
      · skip
        refine g_istore_n X dX7_ask_13 rfl (by decide) (lv2 := [(3, .int r56), (0, .ref (a 0)), (1, .int 3), (2, .int p1)]) rfl ?_
        refine g_iload_n X dX7_ask_14 rfl (j := 0) rfl ?_
        refine g_if_eq X dX7_ask_15 (tgt := 20) (by decide) (fun q => absurd q hz57) (fun _ => ?_)
        refine g_iload_n X dX7_ask_18 rfl (j := 0) rfl ?_
        exact g_iret X hrt dX7_ask_19 (by decide) (by decide) ⟨C, D, F, I, K, trivial⟩
      · skip
        exact absurd rfl hz57n
    · skip
      subst en55
      refine g_callVI X (s_X7_refusalOfSeen_3 l G F I (1 : Int32) HR) lk_X7_288 (F.1 0 rfl).2 (F.1 0 rfl).1 rfl rfl dX7_ask_10 (Nat.le_of_ble_eq_true rfl) ⟨by decide, by decide⟩ ⟨by decide, by decide⟩ (fun r59 L M hp => ?_)
      obtain ⟨C, D, F, I, K1, hr⟩ := hp
      have K := K.step K1 (by decide)
      rcases hr with hz60 | ⟨rfl, hA86, hz60n, gsn⟩
      · skip
        refine g_istore_n X dX7_ask_13 rfl (by decide) (lv2 := [(3, .int r59), (0, .ref (a 0)), (1, .int 3), (2, .int (nI n55))]) rfl ?_
        refine g_iload_n X dX7_ask_14 rfl (j := 0) rfl ?_
        refine g_if_eq X dX7_ask_15 (tgt := 20) (by decide) (fun q => absurd q hz60) (fun _ => ?_)
        refine g_iload_n X dX7_ask_18 rfl (j := 0) rfl ?_
        exact g_iret X hrt dX7_ask_19 (by decide) (by decide) ⟨C, D, F, I, K, trivial⟩
      · skip
        have act86 : (baseact 86 || act 86) = true := by rw [hA86]; rfl
        have act87 : (baseact 87 || act 87) = true := by rw [((HR.2.2.1 3 (by decide)).trans hA86)]; rfl
        rw [(K 86 (by decide)).1, (K 87 (by decide)).2] at gsn
        refine g_istore_n X dX7_ask_13 rfl (by decide) (lv2 := [(3, .int 0), (0, .ref (a 0)), (1, .int 3), (2, .int (nI n55))]) rfl ?_
        refine g_iload_n X dX7_ask_14 rfl (j := 0) rfl ?_
        refine g_if_eq X dX7_ask_15 (tgt := 20) (by decide) (fun _ => ?_) (fun q => absurd (by decide) q)
        refine g_aload_n X dX7_ask_20 rfl (j := 1) rfl ?_
        refine g_aload_n X dX7_ask_21 rfl (j := 1) rfl ?_
        refine g_aload_n X dX7_ask_22 rfl (j := 1) rfl ?_
        refine i_get X F 0 rfl rfl fk_X7_32 dX7_ask_23 rfl ?_
        refine g_iload_n X dX7_ask_26 rfl (j := 2) rfl ?_
        refine i_aald X F 24 rfl (t0 := 5) rfl rfl dX7_ask_27 (vp_in_iff.mpr (by decide)) (v := .ref (a 86)) (by show va_rf (R 24 3) = _; rw [HR.1 3 (by decide)]; rw [if_pos hA86]; rfl) ?_
        refine g_iload_n X dX7_ask_28 rfl (j := 3) rfl ?_
        refine g_callVI X (s_X7_possibleRoads_86 l G F I n55 (by omega) (by omega) act86 act87 (by rw [(K 86 (by decide)).1, (K 87 (by decide)).2]; exact gsn)) lk_X7_292 (F.1 0 rfl).2 (F.1 0 rfl).1 rfl rfl dX7_ask_29 (Nat.le_of_ble_eq_true rfl) ⟨by decide, by decide⟩ ⟨by decide, by decide⟩ (fun r63 L M hp => ?_)
        obtain ⟨C, D, F, I, K1, hr⟩ := hp
        have K := K.step K1 (by decide)
        refine g_callVI X (s_X7_bestQuestion l G F I r63 ) lk_X7_296 (F.1 0 rfl).2 (F.1 0 rfl).1 rfl rfl dX7_ask_32 (Nat.le_of_ble_eq_true rfl) ⟨by decide, by decide⟩ ⟨by decide, by decide⟩ (fun r64 L M hp => ?_)
        obtain ⟨C, D, F, I, K1, hr⟩ := hp
        have K := K.step K1 (by decide)
        rcases hr with rfl | ⟨n65, rfl, hn65a, hn65b, hn65c⟩
        · skip
          exact g_iret X hrt dX7_ask_35 (by decide) (by decide) ⟨C, D, F, I, K, trivial⟩
        · skip
          exact g_iret X hrt dX7_ask_35 (by decide) (by decide) ⟨C, D, F, I, K, trivial⟩
set_option maxHeartbeats 4000000 in
set_option maxRecDepth 100000 in
theorem s_X7_leaves (l : Launch) (G : va_G) {cy : Nat → ClassId} {L : List Nat} {M : Nat → va_E} {a : Nat → Nat} {act : Nat → Bool} {C0 : Nat → Nat → Int32} {D0 : Nat → Nat → Int64} {R : Nat → Nat → Option Nat} (F : WI L M a act (ent cy a C0 D0 R)) (I : Inv C0) (p0 : Int32) (p1 : Int32) (HR : RA a act R) : MI l G cy yX7_leaves cX7_leaves 6 (some .int) 6 0 0 [.ref (a 0), .int p0, .int p1] L M (fun r L2 M2 => ∃ C2 D2, WI L2 M2 a act (ent cy a C2 D2 R) ∧ Inv C2 ∧ Kp [31, 32, 33, 34, 35, 36, 42] C0 D0 C2 D2 ∧ True) := by
  refine MI.of (own := RX7) rfl (by decide) (Nat.le_of_ble_eq_true rfl) ?_
  intro p e s m below meth c A X hrt hnm
  obtain ⟨C, D, hC0, hD0, F, I, K⟩ : ∃ C D, C = C0 ∧ D = D0 ∧ WI L M a act (ent cy a C D R) ∧ Inv C ∧ Kp [31, 32, 33, 34, 35, 36, 42] C0 D0 C D := ⟨C0, D0, rfl, rfl, F, I, Kp.rf⟩
  rcases sc4 p0 with hx1 | hx1 | rfl | rfl | rfl | rfl
  · skip
    have hno1 : p0 < 0 ∨ 4 ≤ p0 := Or.inl hx1
    refine g_aload_n X dX7_leaves_0 rfl (j := 0) rfl ?_
    refine g_iload_n X dX7_leaves_1 rfl (j := 1) rfl ?_
    refine g_aload_n X dX7_leaves_2 rfl (j := 0) rfl ?_
    refine i_get X F 0 rfl rfl fk_X7_19 dX7_leaves_3 rfl ?_
    refine g_iload_n X dX7_leaves_6 rfl (j := 2) rfl ?_
    refine g_callVI X (s_X2_hasPost l G F I p1 ) lk_X7_106 (F.1 3 rfl).2 (F.1 3 rfl).1 rfl rfl dX7_leaves_7 (Nat.le_of_ble_eq_true rfl) ⟨by decide, by decide⟩ ⟨by decide, by decide⟩ (fun r2 L M hp => ?_)
    obtain ⟨C, D, F, I, K1, hr⟩ := hp
    have K := K.step K1 (by decide)
    rcases hr with rfl | ⟨rfl, n3, hn3a, hn3b, en3⟩
    · skip
      refine g_callVI X (s_X7_refusalOfSeen_x l G F I p0 (0 : Int32) hno1) lk_X7_288 (F.1 0 rfl).2 (F.1 0 rfl).1 rfl rfl dX7_leaves_10 (Nat.le_of_ble_eq_true rfl) ⟨by decide, by decide⟩ ⟨by decide, by decide⟩ (fun r4 L M hp => ?_)
      obtain ⟨C, D, F, I, K1, hr⟩ := hp
      have K := K.step K1 (by decide)
      have hz5 := hr
      refine g_istore_n X dX7_leaves_13 rfl (by decide) (lv2 := [(3, .int r4), (0, .ref (a 0)), (1, .int p0), (2, .int p1)]) rfl ?_
      refine g_iload_n X dX7_leaves_14 rfl (j := 0) rfl ?_
      refine g_if_eq X dX7_leaves_15 (tgt := 20) (by decide) (fun q => absurd q hz5) (fun _ => ?_)
      refine g_iload_n X dX7_leaves_18 rfl (j := 0) rfl ?_
      exact g_iret X hrt dX7_leaves_19 (by decide) (by decide) ⟨C, D, F, I, K, trivial⟩
    · skip
      subst en3
      refine g_callVI X (s_X7_refusalOfSeen_x l G F I p0 (1 : Int32) hno1) lk_X7_288 (F.1 0 rfl).2 (F.1 0 rfl).1 rfl rfl dX7_leaves_10 (Nat.le_of_ble_eq_true rfl) ⟨by decide, by decide⟩ ⟨by decide, by decide⟩ (fun r7 L M hp => ?_)
      obtain ⟨C, D, F, I, K1, hr⟩ := hp
      have K := K.step K1 (by decide)
      have hz8 := hr
      refine g_istore_n X dX7_leaves_13 rfl (by decide) (lv2 := [(3, .int r7), (0, .ref (a 0)), (1, .int p0), (2, .int (nI n3))]) rfl ?_
      refine g_iload_n X dX7_leaves_14 rfl (j := 0) rfl ?_
      refine g_if_eq X dX7_leaves_15 (tgt := 20) (by decide) (fun q => absurd q hz8) (fun _ => ?_)
      refine g_iload_n X dX7_leaves_18 rfl (j := 0) rfl ?_
      exact g_iret X hrt dX7_leaves_19 (by decide) (by decide) ⟨C, D, F, I, K, trivial⟩
  · skip
    have hno1 : p0 < 0 ∨ 4 ≤ p0 := Or.inr hx1
    refine g_aload_n X dX7_leaves_0 rfl (j := 0) rfl ?_
    refine g_iload_n X dX7_leaves_1 rfl (j := 1) rfl ?_
    refine g_aload_n X dX7_leaves_2 rfl (j := 0) rfl ?_
    refine i_get X F 0 rfl rfl fk_X7_19 dX7_leaves_3 rfl ?_
    refine g_iload_n X dX7_leaves_6 rfl (j := 2) rfl ?_
    refine g_callVI X (s_X2_hasPost l G F I p1 ) lk_X7_106 (F.1 3 rfl).2 (F.1 3 rfl).1 rfl rfl dX7_leaves_7 (Nat.le_of_ble_eq_true rfl) ⟨by decide, by decide⟩ ⟨by decide, by decide⟩ (fun r10 L M hp => ?_)
    obtain ⟨C, D, F, I, K1, hr⟩ := hp
    have K := K.step K1 (by decide)
    rcases hr with rfl | ⟨rfl, n11, hn11a, hn11b, en11⟩
    · skip
      refine g_callVI X (s_X7_refusalOfSeen_x l G F I p0 (0 : Int32) hno1) lk_X7_288 (F.1 0 rfl).2 (F.1 0 rfl).1 rfl rfl dX7_leaves_10 (Nat.le_of_ble_eq_true rfl) ⟨by decide, by decide⟩ ⟨by decide, by decide⟩ (fun r12 L M hp => ?_)
      obtain ⟨C, D, F, I, K1, hr⟩ := hp
      have K := K.step K1 (by decide)
      have hz13 := hr
      refine g_istore_n X dX7_leaves_13 rfl (by decide) (lv2 := [(3, .int r12), (0, .ref (a 0)), (1, .int p0), (2, .int p1)]) rfl ?_
      refine g_iload_n X dX7_leaves_14 rfl (j := 0) rfl ?_
      refine g_if_eq X dX7_leaves_15 (tgt := 20) (by decide) (fun q => absurd q hz13) (fun _ => ?_)
      refine g_iload_n X dX7_leaves_18 rfl (j := 0) rfl ?_
      exact g_iret X hrt dX7_leaves_19 (by decide) (by decide) ⟨C, D, F, I, K, trivial⟩
    · skip
      subst en11
      refine g_callVI X (s_X7_refusalOfSeen_x l G F I p0 (1 : Int32) hno1) lk_X7_288 (F.1 0 rfl).2 (F.1 0 rfl).1 rfl rfl dX7_leaves_10 (Nat.le_of_ble_eq_true rfl) ⟨by decide, by decide⟩ ⟨by decide, by decide⟩ (fun r15 L M hp => ?_)
      obtain ⟨C, D, F, I, K1, hr⟩ := hp
      have K := K.step K1 (by decide)
      have hz16 := hr
      refine g_istore_n X dX7_leaves_13 rfl (by decide) (lv2 := [(3, .int r15), (0, .ref (a 0)), (1, .int p0), (2, .int (nI n11))]) rfl ?_
      refine g_iload_n X dX7_leaves_14 rfl (j := 0) rfl ?_
      refine g_if_eq X dX7_leaves_15 (tgt := 20) (by decide) (fun q => absurd q hz16) (fun _ => ?_)
      refine g_iload_n X dX7_leaves_18 rfl (j := 0) rfl ?_
      exact g_iret X hrt dX7_leaves_19 (by decide) (by decide) ⟨C, D, F, I, K, trivial⟩
  · skip
    refine g_aload_n X dX7_leaves_0 rfl (j := 0) rfl ?_
    refine g_iload_n X dX7_leaves_1 rfl (j := 1) rfl ?_
    refine g_aload_n X dX7_leaves_2 rfl (j := 0) rfl ?_
    refine i_get X F 0 rfl rfl fk_X7_19 dX7_leaves_3 rfl ?_
    refine g_iload_n X dX7_leaves_6 rfl (j := 2) rfl ?_
    refine g_callVI X (s_X2_hasPost l G F I p1 ) lk_X7_106 (F.1 3 rfl).2 (F.1 3 rfl).1 rfl rfl dX7_leaves_7 (Nat.le_of_ble_eq_true rfl) ⟨by decide, by decide⟩ ⟨by decide, by decide⟩ (fun r18 L M hp => ?_)
    obtain ⟨C, D, F, I, K1, hr⟩ := hp
    have K := K.step K1 (by decide)
    rcases hr with rfl | ⟨rfl, n19, hn19a, hn19b, en19⟩
    · skip
      refine g_callVI X (s_X7_refusalOfSeen_0 l G F I (0 : Int32) HR) lk_X7_288 (F.1 0 rfl).2 (F.1 0 rfl).1 rfl rfl dX7_leaves_10 (Nat.le_of_ble_eq_true rfl) ⟨by decide, by decide⟩ ⟨by decide, by decide⟩ (fun r20 L M hp => ?_)
      obtain ⟨C, D, F, I, K1, hr⟩ := hp
      have K := K.step K1 (by decide)
      rcases hr with hz21 | ⟨rfl, hA80, hz21n, gsn⟩
      · skip
        refine g_istore_n X dX7_leaves_13 rfl (by decide) (lv2 := [(3, .int r20), (0, .ref (a 0)), (1, .int 0), (2, .int p1)]) rfl ?_
        refine g_iload_n X dX7_leaves_14 rfl (j := 0) rfl ?_
        refine g_if_eq X dX7_leaves_15 (tgt := 20) (by decide) (fun q => absurd q hz21) (fun _ => ?_)
        refine g_iload_n X dX7_leaves_18 rfl (j := 0) rfl ?_
        exact g_iret X hrt dX7_leaves_19 (by decide) (by decide) ⟨C, D, F, I, K, trivial⟩
      · skip
        exact absurd rfl hz21n
    · skip
      subst en19
      refine g_callVI X (s_X7_refusalOfSeen_0 l G F I (1 : Int32) HR) lk_X7_288 (F.1 0 rfl).2 (F.1 0 rfl).1 rfl rfl dX7_leaves_10 (Nat.le_of_ble_eq_true rfl) ⟨by decide, by decide⟩ ⟨by decide, by decide⟩ (fun r23 L M hp => ?_)
      obtain ⟨C, D, F, I, K1, hr⟩ := hp
      have K := K.step K1 (by decide)
      rcases hr with hz24 | ⟨rfl, hA80, hz24n, gsn⟩
      · skip
        refine g_istore_n X dX7_leaves_13 rfl (by decide) (lv2 := [(3, .int r23), (0, .ref (a 0)), (1, .int 0), (2, .int (nI n19))]) rfl ?_
        refine g_iload_n X dX7_leaves_14 rfl (j := 0) rfl ?_
        refine g_if_eq X dX7_leaves_15 (tgt := 20) (by decide) (fun q => absurd q hz24) (fun _ => ?_)
        refine g_iload_n X dX7_leaves_18 rfl (j := 0) rfl ?_
        exact g_iret X hrt dX7_leaves_19 (by decide) (by decide) ⟨C, D, F, I, K, trivial⟩
      · skip
        have act80 : (baseact 80 || act 80) = true := by rw [hA80]; rfl
        have act81 : (baseact 81 || act 81) = true := by rw [((HR.2.2.1 0 (by decide)).trans hA80)]; rfl
        rw [(K 80 (by decide)).1, (K 81 (by decide)).2] at gsn
        refine g_istore_n X dX7_leaves_13 rfl (by decide) (lv2 := [(3, .int 0), (0, .ref (a 0)), (1, .int 0), (2, .int (nI n19))]) rfl ?_
        refine g_iload_n X dX7_leaves_14 rfl (j := 0) rfl ?_
        refine g_if_eq X dX7_leaves_15 (tgt := 20) (by decide) (fun _ => ?_) (fun q => absurd (by decide) q)
        refine g_aload_n X dX7_leaves_20 rfl (j := 1) rfl ?_
        refine g_aload_n X dX7_leaves_21 rfl (j := 1) rfl ?_
        refine i_get X F 0 rfl rfl fk_X7_32 dX7_leaves_22 rfl ?_
        refine g_iload_n X dX7_leaves_25 rfl (j := 2) rfl ?_
        refine i_aald X F 24 rfl (t0 := 5) rfl rfl dX7_leaves_26 (vp_in_iff.mpr (by decide)) (v := .ref (a 80)) (by show va_rf (R 24 0) = _; rw [HR.1 0 (by decide)]; rw [if_pos hA80]; rfl) ?_
        refine g_iload_n X dX7_leaves_27 rfl (j := 3) rfl ?_
        refine g_callVI X (s_X7_possibleRoads_80 l G F I n19 (by omega) (by omega) act80 act81 (by rw [(K 80 (by decide)).1, (K 81 (by decide)).2]; exact gsn)) lk_X7_292 (F.1 0 rfl).2 (F.1 0 rfl).1 rfl rfl dX7_leaves_28 (Nat.le_of_ble_eq_true rfl) ⟨by decide, by decide⟩ ⟨by decide, by decide⟩ (fun r27 L M hp => ?_)
        obtain ⟨C, D, F, I, K1, hr⟩ := hp
        have K := K.step K1 (by decide)
        refine g_istore X dX7_leaves_31 (by decide) (lv2 := [(4, .int r27), (3, .int 0), (0, .ref (a 0)), (1, .int 0), (2, .int (nI n19))]) rfl ?_
        refine g_aload_n X dX7_leaves_33 rfl (j := 2) rfl ?_
        refine g_iload X dX7_leaves_34 (j := 0) rfl ?_
        refine g_callVI X (s_X7_bestQuestion l G F I r27 ) lk_X7_296 (F.1 0 rfl).2 (F.1 0 rfl).1 rfl rfl dX7_leaves_36 (Nat.le_of_ble_eq_true rfl) ⟨by decide, by decide⟩ ⟨by decide, by decide⟩ (fun r28 L M hp => ?_)
        obtain ⟨C, D, F, I, K1, hr⟩ := hp
        have K := K.step K1 (by decide)
        rcases hr with rfl | ⟨n29, rfl, hn29a, hn29b, hn29c⟩
        · skip
          refine g_istore X dX7_leaves_39 (by decide) (lv2 := [(5, .int (-1)), (4, .int r27), (3, .int 0), (0, .ref (a 0)), (1, .int 0), (2, .int (nI n19))]) rfl ?_
          refine g_iload X dX7_leaves_41 (j := 0) rfl ?_
          refine g_iconst X dX7_leaves_43 (v := -1) (by decide) ?_
          refine g_icmp_ne X dX7_leaves_44 (tgt := 53) (by decide) (fun q => absurd (by decide) q) (fun _ => ?_)
          refine g_iload X dX7_leaves_47 (j := 1) rfl ?_
          refine g_callSI X (s_J6_bitCount_0f7a4 l G F I r27 ) lk_X7_271 rfl rfl dX7_leaves_49 (Nat.le_of_ble_eq_true rfl) ⟨by decide, by decide⟩ ⟨by decide, by decide⟩ (fun r30 L M hp => ?_)
          obtain ⟨C, D, F, I, K1, hr⟩ := hp
          have K := K.step K1 (by decide)
          have hbcr30 := hr
          exact g_iret X hrt dX7_leaves_52 (by decide) (by decide) ⟨C, D, F, I, K, trivial⟩
        · skip
          refine g_istore X dX7_leaves_39 (by decide) (lv2 := [(5, .int (nI n29)), (4, .int r27), (3, .int 0), (0, .ref (a 0)), (1, .int 0), (2, .int (nI n19))]) rfl ?_
          refine g_iload X dX7_leaves_41 (j := 0) rfl ?_
          refine g_iconst X dX7_leaves_43 (v := -1) (by decide) ?_
          refine g_icmp_ne X dX7_leaves_44 (tgt := 53) (by decide) (fun _ => ?_) (fun q => absurd q (nI_nm1 (by omega)))
          refine g_aload_n X dX7_leaves_53 rfl (j := 3) rfl ?_
          refine g_iload X dX7_leaves_54 (j := 1) rfl ?_
          refine g_iload X dX7_leaves_56 (j := 0) rfl ?_
          refine g_bipush X dX7_leaves_58 (v := 100) (by decide) ?_
          refine g_idiv X dX7_leaves_60 (by decide) ?_
          refine Go.top (v := .int (nI (n29 / 100))) (congrArg Value.int (pk_div (a := n29) (d := 100) (by omega) (by omega) (by omega))) ?_
          obtain ⟨n32, en32⟩ : ∃ z : Nat, z = n29 / 100 := ⟨_, rfl⟩
          refine Go.top (v := .int (nI n32)) (by rw [en32]) ?_
          have hn32 : n32 ≤ n29 := by rw [en32]; exact Nat.div_le_self _ _
          refine g_iload X dX7_leaves_61 (j := 0) rfl ?_
          refine g_bipush X dX7_leaves_63 (v := 100) (by decide) ?_
          refine g_irem X dX7_leaves_65 (by decide) ?_
          refine Go.top (v := .int (nI (n29 % 100))) (congrArg Value.int (pk_rem (a := n29) (d := 100) (by omega) (by omega) (by omega))) ?_
          obtain ⟨n33, en33⟩ : ∃ z : Nat, z = n29 % 100 := ⟨_, rfl⟩
          refine Go.top (v := .int (nI n33)) (by rw [en33]) ?_
          have hn33 : n33 < 100 := by rw [en33]; exact Nat.mod_lt _ (by omega)
          refine g_callVI X (s_X7_mostLeft l G F I r27 n32 (by omega) (by omega) n33 (by omega) (by omega) ) lk_X7_299 (F.1 0 rfl).2 (F.1 0 rfl).1 rfl rfl dX7_leaves_66 (Nat.le_of_ble_eq_true rfl) ⟨by decide, by decide⟩ ⟨by decide, by decide⟩ (fun r34 L M hp => ?_)
          obtain ⟨C, D, F, I, K1, hr⟩ := hp
          have K := K.step K1 (by decide)
          exact g_iret X hrt dX7_leaves_69 (by decide) (by decide) ⟨C, D, F, I, K, trivial⟩
  · skip
    refine g_aload_n X dX7_leaves_0 rfl (j := 0) rfl ?_
    refine g_iload_n X dX7_leaves_1 rfl (j := 1) rfl ?_
    refine g_aload_n X dX7_leaves_2 rfl (j := 0) rfl ?_
    refine i_get X F 0 rfl rfl fk_X7_19 dX7_leaves_3 rfl ?_
    refine g_iload_n X dX7_leaves_6 rfl (j := 2) rfl ?_
    refine g_callVI X (s_X2_hasPost l G F I p1 ) lk_X7_106 (F.1 3 rfl).2 (F.1 3 rfl).1 rfl rfl dX7_leaves_7 (Nat.le_of_ble_eq_true rfl) ⟨by decide, by decide⟩ ⟨by decide, by decide⟩ (fun r35 L M hp => ?_)
    obtain ⟨C, D, F, I, K1, hr⟩ := hp
    have K := K.step K1 (by decide)
    rcases hr with rfl | ⟨rfl, n36, hn36a, hn36b, en36⟩
    · skip
      refine g_callVI X (s_X7_refusalOfSeen_1 l G F I (0 : Int32) HR) lk_X7_288 (F.1 0 rfl).2 (F.1 0 rfl).1 rfl rfl dX7_leaves_10 (Nat.le_of_ble_eq_true rfl) ⟨by decide, by decide⟩ ⟨by decide, by decide⟩ (fun r37 L M hp => ?_)
      obtain ⟨C, D, F, I, K1, hr⟩ := hp
      have K := K.step K1 (by decide)
      rcases hr with hz38 | ⟨rfl, hA82, hz38n, gsn⟩
      · skip
        refine g_istore_n X dX7_leaves_13 rfl (by decide) (lv2 := [(3, .int r37), (0, .ref (a 0)), (1, .int 1), (2, .int p1)]) rfl ?_
        refine g_iload_n X dX7_leaves_14 rfl (j := 0) rfl ?_
        refine g_if_eq X dX7_leaves_15 (tgt := 20) (by decide) (fun q => absurd q hz38) (fun _ => ?_)
        refine g_iload_n X dX7_leaves_18 rfl (j := 0) rfl ?_
        exact g_iret X hrt dX7_leaves_19 (by decide) (by decide) ⟨C, D, F, I, K, trivial⟩
      · skip
        exact absurd rfl hz38n
    · skip
      subst en36
      refine g_callVI X (s_X7_refusalOfSeen_1 l G F I (1 : Int32) HR) lk_X7_288 (F.1 0 rfl).2 (F.1 0 rfl).1 rfl rfl dX7_leaves_10 (Nat.le_of_ble_eq_true rfl) ⟨by decide, by decide⟩ ⟨by decide, by decide⟩ (fun r40 L M hp => ?_)
      obtain ⟨C, D, F, I, K1, hr⟩ := hp
      have K := K.step K1 (by decide)
      rcases hr with hz41 | ⟨rfl, hA82, hz41n, gsn⟩
      · skip
        refine g_istore_n X dX7_leaves_13 rfl (by decide) (lv2 := [(3, .int r40), (0, .ref (a 0)), (1, .int 1), (2, .int (nI n36))]) rfl ?_
        refine g_iload_n X dX7_leaves_14 rfl (j := 0) rfl ?_
        refine g_if_eq X dX7_leaves_15 (tgt := 20) (by decide) (fun q => absurd q hz41) (fun _ => ?_)
        refine g_iload_n X dX7_leaves_18 rfl (j := 0) rfl ?_
        exact g_iret X hrt dX7_leaves_19 (by decide) (by decide) ⟨C, D, F, I, K, trivial⟩
      · skip
        have act82 : (baseact 82 || act 82) = true := by rw [hA82]; rfl
        have act83 : (baseact 83 || act 83) = true := by rw [((HR.2.2.1 1 (by decide)).trans hA82)]; rfl
        rw [(K 82 (by decide)).1, (K 83 (by decide)).2] at gsn
        refine g_istore_n X dX7_leaves_13 rfl (by decide) (lv2 := [(3, .int 0), (0, .ref (a 0)), (1, .int 1), (2, .int (nI n36))]) rfl ?_
        refine g_iload_n X dX7_leaves_14 rfl (j := 0) rfl ?_
        refine g_if_eq X dX7_leaves_15 (tgt := 20) (by decide) (fun _ => ?_) (fun q => absurd (by decide) q)
        refine g_aload_n X dX7_leaves_20 rfl (j := 1) rfl ?_
        refine g_aload_n X dX7_leaves_21 rfl (j := 1) rfl ?_
        refine i_get X F 0 rfl rfl fk_X7_32 dX7_leaves_22 rfl ?_
        refine g_iload_n X dX7_leaves_25 rfl (j := 2) rfl ?_
        refine i_aald X F 24 rfl (t0 := 5) rfl rfl dX7_leaves_26 (vp_in_iff.mpr (by decide)) (v := .ref (a 82)) (by show va_rf (R 24 1) = _; rw [HR.1 1 (by decide)]; rw [if_pos hA82]; rfl) ?_
        refine g_iload_n X dX7_leaves_27 rfl (j := 3) rfl ?_
        refine g_callVI X (s_X7_possibleRoads_82 l G F I n36 (by omega) (by omega) act82 act83 (by rw [(K 82 (by decide)).1, (K 83 (by decide)).2]; exact gsn)) lk_X7_292 (F.1 0 rfl).2 (F.1 0 rfl).1 rfl rfl dX7_leaves_28 (Nat.le_of_ble_eq_true rfl) ⟨by decide, by decide⟩ ⟨by decide, by decide⟩ (fun r44 L M hp => ?_)
        obtain ⟨C, D, F, I, K1, hr⟩ := hp
        have K := K.step K1 (by decide)
        refine g_istore X dX7_leaves_31 (by decide) (lv2 := [(4, .int r44), (3, .int 0), (0, .ref (a 0)), (1, .int 1), (2, .int (nI n36))]) rfl ?_
        refine g_aload_n X dX7_leaves_33 rfl (j := 2) rfl ?_
        refine g_iload X dX7_leaves_34 (j := 0) rfl ?_
        refine g_callVI X (s_X7_bestQuestion l G F I r44 ) lk_X7_296 (F.1 0 rfl).2 (F.1 0 rfl).1 rfl rfl dX7_leaves_36 (Nat.le_of_ble_eq_true rfl) ⟨by decide, by decide⟩ ⟨by decide, by decide⟩ (fun r45 L M hp => ?_)
        obtain ⟨C, D, F, I, K1, hr⟩ := hp
        have K := K.step K1 (by decide)
        rcases hr with rfl | ⟨n46, rfl, hn46a, hn46b, hn46c⟩
        · skip
          refine g_istore X dX7_leaves_39 (by decide) (lv2 := [(5, .int (-1)), (4, .int r44), (3, .int 0), (0, .ref (a 0)), (1, .int 1), (2, .int (nI n36))]) rfl ?_
          refine g_iload X dX7_leaves_41 (j := 0) rfl ?_
          refine g_iconst X dX7_leaves_43 (v := -1) (by decide) ?_
          refine g_icmp_ne X dX7_leaves_44 (tgt := 53) (by decide) (fun q => absurd (by decide) q) (fun _ => ?_)
          refine g_iload X dX7_leaves_47 (j := 1) rfl ?_
          refine g_callSI X (s_J6_bitCount_0f7a4 l G F I r44 ) lk_X7_271 rfl rfl dX7_leaves_49 (Nat.le_of_ble_eq_true rfl) ⟨by decide, by decide⟩ ⟨by decide, by decide⟩ (fun r47 L M hp => ?_)
          obtain ⟨C, D, F, I, K1, hr⟩ := hp
          have K := K.step K1 (by decide)
          have hbcr47 := hr
          exact g_iret X hrt dX7_leaves_52 (by decide) (by decide) ⟨C, D, F, I, K, trivial⟩
        · skip
          refine g_istore X dX7_leaves_39 (by decide) (lv2 := [(5, .int (nI n46)), (4, .int r44), (3, .int 0), (0, .ref (a 0)), (1, .int 1), (2, .int (nI n36))]) rfl ?_
          refine g_iload X dX7_leaves_41 (j := 0) rfl ?_
          refine g_iconst X dX7_leaves_43 (v := -1) (by decide) ?_
          refine g_icmp_ne X dX7_leaves_44 (tgt := 53) (by decide) (fun _ => ?_) (fun q => absurd q (nI_nm1 (by omega)))
          refine g_aload_n X dX7_leaves_53 rfl (j := 3) rfl ?_
          refine g_iload X dX7_leaves_54 (j := 1) rfl ?_
          refine g_iload X dX7_leaves_56 (j := 0) rfl ?_
          refine g_bipush X dX7_leaves_58 (v := 100) (by decide) ?_
          refine g_idiv X dX7_leaves_60 (by decide) ?_
          refine Go.top (v := .int (nI (n46 / 100))) (congrArg Value.int (pk_div (a := n46) (d := 100) (by omega) (by omega) (by omega))) ?_
          obtain ⟨n49, en49⟩ : ∃ z : Nat, z = n46 / 100 := ⟨_, rfl⟩
          refine Go.top (v := .int (nI n49)) (by rw [en49]) ?_
          have hn49 : n49 ≤ n46 := by rw [en49]; exact Nat.div_le_self _ _
          refine g_iload X dX7_leaves_61 (j := 0) rfl ?_
          refine g_bipush X dX7_leaves_63 (v := 100) (by decide) ?_
          refine g_irem X dX7_leaves_65 (by decide) ?_
          refine Go.top (v := .int (nI (n46 % 100))) (congrArg Value.int (pk_rem (a := n46) (d := 100) (by omega) (by omega) (by omega))) ?_
          obtain ⟨n50, en50⟩ : ∃ z : Nat, z = n46 % 100 := ⟨_, rfl⟩
          refine Go.top (v := .int (nI n50)) (by rw [en50]) ?_
          have hn50 : n50 < 100 := by rw [en50]; exact Nat.mod_lt _ (by omega)
          refine g_callVI X (s_X7_mostLeft l G F I r44 n49 (by omega) (by omega) n50 (by omega) (by omega) ) lk_X7_299 (F.1 0 rfl).2 (F.1 0 rfl).1 rfl rfl dX7_leaves_66 (Nat.le_of_ble_eq_true rfl) ⟨by decide, by decide⟩ ⟨by decide, by decide⟩ (fun r51 L M hp => ?_)
          obtain ⟨C, D, F, I, K1, hr⟩ := hp
          have K := K.step K1 (by decide)
          exact g_iret X hrt dX7_leaves_69 (by decide) (by decide) ⟨C, D, F, I, K, trivial⟩
  · skip
    refine g_aload_n X dX7_leaves_0 rfl (j := 0) rfl ?_
    refine g_iload_n X dX7_leaves_1 rfl (j := 1) rfl ?_
    refine g_aload_n X dX7_leaves_2 rfl (j := 0) rfl ?_
    refine i_get X F 0 rfl rfl fk_X7_19 dX7_leaves_3 rfl ?_
    refine g_iload_n X dX7_leaves_6 rfl (j := 2) rfl ?_
    refine g_callVI X (s_X2_hasPost l G F I p1 ) lk_X7_106 (F.1 3 rfl).2 (F.1 3 rfl).1 rfl rfl dX7_leaves_7 (Nat.le_of_ble_eq_true rfl) ⟨by decide, by decide⟩ ⟨by decide, by decide⟩ (fun r52 L M hp => ?_)
    obtain ⟨C, D, F, I, K1, hr⟩ := hp
    have K := K.step K1 (by decide)
    rcases hr with rfl | ⟨rfl, n53, hn53a, hn53b, en53⟩
    · skip
      refine g_callVI X (s_X7_refusalOfSeen_2 l G F I (0 : Int32) HR) lk_X7_288 (F.1 0 rfl).2 (F.1 0 rfl).1 rfl rfl dX7_leaves_10 (Nat.le_of_ble_eq_true rfl) ⟨by decide, by decide⟩ ⟨by decide, by decide⟩ (fun r54 L M hp => ?_)
      obtain ⟨C, D, F, I, K1, hr⟩ := hp
      have K := K.step K1 (by decide)
      rcases hr with hz55 | ⟨rfl, hA84, hz55n, gsn⟩
      · skip
        refine g_istore_n X dX7_leaves_13 rfl (by decide) (lv2 := [(3, .int r54), (0, .ref (a 0)), (1, .int 2), (2, .int p1)]) rfl ?_
        refine g_iload_n X dX7_leaves_14 rfl (j := 0) rfl ?_
        refine g_if_eq X dX7_leaves_15 (tgt := 20) (by decide) (fun q => absurd q hz55) (fun _ => ?_)
        refine g_iload_n X dX7_leaves_18 rfl (j := 0) rfl ?_
        exact g_iret X hrt dX7_leaves_19 (by decide) (by decide) ⟨C, D, F, I, K, trivial⟩
      · skip
        exact absurd rfl hz55n
    · skip
      subst en53
      refine g_callVI X (s_X7_refusalOfSeen_2 l G F I (1 : Int32) HR) lk_X7_288 (F.1 0 rfl).2 (F.1 0 rfl).1 rfl rfl dX7_leaves_10 (Nat.le_of_ble_eq_true rfl) ⟨by decide, by decide⟩ ⟨by decide, by decide⟩ (fun r57 L M hp => ?_)
      obtain ⟨C, D, F, I, K1, hr⟩ := hp
      have K := K.step K1 (by decide)
      rcases hr with hz58 | ⟨rfl, hA84, hz58n, gsn⟩
      · skip
        refine g_istore_n X dX7_leaves_13 rfl (by decide) (lv2 := [(3, .int r57), (0, .ref (a 0)), (1, .int 2), (2, .int (nI n53))]) rfl ?_
        refine g_iload_n X dX7_leaves_14 rfl (j := 0) rfl ?_
        refine g_if_eq X dX7_leaves_15 (tgt := 20) (by decide) (fun q => absurd q hz58) (fun _ => ?_)
        refine g_iload_n X dX7_leaves_18 rfl (j := 0) rfl ?_
        exact g_iret X hrt dX7_leaves_19 (by decide) (by decide) ⟨C, D, F, I, K, trivial⟩
      · skip
        have act84 : (baseact 84 || act 84) = true := by rw [hA84]; rfl
        have act85 : (baseact 85 || act 85) = true := by rw [((HR.2.2.1 2 (by decide)).trans hA84)]; rfl
        rw [(K 84 (by decide)).1, (K 85 (by decide)).2] at gsn
        refine g_istore_n X dX7_leaves_13 rfl (by decide) (lv2 := [(3, .int 0), (0, .ref (a 0)), (1, .int 2), (2, .int (nI n53))]) rfl ?_
        refine g_iload_n X dX7_leaves_14 rfl (j := 0) rfl ?_
        refine g_if_eq X dX7_leaves_15 (tgt := 20) (by decide) (fun _ => ?_) (fun q => absurd (by decide) q)
        refine g_aload_n X dX7_leaves_20 rfl (j := 1) rfl ?_
        refine g_aload_n X dX7_leaves_21 rfl (j := 1) rfl ?_
        refine i_get X F 0 rfl rfl fk_X7_32 dX7_leaves_22 rfl ?_
        refine g_iload_n X dX7_leaves_25 rfl (j := 2) rfl ?_
        refine i_aald X F 24 rfl (t0 := 5) rfl rfl dX7_leaves_26 (vp_in_iff.mpr (by decide)) (v := .ref (a 84)) (by show va_rf (R 24 2) = _; rw [HR.1 2 (by decide)]; rw [if_pos hA84]; rfl) ?_
        refine g_iload_n X dX7_leaves_27 rfl (j := 3) rfl ?_
        refine g_callVI X (s_X7_possibleRoads_84 l G F I n53 (by omega) (by omega) act84 act85 (by rw [(K 84 (by decide)).1, (K 85 (by decide)).2]; exact gsn)) lk_X7_292 (F.1 0 rfl).2 (F.1 0 rfl).1 rfl rfl dX7_leaves_28 (Nat.le_of_ble_eq_true rfl) ⟨by decide, by decide⟩ ⟨by decide, by decide⟩ (fun r61 L M hp => ?_)
        obtain ⟨C, D, F, I, K1, hr⟩ := hp
        have K := K.step K1 (by decide)
        refine g_istore X dX7_leaves_31 (by decide) (lv2 := [(4, .int r61), (3, .int 0), (0, .ref (a 0)), (1, .int 2), (2, .int (nI n53))]) rfl ?_
        refine g_aload_n X dX7_leaves_33 rfl (j := 2) rfl ?_
        refine g_iload X dX7_leaves_34 (j := 0) rfl ?_
        refine g_callVI X (s_X7_bestQuestion l G F I r61 ) lk_X7_296 (F.1 0 rfl).2 (F.1 0 rfl).1 rfl rfl dX7_leaves_36 (Nat.le_of_ble_eq_true rfl) ⟨by decide, by decide⟩ ⟨by decide, by decide⟩ (fun r62 L M hp => ?_)
        obtain ⟨C, D, F, I, K1, hr⟩ := hp
        have K := K.step K1 (by decide)
        rcases hr with rfl | ⟨n63, rfl, hn63a, hn63b, hn63c⟩
        · skip
          refine g_istore X dX7_leaves_39 (by decide) (lv2 := [(5, .int (-1)), (4, .int r61), (3, .int 0), (0, .ref (a 0)), (1, .int 2), (2, .int (nI n53))]) rfl ?_
          refine g_iload X dX7_leaves_41 (j := 0) rfl ?_
          refine g_iconst X dX7_leaves_43 (v := -1) (by decide) ?_
          refine g_icmp_ne X dX7_leaves_44 (tgt := 53) (by decide) (fun q => absurd (by decide) q) (fun _ => ?_)
          refine g_iload X dX7_leaves_47 (j := 1) rfl ?_
          refine g_callSI X (s_J6_bitCount_0f7a4 l G F I r61 ) lk_X7_271 rfl rfl dX7_leaves_49 (Nat.le_of_ble_eq_true rfl) ⟨by decide, by decide⟩ ⟨by decide, by decide⟩ (fun r64 L M hp => ?_)
          obtain ⟨C, D, F, I, K1, hr⟩ := hp
          have K := K.step K1 (by decide)
          have hbcr64 := hr
          exact g_iret X hrt dX7_leaves_52 (by decide) (by decide) ⟨C, D, F, I, K, trivial⟩
        · skip
          refine g_istore X dX7_leaves_39 (by decide) (lv2 := [(5, .int (nI n63)), (4, .int r61), (3, .int 0), (0, .ref (a 0)), (1, .int 2), (2, .int (nI n53))]) rfl ?_
          refine g_iload X dX7_leaves_41 (j := 0) rfl ?_
          refine g_iconst X dX7_leaves_43 (v := -1) (by decide) ?_
          refine g_icmp_ne X dX7_leaves_44 (tgt := 53) (by decide) (fun _ => ?_) (fun q => absurd q (nI_nm1 (by omega)))
          refine g_aload_n X dX7_leaves_53 rfl (j := 3) rfl ?_
          refine g_iload X dX7_leaves_54 (j := 1) rfl ?_
          refine g_iload X dX7_leaves_56 (j := 0) rfl ?_
          refine g_bipush X dX7_leaves_58 (v := 100) (by decide) ?_
          refine g_idiv X dX7_leaves_60 (by decide) ?_
          refine Go.top (v := .int (nI (n63 / 100))) (congrArg Value.int (pk_div (a := n63) (d := 100) (by omega) (by omega) (by omega))) ?_
          obtain ⟨n66, en66⟩ : ∃ z : Nat, z = n63 / 100 := ⟨_, rfl⟩
          refine Go.top (v := .int (nI n66)) (by rw [en66]) ?_
          have hn66 : n66 ≤ n63 := by rw [en66]; exact Nat.div_le_self _ _
          refine g_iload X dX7_leaves_61 (j := 0) rfl ?_
          refine g_bipush X dX7_leaves_63 (v := 100) (by decide) ?_
          refine g_irem X dX7_leaves_65 (by decide) ?_
          refine Go.top (v := .int (nI (n63 % 100))) (congrArg Value.int (pk_rem (a := n63) (d := 100) (by omega) (by omega) (by omega))) ?_
          obtain ⟨n67, en67⟩ : ∃ z : Nat, z = n63 % 100 := ⟨_, rfl⟩
          refine Go.top (v := .int (nI n67)) (by rw [en67]) ?_
          have hn67 : n67 < 100 := by rw [en67]; exact Nat.mod_lt _ (by omega)
          refine g_callVI X (s_X7_mostLeft l G F I r61 n66 (by omega) (by omega) n67 (by omega) (by omega) ) lk_X7_299 (F.1 0 rfl).2 (F.1 0 rfl).1 rfl rfl dX7_leaves_66 (Nat.le_of_ble_eq_true rfl) ⟨by decide, by decide⟩ ⟨by decide, by decide⟩ (fun r68 L M hp => ?_)
          obtain ⟨C, D, F, I, K1, hr⟩ := hp
          have K := K.step K1 (by decide)
          exact g_iret X hrt dX7_leaves_69 (by decide) (by decide) ⟨C, D, F, I, K, trivial⟩
  · skip
    refine g_aload_n X dX7_leaves_0 rfl (j := 0) rfl ?_
    refine g_iload_n X dX7_leaves_1 rfl (j := 1) rfl ?_
    refine g_aload_n X dX7_leaves_2 rfl (j := 0) rfl ?_
    refine i_get X F 0 rfl rfl fk_X7_19 dX7_leaves_3 rfl ?_
    refine g_iload_n X dX7_leaves_6 rfl (j := 2) rfl ?_
    refine g_callVI X (s_X2_hasPost l G F I p1 ) lk_X7_106 (F.1 3 rfl).2 (F.1 3 rfl).1 rfl rfl dX7_leaves_7 (Nat.le_of_ble_eq_true rfl) ⟨by decide, by decide⟩ ⟨by decide, by decide⟩ (fun r69 L M hp => ?_)
    obtain ⟨C, D, F, I, K1, hr⟩ := hp
    have K := K.step K1 (by decide)
    rcases hr with rfl | ⟨rfl, n70, hn70a, hn70b, en70⟩
    · skip
      refine g_callVI X (s_X7_refusalOfSeen_3 l G F I (0 : Int32) HR) lk_X7_288 (F.1 0 rfl).2 (F.1 0 rfl).1 rfl rfl dX7_leaves_10 (Nat.le_of_ble_eq_true rfl) ⟨by decide, by decide⟩ ⟨by decide, by decide⟩ (fun r71 L M hp => ?_)
      obtain ⟨C, D, F, I, K1, hr⟩ := hp
      have K := K.step K1 (by decide)
      rcases hr with hz72 | ⟨rfl, hA86, hz72n, gsn⟩
      · skip
        refine g_istore_n X dX7_leaves_13 rfl (by decide) (lv2 := [(3, .int r71), (0, .ref (a 0)), (1, .int 3), (2, .int p1)]) rfl ?_
        refine g_iload_n X dX7_leaves_14 rfl (j := 0) rfl ?_
        refine g_if_eq X dX7_leaves_15 (tgt := 20) (by decide) (fun q => absurd q hz72) (fun _ => ?_)
        refine g_iload_n X dX7_leaves_18 rfl (j := 0) rfl ?_
        exact g_iret X hrt dX7_leaves_19 (by decide) (by decide) ⟨C, D, F, I, K, trivial⟩
      · skip
        exact absurd rfl hz72n
    · skip
      subst en70
      refine g_callVI X (s_X7_refusalOfSeen_3 l G F I (1 : Int32) HR) lk_X7_288 (F.1 0 rfl).2 (F.1 0 rfl).1 rfl rfl dX7_leaves_10 (Nat.le_of_ble_eq_true rfl) ⟨by decide, by decide⟩ ⟨by decide, by decide⟩ (fun r74 L M hp => ?_)
      obtain ⟨C, D, F, I, K1, hr⟩ := hp
      have K := K.step K1 (by decide)
      rcases hr with hz75 | ⟨rfl, hA86, hz75n, gsn⟩
      · skip
        refine g_istore_n X dX7_leaves_13 rfl (by decide) (lv2 := [(3, .int r74), (0, .ref (a 0)), (1, .int 3), (2, .int (nI n70))]) rfl ?_
        refine g_iload_n X dX7_leaves_14 rfl (j := 0) rfl ?_
        refine g_if_eq X dX7_leaves_15 (tgt := 20) (by decide) (fun q => absurd q hz75) (fun _ => ?_)
        refine g_iload_n X dX7_leaves_18 rfl (j := 0) rfl ?_
        exact g_iret X hrt dX7_leaves_19 (by decide) (by decide) ⟨C, D, F, I, K, trivial⟩
      · skip
        have act86 : (baseact 86 || act 86) = true := by rw [hA86]; rfl
        have act87 : (baseact 87 || act 87) = true := by rw [((HR.2.2.1 3 (by decide)).trans hA86)]; rfl
        rw [(K 86 (by decide)).1, (K 87 (by decide)).2] at gsn
        refine g_istore_n X dX7_leaves_13 rfl (by decide) (lv2 := [(3, .int 0), (0, .ref (a 0)), (1, .int 3), (2, .int (nI n70))]) rfl ?_
        refine g_iload_n X dX7_leaves_14 rfl (j := 0) rfl ?_
        refine g_if_eq X dX7_leaves_15 (tgt := 20) (by decide) (fun _ => ?_) (fun q => absurd (by decide) q)
        refine g_aload_n X dX7_leaves_20 rfl (j := 1) rfl ?_
        refine g_aload_n X dX7_leaves_21 rfl (j := 1) rfl ?_
        refine i_get X F 0 rfl rfl fk_X7_32 dX7_leaves_22 rfl ?_
        refine g_iload_n X dX7_leaves_25 rfl (j := 2) rfl ?_
        refine i_aald X F 24 rfl (t0 := 5) rfl rfl dX7_leaves_26 (vp_in_iff.mpr (by decide)) (v := .ref (a 86)) (by show va_rf (R 24 3) = _; rw [HR.1 3 (by decide)]; rw [if_pos hA86]; rfl) ?_
        refine g_iload_n X dX7_leaves_27 rfl (j := 3) rfl ?_
        refine g_callVI X (s_X7_possibleRoads_86 l G F I n70 (by omega) (by omega) act86 act87 (by rw [(K 86 (by decide)).1, (K 87 (by decide)).2]; exact gsn)) lk_X7_292 (F.1 0 rfl).2 (F.1 0 rfl).1 rfl rfl dX7_leaves_28 (Nat.le_of_ble_eq_true rfl) ⟨by decide, by decide⟩ ⟨by decide, by decide⟩ (fun r78 L M hp => ?_)
        obtain ⟨C, D, F, I, K1, hr⟩ := hp
        have K := K.step K1 (by decide)
        refine g_istore X dX7_leaves_31 (by decide) (lv2 := [(4, .int r78), (3, .int 0), (0, .ref (a 0)), (1, .int 3), (2, .int (nI n70))]) rfl ?_
        refine g_aload_n X dX7_leaves_33 rfl (j := 2) rfl ?_
        refine g_iload X dX7_leaves_34 (j := 0) rfl ?_
        refine g_callVI X (s_X7_bestQuestion l G F I r78 ) lk_X7_296 (F.1 0 rfl).2 (F.1 0 rfl).1 rfl rfl dX7_leaves_36 (Nat.le_of_ble_eq_true rfl) ⟨by decide, by decide⟩ ⟨by decide, by decide⟩ (fun r79 L M hp => ?_)
        obtain ⟨C, D, F, I, K1, hr⟩ := hp
        have K := K.step K1 (by decide)
        rcases hr with rfl | ⟨n80, rfl, hn80a, hn80b, hn80c⟩
        · skip
          refine g_istore X dX7_leaves_39 (by decide) (lv2 := [(5, .int (-1)), (4, .int r78), (3, .int 0), (0, .ref (a 0)), (1, .int 3), (2, .int (nI n70))]) rfl ?_
          refine g_iload X dX7_leaves_41 (j := 0) rfl ?_
          refine g_iconst X dX7_leaves_43 (v := -1) (by decide) ?_
          refine g_icmp_ne X dX7_leaves_44 (tgt := 53) (by decide) (fun q => absurd (by decide) q) (fun _ => ?_)
          refine g_iload X dX7_leaves_47 (j := 1) rfl ?_
          refine g_callSI X (s_J6_bitCount_0f7a4 l G F I r78 ) lk_X7_271 rfl rfl dX7_leaves_49 (Nat.le_of_ble_eq_true rfl) ⟨by decide, by decide⟩ ⟨by decide, by decide⟩ (fun r81 L M hp => ?_)
          obtain ⟨C, D, F, I, K1, hr⟩ := hp
          have K := K.step K1 (by decide)
          have hbcr81 := hr
          exact g_iret X hrt dX7_leaves_52 (by decide) (by decide) ⟨C, D, F, I, K, trivial⟩
        · skip
          refine g_istore X dX7_leaves_39 (by decide) (lv2 := [(5, .int (nI n80)), (4, .int r78), (3, .int 0), (0, .ref (a 0)), (1, .int 3), (2, .int (nI n70))]) rfl ?_
          refine g_iload X dX7_leaves_41 (j := 0) rfl ?_
          refine g_iconst X dX7_leaves_43 (v := -1) (by decide) ?_
          refine g_icmp_ne X dX7_leaves_44 (tgt := 53) (by decide) (fun _ => ?_) (fun q => absurd q (nI_nm1 (by omega)))
          refine g_aload_n X dX7_leaves_53 rfl (j := 3) rfl ?_
          refine g_iload X dX7_leaves_54 (j := 1) rfl ?_
          refine g_iload X dX7_leaves_56 (j := 0) rfl ?_
          refine g_bipush X dX7_leaves_58 (v := 100) (by decide) ?_
          refine g_idiv X dX7_leaves_60 (by decide) ?_
          refine Go.top (v := .int (nI (n80 / 100))) (congrArg Value.int (pk_div (a := n80) (d := 100) (by omega) (by omega) (by omega))) ?_
          obtain ⟨n83, en83⟩ : ∃ z : Nat, z = n80 / 100 := ⟨_, rfl⟩
          refine Go.top (v := .int (nI n83)) (by rw [en83]) ?_
          have hn83 : n83 ≤ n80 := by rw [en83]; exact Nat.div_le_self _ _
          refine g_iload X dX7_leaves_61 (j := 0) rfl ?_
          refine g_bipush X dX7_leaves_63 (v := 100) (by decide) ?_
          refine g_irem X dX7_leaves_65 (by decide) ?_
          refine Go.top (v := .int (nI (n80 % 100))) (congrArg Value.int (pk_rem (a := n80) (d := 100) (by omega) (by omega) (by omega))) ?_
          obtain ⟨n84, en84⟩ : ∃ z : Nat, z = n80 % 100 := ⟨_, rfl⟩
          refine Go.top (v := .int (nI n84)) (by rw [en84]) ?_
          have hn84 : n84 < 100 := by rw [en84]; exact Nat.mod_lt _ (by omega)
          refine g_callVI X (s_X7_mostLeft l G F I r78 n83 (by omega) (by omega) n84 (by omega) (by omega) ) lk_X7_299 (F.1 0 rfl).2 (F.1 0 rfl).1 rfl rfl dX7_leaves_66 (Nat.le_of_ble_eq_true rfl) ⟨by decide, by decide⟩ ⟨by decide, by decide⟩ (fun r85 L M hp => ?_)
          obtain ⟨C, D, F, I, K1, hr⟩ := hp
          have K := K.step K1 (by decide)
          exact g_iret X hrt dX7_leaves_69 (by decide) (by decide) ⟨C, D, F, I, K, trivial⟩
set_option maxHeartbeats 4000000 in
set_option maxRecDepth 100000 in
theorem s_X7_laws (l : Launch) (G : va_G) {cy : Nat → ClassId} {L : List Nat} {M : Nat → va_E} {a : Nat → Nat} {act : Nat → Bool} {C0 : Nat → Nat → Int32} {D0 : Nat → Nat → Int64} {R : Nat → Nat → Option Nat} (F : WI L M a act (ent cy a C0 D0 R)) (I : Inv C0) (p0 : Int32) (HR : RA a act R) : MI l G cy yX7_laws cX7_laws 5 (some .int) 5 0 0 [.ref (a 0), .int p0] L M (fun r L2 M2 => ∃ C2 D2, WI L2 M2 a act (ent cy a C2 D2 R) ∧ Inv C2 ∧ Kp [31, 32, 33, 34, 35, 36] C0 D0 C2 D2 ∧ True) := by
  refine MI.of (own := RX7) rfl (by decide) (Nat.le_of_ble_eq_true rfl) ?_
  intro p e s m below meth c A X hrt hnm
  obtain ⟨C, D, hC0, hD0, F, I, K⟩ : ∃ C D, C = C0 ∧ D = D0 ∧ WI L M a act (ent cy a C D R) ∧ Inv C ∧ Kp [31, 32, 33, 34, 35, 36] C0 D0 C D := ⟨C0, D0, rfl, rfl, F, I, Kp.rf⟩
  rcases sc4 p0 with hx1 | hx1 | rfl | rfl | rfl | rfl
  · skip
    have hno1 : p0 < 0 ∨ 4 ≤ p0 := Or.inl hx1
    refine g_aload_n X dX7_laws_0 rfl (j := 0) rfl ?_
    refine g_iload_n X dX7_laws_1 rfl (j := 1) rfl ?_
    refine g_aload_n X dX7_laws_2 rfl (j := 0) rfl ?_
    refine i_get X F 0 rfl rfl fk_X7_19 dX7_laws_3 rfl ?_
    refine g_callVI X (s_X2_isTold l G F I  ) lk_X7_198 (F.1 3 rfl).2 (F.1 3 rfl).1 rfl rfl dX7_laws_6 (Nat.le_of_ble_eq_true rfl) ⟨by decide, by decide⟩ ⟨by decide, by decide⟩ (fun r2 L M hp => ?_)
    obtain ⟨C, D, F, I, K1, hr⟩ := hp
    have K := K.step K1 (by decide)
    rcases hr with rfl | rfl
    · skip
      refine g_callVI X (s_X7_refusalOfSeen_x l G F I p0 (0 : Int32) hno1) lk_X7_288 (F.1 0 rfl).2 (F.1 0 rfl).1 rfl rfl dX7_laws_9 (Nat.le_of_ble_eq_true rfl) ⟨by decide, by decide⟩ ⟨by decide, by decide⟩ (fun r3 L M hp => ?_)
      obtain ⟨C, D, F, I, K1, hr⟩ := hp
      have K := K.step K1 (by decide)
      have hz4 := hr
      refine g_istore_n X dX7_laws_12 rfl (by decide) (lv2 := [(2, .int r3), (0, .ref (a 0)), (1, .int p0)]) rfl ?_
      refine g_iload_n X dX7_laws_13 rfl (j := 0) rfl ?_
      refine g_if_eq X dX7_laws_14 (tgt := 19) (by decide) (fun q => absurd q hz4) (fun _ => ?_)
      refine g_iload_n X dX7_laws_17 rfl (j := 0) rfl ?_
      exact g_iret X hrt dX7_laws_18 (by decide) (by decide) ⟨C, D, F, I, K, trivial⟩
    · skip
      refine g_callVI X (s_X7_refusalOfSeen_x l G F I p0 (1 : Int32) hno1) lk_X7_288 (F.1 0 rfl).2 (F.1 0 rfl).1 rfl rfl dX7_laws_9 (Nat.le_of_ble_eq_true rfl) ⟨by decide, by decide⟩ ⟨by decide, by decide⟩ (fun r6 L M hp => ?_)
      obtain ⟨C, D, F, I, K1, hr⟩ := hp
      have K := K.step K1 (by decide)
      have hz7 := hr
      refine g_istore_n X dX7_laws_12 rfl (by decide) (lv2 := [(2, .int r6), (0, .ref (a 0)), (1, .int p0)]) rfl ?_
      refine g_iload_n X dX7_laws_13 rfl (j := 0) rfl ?_
      refine g_if_eq X dX7_laws_14 (tgt := 19) (by decide) (fun q => absurd q hz7) (fun _ => ?_)
      refine g_iload_n X dX7_laws_17 rfl (j := 0) rfl ?_
      exact g_iret X hrt dX7_laws_18 (by decide) (by decide) ⟨C, D, F, I, K, trivial⟩
  · skip
    have hno1 : p0 < 0 ∨ 4 ≤ p0 := Or.inr hx1
    refine g_aload_n X dX7_laws_0 rfl (j := 0) rfl ?_
    refine g_iload_n X dX7_laws_1 rfl (j := 1) rfl ?_
    refine g_aload_n X dX7_laws_2 rfl (j := 0) rfl ?_
    refine i_get X F 0 rfl rfl fk_X7_19 dX7_laws_3 rfl ?_
    refine g_callVI X (s_X2_isTold l G F I  ) lk_X7_198 (F.1 3 rfl).2 (F.1 3 rfl).1 rfl rfl dX7_laws_6 (Nat.le_of_ble_eq_true rfl) ⟨by decide, by decide⟩ ⟨by decide, by decide⟩ (fun r9 L M hp => ?_)
    obtain ⟨C, D, F, I, K1, hr⟩ := hp
    have K := K.step K1 (by decide)
    rcases hr with rfl | rfl
    · skip
      refine g_callVI X (s_X7_refusalOfSeen_x l G F I p0 (0 : Int32) hno1) lk_X7_288 (F.1 0 rfl).2 (F.1 0 rfl).1 rfl rfl dX7_laws_9 (Nat.le_of_ble_eq_true rfl) ⟨by decide, by decide⟩ ⟨by decide, by decide⟩ (fun r10 L M hp => ?_)
      obtain ⟨C, D, F, I, K1, hr⟩ := hp
      have K := K.step K1 (by decide)
      have hz11 := hr
      refine g_istore_n X dX7_laws_12 rfl (by decide) (lv2 := [(2, .int r10), (0, .ref (a 0)), (1, .int p0)]) rfl ?_
      refine g_iload_n X dX7_laws_13 rfl (j := 0) rfl ?_
      refine g_if_eq X dX7_laws_14 (tgt := 19) (by decide) (fun q => absurd q hz11) (fun _ => ?_)
      refine g_iload_n X dX7_laws_17 rfl (j := 0) rfl ?_
      exact g_iret X hrt dX7_laws_18 (by decide) (by decide) ⟨C, D, F, I, K, trivial⟩
    · skip
      refine g_callVI X (s_X7_refusalOfSeen_x l G F I p0 (1 : Int32) hno1) lk_X7_288 (F.1 0 rfl).2 (F.1 0 rfl).1 rfl rfl dX7_laws_9 (Nat.le_of_ble_eq_true rfl) ⟨by decide, by decide⟩ ⟨by decide, by decide⟩ (fun r13 L M hp => ?_)
      obtain ⟨C, D, F, I, K1, hr⟩ := hp
      have K := K.step K1 (by decide)
      have hz14 := hr
      refine g_istore_n X dX7_laws_12 rfl (by decide) (lv2 := [(2, .int r13), (0, .ref (a 0)), (1, .int p0)]) rfl ?_
      refine g_iload_n X dX7_laws_13 rfl (j := 0) rfl ?_
      refine g_if_eq X dX7_laws_14 (tgt := 19) (by decide) (fun q => absurd q hz14) (fun _ => ?_)
      refine g_iload_n X dX7_laws_17 rfl (j := 0) rfl ?_
      exact g_iret X hrt dX7_laws_18 (by decide) (by decide) ⟨C, D, F, I, K, trivial⟩
  · skip
    refine g_aload_n X dX7_laws_0 rfl (j := 0) rfl ?_
    refine g_iload_n X dX7_laws_1 rfl (j := 1) rfl ?_
    refine g_aload_n X dX7_laws_2 rfl (j := 0) rfl ?_
    refine i_get X F 0 rfl rfl fk_X7_19 dX7_laws_3 rfl ?_
    refine g_callVI X (s_X2_isTold l G F I  ) lk_X7_198 (F.1 3 rfl).2 (F.1 3 rfl).1 rfl rfl dX7_laws_6 (Nat.le_of_ble_eq_true rfl) ⟨by decide, by decide⟩ ⟨by decide, by decide⟩ (fun r16 L M hp => ?_)
    obtain ⟨C, D, F, I, K1, hr⟩ := hp
    have K := K.step K1 (by decide)
    rcases hr with rfl | rfl
    · skip
      refine g_callVI X (s_X7_refusalOfSeen_0 l G F I (0 : Int32) HR) lk_X7_288 (F.1 0 rfl).2 (F.1 0 rfl).1 rfl rfl dX7_laws_9 (Nat.le_of_ble_eq_true rfl) ⟨by decide, by decide⟩ ⟨by decide, by decide⟩ (fun r17 L M hp => ?_)
      obtain ⟨C, D, F, I, K1, hr⟩ := hp
      have K := K.step K1 (by decide)
      rcases hr with hz18 | ⟨rfl, hA80, hz18n, gsn⟩
      · skip
        refine g_istore_n X dX7_laws_12 rfl (by decide) (lv2 := [(2, .int r17), (0, .ref (a 0)), (1, .int 0)]) rfl ?_
        refine g_iload_n X dX7_laws_13 rfl (j := 0) rfl ?_
        refine g_if_eq X dX7_laws_14 (tgt := 19) (by decide) (fun q => absurd q hz18) (fun _ => ?_)
        refine g_iload_n X dX7_laws_17 rfl (j := 0) rfl ?_
        exact g_iret X hrt dX7_laws_18 (by decide) (by decide) ⟨C, D, F, I, K, trivial⟩
      · skip
        exact absurd rfl hz18n
    · skip
      refine g_callVI X (s_X7_refusalOfSeen_0 l G F I (1 : Int32) HR) lk_X7_288 (F.1 0 rfl).2 (F.1 0 rfl).1 rfl rfl dX7_laws_9 (Nat.le_of_ble_eq_true rfl) ⟨by decide, by decide⟩ ⟨by decide, by decide⟩ (fun r20 L M hp => ?_)
      obtain ⟨C, D, F, I, K1, hr⟩ := hp
      have K := K.step K1 (by decide)
      rcases hr with hz21 | ⟨rfl, hA80, hz21n, gsn⟩
      · skip
        refine g_istore_n X dX7_laws_12 rfl (by decide) (lv2 := [(2, .int r20), (0, .ref (a 0)), (1, .int 0)]) rfl ?_
        refine g_iload_n X dX7_laws_13 rfl (j := 0) rfl ?_
        refine g_if_eq X dX7_laws_14 (tgt := 19) (by decide) (fun q => absurd q hz21) (fun _ => ?_)
        refine g_iload_n X dX7_laws_17 rfl (j := 0) rfl ?_
        exact g_iret X hrt dX7_laws_18 (by decide) (by decide) ⟨C, D, F, I, K, trivial⟩
      · skip
        have act80 : (baseact 80 || act 80) = true := by rw [hA80]; rfl
        have act81 : (baseact 81 || act 81) = true := by rw [((HR.2.2.1 0 (by decide)).trans hA80)]; rfl
        rw [(K 80 (by decide)).1, (K 81 (by decide)).2] at gsn
        refine g_istore_n X dX7_laws_12 rfl (by decide) (lv2 := [(2, .int 0), (0, .ref (a 0)), (1, .int 0)]) rfl ?_
        refine g_iload_n X dX7_laws_13 rfl (j := 0) rfl ?_
        refine g_if_eq X dX7_laws_14 (tgt := 19) (by decide) (fun _ => ?_) (fun q => absurd (by decide) q)
        refine g_iconst X dX7_laws_19 (v := 0) (by decide) ?_
        refine g_istore_n X dX7_laws_20 rfl (by decide) (lv2 := [(3, .int 0), (2, .int 0), (0, .ref (a 0)), (1, .int 0)]) rfl ?_
        refine g_iconst X dX7_laws_21 (v := 0) (by decide) ?_
        refine g_istore X dX7_laws_22 (by decide) (lv2 := [(4, .int 0), (3, .int 0), (2, .int 0), (0, .ref (a 0)), (1, .int 0)]) rfl ?_
        refine g_lv [0, 1, 2, 3, 4] (lv2 := [(4, .int 0), (3, .int 0), (2, .int 0), (0, .ref (a 0)), (1, .int 0)]) rfl ?_
        refine i_loop (mods := [31, 32, 33, 34, 35, 36]) (fun x : Nat × Int32 => 4 - x.1) (fun x => [(4, .int (nI (x.1))), (3, .int (x.2)), (2, .int 0), (0, .ref (a 0)), (1, .int 0)]) (fun x C => 0 ≤ x.1 ∧ x.1 ≤ 4) (fun x L M C D F I K hP ih24 => ?_) ((0, 0) : Nat × Int32) F I K ⟨by show _ ≤ _; omega, by show _ ≤ _; omega⟩
        rcases x with ⟨i24_4, v24_3⟩
        obtain ⟨hi24_4a, hi24_4b⟩ := hP
        refine g_lv [0, 1, 2, 3, 4] (lv2 := [(4, .int (nI i24_4)), (3, .int v24_3), (2, .int 0), (0, .ref (a 0)), (1, .int 0)]) rfl ?_
        refine g_iload X dX7_laws_24 (j := 0) rfl ?_
        refine g_iconst X dX7_laws_26 (v := 3) (by decide) ?_
        refine g_icmp_gt X dX7_laws_27 (tgt := 66) (by decide) (fun q23 => ?_) (fun q23 => ?_)
        · skip
          have q23 : 3 < i24_4 := (nI_ltI (a := 3) (b := i24_4) (by omega) (by omega)).mp q23
          refine g_iload_n X dX7_laws_66 rfl (j := 1) rfl ?_
          exact g_iret X hrt dX7_laws_67 (by decide) (by decide) ⟨C, D, F, I, K, trivial⟩
        · skip
          have q23 : ¬ 3 < i24_4 := fun z => q23 ((nI_ltI (a := 3) (b := i24_4) (by omega) (by omega)).mpr z)
          refine g_aload_n X dX7_laws_30 rfl (j := 3) rfl ?_
          refine g_iload X dX7_laws_31 (j := 0) rfl ?_
          refine g_callVV X (s_X7_runByLaw l G F I (nI i24_4) ) lk_X7_303 (F.1 0 rfl).2 (F.1 0 rfl).1 rfl rfl dX7_laws_33 (Nat.le_of_ble_eq_true rfl) ⟨by decide, by decide⟩ ⟨by decide, by decide⟩ (fun L M hp => ?_)
          obtain ⟨C, D, F, I, K1, hr⟩ := hp
          have K := K.step K1 (by decide)
          refine g_aload_n X dX7_laws_36 rfl (j := 3) rfl ?_
          refine g_aload_n X dX7_laws_37 rfl (j := 3) rfl ?_
          refine i_get X F 0 rfl rfl fk_X7_32 dX7_laws_38 rfl ?_
          refine g_iload_n X dX7_laws_41 rfl (j := 4) rfl ?_
          refine i_aald X F 24 rfl (t0 := 5) rfl rfl dX7_laws_42 (vp_in_iff.mpr (by decide)) (v := .ref (a 80)) (by show va_rf (R 24 0) = _; rw [HR.1 0 (by decide)]; rw [if_pos hA80]; rfl) ?_
          refine g_aload_n X dX7_laws_43 rfl (j := 3) rfl ?_
          refine i_get X F 0 rfl rfl fk_X7_45 dX7_laws_44 rfl ?_
          refine g_callVI X (s_X7_agrees_80 l G F I  act80 act81 (by rw [(K 80 (by decide)).1, (K 81 (by decide)).2]; exact gsn)) lk_X7_306 (F.1 0 rfl).2 (F.1 0 rfl).1 rfl rfl dX7_laws_47 (Nat.le_of_ble_eq_true rfl) ⟨by decide, by decide⟩ ⟨by decide, by decide⟩ (fun r25 L M hp => ?_)
          obtain ⟨C, D, F, I, K1, hr⟩ := hp
          have K := K.step K1 (by decide)
          rcases hr with rfl | rfl
          · skip
            refine g_if_eq X dX7_laws_50 (tgt := 60) (by decide) (fun _ => ?_) (fun q => absurd (by decide) q)
            refine g_iinc X dX7_laws_60 (j := 0) rfl (v := nI (i24_4 + 1)) (nI_1 i24_4) (by decide) (lv2 := [(4, .int (nI (i24_4 + 1))), (3, .int v24_3), (2, .int 0), (0, .ref (a 0)), (1, .int 0)]) rfl ?_
            refine g_goto X dX7_laws_63 (tgt := 24) (by decide) ?_
            refine g_lv [0, 1, 2, 3, 4] (lv2 := [(4, .int (nI (i24_4 + 1))), (3, .int v24_3), (2, .int 0), (0, .ref (a 0)), (1, .int 0)]) rfl ?_
            exact ih24 ((i24_4 + 1), v24_3) L M C D F I K ⟨by omega, by omega⟩ (by show _ < _; omega)
          · skip
            refine g_if_eq X dX7_laws_50 (tgt := 60) (by decide) (fun q => absurd q (by decide)) (fun _ => ?_)
            refine g_iload_n X dX7_laws_53 rfl (j := 1) rfl ?_
            refine g_iconst X dX7_laws_54 (v := 1) (by decide) ?_
            refine g_iload X dX7_laws_55 (j := 0) rfl ?_
            refine g_ishl X dX7_laws_57 ?_
            refine Go.gen (fun o26 => ?_)
            refine g_ior X dX7_laws_58 ?_
            refine Go.gen (fun o27 => ?_)
            refine g_istore_n X dX7_laws_59 rfl (by decide) (lv2 := [(3, .int o27), (4, .int (nI i24_4)), (2, .int 0), (0, .ref (a 0)), (1, .int 0)]) rfl ?_
            refine g_iinc X dX7_laws_60 (j := 1) rfl (v := nI (i24_4 + 1)) (nI_1 i24_4) (by decide) (lv2 := [(4, .int (nI (i24_4 + 1))), (3, .int o27), (2, .int 0), (0, .ref (a 0)), (1, .int 0)]) rfl ?_
            refine g_goto X dX7_laws_63 (tgt := 24) (by decide) ?_
            refine g_lv [0, 1, 2, 3, 4] (lv2 := [(4, .int (nI (i24_4 + 1))), (3, .int o27), (2, .int 0), (0, .ref (a 0)), (1, .int 0)]) rfl ?_
            exact ih24 ((i24_4 + 1), o27) L M C D F I K ⟨by omega, by omega⟩ (by show _ < _; omega)
  · skip
    refine g_aload_n X dX7_laws_0 rfl (j := 0) rfl ?_
    refine g_iload_n X dX7_laws_1 rfl (j := 1) rfl ?_
    refine g_aload_n X dX7_laws_2 rfl (j := 0) rfl ?_
    refine i_get X F 0 rfl rfl fk_X7_19 dX7_laws_3 rfl ?_
    refine g_callVI X (s_X2_isTold l G F I  ) lk_X7_198 (F.1 3 rfl).2 (F.1 3 rfl).1 rfl rfl dX7_laws_6 (Nat.le_of_ble_eq_true rfl) ⟨by decide, by decide⟩ ⟨by decide, by decide⟩ (fun r28 L M hp => ?_)
    obtain ⟨C, D, F, I, K1, hr⟩ := hp
    have K := K.step K1 (by decide)
    rcases hr with rfl | rfl
    · skip
      refine g_callVI X (s_X7_refusalOfSeen_1 l G F I (0 : Int32) HR) lk_X7_288 (F.1 0 rfl).2 (F.1 0 rfl).1 rfl rfl dX7_laws_9 (Nat.le_of_ble_eq_true rfl) ⟨by decide, by decide⟩ ⟨by decide, by decide⟩ (fun r29 L M hp => ?_)
      obtain ⟨C, D, F, I, K1, hr⟩ := hp
      have K := K.step K1 (by decide)
      rcases hr with hz30 | ⟨rfl, hA82, hz30n, gsn⟩
      · skip
        refine g_istore_n X dX7_laws_12 rfl (by decide) (lv2 := [(2, .int r29), (0, .ref (a 0)), (1, .int 1)]) rfl ?_
        refine g_iload_n X dX7_laws_13 rfl (j := 0) rfl ?_
        refine g_if_eq X dX7_laws_14 (tgt := 19) (by decide) (fun q => absurd q hz30) (fun _ => ?_)
        refine g_iload_n X dX7_laws_17 rfl (j := 0) rfl ?_
        exact g_iret X hrt dX7_laws_18 (by decide) (by decide) ⟨C, D, F, I, K, trivial⟩
      · skip
        exact absurd rfl hz30n
    · skip
      refine g_callVI X (s_X7_refusalOfSeen_1 l G F I (1 : Int32) HR) lk_X7_288 (F.1 0 rfl).2 (F.1 0 rfl).1 rfl rfl dX7_laws_9 (Nat.le_of_ble_eq_true rfl) ⟨by decide, by decide⟩ ⟨by decide, by decide⟩ (fun r32 L M hp => ?_)
      obtain ⟨C, D, F, I, K1, hr⟩ := hp
      have K := K.step K1 (by decide)
      rcases hr with hz33 | ⟨rfl, hA82, hz33n, gsn⟩
      · skip
        refine g_istore_n X dX7_laws_12 rfl (by decide) (lv2 := [(2, .int r32), (0, .ref (a 0)), (1, .int 1)]) rfl ?_
        refine g_iload_n X dX7_laws_13 rfl (j := 0) rfl ?_
        refine g_if_eq X dX7_laws_14 (tgt := 19) (by decide) (fun q => absurd q hz33) (fun _ => ?_)
        refine g_iload_n X dX7_laws_17 rfl (j := 0) rfl ?_
        exact g_iret X hrt dX7_laws_18 (by decide) (by decide) ⟨C, D, F, I, K, trivial⟩
      · skip
        have act82 : (baseact 82 || act 82) = true := by rw [hA82]; rfl
        have act83 : (baseact 83 || act 83) = true := by rw [((HR.2.2.1 1 (by decide)).trans hA82)]; rfl
        rw [(K 82 (by decide)).1, (K 83 (by decide)).2] at gsn
        refine g_istore_n X dX7_laws_12 rfl (by decide) (lv2 := [(2, .int 0), (0, .ref (a 0)), (1, .int 1)]) rfl ?_
        refine g_iload_n X dX7_laws_13 rfl (j := 0) rfl ?_
        refine g_if_eq X dX7_laws_14 (tgt := 19) (by decide) (fun _ => ?_) (fun q => absurd (by decide) q)
        refine g_iconst X dX7_laws_19 (v := 0) (by decide) ?_
        refine g_istore_n X dX7_laws_20 rfl (by decide) (lv2 := [(3, .int 0), (2, .int 0), (0, .ref (a 0)), (1, .int 1)]) rfl ?_
        refine g_iconst X dX7_laws_21 (v := 0) (by decide) ?_
        refine g_istore X dX7_laws_22 (by decide) (lv2 := [(4, .int 0), (3, .int 0), (2, .int 0), (0, .ref (a 0)), (1, .int 1)]) rfl ?_
        refine g_lv [0, 1, 2, 3, 4] (lv2 := [(4, .int 0), (3, .int 0), (2, .int 0), (0, .ref (a 0)), (1, .int 1)]) rfl ?_
        refine i_loop (mods := [31, 32, 33, 34, 35, 36]) (fun x : Nat × Int32 => 4 - x.1) (fun x => [(4, .int (nI (x.1))), (3, .int (x.2)), (2, .int 0), (0, .ref (a 0)), (1, .int 1)]) (fun x C => 0 ≤ x.1 ∧ x.1 ≤ 4) (fun x L M C D F I K hP ih24 => ?_) ((0, 0) : Nat × Int32) F I K ⟨by show _ ≤ _; omega, by show _ ≤ _; omega⟩
        rcases x with ⟨i24_4, v24_3⟩
        obtain ⟨hi24_4a, hi24_4b⟩ := hP
        refine g_lv [0, 1, 2, 3, 4] (lv2 := [(4, .int (nI i24_4)), (3, .int v24_3), (2, .int 0), (0, .ref (a 0)), (1, .int 1)]) rfl ?_
        refine g_iload X dX7_laws_24 (j := 0) rfl ?_
        refine g_iconst X dX7_laws_26 (v := 3) (by decide) ?_
        refine g_icmp_gt X dX7_laws_27 (tgt := 66) (by decide) (fun q35 => ?_) (fun q35 => ?_)
        · skip
          have q35 : 3 < i24_4 := (nI_ltI (a := 3) (b := i24_4) (by omega) (by omega)).mp q35
          refine g_iload_n X dX7_laws_66 rfl (j := 1) rfl ?_
          exact g_iret X hrt dX7_laws_67 (by decide) (by decide) ⟨C, D, F, I, K, trivial⟩
        · skip
          have q35 : ¬ 3 < i24_4 := fun z => q35 ((nI_ltI (a := 3) (b := i24_4) (by omega) (by omega)).mpr z)
          refine g_aload_n X dX7_laws_30 rfl (j := 3) rfl ?_
          refine g_iload X dX7_laws_31 (j := 0) rfl ?_
          refine g_callVV X (s_X7_runByLaw l G F I (nI i24_4) ) lk_X7_303 (F.1 0 rfl).2 (F.1 0 rfl).1 rfl rfl dX7_laws_33 (Nat.le_of_ble_eq_true rfl) ⟨by decide, by decide⟩ ⟨by decide, by decide⟩ (fun L M hp => ?_)
          obtain ⟨C, D, F, I, K1, hr⟩ := hp
          have K := K.step K1 (by decide)
          refine g_aload_n X dX7_laws_36 rfl (j := 3) rfl ?_
          refine g_aload_n X dX7_laws_37 rfl (j := 3) rfl ?_
          refine i_get X F 0 rfl rfl fk_X7_32 dX7_laws_38 rfl ?_
          refine g_iload_n X dX7_laws_41 rfl (j := 4) rfl ?_
          refine i_aald X F 24 rfl (t0 := 5) rfl rfl dX7_laws_42 (vp_in_iff.mpr (by decide)) (v := .ref (a 82)) (by show va_rf (R 24 1) = _; rw [HR.1 1 (by decide)]; rw [if_pos hA82]; rfl) ?_
          refine g_aload_n X dX7_laws_43 rfl (j := 3) rfl ?_
          refine i_get X F 0 rfl rfl fk_X7_45 dX7_laws_44 rfl ?_
          refine g_callVI X (s_X7_agrees_82 l G F I  act82 act83 (by rw [(K 82 (by decide)).1, (K 83 (by decide)).2]; exact gsn)) lk_X7_306 (F.1 0 rfl).2 (F.1 0 rfl).1 rfl rfl dX7_laws_47 (Nat.le_of_ble_eq_true rfl) ⟨by decide, by decide⟩ ⟨by decide, by decide⟩ (fun r37 L M hp => ?_)
          obtain ⟨C, D, F, I, K1, hr⟩ := hp
          have K := K.step K1 (by decide)
          rcases hr with rfl | rfl
          · skip
            refine g_if_eq X dX7_laws_50 (tgt := 60) (by decide) (fun _ => ?_) (fun q => absurd (by decide) q)
            refine g_iinc X dX7_laws_60 (j := 0) rfl (v := nI (i24_4 + 1)) (nI_1 i24_4) (by decide) (lv2 := [(4, .int (nI (i24_4 + 1))), (3, .int v24_3), (2, .int 0), (0, .ref (a 0)), (1, .int 1)]) rfl ?_
            refine g_goto X dX7_laws_63 (tgt := 24) (by decide) ?_
            refine g_lv [0, 1, 2, 3, 4] (lv2 := [(4, .int (nI (i24_4 + 1))), (3, .int v24_3), (2, .int 0), (0, .ref (a 0)), (1, .int 1)]) rfl ?_
            exact ih24 ((i24_4 + 1), v24_3) L M C D F I K ⟨by omega, by omega⟩ (by show _ < _; omega)
          · skip
            refine g_if_eq X dX7_laws_50 (tgt := 60) (by decide) (fun q => absurd q (by decide)) (fun _ => ?_)
            refine g_iload_n X dX7_laws_53 rfl (j := 1) rfl ?_
            refine g_iconst X dX7_laws_54 (v := 1) (by decide) ?_
            refine g_iload X dX7_laws_55 (j := 0) rfl ?_
            refine g_ishl X dX7_laws_57 ?_
            refine Go.gen (fun o38 => ?_)
            refine g_ior X dX7_laws_58 ?_
            refine Go.gen (fun o39 => ?_)
            refine g_istore_n X dX7_laws_59 rfl (by decide) (lv2 := [(3, .int o39), (4, .int (nI i24_4)), (2, .int 0), (0, .ref (a 0)), (1, .int 1)]) rfl ?_
            refine g_iinc X dX7_laws_60 (j := 1) rfl (v := nI (i24_4 + 1)) (nI_1 i24_4) (by decide) (lv2 := [(4, .int (nI (i24_4 + 1))), (3, .int o39), (2, .int 0), (0, .ref (a 0)), (1, .int 1)]) rfl ?_
            refine g_goto X dX7_laws_63 (tgt := 24) (by decide) ?_
            refine g_lv [0, 1, 2, 3, 4] (lv2 := [(4, .int (nI (i24_4 + 1))), (3, .int o39), (2, .int 0), (0, .ref (a 0)), (1, .int 1)]) rfl ?_
            exact ih24 ((i24_4 + 1), o39) L M C D F I K ⟨by omega, by omega⟩ (by show _ < _; omega)
  · skip
    refine g_aload_n X dX7_laws_0 rfl (j := 0) rfl ?_
    refine g_iload_n X dX7_laws_1 rfl (j := 1) rfl ?_
    refine g_aload_n X dX7_laws_2 rfl (j := 0) rfl ?_
    refine i_get X F 0 rfl rfl fk_X7_19 dX7_laws_3 rfl ?_
    refine g_callVI X (s_X2_isTold l G F I  ) lk_X7_198 (F.1 3 rfl).2 (F.1 3 rfl).1 rfl rfl dX7_laws_6 (Nat.le_of_ble_eq_true rfl) ⟨by decide, by decide⟩ ⟨by decide, by decide⟩ (fun r40 L M hp => ?_)
    obtain ⟨C, D, F, I, K1, hr⟩ := hp
    have K := K.step K1 (by decide)
    rcases hr with rfl | rfl
    · skip
      refine g_callVI X (s_X7_refusalOfSeen_2 l G F I (0 : Int32) HR) lk_X7_288 (F.1 0 rfl).2 (F.1 0 rfl).1 rfl rfl dX7_laws_9 (Nat.le_of_ble_eq_true rfl) ⟨by decide, by decide⟩ ⟨by decide, by decide⟩ (fun r41 L M hp => ?_)
      obtain ⟨C, D, F, I, K1, hr⟩ := hp
      have K := K.step K1 (by decide)
      rcases hr with hz42 | ⟨rfl, hA84, hz42n, gsn⟩
      · skip
        refine g_istore_n X dX7_laws_12 rfl (by decide) (lv2 := [(2, .int r41), (0, .ref (a 0)), (1, .int 2)]) rfl ?_
        refine g_iload_n X dX7_laws_13 rfl (j := 0) rfl ?_
        refine g_if_eq X dX7_laws_14 (tgt := 19) (by decide) (fun q => absurd q hz42) (fun _ => ?_)
        refine g_iload_n X dX7_laws_17 rfl (j := 0) rfl ?_
        exact g_iret X hrt dX7_laws_18 (by decide) (by decide) ⟨C, D, F, I, K, trivial⟩
      · skip
        exact absurd rfl hz42n
    · skip
      refine g_callVI X (s_X7_refusalOfSeen_2 l G F I (1 : Int32) HR) lk_X7_288 (F.1 0 rfl).2 (F.1 0 rfl).1 rfl rfl dX7_laws_9 (Nat.le_of_ble_eq_true rfl) ⟨by decide, by decide⟩ ⟨by decide, by decide⟩ (fun r44 L M hp => ?_)
      obtain ⟨C, D, F, I, K1, hr⟩ := hp
      have K := K.step K1 (by decide)
      rcases hr with hz45 | ⟨rfl, hA84, hz45n, gsn⟩
      · skip
        refine g_istore_n X dX7_laws_12 rfl (by decide) (lv2 := [(2, .int r44), (0, .ref (a 0)), (1, .int 2)]) rfl ?_
        refine g_iload_n X dX7_laws_13 rfl (j := 0) rfl ?_
        refine g_if_eq X dX7_laws_14 (tgt := 19) (by decide) (fun q => absurd q hz45) (fun _ => ?_)
        refine g_iload_n X dX7_laws_17 rfl (j := 0) rfl ?_
        exact g_iret X hrt dX7_laws_18 (by decide) (by decide) ⟨C, D, F, I, K, trivial⟩
      · skip
        have act84 : (baseact 84 || act 84) = true := by rw [hA84]; rfl
        have act85 : (baseact 85 || act 85) = true := by rw [((HR.2.2.1 2 (by decide)).trans hA84)]; rfl
        rw [(K 84 (by decide)).1, (K 85 (by decide)).2] at gsn
        refine g_istore_n X dX7_laws_12 rfl (by decide) (lv2 := [(2, .int 0), (0, .ref (a 0)), (1, .int 2)]) rfl ?_
        refine g_iload_n X dX7_laws_13 rfl (j := 0) rfl ?_
        refine g_if_eq X dX7_laws_14 (tgt := 19) (by decide) (fun _ => ?_) (fun q => absurd (by decide) q)
        refine g_iconst X dX7_laws_19 (v := 0) (by decide) ?_
        refine g_istore_n X dX7_laws_20 rfl (by decide) (lv2 := [(3, .int 0), (2, .int 0), (0, .ref (a 0)), (1, .int 2)]) rfl ?_
        refine g_iconst X dX7_laws_21 (v := 0) (by decide) ?_
        refine g_istore X dX7_laws_22 (by decide) (lv2 := [(4, .int 0), (3, .int 0), (2, .int 0), (0, .ref (a 0)), (1, .int 2)]) rfl ?_
        refine g_lv [0, 1, 2, 3, 4] (lv2 := [(4, .int 0), (3, .int 0), (2, .int 0), (0, .ref (a 0)), (1, .int 2)]) rfl ?_
        refine i_loop (mods := [31, 32, 33, 34, 35, 36]) (fun x : Nat × Int32 => 4 - x.1) (fun x => [(4, .int (nI (x.1))), (3, .int (x.2)), (2, .int 0), (0, .ref (a 0)), (1, .int 2)]) (fun x C => 0 ≤ x.1 ∧ x.1 ≤ 4) (fun x L M C D F I K hP ih24 => ?_) ((0, 0) : Nat × Int32) F I K ⟨by show _ ≤ _; omega, by show _ ≤ _; omega⟩
        rcases x with ⟨i24_4, v24_3⟩
        obtain ⟨hi24_4a, hi24_4b⟩ := hP
        refine g_lv [0, 1, 2, 3, 4] (lv2 := [(4, .int (nI i24_4)), (3, .int v24_3), (2, .int 0), (0, .ref (a 0)), (1, .int 2)]) rfl ?_
        refine g_iload X dX7_laws_24 (j := 0) rfl ?_
        refine g_iconst X dX7_laws_26 (v := 3) (by decide) ?_
        refine g_icmp_gt X dX7_laws_27 (tgt := 66) (by decide) (fun q47 => ?_) (fun q47 => ?_)
        · skip
          have q47 : 3 < i24_4 := (nI_ltI (a := 3) (b := i24_4) (by omega) (by omega)).mp q47
          refine g_iload_n X dX7_laws_66 rfl (j := 1) rfl ?_
          exact g_iret X hrt dX7_laws_67 (by decide) (by decide) ⟨C, D, F, I, K, trivial⟩
        · skip
          have q47 : ¬ 3 < i24_4 := fun z => q47 ((nI_ltI (a := 3) (b := i24_4) (by omega) (by omega)).mpr z)
          refine g_aload_n X dX7_laws_30 rfl (j := 3) rfl ?_
          refine g_iload X dX7_laws_31 (j := 0) rfl ?_
          refine g_callVV X (s_X7_runByLaw l G F I (nI i24_4) ) lk_X7_303 (F.1 0 rfl).2 (F.1 0 rfl).1 rfl rfl dX7_laws_33 (Nat.le_of_ble_eq_true rfl) ⟨by decide, by decide⟩ ⟨by decide, by decide⟩ (fun L M hp => ?_)
          obtain ⟨C, D, F, I, K1, hr⟩ := hp
          have K := K.step K1 (by decide)
          refine g_aload_n X dX7_laws_36 rfl (j := 3) rfl ?_
          refine g_aload_n X dX7_laws_37 rfl (j := 3) rfl ?_
          refine i_get X F 0 rfl rfl fk_X7_32 dX7_laws_38 rfl ?_
          refine g_iload_n X dX7_laws_41 rfl (j := 4) rfl ?_
          refine i_aald X F 24 rfl (t0 := 5) rfl rfl dX7_laws_42 (vp_in_iff.mpr (by decide)) (v := .ref (a 84)) (by show va_rf (R 24 2) = _; rw [HR.1 2 (by decide)]; rw [if_pos hA84]; rfl) ?_
          refine g_aload_n X dX7_laws_43 rfl (j := 3) rfl ?_
          refine i_get X F 0 rfl rfl fk_X7_45 dX7_laws_44 rfl ?_
          refine g_callVI X (s_X7_agrees_84 l G F I  act84 act85 (by rw [(K 84 (by decide)).1, (K 85 (by decide)).2]; exact gsn)) lk_X7_306 (F.1 0 rfl).2 (F.1 0 rfl).1 rfl rfl dX7_laws_47 (Nat.le_of_ble_eq_true rfl) ⟨by decide, by decide⟩ ⟨by decide, by decide⟩ (fun r49 L M hp => ?_)
          obtain ⟨C, D, F, I, K1, hr⟩ := hp
          have K := K.step K1 (by decide)
          rcases hr with rfl | rfl
          · skip
            refine g_if_eq X dX7_laws_50 (tgt := 60) (by decide) (fun _ => ?_) (fun q => absurd (by decide) q)
            refine g_iinc X dX7_laws_60 (j := 0) rfl (v := nI (i24_4 + 1)) (nI_1 i24_4) (by decide) (lv2 := [(4, .int (nI (i24_4 + 1))), (3, .int v24_3), (2, .int 0), (0, .ref (a 0)), (1, .int 2)]) rfl ?_
            refine g_goto X dX7_laws_63 (tgt := 24) (by decide) ?_
            refine g_lv [0, 1, 2, 3, 4] (lv2 := [(4, .int (nI (i24_4 + 1))), (3, .int v24_3), (2, .int 0), (0, .ref (a 0)), (1, .int 2)]) rfl ?_
            exact ih24 ((i24_4 + 1), v24_3) L M C D F I K ⟨by omega, by omega⟩ (by show _ < _; omega)
          · skip
            refine g_if_eq X dX7_laws_50 (tgt := 60) (by decide) (fun q => absurd q (by decide)) (fun _ => ?_)
            refine g_iload_n X dX7_laws_53 rfl (j := 1) rfl ?_
            refine g_iconst X dX7_laws_54 (v := 1) (by decide) ?_
            refine g_iload X dX7_laws_55 (j := 0) rfl ?_
            refine g_ishl X dX7_laws_57 ?_
            refine Go.gen (fun o50 => ?_)
            refine g_ior X dX7_laws_58 ?_
            refine Go.gen (fun o51 => ?_)
            refine g_istore_n X dX7_laws_59 rfl (by decide) (lv2 := [(3, .int o51), (4, .int (nI i24_4)), (2, .int 0), (0, .ref (a 0)), (1, .int 2)]) rfl ?_
            refine g_iinc X dX7_laws_60 (j := 1) rfl (v := nI (i24_4 + 1)) (nI_1 i24_4) (by decide) (lv2 := [(4, .int (nI (i24_4 + 1))), (3, .int o51), (2, .int 0), (0, .ref (a 0)), (1, .int 2)]) rfl ?_
            refine g_goto X dX7_laws_63 (tgt := 24) (by decide) ?_
            refine g_lv [0, 1, 2, 3, 4] (lv2 := [(4, .int (nI (i24_4 + 1))), (3, .int o51), (2, .int 0), (0, .ref (a 0)), (1, .int 2)]) rfl ?_
            exact ih24 ((i24_4 + 1), o51) L M C D F I K ⟨by omega, by omega⟩ (by show _ < _; omega)
  · skip
    refine g_aload_n X dX7_laws_0 rfl (j := 0) rfl ?_
    refine g_iload_n X dX7_laws_1 rfl (j := 1) rfl ?_
    refine g_aload_n X dX7_laws_2 rfl (j := 0) rfl ?_
    refine i_get X F 0 rfl rfl fk_X7_19 dX7_laws_3 rfl ?_
    refine g_callVI X (s_X2_isTold l G F I  ) lk_X7_198 (F.1 3 rfl).2 (F.1 3 rfl).1 rfl rfl dX7_laws_6 (Nat.le_of_ble_eq_true rfl) ⟨by decide, by decide⟩ ⟨by decide, by decide⟩ (fun r52 L M hp => ?_)
    obtain ⟨C, D, F, I, K1, hr⟩ := hp
    have K := K.step K1 (by decide)
    rcases hr with rfl | rfl
    · skip
      refine g_callVI X (s_X7_refusalOfSeen_3 l G F I (0 : Int32) HR) lk_X7_288 (F.1 0 rfl).2 (F.1 0 rfl).1 rfl rfl dX7_laws_9 (Nat.le_of_ble_eq_true rfl) ⟨by decide, by decide⟩ ⟨by decide, by decide⟩ (fun r53 L M hp => ?_)
      obtain ⟨C, D, F, I, K1, hr⟩ := hp
      have K := K.step K1 (by decide)
      rcases hr with hz54 | ⟨rfl, hA86, hz54n, gsn⟩
      · skip
        refine g_istore_n X dX7_laws_12 rfl (by decide) (lv2 := [(2, .int r53), (0, .ref (a 0)), (1, .int 3)]) rfl ?_
        refine g_iload_n X dX7_laws_13 rfl (j := 0) rfl ?_
        refine g_if_eq X dX7_laws_14 (tgt := 19) (by decide) (fun q => absurd q hz54) (fun _ => ?_)
        refine g_iload_n X dX7_laws_17 rfl (j := 0) rfl ?_
        exact g_iret X hrt dX7_laws_18 (by decide) (by decide) ⟨C, D, F, I, K, trivial⟩
      · skip
        exact absurd rfl hz54n
    · skip
      refine g_callVI X (s_X7_refusalOfSeen_3 l G F I (1 : Int32) HR) lk_X7_288 (F.1 0 rfl).2 (F.1 0 rfl).1 rfl rfl dX7_laws_9 (Nat.le_of_ble_eq_true rfl) ⟨by decide, by decide⟩ ⟨by decide, by decide⟩ (fun r56 L M hp => ?_)
      obtain ⟨C, D, F, I, K1, hr⟩ := hp
      have K := K.step K1 (by decide)
      rcases hr with hz57 | ⟨rfl, hA86, hz57n, gsn⟩
      · skip
        refine g_istore_n X dX7_laws_12 rfl (by decide) (lv2 := [(2, .int r56), (0, .ref (a 0)), (1, .int 3)]) rfl ?_
        refine g_iload_n X dX7_laws_13 rfl (j := 0) rfl ?_
        refine g_if_eq X dX7_laws_14 (tgt := 19) (by decide) (fun q => absurd q hz57) (fun _ => ?_)
        refine g_iload_n X dX7_laws_17 rfl (j := 0) rfl ?_
        exact g_iret X hrt dX7_laws_18 (by decide) (by decide) ⟨C, D, F, I, K, trivial⟩
      · skip
        have act86 : (baseact 86 || act 86) = true := by rw [hA86]; rfl
        have act87 : (baseact 87 || act 87) = true := by rw [((HR.2.2.1 3 (by decide)).trans hA86)]; rfl
        rw [(K 86 (by decide)).1, (K 87 (by decide)).2] at gsn
        refine g_istore_n X dX7_laws_12 rfl (by decide) (lv2 := [(2, .int 0), (0, .ref (a 0)), (1, .int 3)]) rfl ?_
        refine g_iload_n X dX7_laws_13 rfl (j := 0) rfl ?_
        refine g_if_eq X dX7_laws_14 (tgt := 19) (by decide) (fun _ => ?_) (fun q => absurd (by decide) q)
        refine g_iconst X dX7_laws_19 (v := 0) (by decide) ?_
        refine g_istore_n X dX7_laws_20 rfl (by decide) (lv2 := [(3, .int 0), (2, .int 0), (0, .ref (a 0)), (1, .int 3)]) rfl ?_
        refine g_iconst X dX7_laws_21 (v := 0) (by decide) ?_
        refine g_istore X dX7_laws_22 (by decide) (lv2 := [(4, .int 0), (3, .int 0), (2, .int 0), (0, .ref (a 0)), (1, .int 3)]) rfl ?_
        refine g_lv [0, 1, 2, 3, 4] (lv2 := [(4, .int 0), (3, .int 0), (2, .int 0), (0, .ref (a 0)), (1, .int 3)]) rfl ?_
        refine i_loop (mods := [31, 32, 33, 34, 35, 36]) (fun x : Nat × Int32 => 4 - x.1) (fun x => [(4, .int (nI (x.1))), (3, .int (x.2)), (2, .int 0), (0, .ref (a 0)), (1, .int 3)]) (fun x C => 0 ≤ x.1 ∧ x.1 ≤ 4) (fun x L M C D F I K hP ih24 => ?_) ((0, 0) : Nat × Int32) F I K ⟨by show _ ≤ _; omega, by show _ ≤ _; omega⟩
        rcases x with ⟨i24_4, v24_3⟩
        obtain ⟨hi24_4a, hi24_4b⟩ := hP
        refine g_lv [0, 1, 2, 3, 4] (lv2 := [(4, .int (nI i24_4)), (3, .int v24_3), (2, .int 0), (0, .ref (a 0)), (1, .int 3)]) rfl ?_
        refine g_iload X dX7_laws_24 (j := 0) rfl ?_
        refine g_iconst X dX7_laws_26 (v := 3) (by decide) ?_
        refine g_icmp_gt X dX7_laws_27 (tgt := 66) (by decide) (fun q59 => ?_) (fun q59 => ?_)
        · skip
          have q59 : 3 < i24_4 := (nI_ltI (a := 3) (b := i24_4) (by omega) (by omega)).mp q59
          refine g_iload_n X dX7_laws_66 rfl (j := 1) rfl ?_
          exact g_iret X hrt dX7_laws_67 (by decide) (by decide) ⟨C, D, F, I, K, trivial⟩
        · skip
          have q59 : ¬ 3 < i24_4 := fun z => q59 ((nI_ltI (a := 3) (b := i24_4) (by omega) (by omega)).mpr z)
          refine g_aload_n X dX7_laws_30 rfl (j := 3) rfl ?_
          refine g_iload X dX7_laws_31 (j := 0) rfl ?_
          refine g_callVV X (s_X7_runByLaw l G F I (nI i24_4) ) lk_X7_303 (F.1 0 rfl).2 (F.1 0 rfl).1 rfl rfl dX7_laws_33 (Nat.le_of_ble_eq_true rfl) ⟨by decide, by decide⟩ ⟨by decide, by decide⟩ (fun L M hp => ?_)
          obtain ⟨C, D, F, I, K1, hr⟩ := hp
          have K := K.step K1 (by decide)
          refine g_aload_n X dX7_laws_36 rfl (j := 3) rfl ?_
          refine g_aload_n X dX7_laws_37 rfl (j := 3) rfl ?_
          refine i_get X F 0 rfl rfl fk_X7_32 dX7_laws_38 rfl ?_
          refine g_iload_n X dX7_laws_41 rfl (j := 4) rfl ?_
          refine i_aald X F 24 rfl (t0 := 5) rfl rfl dX7_laws_42 (vp_in_iff.mpr (by decide)) (v := .ref (a 86)) (by show va_rf (R 24 3) = _; rw [HR.1 3 (by decide)]; rw [if_pos hA86]; rfl) ?_
          refine g_aload_n X dX7_laws_43 rfl (j := 3) rfl ?_
          refine i_get X F 0 rfl rfl fk_X7_45 dX7_laws_44 rfl ?_
          refine g_callVI X (s_X7_agrees_86 l G F I  act86 act87 (by rw [(K 86 (by decide)).1, (K 87 (by decide)).2]; exact gsn)) lk_X7_306 (F.1 0 rfl).2 (F.1 0 rfl).1 rfl rfl dX7_laws_47 (Nat.le_of_ble_eq_true rfl) ⟨by decide, by decide⟩ ⟨by decide, by decide⟩ (fun r61 L M hp => ?_)
          obtain ⟨C, D, F, I, K1, hr⟩ := hp
          have K := K.step K1 (by decide)
          rcases hr with rfl | rfl
          · skip
            refine g_if_eq X dX7_laws_50 (tgt := 60) (by decide) (fun _ => ?_) (fun q => absurd (by decide) q)
            refine g_iinc X dX7_laws_60 (j := 0) rfl (v := nI (i24_4 + 1)) (nI_1 i24_4) (by decide) (lv2 := [(4, .int (nI (i24_4 + 1))), (3, .int v24_3), (2, .int 0), (0, .ref (a 0)), (1, .int 3)]) rfl ?_
            refine g_goto X dX7_laws_63 (tgt := 24) (by decide) ?_
            refine g_lv [0, 1, 2, 3, 4] (lv2 := [(4, .int (nI (i24_4 + 1))), (3, .int v24_3), (2, .int 0), (0, .ref (a 0)), (1, .int 3)]) rfl ?_
            exact ih24 ((i24_4 + 1), v24_3) L M C D F I K ⟨by omega, by omega⟩ (by show _ < _; omega)
          · skip
            refine g_if_eq X dX7_laws_50 (tgt := 60) (by decide) (fun q => absurd q (by decide)) (fun _ => ?_)
            refine g_iload_n X dX7_laws_53 rfl (j := 1) rfl ?_
            refine g_iconst X dX7_laws_54 (v := 1) (by decide) ?_
            refine g_iload X dX7_laws_55 (j := 0) rfl ?_
            refine g_ishl X dX7_laws_57 ?_
            refine Go.gen (fun o62 => ?_)
            refine g_ior X dX7_laws_58 ?_
            refine Go.gen (fun o63 => ?_)
            refine g_istore_n X dX7_laws_59 rfl (by decide) (lv2 := [(3, .int o63), (4, .int (nI i24_4)), (2, .int 0), (0, .ref (a 0)), (1, .int 3)]) rfl ?_
            refine g_iinc X dX7_laws_60 (j := 1) rfl (v := nI (i24_4 + 1)) (nI_1 i24_4) (by decide) (lv2 := [(4, .int (nI (i24_4 + 1))), (3, .int o63), (2, .int 0), (0, .ref (a 0)), (1, .int 3)]) rfl ?_
            refine g_goto X dX7_laws_63 (tgt := 24) (by decide) ?_
            refine g_lv [0, 1, 2, 3, 4] (lv2 := [(4, .int (nI (i24_4 + 1))), (3, .int o63), (2, .int 0), (0, .ref (a 0)), (1, .int 3)]) rfl ?_
            exact ih24 ((i24_4 + 1), o63) L M C D F I K ⟨by omega, by omega⟩ (by show _ < _; omega)
set_option maxHeartbeats 4000000 in
set_option maxRecDepth 100000 in
theorem s_X5_cut_80 (l : Launch) (G : va_G) {cy : Nat → ClassId} {L : List Nat} {M : Nat → va_E} {a : Nat → Nat} {act : Nat → Bool} {C0 : Nat → Nat → Int32} {D0 : Nat → Nat → Int64} {R : Nat → Nat → Option Nat} (F : WI L M a act (ent cy a C0 D0 R)) (I : Inv C0) (p0 : Int64) (act80 : (baseact 80 || act 80) = true) : MJ l G cy yX5_cut cX5_cut 3 (some .long) 0 0 0 [.ref (a 80), .long p0] L M (fun r L2 M2 => ∃ C2 D2, WI L2 M2 a act (ent cy a C2 D2 R) ∧ Inv C2 ∧ Kp [] C0 D0 C2 D2 ∧ True) := by
  refine MJ.of (own := RX5) rfl (by decide) (Nat.le_of_ble_eq_true rfl) ?_
  intro p e s m below meth c A X hrt hnm
  obtain ⟨C, D, hC0, hD0, F, I, K⟩ : ∃ C D, C = C0 ∧ D = D0 ∧ WI L M a act (ent cy a C D R) ∧ Inv C ∧ Kp [] C0 D0 C D := ⟨C0, D0, rfl, rfl, F, I, Kp.rf⟩
  refine g_aload_n X dX5_cut_0 rfl (j := 0) rfl ?_
  refine i_get X F 80 (act80) rfl fk_X5_15 dX5_cut_1 rfl ?_
  refine Go.gen (fun o1 => ?_)
  rcases sc3 o1 with h2 | h3 | rfl | rfl | rfl
  · skip
    refine g_tableOut X dX5_cut_4 (Or.inl (by have z := Int32.lt_iff_toInt_lt.mp h2; have k : (0 : Int32).toInt = 0 := (by decide); omega)) (tgt := 46) (by decide) ?_
    refine g_lload_n X dX5_cut_46 rfl (j := 1) rfl ?_
    exact g_lret X hrt dX5_cut_47 (by decide) (by decide) ⟨C, D, F, I, K, trivial⟩
  · skip
    refine g_tableOut X dX5_cut_4 (Or.inr (by have z := Int32.le_iff_toInt_le.mp h3; have k : (3 : Int32).toInt = 3 := (by decide); omega)) (tgt := 46) (by decide) ?_
    refine g_lload_n X dX5_cut_46 rfl (j := 1) rfl ?_
    exact g_lret X hrt dX5_cut_47 (by decide) (by decide) ⟨C, D, F, I, K, trivial⟩
  · skip
    refine g_tableIn X dX5_cut_4 (by decide) (by decide) (off := 28) (by decide) (tgt := 32) (by decide) ?_
    refine g_lload_n X dX5_cut_32 rfl (j := 1) rfl ?_
    refine g_l2i X dX5_cut_33 rfl ?_
    refine Go.gen (fun o4 => ?_)
    refine g_i2b X dX5_cut_34 rfl ?_
    refine Go.gen (fun o5 => ?_)
    refine g_i2l X dX5_cut_35 rfl ?_
    exact g_lret X hrt dX5_cut_36 (by decide) (by decide) ⟨C, D, F, I, K, trivial⟩
  · skip
    refine g_tableIn X dX5_cut_4 (by decide) (by decide) (off := 33) (by decide) (tgt := 37) (by decide) ?_
    refine g_lload_n X dX5_cut_37 rfl (j := 1) rfl ?_
    refine g_l2i X dX5_cut_38 rfl ?_
    refine Go.gen (fun o6 => ?_)
    refine g_i2s X dX5_cut_39 rfl ?_
    refine Go.gen (fun o7 => ?_)
    refine g_i2l X dX5_cut_40 rfl ?_
    exact g_lret X hrt dX5_cut_41 (by decide) (by decide) ⟨C, D, F, I, K, trivial⟩
  · skip
    refine g_tableIn X dX5_cut_4 (by decide) (by decide) (off := 38) (by decide) (tgt := 42) (by decide) ?_
    refine g_lload_n X dX5_cut_42 rfl (j := 1) rfl ?_
    refine g_l2i X dX5_cut_43 rfl ?_
    refine Go.gen (fun o8 => ?_)
    refine g_i2l X dX5_cut_44 rfl ?_
    exact g_lret X hrt dX5_cut_45 (by decide) (by decide) ⟨C, D, F, I, K, trivial⟩
set_option maxHeartbeats 4000000 in
set_option maxRecDepth 100000 in
theorem s_X5_put_80 (l : Launch) (G : va_G) {cy : Nat → ClassId} {L : List Nat} {M : Nat → va_E} {a : Nat → Nat} {act : Nat → Bool} {C0 : Nat → Nat → Int32} {D0 : Nat → Nat → Int64} {R : Nat → Nat → Option Nat} (F : WI L M a act (ent cy a C0 D0 R)) (I : Inv C0) (p0 : Nat) (hp0a : 0 ≤ p0) (hp0b : p0 ≤ 59) (p1 : Int64) (act80 : (baseact 80 || act 80) = true) (act81 : (baseact 81 || act 81) = true) : MV l G cy yX5_put cX5_put 4 none 1 0 0 [.ref (a 80), .int (nI p0), .long p1] L M (fun L2 M2 => ∃ C2 D2, WI L2 M2 a act (ent cy a C2 D2 R) ∧ Inv C2 ∧ Kp [81] C0 D0 C2 D2 ∧ True) := by
  refine MV.of (own := RX5) rfl (by decide) (Nat.le_of_ble_eq_true rfl) ?_
  intro p e s m below meth c A X hrt hnm
  obtain ⟨C, D, hC0, hD0, F, I, K⟩ : ∃ C D, C = C0 ∧ D = D0 ∧ WI L M a act (ent cy a C D R) ∧ Inv C ∧ Kp [81] C0 D0 C D := ⟨C0, D0, rfl, rfl, F, I, Kp.rf⟩
  refine g_aload_n X dX5_put_0 rfl (j := 0) rfl ?_
  refine i_get X F 80 (act80) rfl fk_X5_9 dX5_put_1 rfl ?_
  refine g_iload_n X dX5_put_4 rfl (j := 1) rfl ?_
  refine g_aload_n X dX5_put_5 rfl (j := 0) rfl ?_
  refine g_lload_n X dX5_put_6 rfl (j := 2) rfl ?_
  refine g_callVJ X (s_X5_cut_80 l G F I p1 act80) lk_X5_28 (F.1 80 (act80)).2 (F.1 80 (act80)).1 rfl rfl dX5_put_7 (Nat.le_of_ble_eq_true rfl) ⟨by decide, by decide⟩ ⟨by decide, by decide⟩ (fun r1 L M hp => ?_)
  obtain ⟨C, D, F, I, K1, hr⟩ := hp
  have K := K.step K1 (by decide)
  refine i_last X F 81 (act81) (fun _ => rfl) dX5_put_10 (vp_in_nI (by omega) (by decide)) (fun M D F K1 hC => ?_)
  have K := K.step K1 (by decide)
  exact g_vret X hrt dX5_put_11 (by decide) (by decide) ⟨C, D, F, I, K, trivial⟩
set_option maxHeartbeats 4000000 in
set_option maxRecDepth 100000 in
theorem s_X5_hasPart_80 (l : Launch) (G : va_G) {cy : Nat → ClassId} {L : List Nat} {M : Nat → va_E} {a : Nat → Nat} {act : Nat → Bool} {C0 : Nat → Nat → Int32} {D0 : Nat → Nat → Int64} {R : Nat → Nat → Option Nat} (F : WI L M a act (ent cy a C0 D0 R)) (I : Inv C0) (p0 : Int32) (p1 : Int32) (act80 : (baseact 80 || act 80) = true) : MI l G cy yX5_hasPart cX5_hasPart 3 (some .boolean) 0 0 0 [.ref (a 80), .int p0, .int p1] L M (fun r L2 M2 => ∃ C2 D2, WI L2 M2 a act (ent cy a C2 D2 R) ∧ Inv C2 ∧ Kp [] C0 D0 C2 D2 ∧ ((r = 0 ∧ ¬ (0 ≤ p0.toInt ∧ 0 ≤ p1.toInt ∧ p0.toInt + p1.toInt ≤ (C2 80 2).toInt)) ∨ (r = 1 ∧ 0 ≤ p0.toInt ∧ 0 ≤ p1.toInt ∧ p0.toInt + p1.toInt ≤ (C2 80 2).toInt))) := by
  refine MI.of (own := RX5) rfl (by decide) (Nat.le_of_ble_eq_true rfl) ?_
  intro p e s m below meth c A X hrt hnm
  obtain ⟨C, D, hC0, hD0, F, I, K⟩ : ∃ C D, C = C0 ∧ D = D0 ∧ WI L M a act (ent cy a C D R) ∧ Inv C ∧ Kp [] C0 D0 C D := ⟨C0, D0, rfl, rfl, F, I, Kp.rf⟩
  obtain ⟨n1, hn1, en1⟩ := rg_nat (I 80 2 rfl) (by decide)
  rw [hC0] at en1
  refine g_iload_n X dX5_hasPart_0 rfl (j := 1) rfl ?_
  refine g_if_lt X dX5_hasPart_1 (tgt := 26) (by decide) (fun q2 => ?_) (fun q2 => ?_)
  · skip
    have q2t : p0.toInt < (0 : Int32).toInt := Int32.lt_iff_toInt_lt.mp q2
    have q2k : (0 : Int32).toInt = 0 := (by decide)
    have q2b := Int32.toInt_lt p0
    refine g_iconst X dX5_hasPart_26 (v := 0) (by decide) ?_
    exact g_zret X hrt rfl dX5_hasPart_27 (by decide) (by decide) ⟨C, D, F, I, K, (by have ez : (C 80 2).toInt = n1 := (by rw [(K 80 (by decide)).1, en1, nI_toInt (by omega)]); exact Or.inl ⟨rfl, (by first | omega | (have k0 : (0 : Int32).toInt = 0 := (by decide); have z := Int32.lt_iff_toInt_lt.mp trivial; omega))⟩)⟩
  · skip
    have q2t : ¬ p0.toInt < (0 : Int32).toInt := fun z => q2 (Int32.lt_iff_toInt_lt.mpr z)
    have q2k : (0 : Int32).toInt = 0 := (by decide)
    have q2b := Int32.toInt_lt p0
    obtain ⟨n3, hn3, rfl⟩ := nI_of (x := p0) (fun z => by have z2 := Int32.lt_iff_toInt_lt.mp z; have z3 : (0 : Int32).toInt = 0 := (by decide); omega)
    rw [nI_toInt (by omega)] at q2t
    have tn3 := nI_toInt (n := n3) (by omega)
    refine g_iload_n X dX5_hasPart_4 rfl (j := 2) rfl ?_
    refine g_if_lt X dX5_hasPart_5 (tgt := 26) (by decide) (fun q4 => ?_) (fun q4 => ?_)
    · skip
      have q4t : p1.toInt < (0 : Int32).toInt := Int32.lt_iff_toInt_lt.mp q4
      have q4k : (0 : Int32).toInt = 0 := (by decide)
      have q4b := Int32.toInt_lt p1
      refine g_iconst X dX5_hasPart_26 (v := 0) (by decide) ?_
      exact g_zret X hrt rfl dX5_hasPart_27 (by decide) (by decide) ⟨C, D, F, I, K, (by have ez : (C 80 2).toInt = n1 := (by rw [(K 80 (by decide)).1, en1, nI_toInt (by omega)]); have t0 := nI_toInt (n := n3) (by omega); exact Or.inl ⟨rfl, (by first | omega | (have k0 : (0 : Int32).toInt = 0 := (by decide); have z := Int32.lt_iff_toInt_lt.mp trivial; omega))⟩)⟩
    · skip
      have q4t : ¬ p1.toInt < (0 : Int32).toInt := fun z => q4 (Int32.lt_iff_toInt_lt.mpr z)
      have q4k : (0 : Int32).toInt = 0 := (by decide)
      have q4b := Int32.toInt_lt p1
      obtain ⟨n5, hn5, rfl⟩ := nI_of (x := p1) (fun z => by have z2 := Int32.lt_iff_toInt_lt.mp z; have z3 : (0 : Int32).toInt = 0 := (by decide); omega)
      rw [nI_toInt (by omega)] at q4t
      have tn5 := nI_toInt (n := n5) (by omega)
      refine g_iload_n X dX5_hasPart_8 rfl (j := 1) rfl ?_
      refine g_i2l X dX5_hasPart_9 rfl ?_
      refine g_iload_n X dX5_hasPart_10 rfl (j := 2) rfl ?_
      refine g_i2l X dX5_hasPart_11 rfl ?_
      refine g_ladd X dX5_hasPart_12 ?_
      have hadd := ladd_n (x := n3) (y := n5) (by omega) (by omega)
      refine g_aload_n X dX5_hasPart_13 rfl (j := 0) rfl ?_
      refine i_get X F 80 (act80) rfl fk_X5_19 dX5_hasPart_14 (v := .int (nI n1)) (congrArg (fun z => some (Value.int z)) ((congrFun (K 80 (by decide)).1 2).trans en1)) ?_
      refine g_i2l X dX5_hasPart_17 rfl ?_
      refine g_lcmp X dX5_hasPart_18 ?_
      refine g_if_gt X dX5_hasPart_19 (tgt := 26) (by decide) (fun q6 => ?_) (fun q6 => ?_)
      · skip
        have q6t : ((Int32.toInt64 (nI n1))).toInt < (((nI n3).toInt64 + (nI n5).toInt64)).toInt := Int64.lt_iff_toInt_lt.mp ((lg_cmp_gt _ _).mp q6)
        have q6wb := Jvm.Kit.i64_of_i32 (nI n1)
        rw [nI_toInt (by omega)] at q6wb
        refine g_iconst X dX5_hasPart_26 (v := 0) (by decide) ?_
        exact g_zret X hrt rfl dX5_hasPart_27 (by decide) (by decide) ⟨C, D, F, I, K, (by have ez : (C 80 2).toInt = n1 := (by rw [(K 80 (by decide)).1, en1, nI_toInt (by omega)]); have t0 := nI_toInt (n := n3) (by omega); have t1 := nI_toInt (n := n5) (by omega); exact Or.inl ⟨rfl, (by first | omega | (have k0 : (0 : Int32).toInt = 0 := (by decide); have z := Int32.lt_iff_toInt_lt.mp trivial; omega))⟩)⟩
      · skip
        have q6t : ¬ ((Int32.toInt64 (nI n1))).toInt < (((nI n3).toInt64 + (nI n5).toInt64)).toInt := fun z => q6 ((lg_cmp_gt _ _).mpr (Int64.lt_iff_toInt_lt.mpr z))
        have q6wb := Jvm.Kit.i64_of_i32 (nI n1)
        rw [nI_toInt (by omega)] at q6wb
        refine g_iconst X dX5_hasPart_22 (v := 1) (by decide) ?_
        refine g_goto X dX5_hasPart_23 (tgt := 27) (by decide) ?_
        exact g_zret X hrt rfl dX5_hasPart_27 (by decide) (by decide) ⟨C, D, F, I, K, (by have ez : (C 80 2).toInt = n1 := (by rw [(K 80 (by decide)).1, en1, nI_toInt (by omega)]); have t0 := nI_toInt (n := n3) (by omega); have t1 := nI_toInt (n := n5) (by omega); exact Or.inr ⟨rfl, by omega, by omega, by omega⟩)⟩
set_option maxHeartbeats 4000000 in
set_option maxRecDepth 100000 in
theorem s_X5_cut_82 (l : Launch) (G : va_G) {cy : Nat → ClassId} {L : List Nat} {M : Nat → va_E} {a : Nat → Nat} {act : Nat → Bool} {C0 : Nat → Nat → Int32} {D0 : Nat → Nat → Int64} {R : Nat → Nat → Option Nat} (F : WI L M a act (ent cy a C0 D0 R)) (I : Inv C0) (p0 : Int64) (act82 : (baseact 82 || act 82) = true) : MJ l G cy yX5_cut cX5_cut 3 (some .long) 0 0 0 [.ref (a 82), .long p0] L M (fun r L2 M2 => ∃ C2 D2, WI L2 M2 a act (ent cy a C2 D2 R) ∧ Inv C2 ∧ Kp [] C0 D0 C2 D2 ∧ True) := by
  refine MJ.of (own := RX5) rfl (by decide) (Nat.le_of_ble_eq_true rfl) ?_
  intro p e s m below meth c A X hrt hnm
  obtain ⟨C, D, hC0, hD0, F, I, K⟩ : ∃ C D, C = C0 ∧ D = D0 ∧ WI L M a act (ent cy a C D R) ∧ Inv C ∧ Kp [] C0 D0 C D := ⟨C0, D0, rfl, rfl, F, I, Kp.rf⟩
  refine g_aload_n X dX5_cut_0 rfl (j := 0) rfl ?_
  refine i_get X F 82 (act82) rfl fk_X5_15 dX5_cut_1 rfl ?_
  refine Go.gen (fun o1 => ?_)
  rcases sc3 o1 with h2 | h3 | rfl | rfl | rfl
  · skip
    refine g_tableOut X dX5_cut_4 (Or.inl (by have z := Int32.lt_iff_toInt_lt.mp h2; have k : (0 : Int32).toInt = 0 := (by decide); omega)) (tgt := 46) (by decide) ?_
    refine g_lload_n X dX5_cut_46 rfl (j := 1) rfl ?_
    exact g_lret X hrt dX5_cut_47 (by decide) (by decide) ⟨C, D, F, I, K, trivial⟩
  · skip
    refine g_tableOut X dX5_cut_4 (Or.inr (by have z := Int32.le_iff_toInt_le.mp h3; have k : (3 : Int32).toInt = 3 := (by decide); omega)) (tgt := 46) (by decide) ?_
    refine g_lload_n X dX5_cut_46 rfl (j := 1) rfl ?_
    exact g_lret X hrt dX5_cut_47 (by decide) (by decide) ⟨C, D, F, I, K, trivial⟩
  · skip
    refine g_tableIn X dX5_cut_4 (by decide) (by decide) (off := 28) (by decide) (tgt := 32) (by decide) ?_
    refine g_lload_n X dX5_cut_32 rfl (j := 1) rfl ?_
    refine g_l2i X dX5_cut_33 rfl ?_
    refine Go.gen (fun o4 => ?_)
    refine g_i2b X dX5_cut_34 rfl ?_
    refine Go.gen (fun o5 => ?_)
    refine g_i2l X dX5_cut_35 rfl ?_
    exact g_lret X hrt dX5_cut_36 (by decide) (by decide) ⟨C, D, F, I, K, trivial⟩
  · skip
    refine g_tableIn X dX5_cut_4 (by decide) (by decide) (off := 33) (by decide) (tgt := 37) (by decide) ?_
    refine g_lload_n X dX5_cut_37 rfl (j := 1) rfl ?_
    refine g_l2i X dX5_cut_38 rfl ?_
    refine Go.gen (fun o6 => ?_)
    refine g_i2s X dX5_cut_39 rfl ?_
    refine Go.gen (fun o7 => ?_)
    refine g_i2l X dX5_cut_40 rfl ?_
    exact g_lret X hrt dX5_cut_41 (by decide) (by decide) ⟨C, D, F, I, K, trivial⟩
  · skip
    refine g_tableIn X dX5_cut_4 (by decide) (by decide) (off := 38) (by decide) (tgt := 42) (by decide) ?_
    refine g_lload_n X dX5_cut_42 rfl (j := 1) rfl ?_
    refine g_l2i X dX5_cut_43 rfl ?_
    refine Go.gen (fun o8 => ?_)
    refine g_i2l X dX5_cut_44 rfl ?_
    exact g_lret X hrt dX5_cut_45 (by decide) (by decide) ⟨C, D, F, I, K, trivial⟩
set_option maxHeartbeats 4000000 in
set_option maxRecDepth 100000 in
theorem s_X5_put_82 (l : Launch) (G : va_G) {cy : Nat → ClassId} {L : List Nat} {M : Nat → va_E} {a : Nat → Nat} {act : Nat → Bool} {C0 : Nat → Nat → Int32} {D0 : Nat → Nat → Int64} {R : Nat → Nat → Option Nat} (F : WI L M a act (ent cy a C0 D0 R)) (I : Inv C0) (p0 : Nat) (hp0a : 0 ≤ p0) (hp0b : p0 ≤ 59) (p1 : Int64) (act82 : (baseact 82 || act 82) = true) (act83 : (baseact 83 || act 83) = true) : MV l G cy yX5_put cX5_put 4 none 1 0 0 [.ref (a 82), .int (nI p0), .long p1] L M (fun L2 M2 => ∃ C2 D2, WI L2 M2 a act (ent cy a C2 D2 R) ∧ Inv C2 ∧ Kp [83] C0 D0 C2 D2 ∧ True) := by
  refine MV.of (own := RX5) rfl (by decide) (Nat.le_of_ble_eq_true rfl) ?_
  intro p e s m below meth c A X hrt hnm
  obtain ⟨C, D, hC0, hD0, F, I, K⟩ : ∃ C D, C = C0 ∧ D = D0 ∧ WI L M a act (ent cy a C D R) ∧ Inv C ∧ Kp [83] C0 D0 C D := ⟨C0, D0, rfl, rfl, F, I, Kp.rf⟩
  refine g_aload_n X dX5_put_0 rfl (j := 0) rfl ?_
  refine i_get X F 82 (act82) rfl fk_X5_9 dX5_put_1 rfl ?_
  refine g_iload_n X dX5_put_4 rfl (j := 1) rfl ?_
  refine g_aload_n X dX5_put_5 rfl (j := 0) rfl ?_
  refine g_lload_n X dX5_put_6 rfl (j := 2) rfl ?_
  refine g_callVJ X (s_X5_cut_82 l G F I p1 act82) lk_X5_28 (F.1 82 (act82)).2 (F.1 82 (act82)).1 rfl rfl dX5_put_7 (Nat.le_of_ble_eq_true rfl) ⟨by decide, by decide⟩ ⟨by decide, by decide⟩ (fun r1 L M hp => ?_)
  obtain ⟨C, D, F, I, K1, hr⟩ := hp
  have K := K.step K1 (by decide)
  refine i_last X F 83 (act83) (fun _ => rfl) dX5_put_10 (vp_in_nI (by omega) (by decide)) (fun M D F K1 hC => ?_)
  have K := K.step K1 (by decide)
  exact g_vret X hrt dX5_put_11 (by decide) (by decide) ⟨C, D, F, I, K, trivial⟩
set_option maxHeartbeats 4000000 in
set_option maxRecDepth 100000 in
theorem s_X5_hasPart_82 (l : Launch) (G : va_G) {cy : Nat → ClassId} {L : List Nat} {M : Nat → va_E} {a : Nat → Nat} {act : Nat → Bool} {C0 : Nat → Nat → Int32} {D0 : Nat → Nat → Int64} {R : Nat → Nat → Option Nat} (F : WI L M a act (ent cy a C0 D0 R)) (I : Inv C0) (p0 : Int32) (p1 : Int32) (act82 : (baseact 82 || act 82) = true) : MI l G cy yX5_hasPart cX5_hasPart 3 (some .boolean) 0 0 0 [.ref (a 82), .int p0, .int p1] L M (fun r L2 M2 => ∃ C2 D2, WI L2 M2 a act (ent cy a C2 D2 R) ∧ Inv C2 ∧ Kp [] C0 D0 C2 D2 ∧ ((r = 0 ∧ ¬ (0 ≤ p0.toInt ∧ 0 ≤ p1.toInt ∧ p0.toInt + p1.toInt ≤ (C2 82 2).toInt)) ∨ (r = 1 ∧ 0 ≤ p0.toInt ∧ 0 ≤ p1.toInt ∧ p0.toInt + p1.toInt ≤ (C2 82 2).toInt))) := by
  refine MI.of (own := RX5) rfl (by decide) (Nat.le_of_ble_eq_true rfl) ?_
  intro p e s m below meth c A X hrt hnm
  obtain ⟨C, D, hC0, hD0, F, I, K⟩ : ∃ C D, C = C0 ∧ D = D0 ∧ WI L M a act (ent cy a C D R) ∧ Inv C ∧ Kp [] C0 D0 C D := ⟨C0, D0, rfl, rfl, F, I, Kp.rf⟩
  obtain ⟨n1, hn1, en1⟩ := rg_nat (I 82 2 rfl) (by decide)
  rw [hC0] at en1
  refine g_iload_n X dX5_hasPart_0 rfl (j := 1) rfl ?_
  refine g_if_lt X dX5_hasPart_1 (tgt := 26) (by decide) (fun q2 => ?_) (fun q2 => ?_)
  · skip
    have q2t : p0.toInt < (0 : Int32).toInt := Int32.lt_iff_toInt_lt.mp q2
    have q2k : (0 : Int32).toInt = 0 := (by decide)
    have q2b := Int32.toInt_lt p0
    refine g_iconst X dX5_hasPart_26 (v := 0) (by decide) ?_
    exact g_zret X hrt rfl dX5_hasPart_27 (by decide) (by decide) ⟨C, D, F, I, K, (by have ez : (C 82 2).toInt = n1 := (by rw [(K 82 (by decide)).1, en1, nI_toInt (by omega)]); exact Or.inl ⟨rfl, (by first | omega | (have k0 : (0 : Int32).toInt = 0 := (by decide); have z := Int32.lt_iff_toInt_lt.mp trivial; omega))⟩)⟩
  · skip
    have q2t : ¬ p0.toInt < (0 : Int32).toInt := fun z => q2 (Int32.lt_iff_toInt_lt.mpr z)
    have q2k : (0 : Int32).toInt = 0 := (by decide)
    have q2b := Int32.toInt_lt p0
    obtain ⟨n3, hn3, rfl⟩ := nI_of (x := p0) (fun z => by have z2 := Int32.lt_iff_toInt_lt.mp z; have z3 : (0 : Int32).toInt = 0 := (by decide); omega)
    rw [nI_toInt (by omega)] at q2t
    have tn3 := nI_toInt (n := n3) (by omega)
    refine g_iload_n X dX5_hasPart_4 rfl (j := 2) rfl ?_
    refine g_if_lt X dX5_hasPart_5 (tgt := 26) (by decide) (fun q4 => ?_) (fun q4 => ?_)
    · skip
      have q4t : p1.toInt < (0 : Int32).toInt := Int32.lt_iff_toInt_lt.mp q4
      have q4k : (0 : Int32).toInt = 0 := (by decide)
      have q4b := Int32.toInt_lt p1
      refine g_iconst X dX5_hasPart_26 (v := 0) (by decide) ?_
      exact g_zret X hrt rfl dX5_hasPart_27 (by decide) (by decide) ⟨C, D, F, I, K, (by have ez : (C 82 2).toInt = n1 := (by rw [(K 82 (by decide)).1, en1, nI_toInt (by omega)]); have t0 := nI_toInt (n := n3) (by omega); exact Or.inl ⟨rfl, (by first | omega | (have k0 : (0 : Int32).toInt = 0 := (by decide); have z := Int32.lt_iff_toInt_lt.mp trivial; omega))⟩)⟩
    · skip
      have q4t : ¬ p1.toInt < (0 : Int32).toInt := fun z => q4 (Int32.lt_iff_toInt_lt.mpr z)
      have q4k : (0 : Int32).toInt = 0 := (by decide)
      have q4b := Int32.toInt_lt p1
      obtain ⟨n5, hn5, rfl⟩ := nI_of (x := p1) (fun z => by have z2 := Int32.lt_iff_toInt_lt.mp z; have z3 : (0 : Int32).toInt = 0 := (by decide); omega)
      rw [nI_toInt (by omega)] at q4t
      have tn5 := nI_toInt (n := n5) (by omega)
      refine g_iload_n X dX5_hasPart_8 rfl (j := 1) rfl ?_
      refine g_i2l X dX5_hasPart_9 rfl ?_
      refine g_iload_n X dX5_hasPart_10 rfl (j := 2) rfl ?_
      refine g_i2l X dX5_hasPart_11 rfl ?_
      refine g_ladd X dX5_hasPart_12 ?_
      have hadd := ladd_n (x := n3) (y := n5) (by omega) (by omega)
      refine g_aload_n X dX5_hasPart_13 rfl (j := 0) rfl ?_
      refine i_get X F 82 (act82) rfl fk_X5_19 dX5_hasPart_14 (v := .int (nI n1)) (congrArg (fun z => some (Value.int z)) ((congrFun (K 82 (by decide)).1 2).trans en1)) ?_
      refine g_i2l X dX5_hasPart_17 rfl ?_
      refine g_lcmp X dX5_hasPart_18 ?_
      refine g_if_gt X dX5_hasPart_19 (tgt := 26) (by decide) (fun q6 => ?_) (fun q6 => ?_)
      · skip
        have q6t : ((Int32.toInt64 (nI n1))).toInt < (((nI n3).toInt64 + (nI n5).toInt64)).toInt := Int64.lt_iff_toInt_lt.mp ((lg_cmp_gt _ _).mp q6)
        have q6wb := Jvm.Kit.i64_of_i32 (nI n1)
        rw [nI_toInt (by omega)] at q6wb
        refine g_iconst X dX5_hasPart_26 (v := 0) (by decide) ?_
        exact g_zret X hrt rfl dX5_hasPart_27 (by decide) (by decide) ⟨C, D, F, I, K, (by have ez : (C 82 2).toInt = n1 := (by rw [(K 82 (by decide)).1, en1, nI_toInt (by omega)]); have t0 := nI_toInt (n := n3) (by omega); have t1 := nI_toInt (n := n5) (by omega); exact Or.inl ⟨rfl, (by first | omega | (have k0 : (0 : Int32).toInt = 0 := (by decide); have z := Int32.lt_iff_toInt_lt.mp trivial; omega))⟩)⟩
      · skip
        have q6t : ¬ ((Int32.toInt64 (nI n1))).toInt < (((nI n3).toInt64 + (nI n5).toInt64)).toInt := fun z => q6 ((lg_cmp_gt _ _).mpr (Int64.lt_iff_toInt_lt.mpr z))
        have q6wb := Jvm.Kit.i64_of_i32 (nI n1)
        rw [nI_toInt (by omega)] at q6wb
        refine g_iconst X dX5_hasPart_22 (v := 1) (by decide) ?_
        refine g_goto X dX5_hasPart_23 (tgt := 27) (by decide) ?_
        exact g_zret X hrt rfl dX5_hasPart_27 (by decide) (by decide) ⟨C, D, F, I, K, (by have ez : (C 82 2).toInt = n1 := (by rw [(K 82 (by decide)).1, en1, nI_toInt (by omega)]); have t0 := nI_toInt (n := n3) (by omega); have t1 := nI_toInt (n := n5) (by omega); exact Or.inr ⟨rfl, by omega, by omega, by omega⟩)⟩
set_option maxHeartbeats 4000000 in
set_option maxRecDepth 100000 in
theorem s_X5_cut_84 (l : Launch) (G : va_G) {cy : Nat → ClassId} {L : List Nat} {M : Nat → va_E} {a : Nat → Nat} {act : Nat → Bool} {C0 : Nat → Nat → Int32} {D0 : Nat → Nat → Int64} {R : Nat → Nat → Option Nat} (F : WI L M a act (ent cy a C0 D0 R)) (I : Inv C0) (p0 : Int64) (act84 : (baseact 84 || act 84) = true) : MJ l G cy yX5_cut cX5_cut 3 (some .long) 0 0 0 [.ref (a 84), .long p0] L M (fun r L2 M2 => ∃ C2 D2, WI L2 M2 a act (ent cy a C2 D2 R) ∧ Inv C2 ∧ Kp [] C0 D0 C2 D2 ∧ True) := by
  refine MJ.of (own := RX5) rfl (by decide) (Nat.le_of_ble_eq_true rfl) ?_
  intro p e s m below meth c A X hrt hnm
  obtain ⟨C, D, hC0, hD0, F, I, K⟩ : ∃ C D, C = C0 ∧ D = D0 ∧ WI L M a act (ent cy a C D R) ∧ Inv C ∧ Kp [] C0 D0 C D := ⟨C0, D0, rfl, rfl, F, I, Kp.rf⟩
  refine g_aload_n X dX5_cut_0 rfl (j := 0) rfl ?_
  refine i_get X F 84 (act84) rfl fk_X5_15 dX5_cut_1 rfl ?_
  refine Go.gen (fun o1 => ?_)
  rcases sc3 o1 with h2 | h3 | rfl | rfl | rfl
  · skip
    refine g_tableOut X dX5_cut_4 (Or.inl (by have z := Int32.lt_iff_toInt_lt.mp h2; have k : (0 : Int32).toInt = 0 := (by decide); omega)) (tgt := 46) (by decide) ?_
    refine g_lload_n X dX5_cut_46 rfl (j := 1) rfl ?_
    exact g_lret X hrt dX5_cut_47 (by decide) (by decide) ⟨C, D, F, I, K, trivial⟩
  · skip
    refine g_tableOut X dX5_cut_4 (Or.inr (by have z := Int32.le_iff_toInt_le.mp h3; have k : (3 : Int32).toInt = 3 := (by decide); omega)) (tgt := 46) (by decide) ?_
    refine g_lload_n X dX5_cut_46 rfl (j := 1) rfl ?_
    exact g_lret X hrt dX5_cut_47 (by decide) (by decide) ⟨C, D, F, I, K, trivial⟩
  · skip
    refine g_tableIn X dX5_cut_4 (by decide) (by decide) (off := 28) (by decide) (tgt := 32) (by decide) ?_
    refine g_lload_n X dX5_cut_32 rfl (j := 1) rfl ?_
    refine g_l2i X dX5_cut_33 rfl ?_
    refine Go.gen (fun o4 => ?_)
    refine g_i2b X dX5_cut_34 rfl ?_
    refine Go.gen (fun o5 => ?_)
    refine g_i2l X dX5_cut_35 rfl ?_
    exact g_lret X hrt dX5_cut_36 (by decide) (by decide) ⟨C, D, F, I, K, trivial⟩
  · skip
    refine g_tableIn X dX5_cut_4 (by decide) (by decide) (off := 33) (by decide) (tgt := 37) (by decide) ?_
    refine g_lload_n X dX5_cut_37 rfl (j := 1) rfl ?_
    refine g_l2i X dX5_cut_38 rfl ?_
    refine Go.gen (fun o6 => ?_)
    refine g_i2s X dX5_cut_39 rfl ?_
    refine Go.gen (fun o7 => ?_)
    refine g_i2l X dX5_cut_40 rfl ?_
    exact g_lret X hrt dX5_cut_41 (by decide) (by decide) ⟨C, D, F, I, K, trivial⟩
  · skip
    refine g_tableIn X dX5_cut_4 (by decide) (by decide) (off := 38) (by decide) (tgt := 42) (by decide) ?_
    refine g_lload_n X dX5_cut_42 rfl (j := 1) rfl ?_
    refine g_l2i X dX5_cut_43 rfl ?_
    refine Go.gen (fun o8 => ?_)
    refine g_i2l X dX5_cut_44 rfl ?_
    exact g_lret X hrt dX5_cut_45 (by decide) (by decide) ⟨C, D, F, I, K, trivial⟩
set_option maxHeartbeats 4000000 in
set_option maxRecDepth 100000 in
theorem s_X5_put_84 (l : Launch) (G : va_G) {cy : Nat → ClassId} {L : List Nat} {M : Nat → va_E} {a : Nat → Nat} {act : Nat → Bool} {C0 : Nat → Nat → Int32} {D0 : Nat → Nat → Int64} {R : Nat → Nat → Option Nat} (F : WI L M a act (ent cy a C0 D0 R)) (I : Inv C0) (p0 : Nat) (hp0a : 0 ≤ p0) (hp0b : p0 ≤ 59) (p1 : Int64) (act84 : (baseact 84 || act 84) = true) (act85 : (baseact 85 || act 85) = true) : MV l G cy yX5_put cX5_put 4 none 1 0 0 [.ref (a 84), .int (nI p0), .long p1] L M (fun L2 M2 => ∃ C2 D2, WI L2 M2 a act (ent cy a C2 D2 R) ∧ Inv C2 ∧ Kp [85] C0 D0 C2 D2 ∧ True) := by
  refine MV.of (own := RX5) rfl (by decide) (Nat.le_of_ble_eq_true rfl) ?_
  intro p e s m below meth c A X hrt hnm
  obtain ⟨C, D, hC0, hD0, F, I, K⟩ : ∃ C D, C = C0 ∧ D = D0 ∧ WI L M a act (ent cy a C D R) ∧ Inv C ∧ Kp [85] C0 D0 C D := ⟨C0, D0, rfl, rfl, F, I, Kp.rf⟩
  refine g_aload_n X dX5_put_0 rfl (j := 0) rfl ?_
  refine i_get X F 84 (act84) rfl fk_X5_9 dX5_put_1 rfl ?_
  refine g_iload_n X dX5_put_4 rfl (j := 1) rfl ?_
  refine g_aload_n X dX5_put_5 rfl (j := 0) rfl ?_
  refine g_lload_n X dX5_put_6 rfl (j := 2) rfl ?_
  refine g_callVJ X (s_X5_cut_84 l G F I p1 act84) lk_X5_28 (F.1 84 (act84)).2 (F.1 84 (act84)).1 rfl rfl dX5_put_7 (Nat.le_of_ble_eq_true rfl) ⟨by decide, by decide⟩ ⟨by decide, by decide⟩ (fun r1 L M hp => ?_)
  obtain ⟨C, D, F, I, K1, hr⟩ := hp
  have K := K.step K1 (by decide)
  refine i_last X F 85 (act85) (fun _ => rfl) dX5_put_10 (vp_in_nI (by omega) (by decide)) (fun M D F K1 hC => ?_)
  have K := K.step K1 (by decide)
  exact g_vret X hrt dX5_put_11 (by decide) (by decide) ⟨C, D, F, I, K, trivial⟩
set_option maxHeartbeats 4000000 in
set_option maxRecDepth 100000 in
theorem s_X5_hasPart_84 (l : Launch) (G : va_G) {cy : Nat → ClassId} {L : List Nat} {M : Nat → va_E} {a : Nat → Nat} {act : Nat → Bool} {C0 : Nat → Nat → Int32} {D0 : Nat → Nat → Int64} {R : Nat → Nat → Option Nat} (F : WI L M a act (ent cy a C0 D0 R)) (I : Inv C0) (p0 : Int32) (p1 : Int32) (act84 : (baseact 84 || act 84) = true) : MI l G cy yX5_hasPart cX5_hasPart 3 (some .boolean) 0 0 0 [.ref (a 84), .int p0, .int p1] L M (fun r L2 M2 => ∃ C2 D2, WI L2 M2 a act (ent cy a C2 D2 R) ∧ Inv C2 ∧ Kp [] C0 D0 C2 D2 ∧ ((r = 0 ∧ ¬ (0 ≤ p0.toInt ∧ 0 ≤ p1.toInt ∧ p0.toInt + p1.toInt ≤ (C2 84 2).toInt)) ∨ (r = 1 ∧ 0 ≤ p0.toInt ∧ 0 ≤ p1.toInt ∧ p0.toInt + p1.toInt ≤ (C2 84 2).toInt))) := by
  refine MI.of (own := RX5) rfl (by decide) (Nat.le_of_ble_eq_true rfl) ?_
  intro p e s m below meth c A X hrt hnm
  obtain ⟨C, D, hC0, hD0, F, I, K⟩ : ∃ C D, C = C0 ∧ D = D0 ∧ WI L M a act (ent cy a C D R) ∧ Inv C ∧ Kp [] C0 D0 C D := ⟨C0, D0, rfl, rfl, F, I, Kp.rf⟩
  obtain ⟨n1, hn1, en1⟩ := rg_nat (I 84 2 rfl) (by decide)
  rw [hC0] at en1
  refine g_iload_n X dX5_hasPart_0 rfl (j := 1) rfl ?_
  refine g_if_lt X dX5_hasPart_1 (tgt := 26) (by decide) (fun q2 => ?_) (fun q2 => ?_)
  · skip
    have q2t : p0.toInt < (0 : Int32).toInt := Int32.lt_iff_toInt_lt.mp q2
    have q2k : (0 : Int32).toInt = 0 := (by decide)
    have q2b := Int32.toInt_lt p0
    refine g_iconst X dX5_hasPart_26 (v := 0) (by decide) ?_
    exact g_zret X hrt rfl dX5_hasPart_27 (by decide) (by decide) ⟨C, D, F, I, K, (by have ez : (C 84 2).toInt = n1 := (by rw [(K 84 (by decide)).1, en1, nI_toInt (by omega)]); exact Or.inl ⟨rfl, (by first | omega | (have k0 : (0 : Int32).toInt = 0 := (by decide); have z := Int32.lt_iff_toInt_lt.mp trivial; omega))⟩)⟩
  · skip
    have q2t : ¬ p0.toInt < (0 : Int32).toInt := fun z => q2 (Int32.lt_iff_toInt_lt.mpr z)
    have q2k : (0 : Int32).toInt = 0 := (by decide)
    have q2b := Int32.toInt_lt p0
    obtain ⟨n3, hn3, rfl⟩ := nI_of (x := p0) (fun z => by have z2 := Int32.lt_iff_toInt_lt.mp z; have z3 : (0 : Int32).toInt = 0 := (by decide); omega)
    rw [nI_toInt (by omega)] at q2t
    have tn3 := nI_toInt (n := n3) (by omega)
    refine g_iload_n X dX5_hasPart_4 rfl (j := 2) rfl ?_
    refine g_if_lt X dX5_hasPart_5 (tgt := 26) (by decide) (fun q4 => ?_) (fun q4 => ?_)
    · skip
      have q4t : p1.toInt < (0 : Int32).toInt := Int32.lt_iff_toInt_lt.mp q4
      have q4k : (0 : Int32).toInt = 0 := (by decide)
      have q4b := Int32.toInt_lt p1
      refine g_iconst X dX5_hasPart_26 (v := 0) (by decide) ?_
      exact g_zret X hrt rfl dX5_hasPart_27 (by decide) (by decide) ⟨C, D, F, I, K, (by have ez : (C 84 2).toInt = n1 := (by rw [(K 84 (by decide)).1, en1, nI_toInt (by omega)]); have t0 := nI_toInt (n := n3) (by omega); exact Or.inl ⟨rfl, (by first | omega | (have k0 : (0 : Int32).toInt = 0 := (by decide); have z := Int32.lt_iff_toInt_lt.mp trivial; omega))⟩)⟩
    · skip
      have q4t : ¬ p1.toInt < (0 : Int32).toInt := fun z => q4 (Int32.lt_iff_toInt_lt.mpr z)
      have q4k : (0 : Int32).toInt = 0 := (by decide)
      have q4b := Int32.toInt_lt p1
      obtain ⟨n5, hn5, rfl⟩ := nI_of (x := p1) (fun z => by have z2 := Int32.lt_iff_toInt_lt.mp z; have z3 : (0 : Int32).toInt = 0 := (by decide); omega)
      rw [nI_toInt (by omega)] at q4t
      have tn5 := nI_toInt (n := n5) (by omega)
      refine g_iload_n X dX5_hasPart_8 rfl (j := 1) rfl ?_
      refine g_i2l X dX5_hasPart_9 rfl ?_
      refine g_iload_n X dX5_hasPart_10 rfl (j := 2) rfl ?_
      refine g_i2l X dX5_hasPart_11 rfl ?_
      refine g_ladd X dX5_hasPart_12 ?_
      have hadd := ladd_n (x := n3) (y := n5) (by omega) (by omega)
      refine g_aload_n X dX5_hasPart_13 rfl (j := 0) rfl ?_
      refine i_get X F 84 (act84) rfl fk_X5_19 dX5_hasPart_14 (v := .int (nI n1)) (congrArg (fun z => some (Value.int z)) ((congrFun (K 84 (by decide)).1 2).trans en1)) ?_
      refine g_i2l X dX5_hasPart_17 rfl ?_
      refine g_lcmp X dX5_hasPart_18 ?_
      refine g_if_gt X dX5_hasPart_19 (tgt := 26) (by decide) (fun q6 => ?_) (fun q6 => ?_)
      · skip
        have q6t : ((Int32.toInt64 (nI n1))).toInt < (((nI n3).toInt64 + (nI n5).toInt64)).toInt := Int64.lt_iff_toInt_lt.mp ((lg_cmp_gt _ _).mp q6)
        have q6wb := Jvm.Kit.i64_of_i32 (nI n1)
        rw [nI_toInt (by omega)] at q6wb
        refine g_iconst X dX5_hasPart_26 (v := 0) (by decide) ?_
        exact g_zret X hrt rfl dX5_hasPart_27 (by decide) (by decide) ⟨C, D, F, I, K, (by have ez : (C 84 2).toInt = n1 := (by rw [(K 84 (by decide)).1, en1, nI_toInt (by omega)]); have t0 := nI_toInt (n := n3) (by omega); have t1 := nI_toInt (n := n5) (by omega); exact Or.inl ⟨rfl, (by first | omega | (have k0 : (0 : Int32).toInt = 0 := (by decide); have z := Int32.lt_iff_toInt_lt.mp trivial; omega))⟩)⟩
      · skip
        have q6t : ¬ ((Int32.toInt64 (nI n1))).toInt < (((nI n3).toInt64 + (nI n5).toInt64)).toInt := fun z => q6 ((lg_cmp_gt _ _).mpr (Int64.lt_iff_toInt_lt.mpr z))
        have q6wb := Jvm.Kit.i64_of_i32 (nI n1)
        rw [nI_toInt (by omega)] at q6wb
        refine g_iconst X dX5_hasPart_22 (v := 1) (by decide) ?_
        refine g_goto X dX5_hasPart_23 (tgt := 27) (by decide) ?_
        exact g_zret X hrt rfl dX5_hasPart_27 (by decide) (by decide) ⟨C, D, F, I, K, (by have ez : (C 84 2).toInt = n1 := (by rw [(K 84 (by decide)).1, en1, nI_toInt (by omega)]); have t0 := nI_toInt (n := n3) (by omega); have t1 := nI_toInt (n := n5) (by omega); exact Or.inr ⟨rfl, by omega, by omega, by omega⟩)⟩
set_option maxHeartbeats 4000000 in
set_option maxRecDepth 100000 in
theorem s_X5_cut_86 (l : Launch) (G : va_G) {cy : Nat → ClassId} {L : List Nat} {M : Nat → va_E} {a : Nat → Nat} {act : Nat → Bool} {C0 : Nat → Nat → Int32} {D0 : Nat → Nat → Int64} {R : Nat → Nat → Option Nat} (F : WI L M a act (ent cy a C0 D0 R)) (I : Inv C0) (p0 : Int64) (act86 : (baseact 86 || act 86) = true) : MJ l G cy yX5_cut cX5_cut 3 (some .long) 0 0 0 [.ref (a 86), .long p0] L M (fun r L2 M2 => ∃ C2 D2, WI L2 M2 a act (ent cy a C2 D2 R) ∧ Inv C2 ∧ Kp [] C0 D0 C2 D2 ∧ True) := by
  refine MJ.of (own := RX5) rfl (by decide) (Nat.le_of_ble_eq_true rfl) ?_
  intro p e s m below meth c A X hrt hnm
  obtain ⟨C, D, hC0, hD0, F, I, K⟩ : ∃ C D, C = C0 ∧ D = D0 ∧ WI L M a act (ent cy a C D R) ∧ Inv C ∧ Kp [] C0 D0 C D := ⟨C0, D0, rfl, rfl, F, I, Kp.rf⟩
  refine g_aload_n X dX5_cut_0 rfl (j := 0) rfl ?_
  refine i_get X F 86 (act86) rfl fk_X5_15 dX5_cut_1 rfl ?_
  refine Go.gen (fun o1 => ?_)
  rcases sc3 o1 with h2 | h3 | rfl | rfl | rfl
  · skip
    refine g_tableOut X dX5_cut_4 (Or.inl (by have z := Int32.lt_iff_toInt_lt.mp h2; have k : (0 : Int32).toInt = 0 := (by decide); omega)) (tgt := 46) (by decide) ?_
    refine g_lload_n X dX5_cut_46 rfl (j := 1) rfl ?_
    exact g_lret X hrt dX5_cut_47 (by decide) (by decide) ⟨C, D, F, I, K, trivial⟩
  · skip
    refine g_tableOut X dX5_cut_4 (Or.inr (by have z := Int32.le_iff_toInt_le.mp h3; have k : (3 : Int32).toInt = 3 := (by decide); omega)) (tgt := 46) (by decide) ?_
    refine g_lload_n X dX5_cut_46 rfl (j := 1) rfl ?_
    exact g_lret X hrt dX5_cut_47 (by decide) (by decide) ⟨C, D, F, I, K, trivial⟩
  · skip
    refine g_tableIn X dX5_cut_4 (by decide) (by decide) (off := 28) (by decide) (tgt := 32) (by decide) ?_
    refine g_lload_n X dX5_cut_32 rfl (j := 1) rfl ?_
    refine g_l2i X dX5_cut_33 rfl ?_
    refine Go.gen (fun o4 => ?_)
    refine g_i2b X dX5_cut_34 rfl ?_
    refine Go.gen (fun o5 => ?_)
    refine g_i2l X dX5_cut_35 rfl ?_
    exact g_lret X hrt dX5_cut_36 (by decide) (by decide) ⟨C, D, F, I, K, trivial⟩
  · skip
    refine g_tableIn X dX5_cut_4 (by decide) (by decide) (off := 33) (by decide) (tgt := 37) (by decide) ?_
    refine g_lload_n X dX5_cut_37 rfl (j := 1) rfl ?_
    refine g_l2i X dX5_cut_38 rfl ?_
    refine Go.gen (fun o6 => ?_)
    refine g_i2s X dX5_cut_39 rfl ?_
    refine Go.gen (fun o7 => ?_)
    refine g_i2l X dX5_cut_40 rfl ?_
    exact g_lret X hrt dX5_cut_41 (by decide) (by decide) ⟨C, D, F, I, K, trivial⟩
  · skip
    refine g_tableIn X dX5_cut_4 (by decide) (by decide) (off := 38) (by decide) (tgt := 42) (by decide) ?_
    refine g_lload_n X dX5_cut_42 rfl (j := 1) rfl ?_
    refine g_l2i X dX5_cut_43 rfl ?_
    refine Go.gen (fun o8 => ?_)
    refine g_i2l X dX5_cut_44 rfl ?_
    exact g_lret X hrt dX5_cut_45 (by decide) (by decide) ⟨C, D, F, I, K, trivial⟩
set_option maxHeartbeats 4000000 in
set_option maxRecDepth 100000 in
theorem s_X5_put_86 (l : Launch) (G : va_G) {cy : Nat → ClassId} {L : List Nat} {M : Nat → va_E} {a : Nat → Nat} {act : Nat → Bool} {C0 : Nat → Nat → Int32} {D0 : Nat → Nat → Int64} {R : Nat → Nat → Option Nat} (F : WI L M a act (ent cy a C0 D0 R)) (I : Inv C0) (p0 : Nat) (hp0a : 0 ≤ p0) (hp0b : p0 ≤ 59) (p1 : Int64) (act86 : (baseact 86 || act 86) = true) (act87 : (baseact 87 || act 87) = true) : MV l G cy yX5_put cX5_put 4 none 1 0 0 [.ref (a 86), .int (nI p0), .long p1] L M (fun L2 M2 => ∃ C2 D2, WI L2 M2 a act (ent cy a C2 D2 R) ∧ Inv C2 ∧ Kp [87] C0 D0 C2 D2 ∧ True) := by
  refine MV.of (own := RX5) rfl (by decide) (Nat.le_of_ble_eq_true rfl) ?_
  intro p e s m below meth c A X hrt hnm
  obtain ⟨C, D, hC0, hD0, F, I, K⟩ : ∃ C D, C = C0 ∧ D = D0 ∧ WI L M a act (ent cy a C D R) ∧ Inv C ∧ Kp [87] C0 D0 C D := ⟨C0, D0, rfl, rfl, F, I, Kp.rf⟩
  refine g_aload_n X dX5_put_0 rfl (j := 0) rfl ?_
  refine i_get X F 86 (act86) rfl fk_X5_9 dX5_put_1 rfl ?_
  refine g_iload_n X dX5_put_4 rfl (j := 1) rfl ?_
  refine g_aload_n X dX5_put_5 rfl (j := 0) rfl ?_
  refine g_lload_n X dX5_put_6 rfl (j := 2) rfl ?_
  refine g_callVJ X (s_X5_cut_86 l G F I p1 act86) lk_X5_28 (F.1 86 (act86)).2 (F.1 86 (act86)).1 rfl rfl dX5_put_7 (Nat.le_of_ble_eq_true rfl) ⟨by decide, by decide⟩ ⟨by decide, by decide⟩ (fun r1 L M hp => ?_)
  obtain ⟨C, D, F, I, K1, hr⟩ := hp
  have K := K.step K1 (by decide)
  refine i_last X F 87 (act87) (fun _ => rfl) dX5_put_10 (vp_in_nI (by omega) (by decide)) (fun M D F K1 hC => ?_)
  have K := K.step K1 (by decide)
  exact g_vret X hrt dX5_put_11 (by decide) (by decide) ⟨C, D, F, I, K, trivial⟩
set_option maxHeartbeats 4000000 in
set_option maxRecDepth 100000 in
theorem s_X5_hasPart_86 (l : Launch) (G : va_G) {cy : Nat → ClassId} {L : List Nat} {M : Nat → va_E} {a : Nat → Nat} {act : Nat → Bool} {C0 : Nat → Nat → Int32} {D0 : Nat → Nat → Int64} {R : Nat → Nat → Option Nat} (F : WI L M a act (ent cy a C0 D0 R)) (I : Inv C0) (p0 : Int32) (p1 : Int32) (act86 : (baseact 86 || act 86) = true) : MI l G cy yX5_hasPart cX5_hasPart 3 (some .boolean) 0 0 0 [.ref (a 86), .int p0, .int p1] L M (fun r L2 M2 => ∃ C2 D2, WI L2 M2 a act (ent cy a C2 D2 R) ∧ Inv C2 ∧ Kp [] C0 D0 C2 D2 ∧ ((r = 0 ∧ ¬ (0 ≤ p0.toInt ∧ 0 ≤ p1.toInt ∧ p0.toInt + p1.toInt ≤ (C2 86 2).toInt)) ∨ (r = 1 ∧ 0 ≤ p0.toInt ∧ 0 ≤ p1.toInt ∧ p0.toInt + p1.toInt ≤ (C2 86 2).toInt))) := by
  refine MI.of (own := RX5) rfl (by decide) (Nat.le_of_ble_eq_true rfl) ?_
  intro p e s m below meth c A X hrt hnm
  obtain ⟨C, D, hC0, hD0, F, I, K⟩ : ∃ C D, C = C0 ∧ D = D0 ∧ WI L M a act (ent cy a C D R) ∧ Inv C ∧ Kp [] C0 D0 C D := ⟨C0, D0, rfl, rfl, F, I, Kp.rf⟩
  obtain ⟨n1, hn1, en1⟩ := rg_nat (I 86 2 rfl) (by decide)
  rw [hC0] at en1
  refine g_iload_n X dX5_hasPart_0 rfl (j := 1) rfl ?_
  refine g_if_lt X dX5_hasPart_1 (tgt := 26) (by decide) (fun q2 => ?_) (fun q2 => ?_)
  · skip
    have q2t : p0.toInt < (0 : Int32).toInt := Int32.lt_iff_toInt_lt.mp q2
    have q2k : (0 : Int32).toInt = 0 := (by decide)
    have q2b := Int32.toInt_lt p0
    refine g_iconst X dX5_hasPart_26 (v := 0) (by decide) ?_
    exact g_zret X hrt rfl dX5_hasPart_27 (by decide) (by decide) ⟨C, D, F, I, K, (by have ez : (C 86 2).toInt = n1 := (by rw [(K 86 (by decide)).1, en1, nI_toInt (by omega)]); exact Or.inl ⟨rfl, (by first | omega | (have k0 : (0 : Int32).toInt = 0 := (by decide); have z := Int32.lt_iff_toInt_lt.mp trivial; omega))⟩)⟩
  · skip
    have q2t : ¬ p0.toInt < (0 : Int32).toInt := fun z => q2 (Int32.lt_iff_toInt_lt.mpr z)
    have q2k : (0 : Int32).toInt = 0 := (by decide)
    have q2b := Int32.toInt_lt p0
    obtain ⟨n3, hn3, rfl⟩ := nI_of (x := p0) (fun z => by have z2 := Int32.lt_iff_toInt_lt.mp z; have z3 : (0 : Int32).toInt = 0 := (by decide); omega)
    rw [nI_toInt (by omega)] at q2t
    have tn3 := nI_toInt (n := n3) (by omega)
    refine g_iload_n X dX5_hasPart_4 rfl (j := 2) rfl ?_
    refine g_if_lt X dX5_hasPart_5 (tgt := 26) (by decide) (fun q4 => ?_) (fun q4 => ?_)
    · skip
      have q4t : p1.toInt < (0 : Int32).toInt := Int32.lt_iff_toInt_lt.mp q4
      have q4k : (0 : Int32).toInt = 0 := (by decide)
      have q4b := Int32.toInt_lt p1
      refine g_iconst X dX5_hasPart_26 (v := 0) (by decide) ?_
      exact g_zret X hrt rfl dX5_hasPart_27 (by decide) (by decide) ⟨C, D, F, I, K, (by have ez : (C 86 2).toInt = n1 := (by rw [(K 86 (by decide)).1, en1, nI_toInt (by omega)]); have t0 := nI_toInt (n := n3) (by omega); exact Or.inl ⟨rfl, (by first | omega | (have k0 : (0 : Int32).toInt = 0 := (by decide); have z := Int32.lt_iff_toInt_lt.mp trivial; omega))⟩)⟩
    · skip
      have q4t : ¬ p1.toInt < (0 : Int32).toInt := fun z => q4 (Int32.lt_iff_toInt_lt.mpr z)
      have q4k : (0 : Int32).toInt = 0 := (by decide)
      have q4b := Int32.toInt_lt p1
      obtain ⟨n5, hn5, rfl⟩ := nI_of (x := p1) (fun z => by have z2 := Int32.lt_iff_toInt_lt.mp z; have z3 : (0 : Int32).toInt = 0 := (by decide); omega)
      rw [nI_toInt (by omega)] at q4t
      have tn5 := nI_toInt (n := n5) (by omega)
      refine g_iload_n X dX5_hasPart_8 rfl (j := 1) rfl ?_
      refine g_i2l X dX5_hasPart_9 rfl ?_
      refine g_iload_n X dX5_hasPart_10 rfl (j := 2) rfl ?_
      refine g_i2l X dX5_hasPart_11 rfl ?_
      refine g_ladd X dX5_hasPart_12 ?_
      have hadd := ladd_n (x := n3) (y := n5) (by omega) (by omega)
      refine g_aload_n X dX5_hasPart_13 rfl (j := 0) rfl ?_
      refine i_get X F 86 (act86) rfl fk_X5_19 dX5_hasPart_14 (v := .int (nI n1)) (congrArg (fun z => some (Value.int z)) ((congrFun (K 86 (by decide)).1 2).trans en1)) ?_
      refine g_i2l X dX5_hasPart_17 rfl ?_
      refine g_lcmp X dX5_hasPart_18 ?_
      refine g_if_gt X dX5_hasPart_19 (tgt := 26) (by decide) (fun q6 => ?_) (fun q6 => ?_)
      · skip
        have q6t : ((Int32.toInt64 (nI n1))).toInt < (((nI n3).toInt64 + (nI n5).toInt64)).toInt := Int64.lt_iff_toInt_lt.mp ((lg_cmp_gt _ _).mp q6)
        have q6wb := Jvm.Kit.i64_of_i32 (nI n1)
        rw [nI_toInt (by omega)] at q6wb
        refine g_iconst X dX5_hasPart_26 (v := 0) (by decide) ?_
        exact g_zret X hrt rfl dX5_hasPart_27 (by decide) (by decide) ⟨C, D, F, I, K, (by have ez : (C 86 2).toInt = n1 := (by rw [(K 86 (by decide)).1, en1, nI_toInt (by omega)]); have t0 := nI_toInt (n := n3) (by omega); have t1 := nI_toInt (n := n5) (by omega); exact Or.inl ⟨rfl, (by first | omega | (have k0 : (0 : Int32).toInt = 0 := (by decide); have z := Int32.lt_iff_toInt_lt.mp trivial; omega))⟩)⟩
      · skip
        have q6t : ¬ ((Int32.toInt64 (nI n1))).toInt < (((nI n3).toInt64 + (nI n5).toInt64)).toInt := fun z => q6 ((lg_cmp_gt _ _).mpr (Int64.lt_iff_toInt_lt.mpr z))
        have q6wb := Jvm.Kit.i64_of_i32 (nI n1)
        rw [nI_toInt (by omega)] at q6wb
        refine g_iconst X dX5_hasPart_22 (v := 1) (by decide) ?_
        refine g_goto X dX5_hasPart_23 (tgt := 27) (by decide) ?_
        exact g_zret X hrt rfl dX5_hasPart_27 (by decide) (by decide) ⟨C, D, F, I, K, (by have ez : (C 86 2).toInt = n1 := (by rw [(K 86 (by decide)).1, en1, nI_toInt (by omega)]); have t0 := nI_toInt (n := n3) (by omega); have t1 := nI_toInt (n := n5) (by omega); exact Or.inr ⟨rfl, by omega, by omega, by omega⟩)⟩
