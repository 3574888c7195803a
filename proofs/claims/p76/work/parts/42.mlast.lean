set_option maxHeartbeats 4000000 in
set_option maxRecDepth 100000 in
theorem s_X8_heath (l : Launch) (G : va_G) {cy : Nat → ClassId} {L : List Nat} {M : Nat → va_E} {a : Nat → Nat} {act : Nat → Bool} {C0 : Nat → Nat → Int32} {D0 : Nat → Nat → Int64} {R : Nat → Nat → Option Nat} (F : WI L M a act (ent cy a C0 D0 R)) (I : Inv C0)   : MI l G cy yX8_heath cX8_heath 2 (some .int) 11 0 0 [.ref (a 100)] L M (fun r L2 M2 => ∃ C2 D2, WI L2 M2 a act (ent cy a C2 D2 R) ∧ Inv C2 ∧ Kp [100, 101, 114] C0 D0 C2 D2 ∧ True) := by
  refine MI.of (own := RX8) rfl (by decide) (Nat.le_of_ble_eq_true rfl) ?_
  intro p e s m below meth c A X hrt hnm
  obtain ⟨C, D, hC0, hD0, F, I, K⟩ : ∃ C D, C = C0 ∧ D = D0 ∧ WI L M a act (ent cy a C D R) ∧ Inv C ∧ Kp [100, 101, 114] C0 D0 C D := ⟨C0, D0, rfl, rfl, F, I, Kp.rf⟩
  refine g_aload_n X dX8_heath_0 rfl (j := 0) rfl ?_
  refine g_aload_n X dX8_heath_1 rfl (j := 0) rfl ?_
  obtain ⟨n1, hn1, en1⟩ := rg_nat (I 100 5 (by decide)) (by decide)
  refine i_get X F 100 rfl rfl fk_X8_121 dX8_heath_2 (v := .int (nI n1)) (congrArg (fun z => some (Value.int z)) en1) ?_
  refine i_put X F I 100 rfl rfl rfl fk_X8_124 dX8_heath_5 rfl rfl (Nat.le_of_ble_eq_true rfl) (fun _ => (rg_of (n := n1) (by omega) (by omega) (by omega))) (fun M C F I K1 hC => ?_)
  have K := K.step K1 (by decide)
  have en1 : C 100 5 = nI n1 := by rw [hC, pk_un (by decide)]; exact en1
  refine g_aload_n X dX8_heath_8 rfl (j := 0) rfl ?_
  refine g_iconst X dX8_heath_9 (v := 0) (by decide) ?_
  refine i_put X F I 100 rfl rfl rfl fk_X8_121 dX8_heath_10 rfl rfl (Nat.le_of_ble_eq_true rfl) (fun _ => (rg_of (n := 0) (by omega) (by omega) (by omega))) (fun M C F I K1 hC => ?_)
  have K := K.step K1 (by decide)
  have f2 : C 100 5 = 0 := by rw [hC]; exact pk_us
  refine g_aload_n X dX8_heath_13 rfl (j := 0) rfl ?_
  refine g_iconst X dX8_heath_14 (v := 0) (by decide) ?_
  refine i_put X F I 100 rfl rfl rfl fk_X8_127 dX8_heath_15 rfl rfl (Nat.le_of_ble_eq_true rfl) (fun _ => (rg_of (n := 0) (by omega) (by omega) (by omega))) (fun M C F I K1 hC => ?_)
  have K := K.step K1 (by decide)
  have f2 : C 100 5 = 0 := by rw [hC, pk_un (by decide)]; exact f2
  refine g_aload_n X dX8_heath_18 rfl (j := 0) rfl ?_
  refine g_iconst X dX8_heath_19 (v := 0) (by decide) ?_
  refine i_put X F I 100 rfl rfl rfl fk_X8_158 dX8_heath_20 rfl rfl (Nat.le_of_ble_eq_true rfl) (fun h => absurd h (by decide)) (fun M C F I K1 hC => ?_)
  have K := K.step K1 (by decide)
  have f2 : C 100 5 = 0 := by rw [hC, pk_un (by decide)]; exact f2
  refine g_aload_n X dX8_heath_23 rfl (j := 0) rfl ?_
  refine g_iconst X dX8_heath_24 (v := -1) (by decide) ?_
  refine i_put X F I 100 rfl rfl rfl fk_X8_27 dX8_heath_25 rfl rfl (Nat.le_of_ble_eq_true rfl) (fun h => absurd h (by decide)) (fun M C F I K1 hC => ?_)
  have K := K.step K1 (by decide)
  have f2 : C 100 5 = 0 := by rw [hC, pk_un (by decide)]; exact f2
  refine g_iconst X dX8_heath_28 (v := 0) (by decide) ?_
  refine g_istore_n X dX8_heath_29 rfl (by decide) (lv2 := [(1, .int 0), (0, .ref (a 100))]) rfl ?_
  refine g_lv [0, 1] (lv2 := [(1, .int 0), (0, .ref (a 100))]) rfl ?_
  refine i_loop (mods := [100, 101, 114]) (fun x : Nat => 102 - x) (fun x => [(1, .int (nI (x))), (0, .ref (a 100))]) (fun x C => 0 ≤ x ∧ x ≤ 102) (fun x L M C D F I K hP ih30 => ?_) ((0) : Nat) F I K ⟨by show _ ≤ _; omega, by show _ ≤ _; omega⟩
  obtain ⟨i30_1, rfl⟩ : ∃ z, z = x := ⟨_, rfl⟩
  obtain ⟨hi30_1a, hi30_1b⟩ := hP
  refine g_lv [0, 1] (lv2 := [(1, .int (nI i30_1)), (0, .ref (a 100))]) rfl ?_
  refine g_iload_n X dX8_heath_30 rfl (j := 0) rfl ?_
  refine g_bipush X dX8_heath_31 (v := 102) (by decide) ?_
  refine g_icmp_ge X dX8_heath_33 (tgt := 49) (by decide) (fun q3 => ?_) (fun q3 => ?_)
  · skip
    have q3 : 102 ≤ i30_1 := (nI_leI (a := 102) (b := i30_1) (by omega) (by omega)).mp q3
    refine g_aload_n X dX8_heath_49 rfl (j := 1) rfl ?_
    refine g_callVV X (s_X8_advance l G F I  ) lk_X8_177 (F.1 100 rfl).2 (F.1 100 rfl).1 rfl rfl dX8_heath_50 (Nat.le_of_ble_eq_true rfl) ⟨by decide, by decide⟩ ⟨by decide, by decide⟩ (fun L M hp => ?_)
    obtain ⟨C, D, F, I, K1, hr⟩ := hp
    have K := K.step K1 (by decide)
    obtain ⟨hr, hr7, hrat, hrtk⟩ := hr
    refine g_lv [0, 1] (lv2 := [(1, .int (nI i30_1)), (0, .ref (a 100))]) rfl ?_
    refine i_loop (mods := [100, 101, 114]) (fun x : Nat => x) (fun x => [(1, .int (nI i30_1)), (0, .ref (a 100))]) (fun x C => (C 100 12 = 0 → 2 * (800 - (C 100 8).toInt) + 1 ≤ (x : Int) ∧ (¬ C 100 10 = 0 → 2 * (800 - (C 100 8).toInt) + 2 ≤ (x : Int)))) (fun x L M C D F I K hP ih53 => ?_) ((1700) : Nat) F I K (fun _ => ⟨by have z := (I 100 8 (by decide)).1; show _ ≤ ((1700 : Nat) : Int); omega, fun _ => by have z := (I 100 8 (by decide)).1; show _ ≤ ((1700 : Nat) : Int); omega⟩)
    obtain ⟨m53_m, rfl⟩ : ∃ z, z = x := ⟨_, rfl⟩
    have hP53 := hP
    refine g_lv [0, 1] (lv2 := [(1, .int (nI i30_1)), (0, .ref (a 100))]) rfl ?_
    refine g_aload_n X dX8_heath_53 rfl (j := 1) rfl ?_
    refine g_callVI X (s_X8_good l G F I  ) lk_X8_161 (F.1 100 rfl).2 (F.1 100 rfl).1 rfl rfl dX8_heath_54 (Nat.le_of_ble_eq_true rfl) ⟨by decide, by decide⟩ ⟨by decide, by decide⟩ (fun r4 L M hp => ?_)
    obtain ⟨C, D, F, I, K1, hr⟩ := hp
    have K := K.step K1 (by decide)
    have hP53 : C 100 12 = 0 → 2 * (800 - (C 100 8).toInt) + 1 ≤ (m53_m : Int) ∧ (¬ C 100 10 = 0 → 2 * (800 - (C 100 8).toInt) + 2 ≤ (m53_m : Int)) := by rw [(K1 100 (by decide)).1]; exact hP53
    rcases hr with ⟨rfl, hg5⟩ | ⟨rfl, hg5⟩
    · skip
      have hgd := hg5
      refine g_if_eq X dX8_heath_57 (tgt := 74) (by decide) (fun _ => ?_) (fun q => absurd (by decide) q)
      refine g_aload_n X dX8_heath_74 rfl (j := 1) rfl ?_
      refine g_callVI X (s_X8_good l G F I  ) lk_X8_161 (F.1 100 rfl).2 (F.1 100 rfl).1 rfl rfl dX8_heath_75 (Nat.le_of_ble_eq_true rfl) ⟨by decide, by decide⟩ ⟨by decide, by decide⟩ (fun r6 L M hp => ?_)
      obtain ⟨C, D, F, I, K1, hr⟩ := hp
      have K := K.step K1 (by decide)
      have hP53 : C 100 12 = 0 → 2 * (800 - (C 100 8).toInt) + 1 ≤ (m53_m : Int) ∧ (¬ C 100 10 = 0 → 2 * (800 - (C 100 8).toInt) + 2 ≤ (m53_m : Int)) := by rw [(K1 100 (by decide)).1]; exact hP53
      have hgd : ¬ C 100 12 = 0 := by rw [(K1 100 (by decide)).1]; exact hgd
      rcases hr with ⟨rfl, hg7⟩ | ⟨rfl, hg7⟩
      · skip
        have hgd := hg7
        refine g_if_ne X dX8_heath_78 (tgt := 84) (by decide) (fun q => absurd (by decide) q) (fun _ => ?_)
        refine g_bipush X dX8_heath_81 (v := -4) (by decide) ?_
        exact g_iret X hrt dX8_heath_83 (by decide) (by decide) ⟨C, D, F, I, K, trivial⟩
      · skip
        exact absurd hg7 hgd
    · skip
      have hgd := hg5
      refine g_if_eq X dX8_heath_57 (tgt := 74) (by decide) (fun q => absurd q (by decide)) (fun _ => ?_)
      refine g_aload_n X dX8_heath_60 rfl (j := 1) rfl ?_
      obtain ⟨o8, eo8⟩ : ∃ z, C 100 10 = z := ⟨_, rfl⟩
      refine i_get X F 100 rfl rfl fk_X8_137 dX8_heath_61 (v := .int o8) (congrArg (fun z => some (Value.int z)) eo8) ?_
      have hb8 := (I 100 8 (by decide)).2
      refine g_if_eq X dX8_heath_64 (tgt := 74) (by decide) (fun q9 => ?_) (fun q9 => ?_)
      · skip
        subst q9
        refine g_aload_n X dX8_heath_74 rfl (j := 1) rfl ?_
        refine g_callVI X (s_X8_good l G F I  ) lk_X8_161 (F.1 100 rfl).2 (F.1 100 rfl).1 rfl rfl dX8_heath_75 (Nat.le_of_ble_eq_true rfl) ⟨by decide, by decide⟩ ⟨by decide, by decide⟩ (fun r10 L M hp => ?_)
        obtain ⟨C, D, F, I, K1, hr⟩ := hp
        have K := K.step K1 (by decide)
        have hP53 : C 100 12 = 0 → 2 * (800 - (C 100 8).toInt) + 1 ≤ (m53_m : Int) ∧ (¬ C 100 10 = 0 → 2 * (800 - (C 100 8).toInt) + 2 ≤ (m53_m : Int)) := by rw [(K1 100 (by decide)).1]; exact hP53
        have hgd : C 100 12 = 0 := by rw [(K1 100 (by decide)).1]; exact hgd
        have eo8 : C 100 10 = 0 := (congrFun (K1 100 (by decide)).1 10).trans eo8
        rcases hr with ⟨rfl, hg11⟩ | ⟨rfl, hg11⟩
        · skip
          exact absurd hgd hg11
        · skip
          have hgd := hg11
          refine g_if_ne X dX8_heath_78 (tgt := 84) (by decide) (fun _ => ?_) (fun q => absurd q (by decide))
          refine g_iconst X dX8_heath_84 (v := 0) (by decide) ?_
          refine g_istore_n X dX8_heath_85 rfl (by decide) (lv2 := [(1, .int 0), (0, .ref (a 100))]) rfl ?_
          refine g_lv [0, 1] (lv2 := [(1, .int 0), (0, .ref (a 100))]) rfl ?_
          refine i_loop (mods := [100, 101, 114]) (fun x : Nat => 102 - x) (fun x => [(1, .int (nI (x))), (0, .ref (a 100))]) (fun x C => 0 ≤ x ∧ x ≤ 102) (fun x L M C D F I K hP ih86 => ?_) ((0) : Nat) F I K ⟨by show _ ≤ _; omega, by show _ ≤ _; omega⟩
          obtain ⟨i86_1, rfl⟩ : ∃ z, z = x := ⟨_, rfl⟩
          obtain ⟨hi86_1a, hi86_1b⟩ := hP
          refine g_lv [0, 1] (lv2 := [(1, .int (nI i86_1)), (0, .ref (a 100))]) rfl ?_
          refine g_iload_n X dX8_heath_86 rfl (j := 0) rfl ?_
          refine g_bipush X dX8_heath_87 (v := 102) (by decide) ?_
          refine g_icmp_ge X dX8_heath_89 (tgt := 110) (by decide) (fun q12 => ?_) (fun q12 => ?_)
          · skip
            have q12 : 102 ≤ i86_1 := (nI_leI (a := 102) (b := i86_1) (by omega) (by omega)).mp q12
            refine g_aload_n X dX8_heath_110 rfl (j := 1) rfl ?_
            refine i_get X F 100 rfl rfl fk_X8_9 dX8_heath_111 rfl ?_
            refine g_bipush X dX8_heath_114 (v := 9) (by decide) ?_
            refine i_iald X F 101 rfl rfl dX8_heath_116 (vp_in_iff.mpr (by decide)) rfl ?_
            refine Go.gen (fun o13 => ?_)
            exact g_iret X hrt dX8_heath_117 (by decide) (by decide) ⟨C, D, F, I, K, trivial⟩
          · skip
            have q12 : ¬ 102 ≤ i86_1 := fun z => q12 ((nI_leI (a := 102) (b := i86_1) (by omega) (by omega)).mpr z)
            refine g_aload_n X dX8_heath_92 rfl (j := 1) rfl ?_
            refine i_get X F 100 rfl rfl fk_X8_9 dX8_heath_93 rfl ?_
            refine g_iload_n X dX8_heath_96 rfl (j := 0) rfl ?_
            refine g_aload_n X dX8_heath_97 rfl (j := 1) rfl ?_
            refine i_get X F 100 rfl rfl fk_X8_31 dX8_heath_98 rfl ?_
            refine g_iload_n X dX8_heath_101 rfl (j := 0) rfl ?_
            obtain ⟨o14, eo14⟩ : ∃ z, C 114 (i86_1) = z := ⟨_, rfl⟩
            have oko14 : okw (i86_1) o14 := by have y := (show okw (i86_1) (C 114 (i86_1)) from I 114 (i86_1)); rw [eo14] at y; exact y
            refine i_iald X F 114 rfl rfl dX8_heath_102 (vp_in_nI (by omega) (by decide)) (v := o14) (by rw [nI_clamp (by omega)]; exact eo14) ?_
            refine i_iast X F I 101 rfl (fun _ => rfl) dX8_heath_103 (vp_in_nI (by omega) (by decide)) (by rw [nI_clamp (by omega)]; show okw (i86_1) o14; exact oko14) (fun M C F I K1 hC => ?_)
            have K := K.step K1 (by decide)
            refine g_iinc X dX8_heath_104 (j := 0) rfl (v := nI (i86_1 + 1)) (nI_1 i86_1) (by decide) (lv2 := [(1, .int (nI (i86_1 + 1))), (0, .ref (a 100))]) rfl ?_
            refine g_goto X dX8_heath_107 (tgt := 86) (by decide) ?_
            refine g_lv [0, 1] (lv2 := [(1, .int (nI (i86_1 + 1))), (0, .ref (a 100))]) rfl ?_
            exact ih86 ((i86_1 + 1)) L M C D F I K ⟨by omega, by omega⟩ (by show _ < _; omega)
      · skip
        refine g_aload_n X dX8_heath_67 rfl (j := 1) rfl ?_
        refine g_callVV X (s_X8_readLine l G F I  ) lk_X8_242 (F.1 100 rfl).2 (F.1 100 rfl).1 rfl rfl dX8_heath_68 (Nat.le_of_ble_eq_true rfl) ⟨by decide, by decide⟩ ⟨by decide, by decide⟩ (fun L M hp => ?_)
        obtain ⟨C, D, F, I, K1, hr⟩ := hp
        have K := K.step K1 (by decide)
        obtain ⟨hrat, hrgo⟩ := hr
        have hPn : C 100 12 = 0 → 2 * (800 - (C 100 8).toInt) + 1 ≤ ((m53_m - 1 : Nat) : Int) ∧ (¬ C 100 10 = 0 → 2 * (800 - (C 100 8).toInt) + 2 ≤ ((m53_m - 1 : Nat) : Int)) := fun z => by have y := hP53 hgd; have y2 := y.2 (fun w => q9 (eo8.symm.trans w)); refine ⟨by omega, fun w => by have v := hrgo z w; omega⟩
        refine g_goto X dX8_heath_71 (tgt := 53) (by decide) ?_
        refine g_lv [0, 1] (lv2 := [(1, .int (nI i30_1)), (0, .ref (a 100))]) rfl ?_
        exact ih53 ((m53_m - 1)) L M C D F I K hPn (by show _ < _; have y := hP53 hgd; have y2 := y.2 (fun w => q9 (eo8.symm.trans w)); have a8 := hrat; omega)
  · skip
    have q3 : ¬ 102 ≤ i30_1 := fun z => q3 ((nI_leI (a := 102) (b := i30_1) (by omega) (by omega)).mpr z)
    refine g_aload_n X dX8_heath_36 rfl (j := 1) rfl ?_
    refine i_get X F 100 rfl rfl fk_X8_31 dX8_heath_37 rfl ?_
    refine g_iload_n X dX8_heath_40 rfl (j := 0) rfl ?_
    refine g_iconst X dX8_heath_41 (v := 0) (by decide) ?_
    refine i_iast X F I 114 rfl (fun _ => rfl) dX8_heath_42 (vp_in_nI (by omega) (by decide)) (by rw [nI_clamp (by omega)]; exact okw_0 _) (fun M C F I K1 hC => ?_)
    have K := K.step K1 (by decide)
    refine g_iinc X dX8_heath_43 (j := 0) rfl (v := nI (i30_1 + 1)) (nI_1 i30_1) (by decide) (lv2 := [(1, .int (nI (i30_1 + 1))), (0, .ref (a 100))]) rfl ?_
    refine g_goto X dX8_heath_46 (tgt := 30) (by decide) ?_
    refine g_lv [0, 1] (lv2 := [(1, .int (nI (i30_1 + 1))), (0, .ref (a 100))]) rfl ?_
    exact ih30 ((i30_1 + 1)) L M C D F I K ⟨by omega, by omega⟩ (by show _ < _; omega)
set_option maxHeartbeats 4000000 in
set_option maxRecDepth 100000 in
theorem s_X8_image (l : Launch) (G : va_G) {cy : Nat → ClassId} {L : List Nat} {M : Nat → va_E} {a : Nat → Nat} {act : Nat → Bool} {C0 : Nat → Nat → Int32} {D0 : Nat → Nat → Int64} {R : Nat → Nat → Option Nat} (F : WI L M a act (ent cy a C0 D0 R)) (I : Inv C0) (p0 : Int32)  : MI l G cy yX8_image cX8_image 3 (some .int) 1 0 0 [.ref (a 100), .int p0] L M (fun r L2 M2 => ∃ C2 D2, WI L2 M2 a act (ent cy a C2 D2 R) ∧ Inv C2 ∧ Kp [102, 103] C0 D0 C2 D2 ∧ r = imS p0) := by
  refine MI.of (own := RX8) rfl (by decide) (Nat.le_of_ble_eq_true rfl) ?_
  intro p e s m below meth c A X hrt hnm
  obtain ⟨C, D, hC0, hD0, F, I, K⟩ : ∃ C D, C = C0 ∧ D = D0 ∧ WI L M a act (ent cy a C D R) ∧ Inv C ∧ Kp [102, 103] C0 D0 C D := ⟨C0, D0, rfl, rfl, F, I, Kp.rf⟩
  refine g_iload_n X dX8_image_0 rfl (j := 1) rfl ?_
  refine g_i2l X dX8_image_1 rfl ?_
  refine g_lconst X dX8_image_2 (v := 0) (by decide) ?_
  refine g_ldc2 X (v := 2) wd1044 dX8_image_3 ?_
  refine g_callSI X (s_X8_in l G F I ((Int32.toInt64 p0)) (0 : Int64) (2 : Int64) ) lk_X8_94 rfl rfl dX8_image_6 (Nat.le_of_ble_eq_true rfl) ⟨by decide, by decide⟩ ⟨by decide, by decide⟩ (fun r1 L M hp => ?_)
  obtain ⟨C, D, F, I, K1, hr⟩ := hp
  have K := K.step K1 (by decide)
  rcases hr with ⟨rfl, hq2⟩ | ⟨rfl, hq2⟩
  · skip
    have hq2x := Jvm.Kit.i64_of_i32 p0
    have hq2l : (0 : Int64).toInt = 0 := (by decide)
    have hq2h : (2 : Int64).toInt = 2 := (by decide)
    refine g_if_ne X dX8_image_9 (tgt := 15) (by decide) (fun q => absurd (by decide) q) (fun _ => ?_)
    refine g_bipush X dX8_image_12 (v := -2) (by decide) ?_
    exact g_iret X hrt dX8_image_14 (by decide) (by decide) ⟨C, D, F, I, K, (by unfold imS; rw [if_neg (by omega)])⟩
  · skip
    have hq2x := Jvm.Kit.i64_of_i32 p0
    have hq2l : (0 : Int64).toInt = 0 := (by decide)
    have hq2h : (2 : Int64).toInt = 2 := (by decide)
    obtain ⟨n3, hn3a, hn3b, en3⟩ := nI_ofInt (x := p0) (lo := 0) (hi := 2) (by omega) (by omega) (by decide)
    subst en3
    have tn3 := nI_toInt (n := n3) (by omega)
    refine g_if_ne X dX8_image_9 (tgt := 15) (by decide) (fun _ => ?_) (fun q => absurd q (by decide))
    refine g_iconst X dX8_image_15 (v := 0) (by decide) ?_
    refine g_istore_n X dX8_image_16 rfl (by decide) (lv2 := [(2, .int 0), (0, .ref (a 100)), (1, .int (nI n3))]) rfl ?_
    refine g_lv [0, 1, 2] (lv2 := [(2, .int 0), (0, .ref (a 100)), (1, .int (nI n3))]) rfl ?_
    refine i_loop (mods := [102, 103]) (fun x : Nat => 102 - x) (fun x => [(2, .int (nI (x))), (0, .ref (a 100)), (1, .int (nI n3))]) (fun x C => 0 ≤ x ∧ x ≤ 102) (fun x L M C D F I K hP ih17 => ?_) ((0) : Nat) F I K ⟨by show _ ≤ _; omega, by show _ ≤ _; omega⟩
    obtain ⟨i17_2, rfl⟩ : ∃ z, z = x := ⟨_, rfl⟩
    obtain ⟨hi17_2a, hi17_2b⟩ := hP
    refine g_lv [0, 1, 2] (lv2 := [(2, .int (nI i17_2)), (0, .ref (a 100)), (1, .int (nI n3))]) rfl ?_
    refine g_iload_n X dX8_image_17 rfl (j := 0) rfl ?_
    refine g_bipush X dX8_image_18 (v := 102) (by decide) ?_
    refine g_icmp_ge X dX8_image_20 (tgt := 46) (by decide) (fun q4 => ?_) (fun q4 => ?_)
    · skip
      have q4 : 102 ≤ i17_2 := (nI_leI (a := 102) (b := i17_2) (by omega) (by omega)).mp q4
      refine g_aload_n X dX8_image_46 rfl (j := 1) rfl ?_
      refine i_get X F 100 rfl rfl fk_X8_16 dX8_image_47 rfl ?_
      refine g_iload_n X dX8_image_50 rfl (j := 2) rfl ?_
      refine g_iconst X dX8_image_51 (v := 1) (by decide) ?_
      refine i_zast X F I 103 rfl (fun _ => rfl) dX8_image_52 (vp_in_nI (by omega) (by decide)) trivial (fun M C F I K1 hC => ?_)
      have K := K.step K1 (by decide)
      refine g_iconst X dX8_image_53 (v := 0) (by decide) ?_
      exact g_iret X hrt dX8_image_54 (by decide) (by decide) ⟨C, D, F, I, K, (im_in (by omega))⟩
    · skip
      have q4 : ¬ 102 ≤ i17_2 := fun z => q4 ((nI_leI (a := 102) (b := i17_2) (by omega) (by omega)).mpr z)
      refine g_aload_n X dX8_image_23 rfl (j := 1) rfl ?_
      refine i_get X F 100 rfl rfl fk_X8_13 dX8_image_24 rfl ?_
      refine g_bipush X dX8_image_27 (v := 102) (by decide) ?_
      refine g_iload_n X dX8_image_29 rfl (j := 2) rfl ?_
      refine g_imul X dX8_image_30 ?_
      refine Go.top (v := .int (nI (102 * n3))) (congrArg Value.int (pk_mul 102 n3)) ?_
      refine g_iload_n X dX8_image_31 rfl (j := 0) rfl ?_
      refine g_iadd X dX8_image_32 ?_
      refine Go.top (v := .int (nI ((102 * n3) + i17_2))) (congrArg Value.int (nI_add (102 * n3) i17_2)) ?_
      refine g_aload_n X dX8_image_33 rfl (j := 1) rfl ?_
      refine i_get X F 100 rfl rfl fk_X8_9 dX8_image_34 rfl ?_
      refine g_iload_n X dX8_image_37 rfl (j := 0) rfl ?_
      obtain ⟨o5, eo5⟩ : ∃ z, C 101 (i17_2) = z := ⟨_, rfl⟩
      have oko5 : okw (i17_2) o5 := by have y := (show okw (i17_2) (C 101 (i17_2)) from I 101 (i17_2)); rw [eo5] at y; exact y
      refine i_iald X F 101 rfl rfl dX8_image_38 (vp_in_nI (by omega) (by decide)) (v := o5) (by rw [nI_clamp (by omega)]; exact eo5) ?_
      refine i_iast X F I 102 rfl (fun _ => rfl) dX8_image_39 (vp_in_nI (by omega) (by decide)) (by rw [nI_clamp (by omega)]; show okw (((102 * n3) + i17_2) % 102) o5; rw [show ((102 * n3) + i17_2) % 102 = i17_2 by omega]; exact oko5) (fun M C F I K1 hC => ?_)
      have K := K.step K1 (by decide)
      refine g_iinc X dX8_image_40 (j := 0) rfl (v := nI (i17_2 + 1)) (nI_1 i17_2) (by decide) (lv2 := [(2, .int (nI (i17_2 + 1))), (0, .ref (a 100)), (1, .int (nI n3))]) rfl ?_
      refine g_goto X dX8_image_43 (tgt := 17) (by decide) ?_
      refine g_lv [0, 1, 2] (lv2 := [(2, .int (nI (i17_2 + 1))), (0, .ref (a 100)), (1, .int (nI n3))]) rfl ?_
      exact ih17 ((i17_2 + 1)) L M C D F I K ⟨by omega, by omega⟩ (by show _ < _; omega)
set_option maxHeartbeats 4000000 in
set_option maxRecDepth 100000 in
theorem s_X8_back (l : Launch) (G : va_G) {cy : Nat → ClassId} {L : List Nat} {M : Nat → va_E} {a : Nat → Nat} {act : Nat → Bool} {C0 : Nat → Nat → Int32} {D0 : Nat → Nat → Int64} {R : Nat → Nat → Option Nat} (F : WI L M a act (ent cy a C0 D0 R)) (I : Inv C0) (p0 : Int32)  : MI l G cy yX8_back cX8_back 3 (some .int) 1 0 0 [.ref (a 100), .int p0] L M (fun r L2 M2 => ∃ C2 D2, WI L2 M2 a act (ent cy a C2 D2 R) ∧ Inv C2 ∧ Kp [101] C0 D0 C2 D2 ∧ True) := by
  refine MI.of (own := RX8) rfl (by decide) (Nat.le_of_ble_eq_true rfl) ?_
  intro p e s m below meth c A X hrt hnm
  obtain ⟨C, D, hC0, hD0, F, I, K⟩ : ∃ C D, C = C0 ∧ D = D0 ∧ WI L M a act (ent cy a C D R) ∧ Inv C ∧ Kp [101] C0 D0 C D := ⟨C0, D0, rfl, rfl, F, I, Kp.rf⟩
  refine g_iload_n X dX8_back_0 rfl (j := 1) rfl ?_
  refine g_i2l X dX8_back_1 rfl ?_
  refine g_lconst X dX8_back_2 (v := 0) (by decide) ?_
  refine g_ldc2 X (v := 2) wd1044 dX8_back_3 ?_
  refine g_callSI X (s_X8_in l G F I ((Int32.toInt64 p0)) (0 : Int64) (2 : Int64) ) lk_X8_94 rfl rfl dX8_back_6 (Nat.le_of_ble_eq_true rfl) ⟨by decide, by decide⟩ ⟨by decide, by decide⟩ (fun r1 L M hp => ?_)
  obtain ⟨C, D, F, I, K1, hr⟩ := hp
  have K := K.step K1 (by decide)
  rcases hr with ⟨rfl, hq2⟩ | ⟨rfl, hq2⟩
  · skip
    have hq2x := Jvm.Kit.i64_of_i32 p0
    have hq2l : (0 : Int64).toInt = 0 := (by decide)
    have hq2h : (2 : Int64).toInt = 2 := (by decide)
    refine g_if_ne X dX8_back_9 (tgt := 15) (by decide) (fun q => absurd (by decide) q) (fun _ => ?_)
    refine g_bipush X dX8_back_12 (v := -2) (by decide) ?_
    exact g_iret X hrt dX8_back_14 (by decide) (by decide) ⟨C, D, F, I, K, trivial⟩
  · skip
    have hq2x := Jvm.Kit.i64_of_i32 p0
    have hq2l : (0 : Int64).toInt = 0 := (by decide)
    have hq2h : (2 : Int64).toInt = 2 := (by decide)
    obtain ⟨n3, hn3a, hn3b, en3⟩ := nI_ofInt (x := p0) (lo := 0) (hi := 2) (by omega) (by omega) (by decide)
    subst en3
    have tn3 := nI_toInt (n := n3) (by omega)
    refine g_if_ne X dX8_back_9 (tgt := 15) (by decide) (fun _ => ?_) (fun q => absurd q (by decide))
    refine g_aload_n X dX8_back_15 rfl (j := 0) rfl ?_
    refine i_get X F 100 rfl rfl fk_X8_16 dX8_back_16 rfl ?_
    refine g_iload_n X dX8_back_19 rfl (j := 1) rfl ?_
    refine i_zald X F 103 rfl rfl dX8_back_20 (vp_in_nI (by omega) (by decide)) rfl ?_
    refine Go.gen (fun o4 => ?_)
    refine g_if_ne X dX8_back_21 (tgt := 27) (by decide) (fun q5 => ?_) (fun q5 => ?_)
    · skip
      refine g_iconst X dX8_back_27 (v := 0) (by decide) ?_
      refine g_istore_n X dX8_back_28 rfl (by decide) (lv2 := [(2, .int 0), (0, .ref (a 100)), (1, .int (nI n3))]) rfl ?_
      refine g_lv [0, 1, 2] (lv2 := [(2, .int 0), (0, .ref (a 100)), (1, .int (nI n3))]) rfl ?_
      refine i_loop (mods := [101]) (fun x : Nat => 102 - x) (fun x => [(2, .int (nI (x))), (0, .ref (a 100)), (1, .int (nI n3))]) (fun x C => 0 ≤ x ∧ x ≤ 102) (fun x L M C D F I K hP ih29 => ?_) ((0) : Nat) F I K ⟨by show _ ≤ _; omega, by show _ ≤ _; omega⟩
      obtain ⟨i29_2, rfl⟩ : ∃ z, z = x := ⟨_, rfl⟩
      obtain ⟨hi29_2a, hi29_2b⟩ := hP
      refine g_lv [0, 1, 2] (lv2 := [(2, .int (nI i29_2)), (0, .ref (a 100)), (1, .int (nI n3))]) rfl ?_
      refine g_iload_n X dX8_back_29 rfl (j := 0) rfl ?_
      refine g_bipush X dX8_back_30 (v := 102) (by decide) ?_
      refine g_icmp_ge X dX8_back_32 (tgt := 58) (by decide) (fun q6 => ?_) (fun q6 => ?_)
      · skip
        have q6 : 102 ≤ i29_2 := (nI_leI (a := 102) (b := i29_2) (by omega) (by omega)).mp q6
        refine g_iconst X dX8_back_58 (v := 0) (by decide) ?_
        exact g_iret X hrt dX8_back_59 (by decide) (by decide) ⟨C, D, F, I, K, trivial⟩
      · skip
        have q6 : ¬ 102 ≤ i29_2 := fun z => q6 ((nI_leI (a := 102) (b := i29_2) (by omega) (by omega)).mpr z)
        refine g_aload_n X dX8_back_35 rfl (j := 1) rfl ?_
        refine i_get X F 100 rfl rfl fk_X8_9 dX8_back_36 rfl ?_
        refine g_iload_n X dX8_back_39 rfl (j := 0) rfl ?_
        refine g_aload_n X dX8_back_40 rfl (j := 1) rfl ?_
        refine i_get X F 100 rfl rfl fk_X8_13 dX8_back_41 rfl ?_
        refine g_bipush X dX8_back_44 (v := 102) (by decide) ?_
        refine g_iload_n X dX8_back_46 rfl (j := 2) rfl ?_
        refine g_imul X dX8_back_47 ?_
        refine Go.top (v := .int (nI (102 * n3))) (congrArg Value.int (pk_mul 102 n3)) ?_
        refine g_iload_n X dX8_back_48 rfl (j := 0) rfl ?_
        refine g_iadd X dX8_back_49 ?_
        refine Go.top (v := .int (nI ((102 * n3) + i29_2))) (congrArg Value.int (nI_add (102 * n3) i29_2)) ?_
        obtain ⟨o7, eo7⟩ : ∃ z, C 102 ((102 * n3) + i29_2) = z := ⟨_, rfl⟩
        have oko7 : okw (((102 * n3) + i29_2) % 102) o7 := by have y := (show okw (((102 * n3) + i29_2) % 102) (C 102 ((102 * n3) + i29_2)) from I 102 ((102 * n3) + i29_2)); rw [eo7] at y; exact y
        refine i_iald X F 102 rfl rfl dX8_back_50 (vp_in_nI (by omega) (by decide)) (v := o7) (by rw [nI_clamp (by omega)]; exact eo7) ?_
        refine i_iast X F I 101 rfl (fun _ => rfl) dX8_back_51 (vp_in_nI (by omega) (by decide)) (by rw [nI_clamp (by omega)]; show okw (i29_2) o7; have y := oko7; rw [show ((102 * n3) + i29_2) % 102 = i29_2 by omega] at y; exact y) (fun M C F I K1 hC => ?_)
        have K := K.step K1 (by decide)
        refine g_iinc X dX8_back_52 (j := 0) rfl (v := nI (i29_2 + 1)) (nI_1 i29_2) (by decide) (lv2 := [(2, .int (nI (i29_2 + 1))), (0, .ref (a 100)), (1, .int (nI n3))]) rfl ?_
        refine g_goto X dX8_back_55 (tgt := 29) (by decide) ?_
        refine g_lv [0, 1, 2] (lv2 := [(2, .int (nI (i29_2 + 1))), (0, .ref (a 100)), (1, .int (nI n3))]) rfl ?_
        exact ih29 ((i29_2 + 1)) L M C D F I K ⟨by omega, by omega⟩ (by show _ < _; omega)
    · skip
      subst q5
      refine g_bipush X dX8_back_24 (v := -6) (by decide) ?_
      exact g_iret X hrt dX8_back_26 (by decide) (by decide) ⟨C, D, F, I, K, trivial⟩
set_option maxHeartbeats 4000000 in
set_option maxRecDepth 100000 in
theorem s_X8_row (l : Launch) (G : va_G) {cy : Nat → ClassId} {L : List Nat} {M : Nat → va_E} {a : Nat → Nat} {act : Nat → Bool} {C0 : Nat → Nat → Int32} {D0 : Nat → Nat → Int64} {R : Nat → Nat → Option Nat} (F : WI L M a act (ent cy a C0 D0 R)) (I : Inv C0) (p0 : Int32) (p1 : Int32) (p2 : Int32)  : MI l G cy yX8_row cX8_row 5 (some .int) 2 0 0 [.ref (a 100), .int p0, .int p1, .int p2] L M (fun r L2 M2 => ∃ C2 D2, WI L2 M2 a act (ent cy a C2 D2 R) ∧ Inv C2 ∧ Kp [137, 138, 139] C0 D0 C2 D2 ∧ r = sp_row p0 p1 p2) := by
  refine MI.of (own := RX8) rfl (by decide) (Nat.le_of_ble_eq_true rfl) ?_
  intro p e s m below meth c A X hrt hnm
  obtain ⟨C, D, hC0, hD0, F, I, K⟩ : ∃ C D, C = C0 ∧ D = D0 ∧ WI L M a act (ent cy a C D R) ∧ Inv C ∧ Kp [137, 138, 139] C0 D0 C D := ⟨C0, D0, rfl, rfl, F, I, Kp.rf⟩
  refine g_iload_n X dX8_row_0 rfl (j := 1) rfl ?_
  refine g_callSI X (s_X8_isSlot l G F I p0 ) lk_X8_394 rfl rfl dX8_row_1 (Nat.le_of_ble_eq_true rfl) ⟨by decide, by decide⟩ ⟨by decide, by decide⟩ (fun r1 L M hp => ?_)
  obtain ⟨C, D, F, I, K1, hr⟩ := hp
  have K := K.step K1 (by decide)
  rcases hr with ⟨rfl, hsl3⟩ | ⟨rfl, n2, hn2, en2⟩
  · skip
    refine g_if_eq X dX8_row_4 (tgt := 25) (by decide) (fun _ => ?_) (fun q => absurd (by decide) q)
    refine g_bipush X dX8_row_25 (v := -2) (by decide) ?_
    exact g_iret X hrt dX8_row_27 (by decide) (by decide) ⟨C, D, F, I, K, (row_o (by have z := not4 hsl3; omega))⟩
  · skip
    subst en2
    have tn2 := nI_toInt (n := n2) (by omega)
    refine g_if_eq X dX8_row_4 (tgt := 25) (by decide) (fun q => absurd q (by decide)) (fun _ => ?_)
    refine g_iload_n X dX8_row_7 rfl (j := 2) rfl ?_
    refine g_i2l X dX8_row_8 rfl ?_
    refine g_lconst X dX8_row_9 (v := 0) (by decide) ?_
    refine g_ldc2 X (v := 3) wd861 dX8_row_10 ?_
    refine g_callSI X (s_X8_in l G F I ((Int32.toInt64 p1)) (0 : Int64) (3 : Int64) ) lk_X8_94 rfl rfl dX8_row_13 (Nat.le_of_ble_eq_true rfl) ⟨by decide, by decide⟩ ⟨by decide, by decide⟩ (fun r4 L M hp => ?_)
    obtain ⟨C, D, F, I, K1, hr⟩ := hp
    have K := K.step K1 (by decide)
    rcases hr with ⟨rfl, hq5⟩ | ⟨rfl, hq5⟩
    · skip
      have hq5x := Jvm.Kit.i64_of_i32 p1
      have hq5l : (0 : Int64).toInt = 0 := (by decide)
      have hq5h : (3 : Int64).toInt = 3 := (by decide)
      refine g_if_eq X dX8_row_16 (tgt := 25) (by decide) (fun _ => ?_) (fun q => absurd (by decide) q)
      refine g_bipush X dX8_row_25 (v := -2) (by decide) ?_
      exact g_iret X hrt dX8_row_27 (by decide) (by decide) ⟨C, D, F, I, K, (row_o (by omega))⟩
    · skip
      have hq5x := Jvm.Kit.i64_of_i32 p1
      have hq5l : (0 : Int64).toInt = 0 := (by decide)
      have hq5h : (3 : Int64).toInt = 3 := (by decide)
      obtain ⟨n6, hn6a, hn6b, en6⟩ := nI_ofInt (x := p1) (lo := 0) (hi := 3) (by omega) (by omega) (by decide)
      subst en6
      have tn6 := nI_toInt (n := n6) (by omega)
      refine g_if_eq X dX8_row_16 (tgt := 25) (by decide) (fun q => absurd q (by decide)) (fun _ => ?_)
      refine g_iload_n X dX8_row_19 rfl (j := 3) rfl ?_
      refine g_bipush X dX8_row_20 (v := 60) (by decide) ?_
      refine g_icmp_le X dX8_row_22 (tgt := 28) (by decide) (fun q7 => ?_) (fun q7 => ?_)
      · skip
        have q7t : p2.toInt ≤ (60 : Int32).toInt := Int32.le_iff_toInt_le.mp q7
        have q7k : (60 : Int32).toInt = 60 := (by decide)
        have q7b := Int32.toInt_lt p2
        refine g_iload_n X dX8_row_28 rfl (j := 3) rfl ?_
        refine g_if_ge X dX8_row_29 (tgt := 35) (by decide) (fun q8 => ?_) (fun q8 => ?_)
        · skip
          have q8t : (0 : Int32).toInt ≤ p2.toInt := Int32.le_iff_toInt_le.mp q8
          have q8k : (0 : Int32).toInt = 0 := (by decide)
          have q8b := Int32.toInt_lt p2
          obtain ⟨n9, hn9, rfl⟩ := nI_of (x := p2) (fun z => by have z2 := Int32.lt_iff_toInt_lt.mp z; have z3 : (0 : Int32).toInt = 0 := (by decide); omega)
          rw [nI_toInt (by omega)] at q8t
          have tn9 := nI_toInt (n := n9) (by omega)
          refine g_aload_n X dX8_row_35 rfl (j := 0) rfl ?_
          refine i_get X F 100 rfl rfl fk_X8_76 dX8_row_36 rfl ?_
          refine g_iload_n X dX8_row_39 rfl (j := 1) rfl ?_
          refine g_iload_n X dX8_row_40 rfl (j := 3) rfl ?_
          refine i_iast X F I 137 rfl (fun _ => rfl) dX8_row_41 (vp_in_nI (by omega) (by decide)) (rg_of (n := n9) (by omega) (by omega) (by omega)) (fun M C F I K1 hC => ?_)
          have K := K.step K1 (by decide)
          refine g_aload_n X dX8_row_42 rfl (j := 0) rfl ?_
          refine i_get X F 100 rfl rfl fk_X8_79 dX8_row_43 rfl ?_
          refine g_iload_n X dX8_row_46 rfl (j := 1) rfl ?_
          refine g_iload_n X dX8_row_47 rfl (j := 2) rfl ?_
          refine i_iast X F I 138 rfl (fun _ => rfl) dX8_row_48 (vp_in_nI (by omega) (by decide)) trivial (fun M C F I K1 hC => ?_)
          have K := K.step K1 (by decide)
          refine g_iconst X dX8_row_49 (v := 0) (by decide) ?_
          refine g_istore X dX8_row_50 (by decide) (lv2 := [(4, .int 0), (0, .ref (a 100)), (1, .int (nI n2)), (2, .int (nI n6)), (3, .int (nI n9))]) rfl ?_
          refine g_lv [0, 1, 2, 3, 4] (lv2 := [(4, .int 0), (0, .ref (a 100)), (1, .int (nI n2)), (2, .int (nI n6)), (3, .int (nI n9))]) rfl ?_
          refine i_loop (mods := [137, 138, 139]) (fun x : Nat => 60 - x) (fun x => [(4, .int (nI (x))), (0, .ref (a 100)), (1, .int (nI n2)), (2, .int (nI n6)), (3, .int (nI n9))]) (fun x C => 0 ≤ x ∧ x ≤ 60) (fun x L M C D F I K hP ih52 => ?_) ((0) : Nat) F I K ⟨by show _ ≤ _; omega, by show _ ≤ _; omega⟩
          obtain ⟨i52_4, rfl⟩ : ∃ z, z = x := ⟨_, rfl⟩
          obtain ⟨hi52_4a, hi52_4b⟩ := hP
          refine g_lv [0, 1, 2, 3, 4] (lv2 := [(4, .int (nI i52_4)), (0, .ref (a 100)), (1, .int (nI n2)), (2, .int (nI n6)), (3, .int (nI n9))]) rfl ?_
          refine g_iload X dX8_row_52 (j := 0) rfl ?_
          refine g_bipush X dX8_row_54 (v := 60) (by decide) ?_
          refine g_icmp_ge X dX8_row_56 (tgt := 78) (by decide) (fun q10 => ?_) (fun q10 => ?_)
          · skip
            have q10 : 60 ≤ i52_4 := (nI_leI (a := 60) (b := i52_4) (by omega) (by omega)).mp q10
            refine g_iconst X dX8_row_78 (v := 0) (by decide) ?_
            exact g_iret X hrt dX8_row_79 (by decide) (by decide) ⟨C, D, F, I, K, (row_k (by omega))⟩
          · skip
            have q10 : ¬ 60 ≤ i52_4 := fun z => q10 ((nI_leI (a := 60) (b := i52_4) (by omega) (by omega)).mpr z)
            refine g_aload_n X dX8_row_59 rfl (j := 1) rfl ?_
            refine i_get X F 100 rfl rfl fk_X8_82 dX8_row_60 rfl ?_
            refine g_bipush X dX8_row_63 (v := 60) (by decide) ?_
            refine g_iload_n X dX8_row_65 rfl (j := 2) rfl ?_
            refine g_imul X dX8_row_66 ?_
            refine Go.top (v := .int (nI (60 * n2))) (congrArg Value.int (pk_mul 60 n2)) ?_
            refine g_iload X dX8_row_67 (j := 0) rfl ?_
            refine g_iadd X dX8_row_69 ?_
            refine Go.top (v := .int (nI ((60 * n2) + i52_4))) (congrArg Value.int (nI_add (60 * n2) i52_4)) ?_
            refine g_lconst X dX8_row_70 (v := 0) (by decide) ?_
            refine i_last X F 139 rfl (fun _ => rfl) dX8_row_71 (vp_in_nI (by omega) (by decide)) (fun M D F K1 hC => ?_)
            have K := K.step K1 (by decide)
            refine g_iinc X dX8_row_72 (j := 0) rfl (v := nI (i52_4 + 1)) (nI_1 i52_4) (by decide) (lv2 := [(4, .int (nI (i52_4 + 1))), (0, .ref (a 100)), (1, .int (nI n2)), (2, .int (nI n6)), (3, .int (nI n9))]) rfl ?_
            refine g_goto X dX8_row_75 (tgt := 52) (by decide) ?_
            refine g_lv [0, 1, 2, 3, 4] (lv2 := [(4, .int (nI (i52_4 + 1))), (0, .ref (a 100)), (1, .int (nI n2)), (2, .int (nI n6)), (3, .int (nI n9))]) rfl ?_
            exact ih52 ((i52_4 + 1)) L M C D F I K ⟨by omega, by omega⟩ (by show _ < _; omega)
        · skip
          have q8t : ¬ (0 : Int32).toInt ≤ p2.toInt := fun z => q8 (Int32.le_iff_toInt_le.mpr z)
          have q8k : (0 : Int32).toInt = 0 := (by decide)
          have q8b := Int32.toInt_lt p2
          refine g_bipush X dX8_row_32 (v := -3) (by decide) ?_
          exact g_iret X hrt dX8_row_34 (by decide) (by decide) ⟨C, D, F, I, K, (row_n (by omega))⟩
      · skip
        have q7t : ¬ p2.toInt ≤ (60 : Int32).toInt := fun z => q7 (Int32.le_iff_toInt_le.mpr z)
        have q7k : (60 : Int32).toInt = 60 := (by decide)
        have q7b := Int32.toInt_lt p2
        obtain ⟨n11, hn11, rfl⟩ := nI_of (x := p2) (fun z => by have z2 := Int32.lt_iff_toInt_lt.mp z; have z3 : (0 : Int32).toInt = 0 := (by decide); omega)
        rw [nI_toInt (by omega)] at q7t
        have tn11 := nI_toInt (n := n11) (by omega)
        refine g_bipush X dX8_row_25 (v := -2) (by decide) ?_
        exact g_iret X hrt dX8_row_27 (by decide) (by decide) ⟨C, D, F, I, K, (row_o (by omega))⟩
set_option maxHeartbeats 4000000 in
set_option maxRecDepth 100000 in
theorem s_X8_clipped (l : Launch) (G : va_G) {cy : Nat → ClassId} {L : List Nat} {M : Nat → va_E} {a : Nat → Nat} {act : Nat → Bool} {C0 : Nat → Nat → Int32} {D0 : Nat → Nat → Int64} {R : Nat → Nat → Option Nat} (F : WI L M a act (ent cy a C0 D0 R)) (I : Inv C0) (p0 : Int64) (p1 : Int32)  : MJ l G cy yX8_clipped cX8_clipped 4 (some .long) 0 0 0 [.long p0, .int p1] L M (fun r L2 M2 => ∃ C2 D2, WI L2 M2 a act (ent cy a C2 D2 R) ∧ Inv C2 ∧ Kp [] C0 D0 C2 D2 ∧ True) := by
  refine MJ.of (own := RX8) rfl (by decide) (Nat.le_of_ble_eq_true rfl) ?_
  intro p e s m below meth c A X hrt hnm
  obtain ⟨C, D, hC0, hD0, F, I, K⟩ : ∃ C D, C = C0 ∧ D = D0 ∧ WI L M a act (ent cy a C D R) ∧ Inv C ∧ Kp [] C0 D0 C D := ⟨C0, D0, rfl, rfl, F, I, Kp.rf⟩
  refine g_bipush X dX8_clipped_0 (v := 64) (by decide) ?_
  refine g_bipush X dX8_clipped_2 (v := 8) (by decide) ?_
  refine g_iload_n X dX8_clipped_4 rfl (j := 1) rfl ?_
  refine g_ishl X dX8_clipped_5 ?_
  refine Go.gen (fun o1 => ?_)
  refine g_isub X dX8_clipped_6 ?_
  refine Go.gen (fun o2 => ?_)
  refine g_istore_n X dX8_clipped_7 rfl (by decide) (lv2 := [(3, .int o2), (0, .long p0), (2, .int p1)]) rfl ?_
  refine g_lload_n X dX8_clipped_8 rfl (j := 1) rfl ?_
  refine g_iload_n X dX8_clipped_9 rfl (j := 0) rfl ?_
  refine g_lshl X dX8_clipped_10 rfl ?_
  refine Go.genL (fun o3 => ?_)
  refine g_iload_n X dX8_clipped_11 rfl (j := 0) rfl ?_
  refine g_lshr X dX8_clipped_12 rfl ?_
  refine Go.genL (fun o4 => ?_)
  exact g_lret X hrt dX8_clipped_13 (by decide) (by decide) ⟨C, D, F, I, K, trivial⟩
set_option maxHeartbeats 4000000 in
set_option maxRecDepth 100000 in
theorem s_X8_write (l : Launch) (G : va_G) {cy : Nat → ClassId} {L : List Nat} {M : Nat → va_E} {a : Nat → Nat} {act : Nat → Bool} {C0 : Nat → Nat → Int32} {D0 : Nat → Nat → Int64} {R : Nat → Nat → Option Nat} (F : WI L M a act (ent cy a C0 D0 R)) (I : Inv C0) (p0 : Int32) (p1 : Int32) (p2 : Int64)  : MI l G cy yX8_write cX8_write 5 (some .int) 2 0 0 [.ref (a 100), .int p0, .int p1, .long p2] L M (fun r L2 M2 => ∃ C2 D2, WI L2 M2 a act (ent cy a C2 D2 R) ∧ Inv C2 ∧ Kp [139] C0 D0 C2 D2 ∧ True) := by
  refine MI.of (own := RX8) rfl (by decide) (Nat.le_of_ble_eq_true rfl) ?_
  intro p e s m below meth c A X hrt hnm
  obtain ⟨C, D, hC0, hD0, F, I, K⟩ : ∃ C D, C = C0 ∧ D = D0 ∧ WI L M a act (ent cy a C D R) ∧ Inv C ∧ Kp [139] C0 D0 C D := ⟨C0, D0, rfl, rfl, F, I, Kp.rf⟩
  refine g_iload_n X dX8_write_0 rfl (j := 1) rfl ?_
  refine g_callSI X (s_X8_isSlot l G F I p0 ) lk_X8_394 rfl rfl dX8_write_1 (Nat.le_of_ble_eq_true rfl) ⟨by decide, by decide⟩ ⟨by decide, by decide⟩ (fun r1 L M hp => ?_)
  obtain ⟨C, D, F, I, K1, hr⟩ := hp
  have K := K.step K1 (by decide)
  rcases hr with ⟨rfl, hsl3⟩ | ⟨rfl, n2, hn2, en2⟩
  · skip
    refine g_if_ne X dX8_write_4 (tgt := 10) (by decide) (fun q => absurd (by decide) q) (fun _ => ?_)
    refine g_bipush X dX8_write_7 (v := -2) (by decide) ?_
    exact g_iret X hrt dX8_write_9 (by decide) (by decide) ⟨C, D, F, I, K, trivial⟩
  · skip
    subst en2
    have tn2 := nI_toInt (n := n2) (by omega)
    refine g_if_ne X dX8_write_4 (tgt := 10) (by decide) (fun _ => ?_) (fun q => absurd q (by decide))
    refine g_aload_n X dX8_write_10 rfl (j := 0) rfl ?_
    refine i_get X F 100 rfl rfl fk_X8_76 dX8_write_11 rfl ?_
    refine g_iload_n X dX8_write_14 rfl (j := 1) rfl ?_
    rcases rgm_nat (I 137 n2) with en4 | ⟨n4, hn4, en4⟩
    · skip
      refine i_iald X F 137 rfl rfl dX8_write_15 (vp_in_nI (by omega) (by decide)) (v := -1) (by rw [nI_clamp (by omega)]; exact en4) ?_
      have fn4 : C0 137 (n2) = -1 := (congrFun (K 137 (by decide)).1 (n2)).symm.trans en4
      refine g_iconst X dX8_write_16 (v := -1) (by decide) ?_
      refine g_icmp_ne X dX8_write_17 (tgt := 23) (by decide) (fun q => absurd (by decide) q) (fun _ => ?_)
      refine g_bipush X dX8_write_20 (v := -6) (by decide) ?_
      exact g_iret X hrt dX8_write_22 (by decide) (by decide) ⟨C, D, F, I, K, trivial⟩
    · skip
      refine i_iald X F 137 rfl rfl dX8_write_15 (vp_in_nI (by omega) (by decide)) (v := nI n4) (by rw [nI_clamp (by omega)]; exact en4) ?_
      have fn4 : C0 137 (n2) = nI n4 := (congrFun (K 137 (by decide)).1 (n2)).symm.trans en4
      refine g_iconst X dX8_write_16 (v := -1) (by decide) ?_
      refine g_icmp_ne X dX8_write_17 (tgt := 23) (by decide) (fun _ => ?_) (fun q => absurd q (nI_nm1 (by omega)))
      refine g_iload_n X dX8_write_23 rfl (j := 2) rfl ?_
      refine g_i2l X dX8_write_24 rfl ?_
      refine g_lconst X dX8_write_25 (v := 0) (by decide) ?_
      refine g_aload_n X dX8_write_26 rfl (j := 0) rfl ?_
      refine i_get X F 100 rfl rfl fk_X8_76 dX8_write_27 rfl ?_
      refine g_iload_n X dX8_write_30 rfl (j := 1) rfl ?_
      refine i_iald X F 137 rfl rfl dX8_write_31 (vp_in_nI (by omega) (by decide)) (v := nI n4) (by rw [nI_clamp (by omega)]; exact (congrFun (K 137 (by decide)).1 (n2)).trans fn4) ?_
      refine g_iconst X dX8_write_32 (v := 1) (by decide) ?_
      refine g_isub X dX8_write_33 ?_
      have hs6 := nI_m1 (n := n4) (by omega)
      refine g_i2l X dX8_write_34 rfl ?_
      refine g_callSI X (s_X8_in l G F I ((Int32.toInt64 p1)) (0 : Int64) ((Int32.toInt64 ((nI n4 - 1)))) ) lk_X8_94 rfl rfl dX8_write_35 (Nat.le_of_ble_eq_true rfl) ⟨by decide, by decide⟩ ⟨by decide, by decide⟩ (fun r7 L M hp => ?_)
      obtain ⟨C, D, F, I, K1, hr⟩ := hp
      have K := K.step K1 (by decide)
      rcases hr with ⟨rfl, hq8⟩ | ⟨rfl, hq8⟩
      · skip
        have hq8x := Jvm.Kit.i64_of_i32 p1
        have hq8l : (0 : Int64).toInt = 0 := (by decide)
        have hq8h := Jvm.Kit.i64_of_i32 ((nI n4 - 1))
        refine g_if_ne X dX8_write_38 (tgt := 44) (by decide) (fun q => absurd (by decide) q) (fun _ => ?_)
        refine g_bipush X dX8_write_41 (v := -7) (by decide) ?_
        exact g_iret X hrt dX8_write_43 (by decide) (by decide) ⟨C, D, F, I, K, trivial⟩
      · skip
        have hq8x := Jvm.Kit.i64_of_i32 p1
        have hq8l : (0 : Int64).toInt = 0 := (by decide)
        have hq8h := Jvm.Kit.i64_of_i32 ((nI n4 - 1))
        obtain ⟨n9, hn9a, hn9b, en9⟩ := nI_ofInt (x := p1) (lo := 0) (hi := 59) (by omega) (by omega) (by decide)
        subst en9
        have tn9 := nI_toInt (n := n9) (by omega)
        refine g_if_ne X dX8_write_38 (tgt := 44) (by decide) (fun _ => ?_) (fun q => absurd q (by decide))
        refine g_aload_n X dX8_write_44 rfl (j := 0) rfl ?_
        refine i_get X F 100 rfl rfl fk_X8_82 dX8_write_45 rfl ?_
        refine g_bipush X dX8_write_48 (v := 60) (by decide) ?_
        refine g_iload_n X dX8_write_50 rfl (j := 1) rfl ?_
        refine g_imul X dX8_write_51 ?_
        refine Go.top (v := .int (nI (60 * n2))) (congrArg Value.int (pk_mul 60 n2)) ?_
        refine g_iload_n X dX8_write_52 rfl (j := 2) rfl ?_
        refine g_iadd X dX8_write_53 ?_
        refine Go.top (v := .int (nI ((60 * n2) + n9))) (congrArg Value.int (nI_add (60 * n2) n9)) ?_
        refine g_lload_n X dX8_write_54 rfl (j := 3) rfl ?_
        refine g_aload_n X dX8_write_55 rfl (j := 0) rfl ?_
        refine i_get X F 100 rfl rfl fk_X8_79 dX8_write_56 rfl ?_
        refine g_iload_n X dX8_write_59 rfl (j := 1) rfl ?_
        refine i_iald X F 138 rfl rfl dX8_write_60 (vp_in_nI (by omega) (by decide)) rfl ?_
        refine Go.gen (fun o10 => ?_)
        refine g_callSJ X (s_X8_clipped l G F I p2 o10 ) lk_X8_498 rfl rfl dX8_write_61 (Nat.le_of_ble_eq_true rfl) ⟨by decide, by decide⟩ ⟨by decide, by decide⟩ (fun r11 L M hp => ?_)
        obtain ⟨C, D, F, I, K1, hr⟩ := hp
        have K := K.step K1 (by decide)
        refine i_last X F 139 rfl (fun _ => rfl) dX8_write_64 (vp_in_nI (by omega) (by decide)) (fun M D F K1 hC => ?_)
        have K := K.step K1 (by decide)
        refine g_iconst X dX8_write_65 (v := 0) (by decide) ?_
        exact g_iret X hrt dX8_write_66 (by decide) (by decide) ⟨C, D, F, I, K, trivial⟩
set_option maxHeartbeats 4000000 in
set_option maxRecDepth 100000 in
theorem s_X8_paste (l : Launch) (G : va_G) {cy : Nat → ClassId} {L : List Nat} {M : Nat → va_E} {a : Nat → Nat} {act : Nat → Bool} {C0 : Nat → Nat → Int32} {D0 : Nat → Nat → Int64} {R : Nat → Nat → Option Nat} (F : WI L M a act (ent cy a C0 D0 R)) (I : Inv C0) (p0 : Int32) (p1 : Int32) (p2 : Int32) (p3 : Int32) (p4 : Int32)  : MI l G cy yX8_paste cX8_paste 7 (some .int) 2 0 0 [.ref (a 100), .int p0, .int p1, .int p2, .int p3, .int p4] L M (fun r L2 M2 => ∃ C2 D2, WI L2 M2 a act (ent cy a C2 D2 R) ∧ Inv C2 ∧ Kp [139, 140] C0 D0 C2 D2 ∧ True) := by
  refine MI.of (own := RX8) rfl (by decide) (Nat.le_of_ble_eq_true rfl) ?_
  intro p e s m below meth c A X hrt hnm
  obtain ⟨C, D, hC0, hD0, F, I, K⟩ : ∃ C D, C = C0 ∧ D = D0 ∧ WI L M a act (ent cy a C D R) ∧ Inv C ∧ Kp [139, 140] C0 D0 C D := ⟨C0, D0, rfl, rfl, F, I, Kp.rf⟩
  refine g_iload_n X dX8_paste_0 rfl (j := 1) rfl ?_
  refine g_callSI X (s_X8_isSlot l G F I p0 ) lk_X8_394 rfl rfl dX8_paste_1 (Nat.le_of_ble_eq_true rfl) ⟨by decide, by decide⟩ ⟨by decide, by decide⟩ (fun r1 L M hp => ?_)
  obtain ⟨C, D, F, I, K1, hr⟩ := hp
  have K := K.step K1 (by decide)
  rcases hr with ⟨rfl, hsl3⟩ | ⟨rfl, n2, hn2, en2⟩
  · skip
    refine g_if_eq X dX8_paste_4 (tgt := 14) (by decide) (fun _ => ?_) (fun q => absurd (by decide) q)
    refine g_bipush X dX8_paste_14 (v := -2) (by decide) ?_
    exact g_iret X hrt dX8_paste_16 (by decide) (by decide) ⟨C, D, F, I, K, trivial⟩
  · skip
    subst en2
    have tn2 := nI_toInt (n := n2) (by omega)
    refine g_if_eq X dX8_paste_4 (tgt := 14) (by decide) (fun q => absurd q (by decide)) (fun _ => ?_)
    refine g_iload_n X dX8_paste_7 rfl (j := 3) rfl ?_
    refine g_callSI X (s_X8_isSlot l G F I p2 ) lk_X8_394 rfl rfl dX8_paste_8 (Nat.le_of_ble_eq_true rfl) ⟨by decide, by decide⟩ ⟨by decide, by decide⟩ (fun r4 L M hp => ?_)
    obtain ⟨C, D, F, I, K1, hr⟩ := hp
    have K := K.step K1 (by decide)
    rcases hr with ⟨rfl, hsl6⟩ | ⟨rfl, n5, hn5, en5⟩
    · skip
      refine g_if_ne X dX8_paste_11 (tgt := 17) (by decide) (fun q => absurd (by decide) q) (fun _ => ?_)
      refine g_bipush X dX8_paste_14 (v := -2) (by decide) ?_
      exact g_iret X hrt dX8_paste_16 (by decide) (by decide) ⟨C, D, F, I, K, trivial⟩
    · skip
      subst en5
      have tn5 := nI_toInt (n := n5) (by omega)
      refine g_if_ne X dX8_paste_11 (tgt := 17) (by decide) (fun _ => ?_) (fun q => absurd q (by decide))
      refine g_aload_n X dX8_paste_17 rfl (j := 0) rfl ?_
      refine i_get X F 100 rfl rfl fk_X8_76 dX8_paste_18 rfl ?_
      refine g_iload_n X dX8_paste_21 rfl (j := 1) rfl ?_
      rcases rgm_nat (I 137 n2) with en7 | ⟨n7, hn7, en7⟩
      · skip
        refine i_iald X F 137 rfl rfl dX8_paste_22 (vp_in_nI (by omega) (by decide)) (v := -1) (by rw [nI_clamp (by omega)]; exact en7) ?_
        have fn7 : C0 137 (n2) = -1 := (congrFun (K 137 (by decide)).1 (n2)).symm.trans en7
        refine g_iconst X dX8_paste_23 (v := -1) (by decide) ?_
        refine g_icmp_eq X dX8_paste_24 (tgt := 37) (by decide) (fun _ => ?_) (fun q => absurd (by decide) q)
        refine g_bipush X dX8_paste_37 (v := -6) (by decide) ?_
        exact g_iret X hrt dX8_paste_39 (by decide) (by decide) ⟨C, D, F, I, K, trivial⟩
      · skip
        refine i_iald X F 137 rfl rfl dX8_paste_22 (vp_in_nI (by omega) (by decide)) (v := nI n7) (by rw [nI_clamp (by omega)]; exact en7) ?_
        have fn7 : C0 137 (n2) = nI n7 := (congrFun (K 137 (by decide)).1 (n2)).symm.trans en7
        refine g_iconst X dX8_paste_23 (v := -1) (by decide) ?_
        refine g_icmp_eq X dX8_paste_24 (tgt := 37) (by decide) (fun q => absurd q (nI_nm1 (by omega))) (fun _ => ?_)
        refine g_aload_n X dX8_paste_27 rfl (j := 0) rfl ?_
        refine i_get X F 100 rfl rfl fk_X8_76 dX8_paste_28 rfl ?_
        refine g_iload_n X dX8_paste_31 rfl (j := 3) rfl ?_
        rcases rgm_nat (I 137 n5) with en9 | ⟨n9, hn9, en9⟩
        · skip
          refine i_iald X F 137 rfl rfl dX8_paste_32 (vp_in_nI (by omega) (by decide)) (v := -1) (by rw [nI_clamp (by omega)]; exact en9) ?_
          have fn9 : C0 137 (n5) = -1 := (congrFun (K 137 (by decide)).1 (n5)).symm.trans en9
          refine g_iconst X dX8_paste_33 (v := -1) (by decide) ?_
          refine g_icmp_ne X dX8_paste_34 (tgt := 40) (by decide) (fun q => absurd (by decide) q) (fun _ => ?_)
          refine g_bipush X dX8_paste_37 (v := -6) (by decide) ?_
          exact g_iret X hrt dX8_paste_39 (by decide) (by decide) ⟨C, D, F, I, K, trivial⟩
        · skip
          refine i_iald X F 137 rfl rfl dX8_paste_32 (vp_in_nI (by omega) (by decide)) (v := nI n9) (by rw [nI_clamp (by omega)]; exact en9) ?_
          have fn9 : C0 137 (n5) = nI n9 := (congrFun (K 137 (by decide)).1 (n5)).symm.trans en9
          refine g_iconst X dX8_paste_33 (v := -1) (by decide) ?_
          refine g_icmp_ne X dX8_paste_34 (tgt := 40) (by decide) (fun _ => ?_) (fun q => absurd q (nI_nm1 (by omega)))
          refine g_aload_n X dX8_paste_40 rfl (j := 0) rfl ?_
          refine i_get X F 100 rfl rfl fk_X8_79 dX8_paste_41 rfl ?_
          refine g_iload_n X dX8_paste_44 rfl (j := 1) rfl ?_
          refine i_iald X F 138 rfl rfl dX8_paste_45 (vp_in_nI (by omega) (by decide)) rfl ?_
          refine Go.gen (fun o11 => ?_)
          refine g_aload_n X dX8_paste_46 rfl (j := 0) rfl ?_
          refine i_get X F 100 rfl rfl fk_X8_79 dX8_paste_47 rfl ?_
          refine g_iload_n X dX8_paste_50 rfl (j := 3) rfl ?_
          refine i_iald X F 138 rfl rfl dX8_paste_51 (vp_in_nI (by omega) (by decide)) rfl ?_
          refine Go.gen (fun o12 => ?_)
          refine g_icmp_eq X dX8_paste_52 (tgt := 58) (by decide) (fun q13 => ?_) (fun q13 => ?_)
          · skip
            refine g_iload_n X dX8_paste_58 rfl (j := 2) rfl ?_
            refine g_if_lt X dX8_paste_59 (tgt := 107) (by decide) (fun q14 => ?_) (fun q14 => ?_)
            · skip
              have q14t : p1.toInt < (0 : Int32).toInt := Int32.lt_iff_toInt_lt.mp q14
              have q14k : (0 : Int32).toInt = 0 := (by decide)
              have q14b := Int32.toInt_lt p1
              refine g_bipush X dX8_paste_107 (v := -7) (by decide) ?_
              exact g_iret X hrt dX8_paste_109 (by decide) (by decide) ⟨C, D, F, I, K, trivial⟩
            · skip
              have q14t : ¬ p1.toInt < (0 : Int32).toInt := fun z => q14 (Int32.lt_iff_toInt_lt.mpr z)
              have q14k : (0 : Int32).toInt = 0 := (by decide)
              have q14b := Int32.toInt_lt p1
              obtain ⟨n15, hn15, rfl⟩ := nI_of (x := p1) (fun z => by have z2 := Int32.lt_iff_toInt_lt.mp z; have z3 : (0 : Int32).toInt = 0 := (by decide); omega)
              rw [nI_toInt (by omega)] at q14t
              have tn15 := nI_toInt (n := n15) (by omega)
              refine g_iload X dX8_paste_62 (j := 4) rfl ?_
              refine g_if_lt X dX8_paste_64 (tgt := 107) (by decide) (fun q16 => ?_) (fun q16 => ?_)
              · skip
                have q16t : p3.toInt < (0 : Int32).toInt := Int32.lt_iff_toInt_lt.mp q16
                have q16k : (0 : Int32).toInt = 0 := (by decide)
                have q16b := Int32.toInt_lt p3
                refine g_bipush X dX8_paste_107 (v := -7) (by decide) ?_
                exact g_iret X hrt dX8_paste_109 (by decide) (by decide) ⟨C, D, F, I, K, trivial⟩
              · skip
                have q16t : ¬ p3.toInt < (0 : Int32).toInt := fun z => q16 (Int32.lt_iff_toInt_lt.mpr z)
                have q16k : (0 : Int32).toInt = 0 := (by decide)
                have q16b := Int32.toInt_lt p3
                obtain ⟨n17, hn17, rfl⟩ := nI_of (x := p3) (fun z => by have z2 := Int32.lt_iff_toInt_lt.mp z; have z3 : (0 : Int32).toInt = 0 := (by decide); omega)
                rw [nI_toInt (by omega)] at q16t
                have tn17 := nI_toInt (n := n17) (by omega)
                refine g_iload X dX8_paste_67 (j := 5) rfl ?_
                refine g_if_lt X dX8_paste_69 (tgt := 107) (by decide) (fun q18 => ?_) (fun q18 => ?_)
                · skip
                  have q18t : p4.toInt < (0 : Int32).toInt := Int32.lt_iff_toInt_lt.mp q18
                  have q18k : (0 : Int32).toInt = 0 := (by decide)
                  have q18b := Int32.toInt_lt p4
                  refine g_bipush X dX8_paste_107 (v := -7) (by decide) ?_
                  exact g_iret X hrt dX8_paste_109 (by decide) (by decide) ⟨C, D, F, I, K, trivial⟩
                · skip
                  have q18t : ¬ p4.toInt < (0 : Int32).toInt := fun z => q18 (Int32.lt_iff_toInt_lt.mpr z)
                  have q18k : (0 : Int32).toInt = 0 := (by decide)
                  have q18b := Int32.toInt_lt p4
                  obtain ⟨n19, hn19, rfl⟩ := nI_of (x := p4) (fun z => by have z2 := Int32.lt_iff_toInt_lt.mp z; have z3 : (0 : Int32).toInt = 0 := (by decide); omega)
                  rw [nI_toInt (by omega)] at q18t
                  have tn19 := nI_toInt (n := n19) (by omega)
                  refine g_iload_n X dX8_paste_72 rfl (j := 2) rfl ?_
                  refine g_i2l X dX8_paste_73 rfl ?_
                  refine g_iload X dX8_paste_74 (j := 5) rfl ?_
                  refine g_i2l X dX8_paste_76 rfl ?_
                  refine g_ladd X dX8_paste_77 ?_
                  have hadd77 := ladd_n (x := n15) (y := n19) (by omega) (by omega)
                  refine g_aload_n X dX8_paste_78 rfl (j := 0) rfl ?_
                  refine i_get X F 100 rfl rfl fk_X8_76 dX8_paste_79 rfl ?_
                  refine g_iload_n X dX8_paste_82 rfl (j := 1) rfl ?_
                  refine i_iald X F 137 rfl rfl dX8_paste_83 (vp_in_nI (by omega) (by decide)) (v := nI n7) (by rw [nI_clamp (by omega)]; exact (congrFun (K 137 (by decide)).1 (n2)).trans fn7) ?_
                  refine g_i2l X dX8_paste_84 rfl ?_
                  refine g_lcmp X dX8_paste_85 ?_
                  refine g_if_gt X dX8_paste_86 (tgt := 107) (by decide) (fun q20 => ?_) (fun q20 => ?_)
                  · skip
                    have q20t : ((Int32.toInt64 (nI n7))).toInt < (((nI n15).toInt64 + (nI n19).toInt64)).toInt := Int64.lt_iff_toInt_lt.mp ((lg_cmp_gt _ _).mp q20)
                    have q20wb := Jvm.Kit.i64_of_i32 (nI n7)
                    rw [nI_toInt (by omega)] at q20wb
                    refine g_bipush X dX8_paste_107 (v := -7) (by decide) ?_
                    exact g_iret X hrt dX8_paste_109 (by decide) (by decide) ⟨C, D, F, I, K, trivial⟩
                  · skip
                    have q20t : ¬ ((Int32.toInt64 (nI n7))).toInt < (((nI n15).toInt64 + (nI n19).toInt64)).toInt := fun z => q20 ((lg_cmp_gt _ _).mpr (Int64.lt_iff_toInt_lt.mpr z))
                    have q20wb := Jvm.Kit.i64_of_i32 (nI n7)
                    rw [nI_toInt (by omega)] at q20wb
                    refine g_iload X dX8_paste_89 (j := 4) rfl ?_
                    refine g_i2l X dX8_paste_91 rfl ?_
                    refine g_iload X dX8_paste_92 (j := 5) rfl ?_
                    refine g_i2l X dX8_paste_94 rfl ?_
                    refine g_ladd X dX8_paste_95 ?_
                    have hadd95 := ladd_n (x := n17) (y := n19) (by omega) (by omega)
                    refine g_aload_n X dX8_paste_96 rfl (j := 0) rfl ?_
                    refine i_get X F 100 rfl rfl fk_X8_76 dX8_paste_97 rfl ?_
                    refine g_iload_n X dX8_paste_100 rfl (j := 3) rfl ?_
                    refine i_iald X F 137 rfl rfl dX8_paste_101 (vp_in_nI (by omega) (by decide)) (v := nI n9) (by rw [nI_clamp (by omega)]; exact (congrFun (K 137 (by decide)).1 (n5)).trans fn9) ?_
                    refine g_i2l X dX8_paste_102 rfl ?_
                    refine g_lcmp X dX8_paste_103 ?_
                    refine g_if_le X dX8_paste_104 (tgt := 110) (by decide) (fun q21 => ?_) (fun q21 => ?_)
                    · skip
                      have q21t : (((nI n17).toInt64 + (nI n19).toInt64)).toInt ≤ ((Int32.toInt64 (nI n9))).toInt := Int64.le_iff_toInt_le.mp ((lg_cmp_le _ _).mp q21)
                      have q21wb := Jvm.Kit.i64_of_i32 (nI n9)
                      rw [nI_toInt (by omega)] at q21wb
                      refine g_iconst X dX8_paste_110 (v := 0) (by decide) ?_
                      refine g_istore X dX8_paste_111 (by decide) (lv2 := [(6, .int 0), (0, .ref (a 100)), (1, .int (nI n2)), (2, .int (nI n15)), (3, .int (nI n5)), (4, .int (nI n17)), (5, .int (nI n19))]) rfl ?_
                      refine g_lv [0, 1, 2, 3, 4, 5, 6] (lv2 := [(6, .int 0), (0, .ref (a 100)), (1, .int (nI n2)), (2, .int (nI n15)), (3, .int (nI n5)), (4, .int (nI n17)), (5, .int (nI n19))]) rfl ?_
                      refine i_loop (mods := [139, 140]) (fun x : Nat => 60 - x) (fun x => [(6, .int (nI (x))), (0, .ref (a 100)), (1, .int (nI n2)), (2, .int (nI n15)), (3, .int (nI n5)), (4, .int (nI n17)), (5, .int (nI n19))]) (fun x C => 0 ≤ x ∧ x ≤ 60) (fun x L M C D F I K hP ih113 => ?_) ((0) : Nat) F I K ⟨by show _ ≤ _; omega, by show _ ≤ _; omega⟩
                      obtain ⟨i113_6, rfl⟩ : ∃ z, z = x := ⟨_, rfl⟩
                      obtain ⟨hi113_6a, hi113_6b⟩ := hP
                      refine g_lv [0, 1, 2, 3, 4, 5, 6] (lv2 := [(6, .int (nI i113_6)), (0, .ref (a 100)), (1, .int (nI n2)), (2, .int (nI n15)), (3, .int (nI n5)), (4, .int (nI n17)), (5, .int (nI n19))]) rfl ?_
                      refine g_iload X dX8_paste_113 (j := 0) rfl ?_
                      refine g_iload X dX8_paste_115 (j := 6) rfl ?_
                      refine g_icmp_ge X dX8_paste_117 (tgt := 147) (by decide) (fun q22 => ?_) (fun q22 => ?_)
                      · skip
                        have q22 : n19 ≤ i113_6 := (nI_leI (a := n19) (b := i113_6) (by omega) (by omega)).mp q22
                        refine g_iconst X dX8_paste_147 (v := 0) (by decide) ?_
                        refine g_istore X dX8_paste_148 (by decide) (lv2 := [(6, .int 0), (0, .ref (a 100)), (1, .int (nI n2)), (2, .int (nI n15)), (3, .int (nI n5)), (4, .int (nI n17)), (5, .int (nI n19))]) rfl ?_
                        refine g_lv [0, 1, 2, 3, 4, 5, 6] (lv2 := [(6, .int 0), (0, .ref (a 100)), (1, .int (nI n2)), (2, .int (nI n15)), (3, .int (nI n5)), (4, .int (nI n17)), (5, .int (nI n19))]) rfl ?_
                        refine i_loop (mods := [139, 140]) (fun x : Nat => 60 - x) (fun x => [(6, .int (nI (x))), (0, .ref (a 100)), (1, .int (nI n2)), (2, .int (nI n15)), (3, .int (nI n5)), (4, .int (nI n17)), (5, .int (nI n19))]) (fun x C => 0 ≤ x ∧ x ≤ 60) (fun x L M C D F I K hP ih150 => ?_) ((0) : Nat) F I K ⟨by show _ ≤ _; omega, by show _ ≤ _; omega⟩
                        obtain ⟨i150_6, rfl⟩ : ∃ z, z = x := ⟨_, rfl⟩
                        obtain ⟨hi150_6a, hi150_6b⟩ := hP
                        refine g_lv [0, 1, 2, 3, 4, 5, 6] (lv2 := [(6, .int (nI i150_6)), (0, .ref (a 100)), (1, .int (nI n2)), (2, .int (nI n15)), (3, .int (nI n5)), (4, .int (nI n17)), (5, .int (nI n19))]) rfl ?_
                        refine g_iload X dX8_paste_150 (j := 0) rfl ?_
                        refine g_iload X dX8_paste_152 (j := 6) rfl ?_
                        refine g_icmp_ge X dX8_paste_154 (tgt := 185) (by decide) (fun q23 => ?_) (fun q23 => ?_)
                        · skip
                          have q23 : n19 ≤ i150_6 := (nI_leI (a := n19) (b := i150_6) (by omega) (by omega)).mp q23
                          refine g_iconst X dX8_paste_185 (v := 0) (by decide) ?_
                          exact g_iret X hrt dX8_paste_186 (by decide) (by decide) ⟨C, D, F, I, K, trivial⟩
                        · skip
                          have q23 : ¬ n19 ≤ i150_6 := fun z => q23 ((nI_leI (a := n19) (b := i150_6) (by omega) (by omega)).mpr z)
                          refine g_aload_n X dX8_paste_157 rfl (j := 1) rfl ?_
                          refine i_get X F 100 rfl rfl fk_X8_82 dX8_paste_158 rfl ?_
                          refine g_bipush X dX8_paste_161 (v := 60) (by decide) ?_
                          refine g_iload_n X dX8_paste_163 rfl (j := 4) rfl ?_
                          refine g_imul X dX8_paste_164 ?_
                          refine Go.top (v := .int (nI (60 * n5))) (congrArg Value.int (pk_mul 60 n5)) ?_
                          refine g_iload X dX8_paste_165 (j := 5) rfl ?_
                          refine g_iadd X dX8_paste_167 ?_
                          refine Go.top (v := .int (nI ((60 * n5) + n17))) (congrArg Value.int (nI_add (60 * n5) n17)) ?_
                          refine g_iload X dX8_paste_168 (j := 0) rfl ?_
                          refine g_iadd X dX8_paste_170 ?_
                          refine Go.top (v := .int (nI (((60 * n5) + n17) + i150_6))) (congrArg Value.int (nI_add ((60 * n5) + n17) i150_6)) ?_
                          refine g_aload_n X dX8_paste_171 rfl (j := 1) rfl ?_
                          refine i_get X F 100 rfl rfl fk_X8_86 dX8_paste_172 rfl ?_
                          refine g_iload X dX8_paste_175 (j := 0) rfl ?_
                          refine i_lald X F 140 rfl rfl dX8_paste_177 (vp_in_nI (by omega) (by decide)) rfl ?_
                          refine Go.genL (fun o24 => ?_)
                          refine i_last X F 139 rfl (fun _ => rfl) dX8_paste_178 (vp_in_nI (by omega) (by decide)) (fun M D F K1 hC => ?_)
                          have K := K.step K1 (by decide)
                          refine g_iinc X dX8_paste_179 (j := 0) rfl (v := nI (i150_6 + 1)) (nI_1 i150_6) (by decide) (lv2 := [(6, .int (nI (i150_6 + 1))), (0, .ref (a 100)), (1, .int (nI n2)), (2, .int (nI n15)), (3, .int (nI n5)), (4, .int (nI n17)), (5, .int (nI n19))]) rfl ?_
                          refine g_goto X dX8_paste_182 (tgt := 150) (by decide) ?_
                          refine g_lv [0, 1, 2, 3, 4, 5, 6] (lv2 := [(6, .int (nI (i150_6 + 1))), (0, .ref (a 100)), (1, .int (nI n2)), (2, .int (nI n15)), (3, .int (nI n5)), (4, .int (nI n17)), (5, .int (nI n19))]) rfl ?_
                          exact ih150 ((i150_6 + 1)) L M C D F I K ⟨by omega, by omega⟩ (by show _ < _; omega)
                      · skip
                        have q22 : ¬ n19 ≤ i113_6 := fun z => q22 ((nI_leI (a := n19) (b := i113_6) (by omega) (by omega)).mpr z)
                        refine g_aload_n X dX8_paste_120 rfl (j := 1) rfl ?_
                        refine i_get X F 100 rfl rfl fk_X8_86 dX8_paste_121 rfl ?_
                        refine g_iload X dX8_paste_124 (j := 0) rfl ?_
                        refine g_aload_n X dX8_paste_126 rfl (j := 1) rfl ?_
                        refine i_get X F 100 rfl rfl fk_X8_82 dX8_paste_127 rfl ?_
                        refine g_bipush X dX8_paste_130 (v := 60) (by decide) ?_
                        refine g_iload_n X dX8_paste_132 rfl (j := 2) rfl ?_
                        refine g_imul X dX8_paste_133 ?_
                        refine Go.top (v := .int (nI (60 * n2))) (congrArg Value.int (pk_mul 60 n2)) ?_
                        refine g_iload_n X dX8_paste_134 rfl (j := 3) rfl ?_
                        refine g_iadd X dX8_paste_135 ?_
                        refine Go.top (v := .int (nI ((60 * n2) + n15))) (congrArg Value.int (nI_add (60 * n2) n15)) ?_
                        refine g_iload X dX8_paste_136 (j := 0) rfl ?_
                        refine g_iadd X dX8_paste_138 ?_
                        refine Go.top (v := .int (nI (((60 * n2) + n15) + i113_6))) (congrArg Value.int (nI_add ((60 * n2) + n15) i113_6)) ?_
                        refine i_lald X F 139 rfl rfl dX8_paste_139 (vp_in_nI (by omega) (by decide)) rfl ?_
                        refine Go.genL (fun o25 => ?_)
                        refine i_last X F 140 rfl (fun _ => rfl) dX8_paste_140 (vp_in_nI (by omega) (by decide)) (fun M D F K1 hC => ?_)
                        have K := K.step K1 (by decide)
                        refine g_iinc X dX8_paste_141 (j := 0) rfl (v := nI (i113_6 + 1)) (nI_1 i113_6) (by decide) (lv2 := [(6, .int (nI (i113_6 + 1))), (0, .ref (a 100)), (1, .int (nI n2)), (2, .int (nI n15)), (3, .int (nI n5)), (4, .int (nI n17)), (5, .int (nI n19))]) rfl ?_
                        refine g_goto X dX8_paste_144 (tgt := 113) (by decide) ?_
                        refine g_lv [0, 1, 2, 3, 4, 5, 6] (lv2 := [(6, .int (nI (i113_6 + 1))), (0, .ref (a 100)), (1, .int (nI n2)), (2, .int (nI n15)), (3, .int (nI n5)), (4, .int (nI n17)), (5, .int (nI n19))]) rfl ?_
                        exact ih113 ((i113_6 + 1)) L M C D F I K ⟨by omega, by omega⟩ (by show _ < _; omega)
                    · skip
                      have q21t : ¬ (((nI n17).toInt64 + (nI n19).toInt64)).toInt ≤ ((Int32.toInt64 (nI n9))).toInt := fun z => q21 ((lg_cmp_le _ _).mpr (Int64.le_iff_toInt_le.mpr z))
                      have q21wb := Jvm.Kit.i64_of_i32 (nI n9)
                      rw [nI_toInt (by omega)] at q21wb
                      refine g_bipush X dX8_paste_107 (v := -7) (by decide) ?_
                      exact g_iret X hrt dX8_paste_109 (by decide) (by decide) ⟨C, D, F, I, K, trivial⟩
          · skip
            refine g_bipush X dX8_paste_55 (v := -8) (by decide) ?_
            exact g_iret X hrt dX8_paste_57 (by decide) (by decide) ⟨C, D, F, I, K, trivial⟩
