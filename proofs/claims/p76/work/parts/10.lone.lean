set_option maxHeartbeats 4000000 in
set_option maxRecDepth 100000 in
theorem s_X3_begin (l : Launch) (G : va_G) {cy : Nat → ClassId} {L : List Nat} {M : Nat → va_E} {a : Nat → Nat} {act : Nat → Bool} {C0 : Nat → Nat → Int32} {D0 : Nat → Nat → Int64} {R : Nat → Nat → Option Nat} (F : WI L M a act (ent cy a C0 D0 R)) (I : Inv C0)   : MV l G cy yX3_begin cX3_begin 1 none 1 0 0 [.ref (a 37)] L M (fun L2 M2 => ∃ C2 D2, WI L2 M2 a act (ent cy a C2 D2 R) ∧ Inv C2 ∧ Kp [38] C0 D0 C2 D2 ∧ True) := by
  refine MV.of (own := RX3) rfl (by decide) (Nat.le_of_ble_eq_true rfl) ?_
  intro p e s m below meth c A X hrt hnm
  obtain ⟨C, D, hC0, hD0, F, I, K⟩ : ∃ C D, C = C0 ∧ D = D0 ∧ WI L M a act (ent cy a C D R) ∧ Inv C ∧ Kp [38] C0 D0 C D := ⟨C0, D0, rfl, rfl, F, I, Kp.rf⟩
  refine g_aload_n X dX3_begin_0 rfl (j := 0) rfl ?_
  refine i_get X F 37 rfl rfl fk_X3_19 dX3_begin_1 rfl ?_
  refine i_get X F 3 rfl rfl fk_X3_23 dX3_begin_4 rfl ?_
  refine g_iconst X dX3_begin_7 (v := 0) (by decide) ?_
  refine g_aload_n X dX3_begin_8 rfl (j := 0) rfl ?_
  refine i_get X F 37 rfl rfl fk_X3_9 dX3_begin_9 rfl ?_
  refine g_iconst X dX3_begin_12 (v := 0) (by decide) ?_
  refine g_bipush X dX3_begin_13 (v := 7) (by decide) ?_
  refine i_copyi X F I 7 rfl 38 rfl rfl (fun _ => rfl) (t0 := 1) rfl rfl wd151 wd87 wd88 wd89 (by decide) (by decide) (by decide) (by decide) (by decide) (fun _ _ => rfl) (by decide) (Nat.le_of_ble_eq_true rfl) dX3_begin_15 (fun j => cpy_ok (P := okv 38) (fun j => I 7 j) (fun j => I 38 j) j) (fun M C F I K1 hC => ?_)
  have K := K.step K1 (by decide)
  exact g_vret X hrt dX3_begin_18 (by decide) (by decide) ⟨C, D, F, I, K, trivial⟩
set_option maxHeartbeats 4000000 in
set_option maxRecDepth 100000 in
theorem s_X3_setArms (l : Launch) (G : va_G) {cy : Nat → ClassId} {L : List Nat} {M : Nat → va_E} {a : Nat → Nat} {act : Nat → Bool} {C0 : Nat → Nat → Int32} {D0 : Nat → Nat → Int64} {R : Nat → Nat → Option Nat} (F : WI L M a act (ent cy a C0 D0 R)) (I : Inv C0) (p0 : Nat) (hp0a : 0 ≤ p0) (hp0b : p0 ≤ 4096)  : MV l G cy yX3_setArms cX3_setArms 5 none 0 0 0 [.ref (a 37), .int (nI p0)] L M (fun L2 M2 => ∃ C2 D2, WI L2 M2 a act (ent cy a C2 D2 R) ∧ Inv C2 ∧ Kp [38] C0 D0 C2 D2 ∧ True) := by
  refine MV.of (own := RX3) rfl (by decide) (Nat.le_of_ble_eq_true rfl) ?_
  intro p e s m below meth c A X hrt hnm
  obtain ⟨C, D, hC0, hD0, F, I, K⟩ : ∃ C D, C = C0 ∧ D = D0 ∧ WI L M a act (ent cy a C D R) ∧ Inv C ∧ Kp [38] C0 D0 C D := ⟨C0, D0, rfl, rfl, F, I, Kp.rf⟩
  refine g_iload_n X dX3_setArms_0 rfl (j := 1) rfl ?_
  refine g_istore_n X dX3_setArms_1 rfl (by decide) (lv2 := [(2, .int (nI p0)), (0, .ref (a 37)), (1, .int (nI p0))]) rfl ?_
  refine g_iconst X dX3_setArms_2 (v := 0) (by decide) ?_
  refine g_istore_n X dX3_setArms_3 rfl (by decide) (lv2 := [(3, .int 0), (2, .int (nI p0)), (0, .ref (a 37)), (1, .int (nI p0))]) rfl ?_
  refine g_lv [0, 1, 2, 3] (lv2 := [(3, .int 0), (2, .int (nI p0)), (0, .ref (a 37)), (1, .int (nI p0))]) rfl ?_
  refine i_loop (mods := [38]) (fun x : Nat × Nat => 7 - x.1) (fun x => [(3, .int (nI (x.1))), (2, .int (nI (x.2))), (0, .ref (a 37)), (1, .int (nI p0))]) (fun x C => 0 ≤ x.1 ∧ x.1 ≤ 7 ∧ 0 ≤ x.2 ∧ x.2 ≤ 4096) (fun x L M C D F I K hP ih4 => ?_) ((0, p0) : Nat × Nat) F I K ⟨by show _ ≤ _; omega, by show _ ≤ _; omega, by show _ ≤ _; omega, by show _ ≤ _; omega⟩
  rcases x with ⟨i4_3, i4_2⟩
  obtain ⟨hi4_3a, hi4_3b, hi4_2a, hi4_2b⟩ := hP
  refine g_lv [0, 1, 2, 3] (lv2 := [(3, .int (nI i4_3)), (2, .int (nI i4_2)), (0, .ref (a 37)), (1, .int (nI p0))]) rfl ?_
  refine g_iload_n X dX3_setArms_4 rfl (j := 0) rfl ?_
  refine g_aload_n X dX3_setArms_5 rfl (j := 2) rfl ?_
  refine i_get X F 37 rfl rfl fk_X3_19 dX3_setArms_6 rfl ?_
  obtain ⟨n1, hn1, en1⟩ := rg_nat ((I 3 5).2.2.1 rfl) (by decide)
  refine i_get X F 3 rfl rfl fk_X3_34 dX3_setArms_9 (v := .int (nI n1)) (congrArg (fun z => some (Value.int z)) en1) ?_
  refine g_icmp_ge X dX3_setArms_12 (tgt := 52) (by decide) (fun q2 => ?_) (fun q2 => ?_)
  · skip
    have q2 : n1 ≤ i4_3 := (nI_leI (a := n1) (b := i4_3) (by omega) (by omega)).mp q2
    exact g_vret X hrt dX3_setArms_52 (by decide) (by decide) ⟨C, D, F, I, K, trivial⟩
  · skip
    have q2 : ¬ n1 ≤ i4_3 := fun z => q2 ((nI_leI (a := n1) (b := i4_3) (by omega) (by omega)).mpr z)
    refine g_aload_n X dX3_setArms_15 rfl (j := 2) rfl ?_
    refine i_get X F 37 rfl rfl fk_X3_19 dX3_setArms_16 rfl ?_
    refine i_get X F 3 rfl rfl fk_X3_37 dX3_setArms_19 rfl ?_
    refine g_iload_n X dX3_setArms_22 rfl (j := 0) rfl ?_
    obtain ⟨n3, hn3, en3⟩ := rg_nat (I 5 i4_3) (by decide)
    refine i_iald X F 5 rfl rfl dX3_setArms_23 (vp_in_nI (by omega) (by decide)) (v := nI n3) (by rw [nI_clamp (by omega)]; exact en3) ?_
    refine g_istore X dX3_setArms_24 (by decide) (lv2 := [(4, .int (nI n3)), (3, .int (nI i4_3)), (2, .int (nI i4_2)), (0, .ref (a 37)), (1, .int (nI p0))]) rfl ?_
    refine g_iload X dX3_setArms_26 (j := 0) rfl ?_
    refine g_if_le X dX3_setArms_28 (tgt := 46) (by decide) (fun q4 => ?_) (fun q4 => ?_)
    · skip
      have q4 : n3 ≤ 0 := (nI_leI (a := n3) (b := 0) (by omega) (by omega)).mp q4
      refine g_iinc X dX3_setArms_46 (j := 1) rfl (v := nI (i4_3 + 1)) (nI_1 i4_3) (by decide) (lv2 := [(3, .int (nI (i4_3 + 1))), (4, .int (nI n3)), (2, .int (nI i4_2)), (0, .ref (a 37)), (1, .int (nI p0))]) rfl ?_
      refine g_goto X dX3_setArms_49 (tgt := 4) (by decide) ?_
      refine g_lv [0, 2, 3, 4] (lv2 := [(3, .int (nI (i4_3 + 1))), (2, .int (nI i4_2)), (0, .ref (a 37)), (1, .int (nI p0))]) rfl ?_
      exact ih4 ((i4_3 + 1), i4_2) L M C D F I K ⟨by omega, by omega, by omega, by omega⟩ (by show _ < _; omega)
    · skip
      have q4 : ¬ n3 ≤ 0 := fun z => q4 ((nI_leI (a := n3) (b := 0) (by omega) (by omega)).mpr z)
      refine g_aload_n X dX3_setArms_31 rfl (j := 3) rfl ?_
      refine i_get X F 37 rfl rfl fk_X3_9 dX3_setArms_32 rfl ?_
      refine g_iload_n X dX3_setArms_35 rfl (j := 1) rfl ?_
      refine g_iload_n X dX3_setArms_36 rfl (j := 2) rfl ?_
      refine g_iload X dX3_setArms_37 (j := 0) rfl ?_
      refine g_irem X dX3_setArms_39 (nI_ne0 (by omega) (by omega)) ?_
      refine Go.top (v := .int (nI (i4_2 % n3))) (congrArg Value.int (pk_rem (a := i4_2) (d := n3) (by omega) (by omega) (by omega))) ?_
      obtain ⟨n5, en5⟩ : ∃ z : Nat, z = i4_2 % n3 := ⟨_, rfl⟩
      refine Go.top (v := .int (nI n5)) (by rw [en5]) ?_
      have hn5 : n5 < n3 := by rw [en5]; exact Nat.mod_lt _ (by omega)
      refine i_iast X F I 38 rfl (fun _ => rfl) dX3_setArms_40 (vp_in_nI (by omega) (by decide)) (rg_of (n := n5) (by omega) (by omega) (by omega)) (fun M C F I K1 hC => ?_)
      have K := K.step K1 (by decide)
      refine g_iload_n X dX3_setArms_41 rfl (j := 2) rfl ?_
      refine g_iload X dX3_setArms_42 (j := 0) rfl ?_
      refine g_idiv X dX3_setArms_44 (nI_ne0 (by omega) (by omega)) ?_
      refine Go.top (v := .int (nI (i4_2 / n3))) (congrArg Value.int (pk_div (a := i4_2) (d := n3) (by omega) (by omega) (by omega))) ?_
      obtain ⟨n6, en6⟩ : ∃ z : Nat, z = i4_2 / n3 := ⟨_, rfl⟩
      refine Go.top (v := .int (nI n6)) (by rw [en6]) ?_
      have hn6 : n6 ≤ i4_2 := by rw [en6]; exact Nat.div_le_self _ _
      refine g_istore_n X dX3_setArms_45 rfl (by decide) (lv2 := [(2, .int (nI n6)), (4, .int (nI n3)), (3, .int (nI i4_3)), (0, .ref (a 37)), (1, .int (nI p0))]) rfl ?_
      refine g_iinc X dX3_setArms_46 (j := 2) rfl (v := nI (i4_3 + 1)) (nI_1 i4_3) (by decide) (lv2 := [(3, .int (nI (i4_3 + 1))), (2, .int (nI n6)), (4, .int (nI n3)), (0, .ref (a 37)), (1, .int (nI p0))]) rfl ?_
      refine g_goto X dX3_setArms_49 (tgt := 4) (by decide) ?_
      refine g_lv [0, 1, 3, 4] (lv2 := [(3, .int (nI (i4_3 + 1))), (2, .int (nI n6)), (0, .ref (a 37)), (1, .int (nI p0))]) rfl ?_
      exact ih4 ((i4_3 + 1), n6) L M C D F I K ⟨by omega, by omega, by omega, by omega⟩ (by show _ < _; omega)
set_option maxHeartbeats 4000000 in
set_option maxRecDepth 100000 in
theorem s_X3_sendFrom (l : Launch) (G : va_G) {cy : Nat → ClassId} {L : List Nat} {M : Nat → va_E} {a : Nat → Nat} {act : Nat → Bool} {C0 : Nat → Nat → Int32} {D0 : Nat → Nat → Int64} {R : Nat → Nat → Option Nat} (F : WI L M a act (ent cy a C0 D0 R)) (I : Inv C0) (p0 : Nat) (hp0a : 0 ≤ p0) (hp0b : p0 ≤ 6)  : MI l G cy yX3_sendFrom cX3_sendFrom 3 (some .int) 1 0 0 [.ref (a 37), .int (nI p0)] L M (fun r L2 M2 => ∃ C2 D2, WI L2 M2 a act (ent cy a C2 D2 R) ∧ Inv C2 ∧ Kp [37, 38] C0 D0 C2 D2 ∧ True) := by
  refine MI.of (own := RX3) rfl (by decide) (Nat.le_of_ble_eq_true rfl) ?_
  intro p e s m below meth c A X hrt hnm
  obtain ⟨C, D, hC0, hD0, F, I, K⟩ : ∃ C D, C = C0 ∧ D = D0 ∧ WI L M a act (ent cy a C D R) ∧ Inv C ∧ Kp [37, 38] C0 D0 C D := ⟨C0, D0, rfl, rfl, F, I, Kp.rf⟩
  refine g_iload_n X dX3_sendFrom_0 rfl (j := 1) rfl ?_
  refine g_istore_n X dX3_sendFrom_1 rfl (by decide) (lv2 := [(2, .int (nI p0)), (0, .ref (a 37)), (1, .int (nI p0))]) rfl ?_
  refine g_aload_n X dX3_sendFrom_2 rfl (j := 1) rfl ?_
  refine g_iconst X dX3_sendFrom_3 (v := 0) (by decide) ?_
  refine i_put X F I 37 rfl rfl rfl fk_X3_15 dX3_sendFrom_4 rfl rfl (Nat.le_of_ble_eq_true rfl) (fun _ => (rg_of (n := 0) (by omega) (by omega) (by omega))) (fun M C F I K1 hC => ?_)
  have K := K.step K1 (by decide)
  have f1 : C 37 2 = 0 := by rw [hC]; exact pk_us
  refine g_lv [0, 1, 2] (lv2 := [(2, .int (nI p0)), (0, .ref (a 37)), (1, .int (nI p0))]) rfl ?_
  refine i_loop (mods := [37, 38]) (fun x : Nat × Nat => 600 - x.1) (fun x => [(2, .int (nI (x.2))), (0, .ref (a 37)), (1, .int (nI p0))]) (fun x C => C 37 2 = nI (x.1) ∧ 0 ≤ x.1 ∧ x.1 ≤ 600 ∧ (x.2 < 7 ∨ (10 ≤ x.2 ∧ x.2 < 14))) (fun x L M C D F I K hP ih7 => ?_) ((0, p0) : Nat × Nat) F I K ⟨f1, by show _ ≤ _; omega, by show _ ≤ _; omega, by show _ ∨ _; omega⟩
  rcases x with ⟨g7_37, i7_2⟩
  obtain ⟨eg7_37, hg7_37a, hg7_37b, hi7_2⟩ := hP
  have heg7_37 : C 37 2 = nI g7_37 := eg7_37
  refine g_lv [0, 1, 2] (lv2 := [(2, .int (nI i7_2)), (0, .ref (a 37)), (1, .int (nI p0))]) rfl ?_
  refine g_aload_n X dX3_sendFrom_7 rfl (j := 1) rfl ?_
  refine i_get X F 37 rfl rfl fk_X3_15 dX3_sendFrom_8 (v := .int (nI g7_37)) (congrArg (fun z => some (Value.int z)) heg7_37) ?_
  refine g_sipush X dX3_sendFrom_11 (v := 600) (by decide) ?_
  refine g_icmp_ge X dX3_sendFrom_14 (tgt := 76) (by decide) (fun q2 => ?_) (fun q2 => ?_)
  · skip
    have q2 : 600 ≤ g7_37 := (nI_leI (a := 600) (b := g7_37) (by omega) (by omega)).mp q2
    refine g_iload_n X dX3_sendFrom_76 rfl (j := 0) rfl ?_
    refine g_bipush X dX3_sendFrom_77 (v := 10) (by decide) ?_
    refine g_icmp_lt X dX3_sendFrom_79 (tgt := 89) (by decide) (fun q3 => ?_) (fun q3 => ?_)
    · skip
      have q3 : i7_2 < 10 := (nI_ltI (a := i7_2) (b := 10) (by omega) (by omega)).mp q3
      refine g_iconst X dX3_sendFrom_89 (v := -1) (by decide) ?_
      exact g_iret X hrt dX3_sendFrom_90 (by decide) (by decide) ⟨C, D, F, I, K, trivial⟩
    · skip
      have q3 : ¬ i7_2 < 10 := fun z => q3 ((nI_ltI (a := i7_2) (b := 10) (by omega) (by omega)).mpr z)
      refine g_iload_n X dX3_sendFrom_82 rfl (j := 0) rfl ?_
      refine g_bipush X dX3_sendFrom_83 (v := 10) (by decide) ?_
      refine g_isub X dX3_sendFrom_85 ?_
      refine Go.top (v := .int (nI (i7_2 - 10))) (congrArg Value.int (pk_sub (a := i7_2) (b := 10) (by omega))) ?_
      refine g_goto X dX3_sendFrom_86 (tgt := 90) (by decide) ?_
      exact g_iret X hrt dX3_sendFrom_90 (by decide) (by decide) ⟨C, D, F, I, K, trivial⟩
  · skip
    have q2 : ¬ 600 ≤ g7_37 := fun z => q2 ((nI_leI (a := 600) (b := g7_37) (by omega) (by omega)).mpr z)
    refine g_iload_n X dX3_sendFrom_17 rfl (j := 0) rfl ?_
    refine g_bipush X dX3_sendFrom_18 (v := 10) (by decide) ?_
    refine g_icmp_ge X dX3_sendFrom_20 (tgt := 76) (by decide) (fun q4 => ?_) (fun q4 => ?_)
    · skip
      have q4 : 10 ≤ i7_2 := (nI_leI (a := 10) (b := i7_2) (by omega) (by omega)).mp q4
      refine g_iload_n X dX3_sendFrom_76 rfl (j := 0) rfl ?_
      refine g_bipush X dX3_sendFrom_77 (v := 10) (by decide) ?_
      refine g_icmp_lt X dX3_sendFrom_79 (tgt := 89) (by decide) (fun q5 => ?_) (fun q5 => ?_)
      · skip
        have q5 : i7_2 < 10 := (nI_ltI (a := i7_2) (b := 10) (by omega) (by omega)).mp q5
        refine g_iconst X dX3_sendFrom_89 (v := -1) (by decide) ?_
        exact g_iret X hrt dX3_sendFrom_90 (by decide) (by decide) ⟨C, D, F, I, K, trivial⟩
      · skip
        have q5 : ¬ i7_2 < 10 := fun z => q5 ((nI_ltI (a := i7_2) (b := 10) (by omega) (by omega)).mpr z)
        refine g_iload_n X dX3_sendFrom_82 rfl (j := 0) rfl ?_
        refine g_bipush X dX3_sendFrom_83 (v := 10) (by decide) ?_
        refine g_isub X dX3_sendFrom_85 ?_
        refine Go.top (v := .int (nI (i7_2 - 10))) (congrArg Value.int (pk_sub (a := i7_2) (b := 10) (by omega))) ?_
        refine g_goto X dX3_sendFrom_86 (tgt := 90) (by decide) ?_
        exact g_iret X hrt dX3_sendFrom_90 (by decide) (by decide) ⟨C, D, F, I, K, trivial⟩
    · skip
      have q4 : ¬ 10 ≤ i7_2 := fun z => q4 ((nI_leI (a := 10) (b := i7_2) (by omega) (by omega)).mpr z)
      refine g_aload_n X dX3_sendFrom_23 rfl (j := 1) rfl ?_
      refine i_get X F 37 rfl rfl fk_X3_19 dX3_sendFrom_24 rfl ?_
      refine g_iload_n X dX3_sendFrom_27 rfl (j := 0) rfl ?_
      refine g_callVI X (s_X2_hasArm l G F I i7_2 (by omega) (by omega) ) lk_X3_40 (F.1 3 rfl).2 (F.1 3 rfl).1 rfl rfl dX3_sendFrom_28 (Nat.le_of_ble_eq_true rfl) ⟨by decide, by decide⟩ ⟨by decide, by decide⟩ (fun r6 L M hp => ?_)
      obtain ⟨C, D, F, I, K1, hr⟩ := hp
      have K := K.step K1 (by decide)
      have heg7_37 : C 37 2 = nI g7_37 := (congrFun (K1 37 (by decide)).1 2).trans heg7_37
      rcases hr with rfl | ⟨rfl, ra7⟩
      · skip
        refine g_if_eq X dX3_sendFrom_31 (tgt := 76) (by decide) (fun _ => ?_) (fun q => absurd (by decide) q)
        refine g_iload_n X dX3_sendFrom_76 rfl (j := 0) rfl ?_
        refine g_bipush X dX3_sendFrom_77 (v := 10) (by decide) ?_
        refine g_icmp_lt X dX3_sendFrom_79 (tgt := 89) (by decide) (fun q8 => ?_) (fun q8 => ?_)
        · skip
          have q8 : i7_2 < 10 := (nI_ltI (a := i7_2) (b := 10) (by omega) (by omega)).mp q8
          refine g_iconst X dX3_sendFrom_89 (v := -1) (by decide) ?_
          exact g_iret X hrt dX3_sendFrom_90 (by decide) (by decide) ⟨C, D, F, I, K, trivial⟩
        · skip
          have q8 : ¬ i7_2 < 10 := fun z => q8 ((nI_ltI (a := i7_2) (b := 10) (by omega) (by omega)).mpr z)
          refine g_iload_n X dX3_sendFrom_82 rfl (j := 0) rfl ?_
          refine g_bipush X dX3_sendFrom_83 (v := 10) (by decide) ?_
          refine g_isub X dX3_sendFrom_85 ?_
          refine Go.top (v := .int (nI (i7_2 - 10))) (congrArg Value.int (pk_sub (a := i7_2) (b := 10) (by omega))) ?_
          refine g_goto X dX3_sendFrom_86 (tgt := 90) (by decide) ?_
          exact g_iret X hrt dX3_sendFrom_90 (by decide) (by decide) ⟨C, D, F, I, K, trivial⟩
      · skip
        refine g_if_eq X dX3_sendFrom_31 (tgt := 76) (by decide) (fun q => absurd q (by decide)) (fun _ => ?_)
        refine g_aload_n X dX3_sendFrom_34 rfl (j := 1) rfl ?_
        refine i_get X F 37 rfl rfl fk_X3_19 dX3_sendFrom_35 rfl ?_
        refine g_iload_n X dX3_sendFrom_38 rfl (j := 0) rfl ?_
        refine g_aload_n X dX3_sendFrom_39 rfl (j := 1) rfl ?_
        refine i_get X F 37 rfl rfl fk_X3_19 dX3_sendFrom_40 rfl ?_
        refine g_aload_n X dX3_sendFrom_43 rfl (j := 1) rfl ?_
        refine i_get X F 37 rfl rfl fk_X3_9 dX3_sendFrom_44 rfl ?_
        refine g_iconst X dX3_sendFrom_47 (v := 0) (by decide) ?_
        refine g_iload_n X dX3_sendFrom_48 rfl (j := 0) rfl ?_
        refine g_aload_n X dX3_sendFrom_49 rfl (j := 1) rfl ?_
        refine i_get X F 37 rfl rfl fk_X3_19 dX3_sendFrom_50 rfl ?_
        refine i_get X F 3 rfl rfl fk_X3_44 dX3_sendFrom_53 rfl ?_
        refine Go.gen (fun o9 => ?_)
        refine g_callVI X (s_X2_sendBy_38 l G F I i7_2 (by omega) (by omega) o9 ra7) lk_X3_47 (F.1 3 rfl).2 (F.1 3 rfl).1 rfl rfl dX3_sendFrom_56 (Nat.le_of_ble_eq_true rfl) ⟨by decide, by decide⟩ ⟨by decide, by decide⟩ (fun r10 L M hp => ?_)
        obtain ⟨C, D, F, I, K1, hr⟩ := hp
        have K := K.step K1 (by decide)
        have ra7 : 1 ≤ (C 5 i7_2).toInt := by rw [(K1 5 (by decide)).1]; exact ra7
        have heg7_37 : C 37 2 = nI g7_37 := (congrFun (K1 37 (by decide)).1 2).trans heg7_37
        obtain ⟨n11, hn11a, hn11b, rfl⟩ := hr
        refine g_callVI X (s_X2_goal l G F I i7_2 (by omega) (by omega) n11 (by omega) (by omega) ) lk_X3_51 (F.1 3 rfl).2 (F.1 3 rfl).1 rfl rfl dX3_sendFrom_59 (Nat.le_of_ble_eq_true rfl) ⟨by decide, by decide⟩ ⟨by decide, by decide⟩ (fun r12 L M hp => ?_)
        obtain ⟨C, D, F, I, K1, hr⟩ := hp
        have K := K.step K1 (by decide)
        have ra7 : 1 ≤ (C 5 i7_2).toInt := by rw [(K1 5 (by decide)).1]; exact ra7
        have heg7_37 : C 37 2 = nI g7_37 := (congrFun (K1 37 (by decide)).1 2).trans heg7_37
        obtain ⟨n13, hn13, rfl⟩ := hr
        refine g_istore_n X dX3_sendFrom_62 rfl (by decide) (lv2 := [(2, .int (nI n13)), (0, .ref (a 37)), (1, .int (nI p0))]) rfl ?_
        refine g_aload_n X dX3_sendFrom_63 rfl (j := 1) rfl ?_
        refine g_dup X dX3_sendFrom_64 rfl ?_
        refine i_get X F 37 rfl rfl fk_X3_15 dX3_sendFrom_65 (v := .int (nI g7_37)) (congrArg (fun z => some (Value.int z)) heg7_37) ?_
        refine g_iconst X dX3_sendFrom_68 (v := 1) (by decide) ?_
        refine g_iadd X dX3_sendFrom_69 ?_
        refine Go.top (v := .int (nI (g7_37 + 1))) (congrArg Value.int (nI_add g7_37 1)) ?_
        refine i_put X F I 37 rfl rfl rfl fk_X3_15 dX3_sendFrom_70 rfl rfl (Nat.le_of_ble_eq_true rfl) (fun _ => (rg_of (n := (g7_37 + 1)) (by omega) (by omega) (by omega))) (fun M C F I K1 hC => ?_)
        have K := K.step K1 (by decide)
        have ra7 : 1 ≤ (C 5 i7_2).toInt := by rw [(K1 5 (by decide)).1]; exact ra7
        have f14 : C 37 2 = nI (g7_37 + 1) := by rw [hC]; exact pk_us
        refine g_goto X dX3_sendFrom_73 (tgt := 7) (by decide) ?_
        refine g_lv [0, 1, 2] (lv2 := [(2, .int (nI n13)), (0, .ref (a 37)), (1, .int (nI p0))]) rfl ?_
        exact ih7 ((g7_37 + 1), n13) L M C D F I K ⟨f14, by omega, by omega, by omega⟩ (by show _ < _; omega)
set_option maxHeartbeats 4000000 in
set_option maxRecDepth 100000 in
theorem s_X3_settingNow (l : Launch) (G : va_G) {cy : Nat → ClassId} {L : List Nat} {M : Nat → va_E} {a : Nat → Nat} {act : Nat → Bool} {C0 : Nat → Nat → Int32} {D0 : Nat → Nat → Int64} {R : Nat → Nat → Option Nat} (F : WI L M a act (ent cy a C0 D0 R)) (I : Inv C0)   : MI l G cy yX3_settingNow cX3_settingNow 1 (some .int) 2 0 0 [.ref (a 37)] L M (fun r L2 M2 => ∃ C2 D2, WI L2 M2 a act (ent cy a C2 D2 R) ∧ Inv C2 ∧ Kp [] C0 D0 C2 D2 ∧ True) := by
  refine MI.of (own := RX3) rfl (by decide) (Nat.le_of_ble_eq_true rfl) ?_
  intro p e s m below meth c A X hrt hnm
  obtain ⟨C, D, hC0, hD0, F, I, K⟩ : ∃ C D, C = C0 ∧ D = D0 ∧ WI L M a act (ent cy a C D R) ∧ Inv C ∧ Kp [] C0 D0 C D := ⟨C0, D0, rfl, rfl, F, I, Kp.rf⟩
  refine g_aload_n X dX3_settingNow_0 rfl (j := 0) rfl ?_
  refine i_get X F 37 rfl rfl fk_X3_19 dX3_settingNow_1 rfl ?_
  refine g_aload_n X dX3_settingNow_4 rfl (j := 0) rfl ?_
  refine i_get X F 37 rfl rfl fk_X3_9 dX3_settingNow_5 rfl ?_
  refine g_iconst X dX3_settingNow_8 (v := 0) (by decide) ?_
  refine g_callVI X (s_X2_settingNumber_38 l G F I  ) lk_X3_55 (F.1 3 rfl).2 (F.1 3 rfl).1 rfl rfl dX3_settingNow_9 (Nat.le_of_ble_eq_true rfl) ⟨by decide, by decide⟩ ⟨by decide, by decide⟩ (fun r1 L M hp => ?_)
  obtain ⟨C, D, F, I, K1, hr⟩ := hp
  have K := K.step K1 (by decide)
  exact g_iret X hrt dX3_settingNow_12 (by decide) (by decide) ⟨C, D, F, I, K, trivial⟩
set_option maxHeartbeats 4000000 in
set_option maxRecDepth 100000 in
theorem s_X0_clear_10 (l : Launch) (G : va_G) {cy : Nat → ClassId} {L : List Nat} {M : Nat → va_E} {a : Nat → Nat} {act : Nat → Bool} {C0 : Nat → Nat → Int32} {D0 : Nat → Nat → Int64} {R : Nat → Nat → Option Nat} (F : WI L M a act (ent cy a C0 D0 R)) (I : Inv C0)   : MV l G cy yX0_clear cX0_clear 1 none 1 0 0 [.ref (a 10)] L M (fun L2 M2 => ∃ C2 D2, WI L2 M2 a act (ent cy a C2 D2 R) ∧ Inv C2 ∧ Kp [10, 12] C0 D0 C2 D2 ∧ True) := by
  refine MV.of (own := RX0) rfl (by decide) (Nat.le_of_ble_eq_true rfl) ?_
  intro p e s m below meth c A X hrt hnm
  obtain ⟨C, D, hC0, hD0, F, I, K⟩ : ∃ C D, C = C0 ∧ D = D0 ∧ WI L M a act (ent cy a C D R) ∧ Inv C ∧ Kp [10, 12] C0 D0 C D := ⟨C0, D0, rfl, rfl, F, I, Kp.rf⟩
  refine g_aload_n X dX0_clear_0 rfl (j := 0) rfl ?_
  refine g_iconst X dX0_clear_1 (v := 0) (by decide) ?_
  refine i_put X F I 10 rfl rfl rfl fk_X0_9 dX0_clear_2 rfl rfl (Nat.le_of_ble_eq_true rfl) (fun _ => (rg_of (n := 0) (by omega) (by omega) (by omega))) (fun M C F I K1 hC => ?_)
  have K := K.step K1 (by decide)
  refine g_aload_n X dX0_clear_5 rfl (j := 0) rfl ?_
  refine i_get X F 10 rfl rfl fk_X0_19 dX0_clear_6 rfl ?_
  refine g_iconst X dX0_clear_9 (v := 0) (by decide) ?_
  refine g_callSV X (s_J7_fill_53178_12 l G F I  ) lk_X0_22 rfl rfl dX0_clear_10 (Nat.le_of_ble_eq_true rfl) ⟨by decide, by decide⟩ ⟨by decide, by decide⟩ (fun L M hp => ?_)
  obtain ⟨C, D, F, I, K1, hr⟩ := hp
  have K := K.step K1 (by decide)
  exact g_vret X hrt dX0_clear_13 (by decide) (by decide) ⟨C, D, F, I, K, trivial⟩
set_option maxHeartbeats 4000000 in
set_option maxRecDepth 100000 in
theorem s_X0_clear_20 (l : Launch) (G : va_G) {cy : Nat → ClassId} {L : List Nat} {M : Nat → va_E} {a : Nat → Nat} {act : Nat → Bool} {C0 : Nat → Nat → Int32} {D0 : Nat → Nat → Int64} {R : Nat → Nat → Option Nat} (F : WI L M a act (ent cy a C0 D0 R)) (I : Inv C0)   : MV l G cy yX0_clear cX0_clear 1 none 1 0 0 [.ref (a 20)] L M (fun L2 M2 => ∃ C2 D2, WI L2 M2 a act (ent cy a C2 D2 R) ∧ Inv C2 ∧ Kp [20, 22] C0 D0 C2 D2 ∧ True) := by
  refine MV.of (own := RX0) rfl (by decide) (Nat.le_of_ble_eq_true rfl) ?_
  intro p e s m below meth c A X hrt hnm
  obtain ⟨C, D, hC0, hD0, F, I, K⟩ : ∃ C D, C = C0 ∧ D = D0 ∧ WI L M a act (ent cy a C D R) ∧ Inv C ∧ Kp [20, 22] C0 D0 C D := ⟨C0, D0, rfl, rfl, F, I, Kp.rf⟩
  refine g_aload_n X dX0_clear_0 rfl (j := 0) rfl ?_
  refine g_iconst X dX0_clear_1 (v := 0) (by decide) ?_
  refine i_put X F I 20 rfl rfl rfl fk_X0_9 dX0_clear_2 rfl rfl (Nat.le_of_ble_eq_true rfl) (fun _ => (rg_of (n := 0) (by omega) (by omega) (by omega))) (fun M C F I K1 hC => ?_)
  have K := K.step K1 (by decide)
  refine g_aload_n X dX0_clear_5 rfl (j := 0) rfl ?_
  refine i_get X F 20 rfl rfl fk_X0_19 dX0_clear_6 rfl ?_
  refine g_iconst X dX0_clear_9 (v := 0) (by decide) ?_
  refine g_callSV X (s_J7_fill_53178_22 l G F I  ) lk_X0_22 rfl rfl dX0_clear_10 (Nat.le_of_ble_eq_true rfl) ⟨by decide, by decide⟩ ⟨by decide, by decide⟩ (fun L M hp => ?_)
  obtain ⟨C, D, F, I, K1, hr⟩ := hp
  have K := K.step K1 (by decide)
  exact g_vret X hrt dX0_clear_13 (by decide) (by decide) ⟨C, D, F, I, K, trivial⟩
set_option maxHeartbeats 4000000 in
set_option maxRecDepth 100000 in
theorem s_X0_add_10 (l : Launch) (G : va_G) {cy : Nat → ClassId} {L : List Nat} {M : Nat → va_E} {a : Nat → Nat} {act : Nat → Bool} {C0 : Nat → Nat → Int32} {D0 : Nat → Nat → Int64} {R : Nat → Nat → Option Nat} (F : WI L M a act (ent cy a C0 D0 R)) (I : Inv C0) (p1 : Nat) (hp1a : 0 ≤ p1) (hp1b : p1 ≤ 6) (p2 : Nat) (hp2a : 0 ≤ p2) (hp2b : p2 ≤ 15)  : MI l G cy yX0_add cX0_add 4 (some .boolean) 0 0 0 [.ref (a 10), .int 0, .int (nI p1), .int (nI p2)] L M (fun r L2 M2 => ∃ C2 D2, WI L2 M2 a act (ent cy a C2 D2 R) ∧ Inv C2 ∧ Kp [10, 11, 12] C0 D0 C2 D2 ∧ (r = 0 ∨ r = 1)) := by
  refine MI.of (own := RX0) rfl (by decide) (Nat.le_of_ble_eq_true rfl) ?_
  intro p e s m below meth c A X hrt hnm
  obtain ⟨C, D, hC0, hD0, F, I, K⟩ : ∃ C D, C = C0 ∧ D = D0 ∧ WI L M a act (ent cy a C D R) ∧ Inv C ∧ Kp [10, 11, 12] C0 D0 C D := ⟨C0, D0, rfl, rfl, F, I, Kp.rf⟩
  refine g_aload_n X dX0_add_0 rfl (j := 0) rfl ?_
  obtain ⟨n1, hn1, en1⟩ := rg_nat (I 10 0 rfl) (by decide)
  refine i_get X F 10 rfl rfl fk_X0_9 dX0_add_1 (v := .int (nI n1)) (congrArg (fun z => some (Value.int z)) en1) ?_
  refine g_bipush X dX0_add_4 (v := 30) (by decide) ?_
  refine g_icmp_lt X dX0_add_6 (tgt := 11) (by decide) (fun q2 => ?_) (fun q2 => ?_)
  · skip
    have q2 : n1 < 30 := (nI_ltI (a := n1) (b := 30) (by omega) (by omega)).mp q2
    refine g_aload_n X dX0_add_11 rfl (j := 0) rfl ?_
    refine i_get X F 10 rfl rfl fk_X0_15 dX0_add_12 rfl ?_
    refine g_aload_n X dX0_add_15 rfl (j := 0) rfl ?_
    refine i_get X F 10 rfl rfl fk_X0_9 dX0_add_16 (v := .int (nI n1)) (congrArg (fun z => some (Value.int z)) en1) ?_
    refine g_iload_n X dX0_add_19 rfl (j := 1) rfl ?_
    refine g_iload_n X dX0_add_20 rfl (j := 2) rfl ?_
    refine g_bipush X dX0_add_21 (v := 16) (by decide) ?_
    refine g_imul X dX0_add_23 ?_
    refine Go.top (v := .int (nI (p1 * 16))) (congrArg Value.int (pk_mul p1 16)) ?_
    refine g_iadd X dX0_add_24 ?_
    refine Go.top (v := .int (nI (0 + (p1 * 16)))) (congrArg Value.int (nI_add 0 (p1 * 16))) ?_
    refine g_iload_n X dX0_add_25 rfl (j := 3) rfl ?_
    refine g_iadd X dX0_add_26 ?_
    refine Go.top (v := .int (nI ((0 + (p1 * 16)) + p2))) (congrArg Value.int (nI_add (0 + (p1 * 16)) p2)) ?_
    refine i_iast X F I 11 rfl (fun _ => rfl) dX0_add_27 (vp_in_nI (by omega) (by decide)) (rg_of (n := ((0 + (p1 * 16)) + p2)) (by omega) (by omega) (by omega)) (fun M C F I K1 hC => ?_)
    have K := K.step K1 (by decide)
    have en1 : C 10 0 = nI n1 := (congrFun (K1 10 (by decide)).1 0).trans en1
    refine g_aload_n X dX0_add_28 rfl (j := 0) rfl ?_
    refine i_get X F 10 rfl rfl fk_X0_19 dX0_add_29 rfl ?_
    refine g_aload_n X dX0_add_32 rfl (j := 0) rfl ?_
    refine i_get X F 10 rfl rfl fk_X0_15 dX0_add_33 rfl ?_
    refine g_aload_n X dX0_add_36 rfl (j := 0) rfl ?_
    refine i_get X F 10 rfl rfl fk_X0_9 dX0_add_37 (v := .int (nI n1)) (congrArg (fun z => some (Value.int z)) en1) ?_
    obtain ⟨n3, hn3, en3⟩ := rg_nat (I 11 n1) (by decide)
    refine i_iald X F 11 rfl rfl dX0_add_40 (vp_in_nI (by omega) (by decide)) (v := nI n3) (by rw [nI_clamp (by omega)]; exact en3) ?_
    refine g_dup2 X dX0_add_41 rfl rfl ?_
    refine i_iald X F 12 rfl rfl dX0_add_42 (vp_in_nI (by omega) (by decide)) rfl ?_
    refine Go.gen (fun o4 => ?_)
    refine g_iconst X dX0_add_43 (v := 1) (by decide) ?_
    refine g_iadd X dX0_add_44 ?_
    refine Go.gen (fun o5 => ?_)
    refine i_iast X F I 12 rfl (fun _ => rfl) dX0_add_45 (vp_in_nI (by omega) (by decide)) trivial (fun M C F I K1 hC => ?_)
    have K := K.step K1 (by decide)
    have en1 : C 10 0 = nI n1 := (congrFun (K1 10 (by decide)).1 0).trans en1
    refine g_aload_n X dX0_add_46 rfl (j := 0) rfl ?_
    refine g_dup X dX0_add_47 rfl ?_
    refine i_get X F 10 rfl rfl fk_X0_9 dX0_add_48 (v := .int (nI n1)) (congrArg (fun z => some (Value.int z)) en1) ?_
    refine g_iconst X dX0_add_51 (v := 1) (by decide) ?_
    refine g_iadd X dX0_add_52 ?_
    refine Go.top (v := .int (nI (n1 + 1))) (congrArg Value.int (nI_add n1 1)) ?_
    refine i_put X F I 10 rfl rfl rfl fk_X0_9 dX0_add_53 rfl rfl (Nat.le_of_ble_eq_true rfl) (fun _ => (rg_of (n := (n1 + 1)) (by omega) (by omega) (by omega))) (fun M C F I K1 hC => ?_)
    have K := K.step K1 (by decide)
    have f6 : C 10 0 = nI (n1 + 1) := by rw [hC]; exact pk_us
    refine g_iconst X dX0_add_56 (v := 1) (by decide) ?_
    exact g_zret X hrt rfl dX0_add_57 (by decide) (by decide) ⟨C, D, F, I, K, Or.inr rfl⟩
  · skip
    have q2 : ¬ n1 < 30 := fun z => q2 ((nI_ltI (a := n1) (b := 30) (by omega) (by omega)).mpr z)
    refine g_iconst X dX0_add_9 (v := 0) (by decide) ?_
    exact g_zret X hrt rfl dX0_add_10 (by decide) (by decide) ⟨C, D, F, I, K, Or.inl rfl⟩
set_option maxHeartbeats 4000000 in
set_option maxRecDepth 100000 in
theorem s_X0_add_10h (l : Launch) (G : va_G) {cy : Nat → ClassId} {L : List Nat} {M : Nat → va_E} {a : Nat → Nat} {act : Nat → Bool} {C0 : Nat → Nat → Int32} {D0 : Nat → Nat → Int64} {R : Nat → Nat → Option Nat} (F : WI L M a act (ent cy a C0 D0 R)) (I : Inv C0) (p1 : Nat) (hp1a : 0 ≤ p1) (hp1b : p1 ≤ 7) (p2 : Nat) (hp2a : 0 ≤ p2) (hp2b : p2 ≤ 15)  : MI l G cy yX0_add cX0_add 4 (some .boolean) 0 0 0 [.ref (a 10), .int 112, .int (nI p1), .int (nI p2)] L M (fun r L2 M2 => ∃ C2 D2, WI L2 M2 a act (ent cy a C2 D2 R) ∧ Inv C2 ∧ Kp [10, 11, 12] C0 D0 C2 D2 ∧ (r = 0 ∨ r = 1)) := by
  refine MI.of (own := RX0) rfl (by decide) (Nat.le_of_ble_eq_true rfl) ?_
  intro p e s m below meth c A X hrt hnm
  obtain ⟨C, D, hC0, hD0, F, I, K⟩ : ∃ C D, C = C0 ∧ D = D0 ∧ WI L M a act (ent cy a C D R) ∧ Inv C ∧ Kp [10, 11, 12] C0 D0 C D := ⟨C0, D0, rfl, rfl, F, I, Kp.rf⟩
  refine g_aload_n X dX0_add_0 rfl (j := 0) rfl ?_
  obtain ⟨n1, hn1, en1⟩ := rg_nat (I 10 0 rfl) (by decide)
  refine i_get X F 10 rfl rfl fk_X0_9 dX0_add_1 (v := .int (nI n1)) (congrArg (fun z => some (Value.int z)) en1) ?_
  refine g_bipush X dX0_add_4 (v := 30) (by decide) ?_
  refine g_icmp_lt X dX0_add_6 (tgt := 11) (by decide) (fun q2 => ?_) (fun q2 => ?_)
  · skip
    have q2 : n1 < 30 := (nI_ltI (a := n1) (b := 30) (by omega) (by omega)).mp q2
    refine g_aload_n X dX0_add_11 rfl (j := 0) rfl ?_
    refine i_get X F 10 rfl rfl fk_X0_15 dX0_add_12 rfl ?_
    refine g_aload_n X dX0_add_15 rfl (j := 0) rfl ?_
    refine i_get X F 10 rfl rfl fk_X0_9 dX0_add_16 (v := .int (nI n1)) (congrArg (fun z => some (Value.int z)) en1) ?_
    refine g_iload_n X dX0_add_19 rfl (j := 1) rfl ?_
    refine g_iload_n X dX0_add_20 rfl (j := 2) rfl ?_
    refine g_bipush X dX0_add_21 (v := 16) (by decide) ?_
    refine g_imul X dX0_add_23 ?_
    refine Go.top (v := .int (nI (p1 * 16))) (congrArg Value.int (pk_mul p1 16)) ?_
    refine g_iadd X dX0_add_24 ?_
    refine Go.top (v := .int (nI (112 + (p1 * 16)))) (congrArg Value.int (nI_add 112 (p1 * 16))) ?_
    refine g_iload_n X dX0_add_25 rfl (j := 3) rfl ?_
    refine g_iadd X dX0_add_26 ?_
    refine Go.top (v := .int (nI ((112 + (p1 * 16)) + p2))) (congrArg Value.int (nI_add (112 + (p1 * 16)) p2)) ?_
    refine i_iast X F I 11 rfl (fun _ => rfl) dX0_add_27 (vp_in_nI (by omega) (by decide)) (rg_of (n := ((112 + (p1 * 16)) + p2)) (by omega) (by omega) (by omega)) (fun M C F I K1 hC => ?_)
    have K := K.step K1 (by decide)
    have en1 : C 10 0 = nI n1 := (congrFun (K1 10 (by decide)).1 0).trans en1
    refine g_aload_n X dX0_add_28 rfl (j := 0) rfl ?_
    refine i_get X F 10 rfl rfl fk_X0_19 dX0_add_29 rfl ?_
    refine g_aload_n X dX0_add_32 rfl (j := 0) rfl ?_
    refine i_get X F 10 rfl rfl fk_X0_15 dX0_add_33 rfl ?_
    refine g_aload_n X dX0_add_36 rfl (j := 0) rfl ?_
    refine i_get X F 10 rfl rfl fk_X0_9 dX0_add_37 (v := .int (nI n1)) (congrArg (fun z => some (Value.int z)) en1) ?_
    obtain ⟨n3, hn3, en3⟩ := rg_nat (I 11 n1) (by decide)
    refine i_iald X F 11 rfl rfl dX0_add_40 (vp_in_nI (by omega) (by decide)) (v := nI n3) (by rw [nI_clamp (by omega)]; exact en3) ?_
    refine g_dup2 X dX0_add_41 rfl rfl ?_
    refine i_iald X F 12 rfl rfl dX0_add_42 (vp_in_nI (by omega) (by decide)) rfl ?_
    refine Go.gen (fun o4 => ?_)
    refine g_iconst X dX0_add_43 (v := 1) (by decide) ?_
    refine g_iadd X dX0_add_44 ?_
    refine Go.gen (fun o5 => ?_)
    refine i_iast X F I 12 rfl (fun _ => rfl) dX0_add_45 (vp_in_nI (by omega) (by decide)) trivial (fun M C F I K1 hC => ?_)
    have K := K.step K1 (by decide)
    have en1 : C 10 0 = nI n1 := (congrFun (K1 10 (by decide)).1 0).trans en1
    refine g_aload_n X dX0_add_46 rfl (j := 0) rfl ?_
    refine g_dup X dX0_add_47 rfl ?_
    refine i_get X F 10 rfl rfl fk_X0_9 dX0_add_48 (v := .int (nI n1)) (congrArg (fun z => some (Value.int z)) en1) ?_
    refine g_iconst X dX0_add_51 (v := 1) (by decide) ?_
    refine g_iadd X dX0_add_52 ?_
    refine Go.top (v := .int (nI (n1 + 1))) (congrArg Value.int (nI_add n1 1)) ?_
    refine i_put X F I 10 rfl rfl rfl fk_X0_9 dX0_add_53 rfl rfl (Nat.le_of_ble_eq_true rfl) (fun _ => (rg_of (n := (n1 + 1)) (by omega) (by omega) (by omega))) (fun M C F I K1 hC => ?_)
    have K := K.step K1 (by decide)
    have f6 : C 10 0 = nI (n1 + 1) := by rw [hC]; exact pk_us
    refine g_iconst X dX0_add_56 (v := 1) (by decide) ?_
    exact g_zret X hrt rfl dX0_add_57 (by decide) (by decide) ⟨C, D, F, I, K, Or.inr rfl⟩
  · skip
    have q2 : ¬ n1 < 30 := fun z => q2 ((nI_ltI (a := n1) (b := 30) (by omega) (by omega)).mpr z)
    refine g_iconst X dX0_add_9 (v := 0) (by decide) ?_
    exact g_zret X hrt rfl dX0_add_10 (by decide) (by decide) ⟨C, D, F, I, K, Or.inl rfl⟩
set_option maxHeartbeats 4000000 in
set_option maxRecDepth 100000 in
theorem s_X0_takeBack_10 (l : Launch) (G : va_G) {cy : Nat → ClassId} {L : List Nat} {M : Nat → va_E} {a : Nat → Nat} {act : Nat → Bool} {C0 : Nat → Nat → Int32} {D0 : Nat → Nat → Int64} {R : Nat → Nat → Option Nat} (F : WI L M a act (ent cy a C0 D0 R)) (I : Inv C0)   : MV l G cy yX0_takeBack cX0_takeBack 1 none 0 0 0 [.ref (a 10)] L M (fun L2 M2 => ∃ C2 D2, WI L2 M2 a act (ent cy a C2 D2 R) ∧ Inv C2 ∧ Kp [10, 11, 12] C0 D0 C2 D2 ∧ True) := by
  refine MV.of (own := RX0) rfl (by decide) (Nat.le_of_ble_eq_true rfl) ?_
  intro p e s m below meth c A X hrt hnm
  obtain ⟨C, D, hC0, hD0, F, I, K⟩ : ∃ C D, C = C0 ∧ D = D0 ∧ WI L M a act (ent cy a C D R) ∧ Inv C ∧ Kp [10, 11, 12] C0 D0 C D := ⟨C0, D0, rfl, rfl, F, I, Kp.rf⟩
  refine g_aload_n X dX0_takeBack_0 rfl (j := 0) rfl ?_
  obtain ⟨n1, hn1, en1⟩ := rg_nat (I 10 0 rfl) (by decide)
  refine i_get X F 10 rfl rfl fk_X0_9 dX0_takeBack_1 (v := .int (nI n1)) (congrArg (fun z => some (Value.int z)) en1) ?_
  refine g_if_le X dX0_takeBack_4 (tgt := 35) (by decide) (fun q2 => ?_) (fun q2 => ?_)
  · skip
    have q2 : n1 ≤ 0 := (nI_leI (a := n1) (b := 0) (by omega) (by omega)).mp q2
    exact g_vret X hrt dX0_takeBack_35 (by decide) (by decide) ⟨C, D, F, I, K, trivial⟩
  · skip
    have q2 : ¬ n1 ≤ 0 := fun z => q2 ((nI_leI (a := n1) (b := 0) (by omega) (by omega)).mpr z)
    refine g_aload_n X dX0_takeBack_7 rfl (j := 0) rfl ?_
    refine g_dup X dX0_takeBack_8 rfl ?_
    refine i_get X F 10 rfl rfl fk_X0_9 dX0_takeBack_9 (v := .int (nI n1)) (congrArg (fun z => some (Value.int z)) en1) ?_
    refine g_iconst X dX0_takeBack_12 (v := 1) (by decide) ?_
    refine g_isub X dX0_takeBack_13 ?_
    refine Go.top (v := .int (nI (n1 - 1))) (congrArg Value.int (pk_sub (a := n1) (b := 1) (by omega))) ?_
    refine i_put X F I 10 rfl rfl rfl fk_X0_9 dX0_takeBack_14 rfl rfl (Nat.le_of_ble_eq_true rfl) (fun _ => (rg_of (n := (n1 - 1)) (by omega) (by omega) (by omega))) (fun M C F I K1 hC => ?_)
    have K := K.step K1 (by decide)
    have f3 : C 10 0 = nI (n1 - 1) := by rw [hC]; exact pk_us
    refine g_aload_n X dX0_takeBack_17 rfl (j := 0) rfl ?_
    refine i_get X F 10 rfl rfl fk_X0_19 dX0_takeBack_18 rfl ?_
    refine g_aload_n X dX0_takeBack_21 rfl (j := 0) rfl ?_
    refine i_get X F 10 rfl rfl fk_X0_15 dX0_takeBack_22 rfl ?_
    refine g_aload_n X dX0_takeBack_25 rfl (j := 0) rfl ?_
    refine i_get X F 10 rfl rfl fk_X0_9 dX0_takeBack_26 (v := .int (nI (n1 - 1))) (congrArg (fun z => some (Value.int z)) f3) ?_
    obtain ⟨n4, hn4, en4⟩ := rg_nat (I 11 (n1 - 1)) (by decide)
    refine i_iald X F 11 rfl rfl dX0_takeBack_29 (vp_in_nI (by omega) (by decide)) (v := nI n4) (by rw [nI_clamp (by omega)]; exact en4) ?_
    refine g_dup2 X dX0_takeBack_30 rfl rfl ?_
    refine i_iald X F 12 rfl rfl dX0_takeBack_31 (vp_in_nI (by omega) (by decide)) rfl ?_
    refine Go.gen (fun o5 => ?_)
    refine g_iconst X dX0_takeBack_32 (v := 1) (by decide) ?_
    refine g_isub X dX0_takeBack_33 ?_
    refine Go.gen (fun o6 => ?_)
    refine i_iast X F I 12 rfl (fun _ => rfl) dX0_takeBack_34 (vp_in_nI (by omega) (by decide)) trivial (fun M C F I K1 hC => ?_)
    have K := K.step K1 (by decide)
    have f3 : C 10 0 = nI (n1 - 1) := (congrFun (K1 10 (by decide)).1 0).trans f3
    exact g_vret X hrt dX0_takeBack_35 (by decide) (by decide) ⟨C, D, F, I, K, trivial⟩
set_option maxHeartbeats 4000000 in
set_option maxRecDepth 100000 in
theorem s_X0_copyFrom_3_13 (l : Launch) (G : va_G) {cy : Nat → ClassId} {L : List Nat} {M : Nat → va_E} {a : Nat → Nat} {act : Nat → Bool} {C0 : Nat → Nat → Int32} {D0 : Nat → Nat → Int64} {R : Nat → Nat → Option Nat} (F : WI L M a act (ent cy a C0 D0 R)) (I : Inv C0)   : MV l G cy yX0_copyFrom cX0_copyFrom 2 none 1 0 0 [.ref (a 10), .ref (a 20)] L M (fun L2 M2 => ∃ C2 D2, WI L2 M2 a act (ent cy a C2 D2 R) ∧ Inv C2 ∧ Kp [10, 11, 12] C0 D0 C2 D2 ∧ True) := by
  refine MV.of (own := RX0) rfl (by decide) (Nat.le_of_ble_eq_true rfl) ?_
  intro p e s m below meth c A X hrt hnm
  obtain ⟨C, D, hC0, hD0, F, I, K⟩ : ∃ C D, C = C0 ∧ D = D0 ∧ WI L M a act (ent cy a C D R) ∧ Inv C ∧ Kp [10, 11, 12] C0 D0 C D := ⟨C0, D0, rfl, rfl, F, I, Kp.rf⟩
  refine g_aload_n X dX0_copyFrom_0 rfl (j := 0) rfl ?_
  refine g_aload_n X dX0_copyFrom_1 rfl (j := 1) rfl ?_
  obtain ⟨n1, hn1, en1⟩ := rg_nat (I 20 0 rfl) (by decide)
  refine i_get X F 20 rfl rfl fk_X0_9 dX0_copyFrom_2 (v := .int (nI n1)) (congrArg (fun z => some (Value.int z)) en1) ?_
  refine i_put X F I 10 rfl rfl rfl fk_X0_9 dX0_copyFrom_5 rfl rfl (Nat.le_of_ble_eq_true rfl) (fun _ => (rg_of (n := n1) (by omega) (by omega) (by omega))) (fun M C F I K1 hC => ?_)
  have K := K.step K1 (by decide)
  refine g_aload_n X dX0_copyFrom_8 rfl (j := 1) rfl ?_
  refine i_get X F 20 rfl rfl fk_X0_15 dX0_copyFrom_9 rfl ?_
  refine g_iconst X dX0_copyFrom_12 (v := 0) (by decide) ?_
  refine g_aload_n X dX0_copyFrom_13 rfl (j := 0) rfl ?_
  refine i_get X F 10 rfl rfl fk_X0_15 dX0_copyFrom_14 rfl ?_
  refine g_iconst X dX0_copyFrom_17 (v := 0) (by decide) ?_
  refine g_bipush X dX0_copyFrom_18 (v := 30) (by decide) ?_
  refine i_copyi X F I 21 rfl 11 rfl rfl (fun _ => rfl) (t0 := 1) rfl rfl wd163 wd87 wd88 wd89 (by decide) (by decide) (by decide) (by decide) (by decide) (fun _ _ => rfl) (by decide) (Nat.le_of_ble_eq_true rfl) dX0_copyFrom_20 (fun j => cpy_ok (P := okv 11) (fun j => I 21 j) (fun j => I 11 j) j) (fun M C F I K1 hC => ?_)
  have K := K.step K1 (by decide)
  refine g_aload_n X dX0_copyFrom_23 rfl (j := 1) rfl ?_
  refine i_get X F 20 rfl rfl fk_X0_19 dX0_copyFrom_24 rfl ?_
  refine g_iconst X dX0_copyFrom_27 (v := 0) (by decide) ?_
  refine g_aload_n X dX0_copyFrom_28 rfl (j := 0) rfl ?_
  refine i_get X F 10 rfl rfl fk_X0_19 dX0_copyFrom_29 rfl ?_
  refine g_iconst X dX0_copyFrom_32 (v := 0) (by decide) ?_
  refine g_aload_n X dX0_copyFrom_33 rfl (j := 0) rfl ?_
  refine i_get X F 10 rfl rfl fk_X0_19 dX0_copyFrom_34 rfl ?_
  refine i_alen X F 12 rfl rfl (t0 := 1) rfl dX0_copyFrom_37 (v := 240) rfl ?_
  refine i_copyi X F I 22 rfl 12 rfl rfl (fun _ => rfl) (t0 := 1) rfl rfl wd163 wd87 wd88 wd89 (by decide) (by decide) (by decide) (by decide) (by decide) (fun _ _ => rfl) (by decide) (Nat.le_of_ble_eq_true rfl) dX0_copyFrom_38 (fun j => trivial) (fun M C F I K1 hC => ?_)
  have K := K.step K1 (by decide)
  exact g_vret X hrt dX0_copyFrom_41 (by decide) (by decide) ⟨C, D, F, I, K, trivial⟩
set_option maxHeartbeats 4000000 in
set_option maxRecDepth 100000 in
theorem s_X2_copyFrom_3_13 (l : Launch) (G : va_G) {cy : Nat → ClassId} {L : List Nat} {M : Nat → va_E} {a : Nat → Nat} {act : Nat → Bool} {C0 : Nat → Nat → Int32} {D0 : Nat → Nat → Int64} {R : Nat → Nat → Option Nat} (F : WI L M a act (ent cy a C0 D0 R)) (I : Inv C0)   : MV l G cy yX2_copyFrom cX2_copyFrom 2 none 2 0 0 [.ref (a 3), .ref (a 13)] L M (fun L2 M2 => ∃ C2 D2, WI L2 M2 a act (ent cy a C2 D2 R) ∧ Inv C2 ∧ Kp [3, 4, 5, 6, 7, 8, 9, 10, 11, 12] C0 D0 C2 D2 ∧ True) := by
  refine MV.of (own := RX2) rfl (by decide) (Nat.le_of_ble_eq_true rfl) ?_
  intro p e s m below meth c A X hrt hnm
  obtain ⟨C, D, hC0, hD0, F, I, K⟩ : ∃ C D, C = C0 ∧ D = D0 ∧ WI L M a act (ent cy a C D R) ∧ Inv C ∧ Kp [3, 4, 5, 6, 7, 8, 9, 10, 11, 12] C0 D0 C D := ⟨C0, D0, rfl, rfl, F, I, Kp.rf⟩
  refine g_aload_n X dX2_copyFrom_0 rfl (j := 0) rfl ?_
  refine g_aload_n X dX2_copyFrom_1 rfl (j := 1) rfl ?_
  refine i_get X F 13 rfl rfl fk_X2_9 dX2_copyFrom_2 rfl ?_
  refine Go.gen (fun o1 => ?_)
  refine i_put X F I 3 rfl rfl rfl fk_X2_9 dX2_copyFrom_5 rfl rfl (Nat.le_of_ble_eq_true rfl) ⟨fun h => absurd h (by decide), fun h => absurd h (by decide), fun h => absurd h (by decide), fun h => absurd h (by decide)⟩ (fun M C F I K1 hC => ?_)
  have K := K.step K1 (by decide)
  refine g_aload_n X dX2_copyFrom_8 rfl (j := 0) rfl ?_
  refine g_aload_n X dX2_copyFrom_9 rfl (j := 1) rfl ?_
  obtain ⟨n2, hn2, en2⟩ := rg_nat ((I 13 1).1 rfl) (by decide)
  refine i_get X F 13 rfl rfl fk_X2_15 dX2_copyFrom_10 (v := .int (nI n2)) (congrArg (fun z => some (Value.int z)) en2) ?_
  refine i_put X F I 3 rfl rfl rfl fk_X2_15 dX2_copyFrom_13 rfl rfl (Nat.le_of_ble_eq_true rfl) ⟨fun _ => (rg_of (n := n2) (by omega) (by omega) (by omega)), fun h => absurd h (by decide), fun h => absurd h (by decide), fun h => absurd h (by decide)⟩ (fun M C F I K1 hC => ?_)
  have K := K.step K1 (by decide)
  refine g_aload_n X dX2_copyFrom_16 rfl (j := 0) rfl ?_
  refine g_aload_n X dX2_copyFrom_17 rfl (j := 1) rfl ?_
  refine i_get X F 13 rfl rfl fk_X2_18 dX2_copyFrom_18 rfl ?_
  refine Go.gen (fun o3 => ?_)
  refine i_put X F I 3 rfl rfl rfl fk_X2_18 dX2_copyFrom_21 rfl rfl (Nat.le_of_ble_eq_true rfl) ⟨fun h => absurd h (by decide), fun h => absurd h (by decide), fun h => absurd h (by decide), fun h => absurd h (by decide)⟩ (fun M C F I K1 hC => ?_)
  have K := K.step K1 (by decide)
  refine g_aload_n X dX2_copyFrom_24 rfl (j := 0) rfl ?_
  refine g_aload_n X dX2_copyFrom_25 rfl (j := 1) rfl ?_
  refine i_get X F 13 rfl rfl fk_X2_21 dX2_copyFrom_26 rfl ?_
  refine Go.gen (fun o4 => ?_)
  refine i_put X F I 3 rfl rfl rfl fk_X2_21 dX2_copyFrom_29 rfl rfl (Nat.le_of_ble_eq_true rfl) ⟨fun h => absurd h (by decide), fun h => absurd h (by decide), fun h => absurd h (by decide), fun h => absurd h (by decide)⟩ (fun M C F I K1 hC => ?_)
  have K := K.step K1 (by decide)
  refine g_aload_n X dX2_copyFrom_32 rfl (j := 0) rfl ?_
  refine g_aload_n X dX2_copyFrom_33 rfl (j := 1) rfl ?_
  obtain ⟨n5, hn5, en5⟩ := rg_nat ((I 13 4).2.1 rfl) (by decide)
  refine i_get X F 13 rfl rfl fk_X2_24 dX2_copyFrom_34 (v := .int (nI n5)) (congrArg (fun z => some (Value.int z)) en5) ?_
  refine i_put X F I 3 rfl rfl rfl fk_X2_24 dX2_copyFrom_37 rfl rfl (Nat.le_of_ble_eq_true rfl) ⟨fun h => absurd h (by decide), fun _ => (rg_of (n := n5) (by omega) (by omega) (by omega)), fun h => absurd h (by decide), fun h => absurd h (by decide)⟩ (fun M C F I K1 hC => ?_)
  have K := K.step K1 (by decide)
  refine g_aload_n X dX2_copyFrom_40 rfl (j := 0) rfl ?_
  refine g_aload_n X dX2_copyFrom_41 rfl (j := 1) rfl ?_
  obtain ⟨n6, hn6, en6⟩ := rg_nat ((I 13 5).2.2.1 rfl) (by decide)
  refine i_get X F 13 rfl rfl fk_X2_27 dX2_copyFrom_42 (v := .int (nI n6)) (congrArg (fun z => some (Value.int z)) en6) ?_
  refine i_put X F I 3 rfl rfl rfl fk_X2_27 dX2_copyFrom_45 rfl rfl (Nat.le_of_ble_eq_true rfl) ⟨fun h => absurd h (by decide), fun h => absurd h (by decide), fun _ => (rg_of (n := n6) (by omega) (by omega) (by omega)), fun h => absurd h (by decide)⟩ (fun M C F I K1 hC => ?_)
  have K := K.step K1 (by decide)
  refine g_aload_n X dX2_copyFrom_48 rfl (j := 0) rfl ?_
  refine g_aload_n X dX2_copyFrom_49 rfl (j := 1) rfl ?_
  refine i_get X F 13 rfl rfl fk_X2_30 dX2_copyFrom_50 rfl ?_
  refine Go.gen (fun o7 => ?_)
  refine i_put X F I 3 rfl rfl rfl fk_X2_30 dX2_copyFrom_53 rfl rfl (Nat.le_of_ble_eq_true rfl) ⟨fun h => absurd h (by decide), fun h => absurd h (by decide), fun h => absurd h (by decide), fun h => absurd h (by decide)⟩ (fun M C F I K1 hC => ?_)
  have K := K.step K1 (by decide)
  refine g_aload_n X dX2_copyFrom_56 rfl (j := 0) rfl ?_
  refine g_aload_n X dX2_copyFrom_57 rfl (j := 1) rfl ?_
  refine i_get X F 13 rfl rfl fk_X2_33 dX2_copyFrom_58 rfl ?_
  refine Go.gen (fun o8 => ?_)
  refine i_put X F I 3 rfl rfl rfl fk_X2_33 dX2_copyFrom_61 rfl rfl (Nat.le_of_ble_eq_true rfl) ⟨fun h => absurd h (by decide), fun h => absurd h (by decide), fun h => absurd h (by decide), fun h => absurd h (by decide)⟩ (fun M C F I K1 hC => ?_)
  have K := K.step K1 (by decide)
  refine g_aload_n X dX2_copyFrom_64 rfl (j := 0) rfl ?_
  refine g_aload_n X dX2_copyFrom_65 rfl (j := 1) rfl ?_
  obtain ⟨n9, hn9, en9⟩ := rg_nat ((I 13 8).2.2.2 rfl) (by decide)
  refine i_get X F 13 rfl rfl fk_X2_36 dX2_copyFrom_66 (v := .int (nI n9)) (congrArg (fun z => some (Value.int z)) en9) ?_
  refine i_put X F I 3 rfl rfl rfl fk_X2_36 dX2_copyFrom_69 rfl rfl (Nat.le_of_ble_eq_true rfl) ⟨fun h => absurd h (by decide), fun h => absurd h (by decide), fun h => absurd h (by decide), fun _ => (rg_of (n := n9) (by omega) (by omega) (by omega))⟩ (fun M C F I K1 hC => ?_)
  have K := K.step K1 (by decide)
  refine g_aload_n X dX2_copyFrom_72 rfl (j := 1) rfl ?_
  refine i_get X F 13 rfl rfl fk_X2_39 dX2_copyFrom_73 rfl ?_
  refine g_iconst X dX2_copyFrom_76 (v := 0) (by decide) ?_
  refine g_aload_n X dX2_copyFrom_77 rfl (j := 0) rfl ?_
  refine i_get X F 3 rfl rfl fk_X2_39 dX2_copyFrom_78 rfl ?_
  refine g_iconst X dX2_copyFrom_81 (v := 0) (by decide) ?_
  refine g_iconst X dX2_copyFrom_82 (v := 4) (by decide) ?_
  refine i_copyi X F I 14 rfl 4 rfl rfl (fun _ => rfl) (t0 := 1) rfl rfl wd169 wd87 wd88 wd89 (by decide) (by decide) (by decide) (by decide) (by decide) (fun _ _ => rfl) (by decide) (Nat.le_of_ble_eq_true rfl) dX2_copyFrom_83 (fun j => trivial) (fun M C F I K1 hC => ?_)
  have K := K.step K1 (by decide)
  refine g_aload_n X dX2_copyFrom_86 rfl (j := 1) rfl ?_
  refine i_get X F 13 rfl rfl fk_X2_43 dX2_copyFrom_87 rfl ?_
  refine g_iconst X dX2_copyFrom_90 (v := 0) (by decide) ?_
  refine g_aload_n X dX2_copyFrom_91 rfl (j := 0) rfl ?_
  refine i_get X F 3 rfl rfl fk_X2_43 dX2_copyFrom_92 rfl ?_
  refine g_iconst X dX2_copyFrom_95 (v := 0) (by decide) ?_
  refine g_bipush X dX2_copyFrom_96 (v := 7) (by decide) ?_
  refine i_copyi X F I 15 rfl 5 rfl rfl (fun _ => rfl) (t0 := 1) rfl rfl wd169 wd87 wd88 wd89 (by decide) (by decide) (by decide) (by decide) (by decide) (fun _ _ => rfl) (by decide) (Nat.le_of_ble_eq_true rfl) dX2_copyFrom_98 (fun j => cpy_ok (P := okv 5) (fun j => I 15 j) (fun j => I 5 j) j) (fun M C F I K1 hC => ?_)
  have K := K.step K1 (by decide)
  refine g_aload_n X dX2_copyFrom_101 rfl (j := 1) rfl ?_
  refine i_get X F 13 rfl rfl fk_X2_46 dX2_copyFrom_102 rfl ?_
  refine g_iconst X dX2_copyFrom_105 (v := 0) (by decide) ?_
  refine g_aload_n X dX2_copyFrom_106 rfl (j := 0) rfl ?_
  refine i_get X F 3 rfl rfl fk_X2_46 dX2_copyFrom_107 rfl ?_
  refine g_iconst X dX2_copyFrom_110 (v := 0) (by decide) ?_
  refine g_aload_n X dX2_copyFrom_111 rfl (j := 0) rfl ?_
  refine i_get X F 3 rfl rfl fk_X2_46 dX2_copyFrom_112 rfl ?_
  refine i_alen X F 6 rfl rfl (t0 := 1) rfl dX2_copyFrom_115 (v := 28) rfl ?_
  refine i_copyi X F I 16 rfl 6 rfl rfl (fun _ => rfl) (t0 := 1) rfl rfl wd169 wd87 wd88 wd89 (by decide) (by decide) (by decide) (by decide) (by decide) (fun _ _ => rfl) (by decide) (Nat.le_of_ble_eq_true rfl) dX2_copyFrom_116 (fun j => cpy_ok (P := okv 6) (fun j => I 16 j) (fun j => I 6 j) j) (fun M C F I K1 hC => ?_)
  have K := K.step K1 (by decide)
  refine g_aload_n X dX2_copyFrom_119 rfl (j := 1) rfl ?_
  refine i_get X F 13 rfl rfl fk_X2_49 dX2_copyFrom_120 rfl ?_
  refine g_iconst X dX2_copyFrom_123 (v := 0) (by decide) ?_
  refine g_aload_n X dX2_copyFrom_124 rfl (j := 0) rfl ?_
  refine i_get X F 3 rfl rfl fk_X2_49 dX2_copyFrom_125 rfl ?_
  refine g_iconst X dX2_copyFrom_128 (v := 0) (by decide) ?_
  refine g_bipush X dX2_copyFrom_129 (v := 7) (by decide) ?_
  refine i_copyi X F I 17 rfl 7 rfl rfl (fun _ => rfl) (t0 := 1) rfl rfl wd169 wd87 wd88 wd89 (by decide) (by decide) (by decide) (by decide) (by decide) (fun _ _ => rfl) (by decide) (Nat.le_of_ble_eq_true rfl) dX2_copyFrom_131 (fun j => cpy_ok (P := okv 7) (fun j => I 17 j) (fun j => I 7 j) j) (fun M C F I K1 hC => ?_)
  have K := K.step K1 (by decide)
  refine g_aload_n X dX2_copyFrom_134 rfl (j := 1) rfl ?_
  refine i_get X F 13 rfl rfl fk_X2_52 dX2_copyFrom_135 rfl ?_
  refine g_iconst X dX2_copyFrom_138 (v := 0) (by decide) ?_
  refine g_aload_n X dX2_copyFrom_139 rfl (j := 0) rfl ?_
  refine i_get X F 3 rfl rfl fk_X2_52 dX2_copyFrom_140 rfl ?_
  refine g_iconst X dX2_copyFrom_143 (v := 0) (by decide) ?_
  refine g_bipush X dX2_copyFrom_144 (v := 8) (by decide) ?_
  refine i_copyi X F I 18 rfl 8 rfl rfl (fun _ => rfl) (t0 := 1) rfl rfl wd169 wd87 wd88 wd89 (by decide) (by decide) (by decide) (by decide) (by decide) (fun _ _ => rfl) (by decide) (Nat.le_of_ble_eq_true rfl) dX2_copyFrom_146 (fun j => cpy_ok (P := okv 8) (fun j => I 18 j) (fun j => I 8 j) j) (fun M C F I K1 hC => ?_)
  have K := K.step K1 (by decide)
  refine g_aload_n X dX2_copyFrom_149 rfl (j := 1) rfl ?_
  refine i_get X F 13 rfl rfl fk_X2_55 dX2_copyFrom_150 rfl ?_
  refine g_iconst X dX2_copyFrom_153 (v := 0) (by decide) ?_
  refine g_aload_n X dX2_copyFrom_154 rfl (j := 0) rfl ?_
  refine i_get X F 3 rfl rfl fk_X2_55 dX2_copyFrom_155 rfl ?_
  refine g_iconst X dX2_copyFrom_158 (v := 0) (by decide) ?_
  refine g_bipush X dX2_copyFrom_159 (v := 8) (by decide) ?_
  refine i_copyi X F I 19 rfl 9 rfl rfl (fun _ => rfl) (t0 := 1) rfl rfl wd169 wd87 wd88 wd89 (by decide) (by decide) (by decide) (by decide) (by decide) (fun _ _ => rfl) (by decide) (Nat.le_of_ble_eq_true rfl) dX2_copyFrom_161 (fun j => trivial) (fun M C F I K1 hC => ?_)
  have K := K.step K1 (by decide)
  refine g_aload_n X dX2_copyFrom_164 rfl (j := 0) rfl ?_
  refine i_get X F 3 rfl rfl fk_X2_61 dX2_copyFrom_165 rfl ?_
  refine g_aload_n X dX2_copyFrom_168 rfl (j := 1) rfl ?_
  refine i_get X F 13 rfl rfl fk_X2_61 dX2_copyFrom_169 rfl ?_
  refine g_callVV X (s_X0_copyFrom_3_13 l G F I  ) lk_X2_80 (F.1 10 rfl).2 (F.1 10 rfl).1 rfl rfl dX2_copyFrom_172 (Nat.le_of_ble_eq_true rfl) ⟨by decide, by decide⟩ ⟨by decide, by decide⟩ (fun L M hp => ?_)
  obtain ⟨C, D, F, I, K1, hr⟩ := hp
  have K := K.step K1 (by decide)
  exact g_vret X hrt dX2_copyFrom_175 (by decide) (by decide) ⟨C, D, F, I, K, trivial⟩
set_option maxHeartbeats 4000000 in
set_option maxRecDepth 100000 in
theorem s_X2_clear (l : Launch) (G : va_G) {cy : Nat → ClassId} {L : List Nat} {M : Nat → va_E} {a : Nat → Nat} {act : Nat → Bool} {C0 : Nat → Nat → Int32} {D0 : Nat → Nat → Int64} {R : Nat → Nat → Option Nat} (F : WI L M a act (ent cy a C0 D0 R)) (I : Inv C0)   : MV l G cy yX2_clear cX2_clear 1 none 2 0 0 [.ref (a 13)] L M (fun L2 M2 => ∃ C2 D2, WI L2 M2 a act (ent cy a C2 D2 R) ∧ Inv C2 ∧ Kp [13, 15, 17, 20, 22] C0 D0 C2 D2 ∧ True) := by
  refine MV.of (own := RX2) rfl (by decide) (Nat.le_of_ble_eq_true rfl) ?_
  intro p e s m below meth c A X hrt hnm
  obtain ⟨C, D, hC0, hD0, F, I, K⟩ : ∃ C D, C = C0 ∧ D = D0 ∧ WI L M a act (ent cy a C D R) ∧ Inv C ∧ Kp [13, 15, 17, 20, 22] C0 D0 C D := ⟨C0, D0, rfl, rfl, F, I, Kp.rf⟩
  refine g_aload_n X dX2_clear_0 rfl (j := 0) rfl ?_
  refine g_iconst X dX2_clear_1 (v := 0) (by decide) ?_
  refine i_put X F I 13 rfl rfl rfl fk_X2_9 dX2_clear_2 rfl rfl (Nat.le_of_ble_eq_true rfl) ⟨fun h => absurd h (by decide), fun h => absurd h (by decide), fun h => absurd h (by decide), fun h => absurd h (by decide)⟩ (fun M C F I K1 hC => ?_)
  have K := K.step K1 (by decide)
  refine g_aload_n X dX2_clear_5 rfl (j := 0) rfl ?_
  refine g_iconst X dX2_clear_6 (v := 0) (by decide) ?_
  refine i_put X F I 13 rfl rfl rfl fk_X2_15 dX2_clear_7 rfl rfl (Nat.le_of_ble_eq_true rfl) ⟨fun _ => (rg_of (n := 0) (by omega) (by omega) (by omega)), fun h => absurd h (by decide), fun h => absurd h (by decide), fun h => absurd h (by decide)⟩ (fun M C F I K1 hC => ?_)
  have K := K.step K1 (by decide)
  refine g_aload_n X dX2_clear_10 rfl (j := 0) rfl ?_
  refine g_iconst X dX2_clear_11 (v := 0) (by decide) ?_
  refine i_put X F I 13 rfl rfl rfl fk_X2_18 dX2_clear_12 rfl rfl (Nat.le_of_ble_eq_true rfl) ⟨fun h => absurd h (by decide), fun h => absurd h (by decide), fun h => absurd h (by decide), fun h => absurd h (by decide)⟩ (fun M C F I K1 hC => ?_)
  have K := K.step K1 (by decide)
  refine g_aload_n X dX2_clear_15 rfl (j := 0) rfl ?_
  refine g_iconst X dX2_clear_16 (v := 0) (by decide) ?_
  refine i_put X F I 13 rfl rfl rfl fk_X2_21 dX2_clear_17 rfl rfl (Nat.le_of_ble_eq_true rfl) ⟨fun h => absurd h (by decide), fun h => absurd h (by decide), fun h => absurd h (by decide), fun h => absurd h (by decide)⟩ (fun M C F I K1 hC => ?_)
  have K := K.step K1 (by decide)
  refine g_aload_n X dX2_clear_20 rfl (j := 0) rfl ?_
  refine g_iconst X dX2_clear_21 (v := 0) (by decide) ?_
  refine i_put X F I 13 rfl rfl rfl fk_X2_24 dX2_clear_22 rfl rfl (Nat.le_of_ble_eq_true rfl) ⟨fun h => absurd h (by decide), fun _ => (rg_of (n := 0) (by omega) (by omega) (by omega)), fun h => absurd h (by decide), fun h => absurd h (by decide)⟩ (fun M C F I K1 hC => ?_)
  have K := K.step K1 (by decide)
  refine g_aload_n X dX2_clear_25 rfl (j := 0) rfl ?_
  refine g_iconst X dX2_clear_26 (v := 0) (by decide) ?_
  refine i_put X F I 13 rfl rfl rfl fk_X2_27 dX2_clear_27 rfl rfl (Nat.le_of_ble_eq_true rfl) ⟨fun h => absurd h (by decide), fun h => absurd h (by decide), fun _ => (rg_of (n := 0) (by omega) (by omega) (by omega)), fun h => absurd h (by decide)⟩ (fun M C F I K1 hC => ?_)
  have K := K.step K1 (by decide)
  refine g_aload_n X dX2_clear_30 rfl (j := 0) rfl ?_
  refine g_iconst X dX2_clear_31 (v := 0) (by decide) ?_
  refine i_put X F I 13 rfl rfl rfl fk_X2_30 dX2_clear_32 rfl rfl (Nat.le_of_ble_eq_true rfl) ⟨fun h => absurd h (by decide), fun h => absurd h (by decide), fun h => absurd h (by decide), fun h => absurd h (by decide)⟩ (fun M C F I K1 hC => ?_)
  have K := K.step K1 (by decide)
  refine g_aload_n X dX2_clear_35 rfl (j := 0) rfl ?_
  refine g_iconst X dX2_clear_36 (v := 0) (by decide) ?_
  refine i_put X F I 13 rfl rfl rfl fk_X2_33 dX2_clear_37 rfl rfl (Nat.le_of_ble_eq_true rfl) ⟨fun h => absurd h (by decide), fun h => absurd h (by decide), fun h => absurd h (by decide), fun h => absurd h (by decide)⟩ (fun M C F I K1 hC => ?_)
  have K := K.step K1 (by decide)
  refine g_aload_n X dX2_clear_40 rfl (j := 0) rfl ?_
  refine g_iconst X dX2_clear_41 (v := 0) (by decide) ?_
  refine i_put X F I 13 rfl rfl rfl fk_X2_36 dX2_clear_42 rfl rfl (Nat.le_of_ble_eq_true rfl) ⟨fun h => absurd h (by decide), fun h => absurd h (by decide), fun h => absurd h (by decide), fun _ => (rg_of (n := 0) (by omega) (by omega) (by omega))⟩ (fun M C F I K1 hC => ?_)
  have K := K.step K1 (by decide)
  refine g_aload_n X dX2_clear_45 rfl (j := 0) rfl ?_
  refine i_get X F 13 rfl rfl fk_X2_43 dX2_clear_46 rfl ?_
  refine g_iconst X dX2_clear_49 (v := 0) (by decide) ?_
  refine g_callSV X (s_J7_fill_53178_15 l G F I  ) lk_X2_65 rfl rfl dX2_clear_50 (Nat.le_of_ble_eq_true rfl) ⟨by decide, by decide⟩ ⟨by decide, by decide⟩ (fun L M hp => ?_)
  obtain ⟨C, D, F, I, K1, hr⟩ := hp
  have K := K.step K1 (by decide)
  refine g_aload_n X dX2_clear_53 rfl (j := 0) rfl ?_
  refine i_get X F 13 rfl rfl fk_X2_49 dX2_clear_54 rfl ?_
  refine g_iconst X dX2_clear_57 (v := 0) (by decide) ?_
  refine g_callSV X (s_J7_fill_53178_17 l G F I  ) lk_X2_65 rfl rfl dX2_clear_58 (Nat.le_of_ble_eq_true rfl) ⟨by decide, by decide⟩ ⟨by decide, by decide⟩ (fun L M hp => ?_)
  obtain ⟨C, D, F, I, K1, hr⟩ := hp
  have K := K.step K1 (by decide)
  refine g_aload_n X dX2_clear_61 rfl (j := 0) rfl ?_
  refine i_get X F 13 rfl rfl fk_X2_61 dX2_clear_62 rfl ?_
  refine g_callVV X (s_X0_clear_20 l G F I  ) lk_X2_71 (F.1 20 rfl).2 (F.1 20 rfl).1 rfl rfl dX2_clear_65 (Nat.le_of_ble_eq_true rfl) ⟨by decide, by decide⟩ ⟨by decide, by decide⟩ (fun L M hp => ?_)
  obtain ⟨C, D, F, I, K1, hr⟩ := hp
  have K := K.step K1 (by decide)
  exact g_vret X hrt dX2_clear_68 (by decide) (by decide) ⟨C, D, F, I, K, trivial⟩
set_option maxHeartbeats 4000000 in
set_option maxRecDepth 100000 in
theorem s_X2_addRoad (l : Launch) (G : va_G) {cy : Nat → ClassId} {L : List Nat} {M : Nat → va_E} {a : Nat → Nat} {act : Nat → Bool} {C0 : Nat → Nat → Int32} {D0 : Nat → Nat → Int64} {R : Nat → Nat → Option Nat} (F : WI L M a act (ent cy a C0 D0 R)) (I : Inv C0) (p0 : Nat) (hp0a : 0 ≤ p0) (hp0b : p0 ≤ 6) (p1 : Nat) (hp1 : p1 < 7 ∨ (10 ≤ p1 ∧ p1 < 14)) (hro : (C0 15 p0).toInt ≤ 3) : MV l G cy yX2_addRoad cX2_addRoad 3 none 0 0 0 [.ref (a 13), .int (nI p0), .int (nI p1)] L M (fun L2 M2 => ∃ C2 D2, WI L2 M2 a act (ent cy a C2 D2 R) ∧ Inv C2 ∧ Kp [13, 15, 16] C0 D0 C2 D2 ∧ True) := by
  refine MV.of (own := RX2) rfl (by decide) (Nat.le_of_ble_eq_true rfl) ?_
  intro p e s m below meth c A X hrt hnm
  obtain ⟨C, D, hC0, hD0, F, I, K⟩ : ∃ C D, C = C0 ∧ D = D0 ∧ WI L M a act (ent cy a C D R) ∧ Inv C ∧ Kp [13, 15, 16] C0 D0 C D := ⟨C0, D0, rfl, rfl, F, I, Kp.rf⟩
  rw [← hC0] at hro
  refine g_aload_n X dX2_addRoad_0 rfl (j := 0) rfl ?_
  refine i_get X F 13 rfl rfl fk_X2_46 dX2_addRoad_1 rfl ?_
  refine g_iload_n X dX2_addRoad_4 rfl (j := 1) rfl ?_
  refine g_iconst X dX2_addRoad_5 (v := 4) (by decide) ?_
  refine g_imul X dX2_addRoad_6 ?_
  refine Go.top (v := .int (nI (p0 * 4))) (congrArg Value.int (pk_mul p0 4)) ?_
  refine g_aload_n X dX2_addRoad_7 rfl (j := 0) rfl ?_
  refine i_get X F 13 rfl rfl fk_X2_43 dX2_addRoad_8 rfl ?_
  refine g_iload_n X dX2_addRoad_11 rfl (j := 1) rfl ?_
  obtain ⟨n1, hn1, en1⟩ := rg_nat (I 15 p0) (by decide)
  refine i_iald X F 15 rfl rfl dX2_addRoad_12 (vp_in_nI (by omega) (by decide)) (v := nI n1) (by rw [nI_clamp (by omega)]; exact en1) ?_
  have hn1_3 : n1 ≤ 3 := by rw [en1, nI_toInt (by omega)] at hro; omega
  refine g_iadd X dX2_addRoad_13 ?_
  refine Go.top (v := .int (nI ((p0 * 4) + n1))) (congrArg Value.int (nI_add (p0 * 4) n1)) ?_
  refine g_iload_n X dX2_addRoad_14 rfl (j := 2) rfl ?_
  refine i_iast X F I 16 rfl (fun _ => rfl) dX2_addRoad_15 (vp_in_nI (by omega) (by decide)) (gl_of (n := p1) (by omega)) (fun M C F I K1 hC => ?_)
  have K := K.step K1 (by decide)
  have hro : (C 15 p0).toInt ≤ 3 := by rw [(K1 15 (by decide)).1]; exact hro
  refine g_aload_n X dX2_addRoad_16 rfl (j := 0) rfl ?_
  refine i_get X F 13 rfl rfl fk_X2_43 dX2_addRoad_17 rfl ?_
  refine g_iload_n X dX2_addRoad_20 rfl (j := 1) rfl ?_
  refine g_dup2 X dX2_addRoad_21 rfl rfl ?_
  obtain ⟨n2, hn2, en2⟩ := rg_nat (I 15 p0) (by decide)
  refine i_iald X F 15 rfl rfl dX2_addRoad_22 (vp_in_nI (by omega) (by decide)) (v := nI n2) (by rw [nI_clamp (by omega)]; exact en2) ?_
  have hn2_3 : n2 ≤ 3 := by rw [en2, nI_toInt (by omega)] at hro; omega
  refine g_iconst X dX2_addRoad_23 (v := 1) (by decide) ?_
  refine g_iadd X dX2_addRoad_24 ?_
  refine Go.top (v := .int (nI (n2 + 1))) (congrArg Value.int (nI_add n2 1)) ?_
  refine i_iast X F I 15 rfl (fun _ => rfl) dX2_addRoad_25 (vp_in_nI (by omega) (by decide)) (rg_of (n := (n2 + 1)) (by omega) (by omega) (by omega)) (fun M C F I K1 hC => ?_)
  have K := K.step K1 (by decide)
  refine g_aload_n X dX2_addRoad_26 rfl (j := 0) rfl ?_
  refine g_dup X dX2_addRoad_27 rfl ?_
  refine i_get X F 13 rfl rfl fk_X2_30 dX2_addRoad_28 rfl ?_
  refine Go.gen (fun o3 => ?_)
  refine g_iconst X dX2_addRoad_31 (v := 1) (by decide) ?_
  refine g_iadd X dX2_addRoad_32 ?_
  refine Go.gen (fun o4 => ?_)
  refine i_put X F I 13 rfl rfl rfl fk_X2_30 dX2_addRoad_33 rfl rfl (Nat.le_of_ble_eq_true rfl) ⟨fun h => absurd h (by decide), fun h => absurd h (by decide), fun h => absurd h (by decide), fun h => absurd h (by decide)⟩ (fun M C F I K1 hC => ?_)
  have K := K.step K1 (by decide)
  exact g_vret X hrt dX2_addRoad_36 (by decide) (by decide) ⟨C, D, F, I, K, trivial⟩
