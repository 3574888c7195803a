set_option maxHeartbeats 4000000 in
set_option maxRecDepth 100000 in
theorem s_J1_charAt_3b067_v (l : Launch) (G : va_G) {cy : Nat → ClassId} {L : List Nat} {M : Nat → va_E} {a : Nat → Nat} {act : Nat → Bool} {C0 : Nat → Nat → Int32} {D0 : Nat → Nat → Int64} {R : Nat → Nat → Option Nat} (F : WI L M a act (ent cy a C0 D0 R)) (I : Inv C0) (p0 : Nat) (hp0 : p0 < 26) (p1 : Nat) (hp1a : 0 ≤ p1) (hp1b : p1 ≤ 6) (hlt : p1 < (strB.getD p0 []).length) : MI l G cy yJ1_charAt_3b067 cJ1_charAt_3b067 2 (some .char) 2 0 0 [.ref (G.2 1001 p0), .int (nI p1)] L M (fun r L2 M2 => ∃ C2 D2, WI L2 M2 a act (ent cy a C2 D2 R) ∧ Inv C2 ∧ Kp [] C0 D0 C2 D2 ∧ narrow .char (.int r) = .int r ∧ r = chK p0 p1) := by
  refine MI.of (own := RJ1) rfl (by decide) (Nat.le_of_ble_eq_true rfl) ?_
  intro p e s m below meth c A X hrt hnm
  obtain ⟨C, D, hC0, hD0, F, I, K⟩ : ∃ C D, C = C0 ∧ D = D0 ∧ WI L M a act (ent cy a C D R) ∧ Inv C ∧ Kp [] C0 D0 C D := ⟨C0, D0, rfl, rfl, F, I, Kp.rf⟩
  refine g_iload_n X dJ1_charAt_3b067_0 rfl (j := 1) rfl ?_
  refine g_aload_n X dJ1_charAt_3b067_1 rfl (j := 0) rfl ?_
  have hlen6 := str_le p0 hp0
  refine g_slenK X hp0 (v := nI (strB.getD p0 []).length) rfl dJ1_charAt_3b067_2 ?_
  refine g_callSV X (s_J0_checkIndex_df160 l G F I p1 (by omega) (by omega) ((strB.getD p0 []).length) (by omega) (by omega) (by omega)) lk_J1_9 rfl rfl dJ1_charAt_3b067_3 (Nat.le_of_ble_eq_true rfl) ⟨by decide, by decide⟩ ⟨by decide, by decide⟩ (fun L M hp => ?_)
  obtain ⟨C, D, F, I, K1, hr⟩ := hp
  have K := K.step K1 (by decide)
  refine g_aload_n X dJ1_charAt_3b067_6 rfl (j := 0) rfl ?_
  refine g_iload_n X dJ1_charAt_3b067_7 rfl (j := 1) rfl ?_
  obtain ⟨o1, eo1⟩ : ∃ z, (strB.getD p0 []).getD p1 0 = z := ⟨_, rfl⟩
  refine sb_v X hp0 (vp_in_nI (by omega) (by omega)) (v := o1) (by rw [nI_clamp (by omega)]; exact eo1) dJ1_charAt_3b067_8 ?_
  refine g_sipush X dJ1_charAt_3b067_9 (v := 255) (by decide) ?_
  refine g_iand X dJ1_charAt_3b067_12 ?_
  refine g_i2c X dJ1_charAt_3b067_13 (v := o1 &&& 255) (sc_c2 o1) ?_
  exact g_zret X hrt (sc_nar o1) dJ1_charAt_3b067_14 (by decide) (by decide) ⟨C, D, F, I, K, (sc_nar o1), by unfold chK; rw [eo1]⟩
set_option maxHeartbeats 4000000 in
set_option maxRecDepth 100000 in
theorem s_J0_charAt_5068e_v (l : Launch) (G : va_G) {cy : Nat → ClassId} {L : List Nat} {M : Nat → va_E} {a : Nat → Nat} {act : Nat → Bool} {C0 : Nat → Nat → Int32} {D0 : Nat → Nat → Int64} {R : Nat → Nat → Option Nat} (F : WI L M a act (ent cy a C0 D0 R)) (I : Inv C0) (pr : Nat) (hpr : pr < 26) (p0 : Nat) (hp0a : 0 ≤ p0) (hp0b : p0 ≤ 6) (hlt : p0 < (strB.getD pr []).length) : MI l G cy yJ0_charAt_5068e cJ0_charAt_5068e 2 (some .char) 3 0 0 [.ref (G.2 1000 pr), .int (nI p0)] L M (fun r L2 M2 => ∃ C2 D2, WI L2 M2 a act (ent cy a C2 D2 R) ∧ Inv C2 ∧ Kp [] C0 D0 C2 D2 ∧ narrow .char (.int r) = .int r ∧ r = chK pr p0) := by
  refine MI.of (own := RJ0) rfl (by decide) (Nat.le_of_ble_eq_true rfl) ?_
  intro p e s m below meth c A X hrt hnm
  obtain ⟨C, D, hC0, hD0, F, I, K⟩ : ∃ C D, C = C0 ∧ D = D0 ∧ WI L M a act (ent cy a C D R) ∧ Inv C ∧ Kp [] C0 D0 C D := ⟨C0, D0, rfl, rfl, F, I, Kp.rf⟩
  refine g_aload_n X dJ0_charAt_5068e_0 rfl (j := 0) rfl ?_
  refine g_callT X hpr (s_J0_isLatin1_aae02 l G F I pr hpr ) rfl wd367 wd368 wd369 wd357 wd370 pl_J0_isLatin1_aae02 rfl rfl dJ0_charAt_5068e_1 (Nat.le_of_ble_eq_true rfl) ⟨by decide, by decide⟩ ⟨by decide, by decide⟩ (fun r1 L M hp => ?_)
  obtain ⟨C, D, F, I, K1, hr⟩ := hp
  have K := K.step K1 (by decide)
  subst hr
  refine g_if_eq X dJ0_charAt_5068e_4 (tgt := 16) (by decide) (fun q => absurd q (by decide)) (fun _ => ?_)
  refine g_aload_n X dJ0_charAt_5068e_7 rfl (j := 0) rfl ?_
  refine g_strV X hpr wd353 dJ0_charAt_5068e_8 ?_
  refine g_iload_n X dJ0_charAt_5068e_11 rfl (j := 1) rfl ?_
  refine g_callSI X (s_J1_charAt_3b067_v l G F I pr hpr p0 (by omega) (by omega) (by omega)) lk_J0_495 rfl rfl dJ0_charAt_5068e_12 (Nat.le_of_ble_eq_true rfl) ⟨by decide, by decide⟩ ⟨by decide, by decide⟩ (fun r2 L M hp => ?_)
  obtain ⟨C, D, F, I, K1, hr⟩ := hp
  have K := K.step K1 (by decide)
  obtain ⟨hnarr2, hchr2⟩ := hr
  exact g_zret X hrt hnarr2 dJ0_charAt_5068e_15 (by decide) (by decide) ⟨C, D, F, I, K, hnarr2, hchr2⟩
set_option maxHeartbeats 4000000 in
set_option maxRecDepth 100000 in
theorem s_X8_feed (l : Launch) (G : va_G) {cy : Nat → ClassId} {L : List Nat} {M : Nat → va_E} {a : Nat → Nat} {act : Nat → Bool} {C0 : Nat → Nat → Int32} {D0 : Nat → Nat → Int64} {R : Nat → Nat → Option Nat} (F : WI L M a act (ent cy a C0 D0 R)) (I : Inv C0) (p0 : Int32) (p1 : Int32) (p2 : Int32) (p3 : Int32) (p4 : Int32)  : MI l G cy yX8_feed cX8_feed 7 (some .int) 0 0 0 [.ref (a 100), .int p0, .int p1, .int p2, .int p3, .int p4] L M (fun r L2 M2 => ∃ C2 D2, WI L2 M2 a act (ent cy a C2 D2 R) ∧ Inv C2 ∧ Kp [100, 104, 106] C0 D0 C2 D2 ∧ True) := by
  refine MI.of (own := RX8) rfl (by decide) (Nat.le_of_ble_eq_true rfl) ?_
  intro p e s m below meth c A X hrt hnm
  obtain ⟨C, D, hC0, hD0, F, I, K⟩ : ∃ C D, C = C0 ∧ D = D0 ∧ WI L M a act (ent cy a C D R) ∧ Inv C ∧ Kp [100, 104, 106] C0 D0 C D := ⟨C0, D0, rfl, rfl, F, I, Kp.rf⟩
  obtain ⟨n1, hn1, en1⟩ := rg_nat ((show okw 0 (C 101 0) from I 101 0).1 rfl) (by decide)
  rw [hC0] at en1
  obtain ⟨n2, hn2, en2⟩ := rg_nat ((show okw 4 (C 101 4) from I 101 4).2.2.2.1 rfl) (by decide)
  rw [hC0] at en2
  obtain ⟨n3, hn3, en3⟩ := rg_nat ((show okw 7 (C 101 7) from I 101 7).2.2.2.2.1 rfl) (by decide)
  rw [hC0] at en3
  refine g_aload_n X dX8_feed_0 rfl (j := 0) rfl ?_
  obtain ⟨n4, hn4, en4⟩ := rg_nat (I 100 5 (by decide)) (by decide)
  refine i_get X F 100 rfl rfl fk_X8_121 dX8_feed_1 (v := .int (nI n4)) (congrArg (fun z => some (Value.int z)) en4) ?_
  refine g_bipush X dX8_feed_4 (v := 20) (by decide) ?_
  refine g_iadd X dX8_feed_6 ?_
  refine Go.top (v := .int (nI (n4 + 20))) (congrArg Value.int (nI_add n4 20)) ?_
  refine g_sipush X dX8_feed_7 (v := 800) (by decide) ?_
  refine g_icmp_le X dX8_feed_10 (tgt := 15) (by decide) (fun q5 => ?_) (fun q5 => ?_)
  · skip
    have q5 : (n4 + 20) ≤ 800 := (nI_leI (a := (n4 + 20)) (b := 800) (by omega) (by omega)).mp q5
    refine g_aload_n X dX8_feed_15 rfl (j := 0) rfl ?_
    refine i_get X F 100 rfl rfl fk_X8_24 dX8_feed_16 rfl ?_
    refine g_iconst X dX8_feed_19 (v := 0) (by decide) ?_
    refine g_iload_n X dX8_feed_20 rfl (j := 1) rfl ?_
    refine i_iast X F I 106 rfl (fun _ => rfl) dX8_feed_21 (vp_in_iff.mpr (by decide)) trivial (fun M C F I K1 hC => ?_)
    have K := K.step K1 (by decide)
    have en4 : C 100 5 = nI n4 := (congrFun (K1 100 (by decide)).1 5).trans en4
    refine g_aload_n X dX8_feed_22 rfl (j := 0) rfl ?_
    refine i_get X F 100 rfl rfl fk_X8_24 dX8_feed_23 rfl ?_
    refine g_iconst X dX8_feed_26 (v := 1) (by decide) ?_
    refine g_iload_n X dX8_feed_27 rfl (j := 2) rfl ?_
    refine i_iast X F I 106 rfl (fun _ => rfl) dX8_feed_28 (vp_in_iff.mpr (by decide)) trivial (fun M C F I K1 hC => ?_)
    have K := K.step K1 (by decide)
    have en4 : C 100 5 = nI n4 := (congrFun (K1 100 (by decide)).1 5).trans en4
    refine g_aload_n X dX8_feed_29 rfl (j := 0) rfl ?_
    refine i_get X F 100 rfl rfl fk_X8_24 dX8_feed_30 rfl ?_
    refine g_iconst X dX8_feed_33 (v := 2) (by decide) ?_
    refine g_iload_n X dX8_feed_34 rfl (j := 3) rfl ?_
    refine i_iast X F I 106 rfl (fun _ => rfl) dX8_feed_35 (vp_in_iff.mpr (by decide)) trivial (fun M C F I K1 hC => ?_)
    have K := K.step K1 (by decide)
    have en4 : C 100 5 = nI n4 := (congrFun (K1 100 (by decide)).1 5).trans en4
    refine g_aload_n X dX8_feed_36 rfl (j := 0) rfl ?_
    refine i_get X F 100 rfl rfl fk_X8_24 dX8_feed_37 rfl ?_
    refine g_iconst X dX8_feed_40 (v := 3) (by decide) ?_
    refine g_iload X dX8_feed_41 (j := 4) rfl ?_
    refine i_iast X F I 106 rfl (fun _ => rfl) dX8_feed_43 (vp_in_iff.mpr (by decide)) trivial (fun M C F I K1 hC => ?_)
    have K := K.step K1 (by decide)
    have en4 : C 100 5 = nI n4 := (congrFun (K1 100 (by decide)).1 5).trans en4
    refine g_aload_n X dX8_feed_44 rfl (j := 0) rfl ?_
    refine i_get X F 100 rfl rfl fk_X8_24 dX8_feed_45 rfl ?_
    refine g_iconst X dX8_feed_48 (v := 4) (by decide) ?_
    refine g_iload X dX8_feed_49 (j := 5) rfl ?_
    refine i_iast X F I 106 rfl (fun _ => rfl) dX8_feed_51 (vp_in_iff.mpr (by decide)) trivial (fun M C F I K1 hC => ?_)
    have K := K.step K1 (by decide)
    have en4 : C 100 5 = nI n4 := (congrFun (K1 100 (by decide)).1 5).trans en4
    refine g_iconst X dX8_feed_52 (v := 0) (by decide) ?_
    refine g_istore X dX8_feed_53 (by decide) (lv2 := [(6, .int 0), (0, .ref (a 100)), (1, .int p0), (2, .int p1), (3, .int p2), (4, .int p3), (5, .int p4)]) rfl ?_
    refine g_lv [0, 1, 2, 3, 4, 5, 6] (lv2 := [(6, .int 0), (0, .ref (a 100)), (1, .int p0), (2, .int p1), (3, .int p2), (4, .int p3), (5, .int p4)]) rfl ?_
    refine i_loop (mods := [100, 104, 106]) (fun x : Nat × Nat => 20 - x.2) (fun x => [(6, .int (nI (x.2))), (0, .ref (a 100)), (1, .int p0), (2, .int p1), (3, .int p2), (4, .int p3), (5, .int p4)]) (fun x C => C 100 5 = nI (x.1) ∧ 0 ≤ x.1 ∧ x.1 ≤ 780 ∧ 0 ≤ x.2 ∧ x.2 ≤ 20) (fun x L M C D F I K hP ih55 => ?_) ((n4, 0) : Nat × Nat) F I K ⟨en4, by show _ ≤ _; omega, by show _ ≤ _; omega, by show _ ≤ _; omega, by show _ ≤ _; omega⟩
    rcases x with ⟨g55_100, i55_6⟩
    obtain ⟨eg55_100, hg55_100a, hg55_100b, hi55_6a, hi55_6b⟩ := hP
    have heg55_100 : C 100 5 = nI g55_100 := eg55_100
    refine g_lv [0, 1, 2, 3, 4, 5, 6] (lv2 := [(6, .int (nI i55_6)), (0, .ref (a 100)), (1, .int p0), (2, .int p1), (3, .int p2), (4, .int p3), (5, .int p4)]) rfl ?_
    refine g_iload X dX8_feed_55 (j := 0) rfl ?_
    refine g_bipush X dX8_feed_57 (v := 20) (by decide) ?_
    refine g_icmp_ge X dX8_feed_59 (tgt := 101) (by decide) (fun q6 => ?_) (fun q6 => ?_)
    · skip
      have q6 : 20 ≤ i55_6 := (nI_leI (a := 20) (b := i55_6) (by omega) (by omega)).mp q6
      refine g_aload_n X dX8_feed_101 rfl (j := 1) rfl ?_
      refine g_dup X dX8_feed_102 rfl ?_
      refine i_get X F 100 rfl rfl fk_X8_121 dX8_feed_103 (v := .int (nI g55_100)) (congrArg (fun z => some (Value.int z)) heg55_100) ?_
      refine g_bipush X dX8_feed_106 (v := 20) (by decide) ?_
      refine g_iadd X dX8_feed_108 ?_
      refine Go.top (v := .int (nI (g55_100 + 20))) (congrArg Value.int (nI_add g55_100 20)) ?_
      refine i_put X F I 100 rfl rfl rfl fk_X8_121 dX8_feed_109 rfl rfl (Nat.le_of_ble_eq_true rfl) (fun _ => (rg_of (n := (g55_100 + 20)) (by omega) (by omega) (by omega))) (fun M C F I K1 hC => ?_)
      have K := K.step K1 (by decide)
      have f7 : C 100 5 = nI (g55_100 + 20) := by rw [hC]; exact pk_us
      refine g_aload_n X dX8_feed_112 rfl (j := 1) rfl ?_
      refine i_get X F 100 rfl rfl fk_X8_121 dX8_feed_113 (v := .int (nI (g55_100 + 20))) (congrArg (fun z => some (Value.int z)) f7) ?_
      exact g_iret X hrt dX8_feed_116 (by decide) (by decide) ⟨C, D, F, I, K, trivial⟩
    · skip
      have q6 : ¬ 20 ≤ i55_6 := fun z => q6 ((nI_leI (a := 20) (b := i55_6) (by omega) (by omega)).mpr z)
      refine g_aload_n X dX8_feed_62 rfl (j := 1) rfl ?_
      refine i_get X F 100 rfl rfl fk_X8_20 dX8_feed_63 rfl ?_
      refine g_aload_n X dX8_feed_66 rfl (j := 1) rfl ?_
      refine i_get X F 100 rfl rfl fk_X8_121 dX8_feed_67 (v := .int (nI g55_100)) (congrArg (fun z => some (Value.int z)) heg55_100) ?_
      refine g_iload X dX8_feed_70 (j := 0) rfl ?_
      refine g_iadd X dX8_feed_72 ?_
      refine Go.top (v := .int (nI (g55_100 + i55_6))) (congrArg Value.int (nI_add g55_100 i55_6)) ?_
      refine g_aload_n X dX8_feed_73 rfl (j := 1) rfl ?_
      refine i_get X F 100 rfl rfl fk_X8_24 dX8_feed_74 rfl ?_
      refine g_iload X dX8_feed_77 (j := 0) rfl ?_
      refine g_iconst X dX8_feed_79 (v := 4) (by decide) ?_
      refine g_idiv X dX8_feed_80 (by decide) ?_
      refine Go.top (v := .int (nI (i55_6 / 4))) (congrArg Value.int (pk_div (a := i55_6) (d := 4) (by omega) (by omega) (by omega))) ?_
      obtain ⟨n8, en8⟩ : ∃ z : Nat, z = i55_6 / 4 := ⟨_, rfl⟩
      refine Go.top (v := .int (nI n8)) (by rw [en8]) ?_
      have hn8 : n8 ≤ i55_6 := by rw [en8]; exact Nat.div_le_self _ _
      refine i_iald X F 106 rfl rfl dX8_feed_81 (vp_in_nI (by omega) (by decide)) rfl ?_
      refine Go.gen (fun o9 => ?_)
      refine g_bipush X dX8_feed_82 (v := 24) (by decide) ?_
      refine g_bipush X dX8_feed_84 (v := 8) (by decide) ?_
      refine g_iload X dX8_feed_86 (j := 0) rfl ?_
      refine g_iconst X dX8_feed_88 (v := 4) (by decide) ?_
      refine g_irem X dX8_feed_89 (by decide) ?_
      refine Go.top (v := .int (nI (i55_6 % 4))) (congrArg Value.int (pk_rem (a := i55_6) (d := 4) (by omega) (by omega) (by omega))) ?_
      obtain ⟨n10, en10⟩ : ∃ z : Nat, z = i55_6 % 4 := ⟨_, rfl⟩
      refine Go.top (v := .int (nI n10)) (by rw [en10]) ?_
      have hn10 : n10 < 4 := by rw [en10]; exact Nat.mod_lt _ (by omega)
      refine g_imul X dX8_feed_90 ?_
      refine Go.top (v := .int (nI (8 * n10))) (congrArg Value.int (pk_mul 8 n10)) ?_
      refine g_isub X dX8_feed_91 ?_
      refine Go.top (v := .int (nI (24 - (8 * n10)))) (congrArg Value.int (pk_sub (a := 24) (b := (8 * n10)) (by omega))) ?_
      refine g_ishr X dX8_feed_92 ?_
      refine Go.gen (fun o11 => ?_)
      refine g_i2b X dX8_feed_93 rfl ?_
      refine Go.gen (fun o12 => ?_)
      refine i_bast X F I 104 rfl (fun _ => rfl) dX8_feed_94 (vp_in_nI (by omega) (by decide)) trivial (fun M C F I K1 hC => ?_)
      have K := K.step K1 (by decide)
      have heg55_100 : C 100 5 = nI g55_100 := (congrFun (K1 100 (by decide)).1 5).trans heg55_100
      refine g_iinc X dX8_feed_95 (j := 0) rfl (v := nI (i55_6 + 1)) (nI_1 i55_6) (by decide) (lv2 := [(6, .int (nI (i55_6 + 1))), (0, .ref (a 100)), (1, .int p0), (2, .int p1), (3, .int p2), (4, .int p3), (5, .int p4)]) rfl ?_
      refine g_goto X dX8_feed_98 (tgt := 55) (by decide) ?_
      refine g_lv [0, 1, 2, 3, 4, 5, 6] (lv2 := [(6, .int (nI (i55_6 + 1))), (0, .ref (a 100)), (1, .int p0), (2, .int p1), (3, .int p2), (4, .int p3), (5, .int p4)]) rfl ?_
      exact ih55 (g55_100, (i55_6 + 1)) L M C D F I K ⟨heg55_100, by omega, by omega, by omega, by omega⟩ (by show _ < _; omega)
  · skip
    have q5 : ¬ (n4 + 20) ≤ 800 := fun z => q5 ((nI_leI (a := (n4 + 20)) (b := 800) (by omega) (by omega)).mpr z)
    refine g_iconst X dX8_feed_13 (v := -1) (by decide) ?_
    exact g_iret X hrt dX8_feed_14 (by decide) (by decide) ⟨C, D, F, I, K, trivial⟩
set_option maxHeartbeats 4000000 in
set_option maxRecDepth 100000 in
theorem s_X8_end (l : Launch) (G : va_G) {cy : Nat → ClassId} {L : List Nat} {M : Nat → va_E} {a : Nat → Nat} {act : Nat → Bool} {C0 : Nat → Nat → Int32} {D0 : Nat → Nat → Int64} {R : Nat → Nat → Option Nat} (F : WI L M a act (ent cy a C0 D0 R)) (I : Inv C0) (p0 : Int32)  : MI l G cy yX8_end cX8_end 2 (some .int) 1 0 0 [.ref (a 100), .int p0] L M (fun r L2 M2 => ∃ C2 D2, WI L2 M2 a act (ent cy a C2 D2 R) ∧ Inv C2 ∧ Kp [100] C0 D0 C2 D2 ∧ True) := by
  refine MI.of (own := RX8) rfl (by decide) (Nat.le_of_ble_eq_true rfl) ?_
  intro p e s m below meth c A X hrt hnm
  obtain ⟨C, D, hC0, hD0, F, I, K⟩ : ∃ C D, C = C0 ∧ D = D0 ∧ WI L M a act (ent cy a C D R) ∧ Inv C ∧ Kp [100] C0 D0 C D := ⟨C0, D0, rfl, rfl, F, I, Kp.rf⟩
  obtain ⟨n1, hn1, en1⟩ := rg_nat ((show okw 0 (C 101 0) from I 101 0).1 rfl) (by decide)
  rw [hC0] at en1
  obtain ⟨n2, hn2, en2⟩ := rg_nat ((show okw 4 (C 101 4) from I 101 4).2.2.2.1 rfl) (by decide)
  rw [hC0] at en2
  obtain ⟨n3, hn3, en3⟩ := rg_nat ((show okw 7 (C 101 7) from I 101 7).2.2.2.2.1 rfl) (by decide)
  rw [hC0] at en3
  refine g_iload_n X dX8_end_0 rfl (j := 1) rfl ?_
  refine g_i2l X dX8_end_1 rfl ?_
  refine g_lconst X dX8_end_2 (v := 0) (by decide) ?_
  refine g_aload_n X dX8_end_3 rfl (j := 0) rfl ?_
  obtain ⟨n4, hn4, en4⟩ := rg_nat (I 100 5 (by decide)) (by decide)
  refine i_get X F 100 rfl rfl fk_X8_121 dX8_end_4 (v := .int (nI n4)) (congrArg (fun z => some (Value.int z)) en4) ?_
  refine g_i2l X dX8_end_7 rfl ?_
  refine g_callSI X (s_X8_in l G F I ((Int32.toInt64 p0)) (0 : Int64) ((Int32.toInt64 (nI n4))) ) lk_X8_94 rfl rfl dX8_end_8 (Nat.le_of_ble_eq_true rfl) ⟨by decide, by decide⟩ ⟨by decide, by decide⟩ (fun r5 L M hp => ?_)
  obtain ⟨C, D, F, I, K1, hr⟩ := hp
  have K := K.step K1 (by decide)
  have en4 : C 100 5 = nI n4 := (congrFun (K1 100 (by decide)).1 5).trans en4
  rcases hr with ⟨rfl, hq6⟩ | ⟨rfl, hq6⟩
  · skip
    have hq6x := Jvm.Kit.i64_of_i32 p0
    have hq6l : (0 : Int64).toInt = 0 := (by decide)
    have hq6h := Jvm.Kit.i64_of_i32 (nI n4)
    rw [nI_toInt (by omega)] at hq6h
    refine g_if_ne X dX8_end_11 (tgt := 16) (by decide) (fun q => absurd (by decide) q) (fun _ => ?_)
    refine g_iconst X dX8_end_14 (v := -1) (by decide) ?_
    exact g_iret X hrt dX8_end_15 (by decide) (by decide) ⟨C, D, F, I, K, trivial⟩
  · skip
    have hq6x := Jvm.Kit.i64_of_i32 p0
    have hq6l : (0 : Int64).toInt = 0 := (by decide)
    have hq6h := Jvm.Kit.i64_of_i32 (nI n4)
    rw [nI_toInt (by omega)] at hq6h
    obtain ⟨n7, hn7a, hn7b, en7⟩ := nI_ofInt (x := p0) (lo := 0) (hi := 800) (by omega) (by omega) (by decide)
    subst en7
    have tn7 := nI_toInt (n := n7) (by omega)
    refine g_if_ne X dX8_end_11 (tgt := 16) (by decide) (fun _ => ?_) (fun q => absurd q (by decide))
    refine g_aload_n X dX8_end_16 rfl (j := 0) rfl ?_
    refine g_iload_n X dX8_end_17 rfl (j := 1) rfl ?_
    refine i_put X F I 100 rfl rfl rfl fk_X8_121 dX8_end_18 rfl rfl (Nat.le_of_ble_eq_true rfl) (fun _ => (rg_of (n := n7) (by omega) (by omega) (by omega))) (fun M C F I K1 hC => ?_)
    have K := K.step K1 (by decide)
    have f8 : C 100 5 = nI n7 := by rw [hC]; exact pk_us
    refine g_iload_n X dX8_end_21 rfl (j := 1) rfl ?_
    exact g_iret X hrt dX8_end_22 (by decide) (by decide) ⟨C, D, F, I, K, trivial⟩
set_option maxHeartbeats 4000000 in
set_option maxRecDepth 100000 in
theorem s_X8_fault (l : Launch) (G : va_G) {cy : Nat → ClassId} {L : List Nat} {M : Nat → va_E} {a : Nat → Nat} {act : Nat → Bool} {C0 : Nat → Nat → Int32} {D0 : Nat → Nat → Int64} {R : Nat → Nat → Option Nat} (F : WI L M a act (ent cy a C0 D0 R)) (I : Inv C0) (p0 : Int32)  : MI l G cy yX8_fault cX8_fault 2 (some .int) 0 0 0 [.ref (a 100), .int p0] L M (fun r L2 M2 => ∃ C2 D2, WI L2 M2 a act (ent cy a C2 D2 R) ∧ Inv C2 ∧ Kp [] C0 D0 C2 D2 ∧ True) := by
  refine MI.of (own := RX8) rfl (by decide) (Nat.le_of_ble_eq_true rfl) ?_
  intro p e s m below meth c A X hrt hnm
  obtain ⟨C, D, hC0, hD0, F, I, K⟩ : ∃ C D, C = C0 ∧ D = D0 ∧ WI L M a act (ent cy a C D R) ∧ Inv C ∧ Kp [] C0 D0 C D := ⟨C0, D0, rfl, rfl, F, I, Kp.rf⟩
  obtain ⟨n1, hn1, en1⟩ := rg_nat ((show okw 0 (C 101 0) from I 101 0).1 rfl) (by decide)
  rw [hC0] at en1
  obtain ⟨n2, hn2, en2⟩ := rg_nat ((show okw 4 (C 101 4) from I 101 4).2.2.2.1 rfl) (by decide)
  rw [hC0] at en2
  obtain ⟨n3, hn3, en3⟩ := rg_nat ((show okw 7 (C 101 7) from I 101 7).2.2.2.2.1 rfl) (by decide)
  rw [hC0] at en3
  refine g_iload_n X dX8_fault_0 rfl (j := 1) rfl ?_
  refine g_if_ne X dX8_fault_1 (tgt := 11) (by decide) (fun q4 => ?_) (fun q4 => ?_)
  · skip
    refine g_iload_n X dX8_fault_11 rfl (j := 1) rfl ?_
    refine g_iconst X dX8_fault_12 (v := 1) (by decide) ?_
    refine g_icmp_ne X dX8_fault_13 (tgt := 23) (by decide) (fun q5 => ?_) (fun q5 => ?_)
    · skip
      refine g_iconst X dX8_fault_23 (v := -1) (by decide) ?_
      exact g_iret X hrt dX8_fault_24 (by decide) (by decide) ⟨C, D, F, I, K, trivial⟩
    · skip
      subst q5
      refine g_aload_n X dX8_fault_16 rfl (j := 0) rfl ?_
      refine i_get X F 100 rfl rfl fk_X8_27 dX8_fault_17 rfl ?_
      refine Go.gen (fun o6 => ?_)
      refine g_goto X dX8_fault_20 (tgt := 24) (by decide) ?_
      exact g_iret X hrt dX8_fault_24 (by decide) (by decide) ⟨C, D, F, I, K, trivial⟩
  · skip
    subst q4
    refine g_aload_n X dX8_fault_4 rfl (j := 0) rfl ?_
    refine i_get X F 100 rfl rfl fk_X8_158 dX8_fault_5 rfl ?_
    refine Go.gen (fun o7 => ?_)
    refine g_goto X dX8_fault_8 (tgt := 24) (by decide) ?_
    exact g_iret X hrt dX8_fault_24 (by decide) (by decide) ⟨C, D, F, I, K, trivial⟩
set_option maxHeartbeats 4000000 in
set_option maxRecDepth 100000 in
theorem s_X8_see (l : Launch) (G : va_G) {cy : Nat → ClassId} {L : List Nat} {M : Nat → va_E} {a : Nat → Nat} {act : Nat → Bool} {C0 : Nat → Nat → Int32} {D0 : Nat → Nat → Int64} {R : Nat → Nat → Option Nat} (F : WI L M a act (ent cy a C0 D0 R)) (I : Inv C0) (p0 : Nat) (hp0a : 0 ≤ p0) (hp0b : p0 ≤ 800)  : MI l G cy yX8_see cX8_see 2 (some .int) 0 0 0 [.ref (a 100), .int (nI p0)] L M (fun r L2 M2 => ∃ C2 D2, WI L2 M2 a act (ent cy a C2 D2 R) ∧ Inv C2 ∧ Kp [] C0 D0 C2 D2 ∧ ((r = -1 ∧ ¬ (p0 : Int) < (C2 100 7).toInt) ∨ ((p0 : Int) < (C2 100 7).toInt ∧ ∃ n : Nat, n ≤ 255 ∧ C2 104 p0 &&& 255 = nI n ∧ r = nI n))) := by
  refine MI.of (own := RX8) rfl (by decide) (Nat.le_of_ble_eq_true rfl) ?_
  intro p e s m below meth c A X hrt hnm
  obtain ⟨C, D, hC0, hD0, F, I, K⟩ : ∃ C D, C = C0 ∧ D = D0 ∧ WI L M a act (ent cy a C D R) ∧ Inv C ∧ Kp [] C0 D0 C D := ⟨C0, D0, rfl, rfl, F, I, Kp.rf⟩
  obtain ⟨n1, hn1, en1⟩ := rg_nat (I 100 7 (by decide)) (by decide)
  rw [hC0] at en1
  refine g_iload_n X dX8_see_0 rfl (j := 1) rfl ?_
  refine g_aload_n X dX8_see_1 rfl (j := 0) rfl ?_
  refine i_get X F 100 rfl rfl fk_X8_124 dX8_see_2 (v := .int (nI n1)) (congrArg (fun z => some (Value.int z)) ((congrFun (K 100 (by decide)).1 7).trans en1)) ?_
  refine g_icmp_ge X dX8_see_5 (tgt := 21) (by decide) (fun q2 => ?_) (fun q2 => ?_)
  · skip
    have q2 : n1 ≤ p0 := (nI_leI (a := n1) (b := p0) (by omega) (by omega)).mp q2
    refine g_iconst X dX8_see_21 (v := -1) (by decide) ?_
    exact g_iret X hrt dX8_see_22 (by decide) (by decide) ⟨C, D, F, I, K, Or.inl ⟨rfl, by rw [(K 100 (by decide)).1, en1, nI_toInt (by omega)]; omega⟩⟩
  · skip
    have q2 : ¬ n1 ≤ p0 := fun z => q2 ((nI_leI (a := n1) (b := p0) (by omega) (by omega)).mpr z)
    refine g_aload_n X dX8_see_8 rfl (j := 0) rfl ?_
    refine i_get X F 100 rfl rfl fk_X8_20 dX8_see_9 rfl ?_
    refine g_iload_n X dX8_see_12 rfl (j := 1) rfl ?_
    obtain ⟨o3, eo3⟩ : ∃ z, C 104 p0 = z := ⟨_, rfl⟩
    refine i_bald X F 104 rfl rfl dX8_see_13 (vp_in_nI (by omega) (by decide)) (v := o3) (by rw [nI_clamp (by omega)]; exact eo3) ?_
    refine g_sipush X dX8_see_14 (v := 255) (by decide) ?_
    refine g_iand X dX8_see_17 ?_
    obtain ⟨n4, hn4, en4⟩ := byte_nat o3
    refine Go.top (v := .int (nI n4)) (congrArg Value.int en4) ?_
    refine g_goto X dX8_see_18 (tgt := 22) (by decide) ?_
    exact g_iret X hrt dX8_see_22 (by decide) (by decide) ⟨C, D, F, I, K, Or.inr ⟨by rw [(K 100 (by decide)).1, en1, nI_toInt (by omega)]; omega, n4, by omega, by rw [eo3]; exact en4, rfl⟩⟩
set_option maxHeartbeats 4000000 in
set_option maxRecDepth 100000 in
theorem s_X8_advance (l : Launch) (G : va_G) {cy : Nat → ClassId} {L : List Nat} {M : Nat → va_E} {a : Nat → Nat} {act : Nat → Bool} {C0 : Nat → Nat → Int32} {D0 : Nat → Nat → Int64} {R : Nat → Nat → Option Nat} (F : WI L M a act (ent cy a C0 D0 R)) (I : Inv C0)   : MV l G cy yX8_advance cX8_advance 2 none 1 0 0 [.ref (a 100)] L M (fun L2 M2 => ∃ C2 D2, WI L2 M2 a act (ent cy a C2 D2 R) ∧ Inv C2 ∧ Kp [100] C0 D0 C2 D2 ∧ C2 100 12 = C0 100 12 ∧ C2 100 7 = C0 100 7 ∧ (C0 100 8).toInt ≤ (C2 100 8).toInt ∧ (¬ C2 100 10 = 0 → (C0 100 8).toInt < (C2 100 8).toInt)) := by
  refine MV.of (own := RX8) rfl (by decide) (Nat.le_of_ble_eq_true rfl) ?_
  intro p e s m below meth c A X hrt hnm
  obtain ⟨C, D, hC0, hD0, F, I, K⟩ : ∃ C D, C = C0 ∧ D = D0 ∧ WI L M a act (ent cy a C D R) ∧ Inv C ∧ Kp [100] C0 D0 C D := ⟨C0, D0, rfl, rfl, F, I, Kp.rf⟩
  have kq100_12 : C 100 12 = C0 100 12 := by rw [hC0]
  have kq100_7 : C 100 7 = C0 100 7 := by rw [hC0]
  obtain ⟨a0, ha0x, ea0⟩ := rg_nat (I 100 8 (by decide)) (by decide)
  have ea00 : C0 100 8 = nI a0 := by rw [← hC0]; exact ea0
  refine g_lv [0] (lv2 := [(0, .ref (a 100))]) rfl ?_
  refine i_loop (mods := [100]) (fun x : Nat => 800 - x) (fun x => [(0, .ref (a 100))]) (fun x C => C 100 8 = nI (x) ∧ 0 ≤ x ∧ x ≤ 800 ∧ C 100 12 = C0 100 12 ∧ C 100 7 = C0 100 7 ∧ (a0 ≤ x)) (fun x L M C D F I K hP ih0 => ?_) ((a0) : Nat) F I K ⟨ea0, by show _ ≤ _; omega, by show _ ≤ _; omega, kq100_12, kq100_7, (by show a0 ≤ _; omega)⟩
  obtain ⟨g0_100, rfl⟩ : ∃ z, z = x := ⟨_, rfl⟩
  obtain ⟨eg0_100, hg0_100a, hg0_100b, kq100_12, kq100_7, ha0⟩ := hP
  have heg0_100 : C 100 8 = nI g0_100 := eg0_100
  refine g_lv [0] (lv2 := [(0, .ref (a 100))]) rfl ?_
  refine g_aload_n X dX8_advance_0 rfl (j := 0) rfl ?_
  refine g_aload_n X dX8_advance_1 rfl (j := 0) rfl ?_
  refine i_get X F 100 rfl rfl fk_X8_127 dX8_advance_2 (v := .int (nI g0_100)) (congrArg (fun z => some (Value.int z)) heg0_100) ?_
  refine g_callVI X (s_X8_see l G F I g0_100 (by omega) (by omega) ) lk_X8_130 (F.1 100 rfl).2 (F.1 100 rfl).1 rfl rfl dX8_advance_5 (Nat.le_of_ble_eq_true rfl) ⟨by decide, by decide⟩ ⟨by decide, by decide⟩ (fun r1 L M hp => ?_)
  obtain ⟨C, D, F, I, K1, hr⟩ := hp
  have K := K.step K1 (by decide)
  have kq100_12 : C 100 12 = C0 100 12 := (congrFun (K1 100 (by decide)).1 12).trans kq100_12
  have kq100_7 : C 100 7 = C0 100 7 := (congrFun (K1 100 (by decide)).1 7).trans kq100_7
  have heg0_100 : C 100 8 = nI g0_100 := (congrFun (K1 100 (by decide)).1 8).trans heg0_100
  rcases hr with ⟨rfl, hgen2⟩ | ⟨hltn2, n2, hn2, hvn2, rfl⟩
  · skip
    rw [kq100_7] at hgen2
    refine g_bipush X dX8_advance_8 (v := 32) (by decide) ?_
    refine g_icmp_eq X dX8_advance_10 (tgt := 26) (by decide) (fun q => absurd q (by decide)) (fun _ => ?_)
    refine g_aload_n X dX8_advance_13 rfl (j := 0) rfl ?_
    refine g_aload_n X dX8_advance_14 rfl (j := 0) rfl ?_
    refine i_get X F 100 rfl rfl fk_X8_127 dX8_advance_15 (v := .int (nI g0_100)) (congrArg (fun z => some (Value.int z)) heg0_100) ?_
    refine g_callVI X (s_X8_see l G F I g0_100 (by omega) (by omega) ) lk_X8_130 (F.1 100 rfl).2 (F.1 100 rfl).1 rfl rfl dX8_advance_18 (Nat.le_of_ble_eq_true rfl) ⟨by decide, by decide⟩ ⟨by decide, by decide⟩ (fun r3 L M hp => ?_)
    obtain ⟨C, D, F, I, K1, hr⟩ := hp
    have K := K.step K1 (by decide)
    have kq100_12 : C 100 12 = C0 100 12 := (congrFun (K1 100 (by decide)).1 12).trans kq100_12
    have kq100_7 : C 100 7 = C0 100 7 := (congrFun (K1 100 (by decide)).1 7).trans kq100_7
    have heg0_100 : C 100 8 = nI g0_100 := (congrFun (K1 100 (by decide)).1 8).trans heg0_100
    rcases hr with ⟨rfl, hgen4⟩ | ⟨hltn4, n4, hn4, hvn4, rfl⟩
    · skip
      rw [kq100_7] at hgen4
      refine g_bipush X dX8_advance_21 (v := 10) (by decide) ?_
      refine g_icmp_ne X dX8_advance_23 (tgt := 39) (by decide) (fun _ => ?_) (fun q => absurd q (by decide))
      refine g_aload_n X dX8_advance_39 rfl (j := 0) rfl ?_
      refine g_aload_n X dX8_advance_40 rfl (j := 0) rfl ?_
      refine i_get X F 100 rfl rfl fk_X8_127 dX8_advance_41 (v := .int (nI g0_100)) (congrArg (fun z => some (Value.int z)) heg0_100) ?_
      refine i_put X F I 100 rfl rfl rfl fk_X8_134 dX8_advance_44 rfl rfl (Nat.le_of_ble_eq_true rfl) (fun _ => (rg_of (n := g0_100) (by omega) (by omega) (by omega))) (fun M C F I K1 hC => ?_)
      have K := K.step K1 (by decide)
      have kq100_12 : C 100 12 = C0 100 12 := by rw [hC, pk_un (by decide)]; exact kq100_12
      have kq100_7 : C 100 7 = C0 100 7 := by rw [hC, pk_un (by decide)]; exact kq100_7
      have heg0_100 : C 100 8 = nI g0_100 := by rw [hC, pk_un (by decide)]; exact heg0_100
      have f5 : C 100 9 = nI g0_100 := by rw [hC]; exact pk_us
      refine g_aload_n X dX8_advance_47 rfl (j := 0) rfl ?_
      refine g_aload_n X dX8_advance_48 rfl (j := 0) rfl ?_
      refine i_get X F 100 rfl rfl fk_X8_127 dX8_advance_49 (v := .int (nI g0_100)) (congrArg (fun z => some (Value.int z)) heg0_100) ?_
      refine g_callVI X (s_X8_see l G F I g0_100 (by omega) (by omega) ) lk_X8_130 (F.1 100 rfl).2 (F.1 100 rfl).1 rfl rfl dX8_advance_52 (Nat.le_of_ble_eq_true rfl) ⟨by decide, by decide⟩ ⟨by decide, by decide⟩ (fun r6 L M hp => ?_)
      obtain ⟨C, D, F, I, K1, hr⟩ := hp
      have K := K.step K1 (by decide)
      have kq100_12 : C 100 12 = C0 100 12 := (congrFun (K1 100 (by decide)).1 12).trans kq100_12
      have kq100_7 : C 100 7 = C0 100 7 := (congrFun (K1 100 (by decide)).1 7).trans kq100_7
      have heg0_100 : C 100 8 = nI g0_100 := (congrFun (K1 100 (by decide)).1 8).trans heg0_100
      have f5 : C 100 9 = nI g0_100 := (congrFun (K1 100 (by decide)).1 9).trans f5
      rcases hr with ⟨rfl, hgen7⟩ | ⟨hltn7, n7, hn7, hvn7, rfl⟩
      · skip
        rw [kq100_7] at hgen7
        refine g_istore_n X dX8_advance_55 rfl (by decide) (lv2 := [(1, .int (-1)), (0, .ref (a 100))]) rfl ?_
        refine g_iload_n X dX8_advance_56 rfl (j := 0) rfl ?_
        refine g_iconst X dX8_advance_57 (v := -1) (by decide) ?_
        refine g_icmp_ne X dX8_advance_58 (tgt := 69) (by decide) (fun q => absurd (by decide) q) (fun _ => ?_)
        refine g_aload_n X dX8_advance_61 rfl (j := 1) rfl ?_
        refine g_iconst X dX8_advance_62 (v := 0) (by decide) ?_
        refine i_put X F I 100 rfl rfl rfl fk_X8_137 dX8_advance_63 rfl rfl (Nat.le_of_ble_eq_true rfl) (fun h => absurd h (by decide)) (fun M C F I K1 hC => ?_)
        have K := K.step K1 (by decide)
        have kq100_12 : C 100 12 = C0 100 12 := by rw [hC, pk_un (by decide)]; exact kq100_12
        have kq100_7 : C 100 7 = C0 100 7 := by rw [hC, pk_un (by decide)]; exact kq100_7
        have heg0_100 : C 100 8 = nI g0_100 := by rw [hC, pk_un (by decide)]; exact heg0_100
        have f5 : C 100 9 = nI g0_100 := by rw [hC, pk_un (by decide)]; exact f5
        have f8 : C 100 10 = 0 := by rw [hC]; exact pk_us
        refine g_goto X dX8_advance_66 (tgt := 239) (by decide) ?_
        exact g_vret X hrt dX8_advance_239 (by decide) (by decide) ⟨C, D, F, I, K, kq100_12, kq100_7, by rw [ea00, nI_toInt (by omega), heg0_100, nI_toInt (by omega)]; omega, (fun z => absurd f8 z)⟩
      · skip
        have hatn7 : g0_100 + 1 ≤ 800 := by have z := (I 100 7 (by decide)).2; omega
        rw [kq100_7] at hltn7
        rw [(K 104 (by decide)).1] at hvn7
        refine g_istore_n X dX8_advance_55 rfl (by decide) (lv2 := [(1, .int (nI n7)), (0, .ref (a 100))]) rfl ?_
        refine g_iload_n X dX8_advance_56 rfl (j := 0) rfl ?_
        refine g_iconst X dX8_advance_57 (v := -1) (by decide) ?_
        refine g_icmp_ne X dX8_advance_58 (tgt := 69) (by decide) (fun _ => ?_) (fun q => absurd q (nI_nm1 (by omega)))
        refine g_iload_n X dX8_advance_69 rfl (j := 0) rfl ?_
        refine g_i2l X dX8_advance_70 rfl ?_
        refine g_ldc2 X (v := 97) wd970 dX8_advance_71 ?_
        refine g_ldc2 X (v := 122) wd971 dX8_advance_74 ?_
        refine g_callSI X (s_X8_in l G F I ((Int32.toInt64 (nI n7))) (97 : Int64) (122 : Int64) ) lk_X8_94 rfl rfl dX8_advance_77 (Nat.le_of_ble_eq_true rfl) ⟨by decide, by decide⟩ ⟨by decide, by decide⟩ (fun r10 L M hp => ?_)
        obtain ⟨C, D, F, I, K1, hr⟩ := hp
        have K := K.step K1 (by decide)
        have kq100_12 : C 100 12 = C0 100 12 := (congrFun (K1 100 (by decide)).1 12).trans kq100_12
        have kq100_7 : C 100 7 = C0 100 7 := (congrFun (K1 100 (by decide)).1 7).trans kq100_7
        have heg0_100 : C 100 8 = nI g0_100 := (congrFun (K1 100 (by decide)).1 8).trans heg0_100
        have f5 : C 100 9 = nI g0_100 := (congrFun (K1 100 (by decide)).1 9).trans f5
        rcases hr with ⟨rfl, hq11⟩ | ⟨rfl, hq11⟩
        · skip
          have hq11x := Jvm.Kit.i64_of_i32 (nI n7)
          rw [nI_toInt (by omega)] at hq11x
          have hq11l : (97 : Int64).toInt = 97 := (by decide)
          have hq11h : (122 : Int64).toInt = 122 := (by decide)
          refine g_if_eq X dX8_advance_80 (tgt := 125) (by decide) (fun _ => ?_) (fun q => absurd (by decide) q)
          refine g_iload_n X dX8_advance_125 rfl (j := 0) rfl ?_
          refine g_i2l X dX8_advance_126 rfl ?_
          refine g_ldc2 X (v := 48) wd972 dX8_advance_127 ?_
          refine g_ldc2 X (v := 57) wd973 dX8_advance_130 ?_
          refine g_callSI X (s_X8_in l G F I ((Int32.toInt64 (nI n7))) (48 : Int64) (57 : Int64) ) lk_X8_94 rfl rfl dX8_advance_133 (Nat.le_of_ble_eq_true rfl) ⟨by decide, by decide⟩ ⟨by decide, by decide⟩ (fun r12 L M hp => ?_)
          obtain ⟨C, D, F, I, K1, hr⟩ := hp
          have K := K.step K1 (by decide)
          have kq100_12 : C 100 12 = C0 100 12 := (congrFun (K1 100 (by decide)).1 12).trans kq100_12
          have kq100_7 : C 100 7 = C0 100 7 := (congrFun (K1 100 (by decide)).1 7).trans kq100_7
          have heg0_100 : C 100 8 = nI g0_100 := (congrFun (K1 100 (by decide)).1 8).trans heg0_100
          have f5 : C 100 9 = nI g0_100 := (congrFun (K1 100 (by decide)).1 9).trans f5
          rcases hr with ⟨rfl, hq13⟩ | ⟨rfl, hq13⟩
          · skip
            have hq13x := Jvm.Kit.i64_of_i32 (nI n7)
            rw [nI_toInt (by omega)] at hq13x
            have hq13l : (48 : Int64).toInt = 48 := (by decide)
            have hq13h : (57 : Int64).toInt = 57 := (by decide)
            refine g_if_eq X dX8_advance_136 (tgt := 214) (by decide) (fun _ => ?_) (fun q => absurd (by decide) q)
            refine g_aload_n X dX8_advance_214 rfl (j := 1) rfl ?_
            refine g_iload_n X dX8_advance_215 rfl (j := 0) rfl ?_
            refine g_bipush X dX8_advance_216 (v := 59) (by decide) ?_
            refine g_icmp_ne X dX8_advance_218 (tgt := 225) (by decide) (fun q14 => ?_) (fun q14 => ?_)
            · skip
              have q14 : ¬ n7 = 59 := fun z => q14 ((nI_eq (a := n7) (b := 59) (by omega) (by omega)).mpr z)
              refine g_iconst X dX8_advance_225 (v := 4) (by decide) ?_
              refine i_put X F I 100 rfl rfl rfl fk_X8_137 dX8_advance_226 rfl rfl (Nat.le_of_ble_eq_true rfl) (fun h => absurd h (by decide)) (fun M C F I K1 hC => ?_)
              have K := K.step K1 (by decide)
              have kq100_12 : C 100 12 = C0 100 12 := by rw [hC, pk_un (by decide)]; exact kq100_12
              have kq100_7 : C 100 7 = C0 100 7 := by rw [hC, pk_un (by decide)]; exact kq100_7
              have heg0_100 : C 100 8 = nI g0_100 := by rw [hC, pk_un (by decide)]; exact heg0_100
              have f5 : C 100 9 = nI g0_100 := by rw [hC, pk_un (by decide)]; exact f5
              have f15 : C 100 10 = 4 := by rw [hC]; exact pk_us
              refine g_aload_n X dX8_advance_229 rfl (j := 1) rfl ?_
              refine g_dup X dX8_advance_230 rfl ?_
              refine i_get X F 100 rfl rfl fk_X8_127 dX8_advance_231 (v := .int (nI g0_100)) (congrArg (fun z => some (Value.int z)) heg0_100) ?_
              refine g_iconst X dX8_advance_234 (v := 1) (by decide) ?_
              refine g_iadd X dX8_advance_235 ?_
              refine Go.top (v := .int (nI (g0_100 + 1))) (congrArg Value.int (nI_add g0_100 1)) ?_
              refine i_put X F I 100 rfl rfl rfl fk_X8_127 dX8_advance_236 rfl rfl (Nat.le_of_ble_eq_true rfl) (fun _ => (rg_of (n := (g0_100 + 1)) (by omega) (by omega) (by omega))) (fun M C F I K1 hC => ?_)
              have K := K.step K1 (by decide)
              have kq100_12 : C 100 12 = C0 100 12 := by rw [hC, pk_un (by decide)]; exact kq100_12
              have kq100_7 : C 100 7 = C0 100 7 := by rw [hC, pk_un (by decide)]; exact kq100_7
              have f5 : C 100 9 = nI g0_100 := by rw [hC, pk_un (by decide)]; exact f5
              have f15 : C 100 10 = 4 := by rw [hC, pk_un (by decide)]; exact f15
              have f16 : C 100 8 = nI (g0_100 + 1) := by rw [hC]; exact pk_us
              exact g_vret X hrt dX8_advance_239 (by decide) (by decide) ⟨C, D, F, I, K, kq100_12, kq100_7, by rw [ea00, nI_toInt (by omega), f16, nI_toInt (by omega)]; omega, (fun _ => by rw [ea00, nI_toInt (by omega), f16, nI_toInt (by omega)]; omega)⟩
            · skip
              have q14 : n7 = 59 := (nI_eq (a := n7) (b := 59) (by omega) (by omega)).mp q14
              refine g_iconst X dX8_advance_221 (v := 3) (by decide) ?_
              refine g_goto X dX8_advance_222 (tgt := 226) (by decide) ?_
              refine i_put X F I 100 rfl rfl rfl fk_X8_137 dX8_advance_226 rfl rfl (Nat.le_of_ble_eq_true rfl) (fun h => absurd h (by decide)) (fun M C F I K1 hC => ?_)
              have K := K.step K1 (by decide)
              have kq100_12 : C 100 12 = C0 100 12 := by rw [hC, pk_un (by decide)]; exact kq100_12
              have kq100_7 : C 100 7 = C0 100 7 := by rw [hC, pk_un (by decide)]; exact kq100_7
              have heg0_100 : C 100 8 = nI g0_100 := by rw [hC, pk_un (by decide)]; exact heg0_100
              have f5 : C 100 9 = nI g0_100 := by rw [hC, pk_un (by decide)]; exact f5
              have f17 : C 100 10 = 3 := by rw [hC]; exact pk_us
              refine g_aload_n X dX8_advance_229 rfl (j := 1) rfl ?_
              refine g_dup X dX8_advance_230 rfl ?_
              refine i_get X F 100 rfl rfl fk_X8_127 dX8_advance_231 (v := .int (nI g0_100)) (congrArg (fun z => some (Value.int z)) heg0_100) ?_
              refine g_iconst X dX8_advance_234 (v := 1) (by decide) ?_
              refine g_iadd X dX8_advance_235 ?_
              refine Go.top (v := .int (nI (g0_100 + 1))) (congrArg Value.int (nI_add g0_100 1)) ?_
              refine i_put X F I 100 rfl rfl rfl fk_X8_127 dX8_advance_236 rfl rfl (Nat.le_of_ble_eq_true rfl) (fun _ => (rg_of (n := (g0_100 + 1)) (by omega) (by omega) (by omega))) (fun M C F I K1 hC => ?_)
              have K := K.step K1 (by decide)
              have kq100_12 : C 100 12 = C0 100 12 := by rw [hC, pk_un (by decide)]; exact kq100_12
              have kq100_7 : C 100 7 = C0 100 7 := by rw [hC, pk_un (by decide)]; exact kq100_7
              have f5 : C 100 9 = nI g0_100 := by rw [hC, pk_un (by decide)]; exact f5
              have f17 : C 100 10 = 3 := by rw [hC, pk_un (by decide)]; exact f17
              have f18 : C 100 8 = nI (g0_100 + 1) := by rw [hC]; exact pk_us
              exact g_vret X hrt dX8_advance_239 (by decide) (by decide) ⟨C, D, F, I, K, kq100_12, kq100_7, by rw [ea00, nI_toInt (by omega), f18, nI_toInt (by omega)]; omega, (fun _ => by rw [ea00, nI_toInt (by omega), f18, nI_toInt (by omega)]; omega)⟩
          · skip
            have hq13x := Jvm.Kit.i64_of_i32 (nI n7)
            rw [nI_toInt (by omega)] at hq13x
            have hq13l : (48 : Int64).toInt = 48 := (by decide)
            have hq13h : (57 : Int64).toInt = 57 := (by decide)
            refine g_if_eq X dX8_advance_136 (tgt := 214) (by decide) (fun q => absurd q (by decide)) (fun _ => ?_)
            refine g_aload_n X dX8_advance_139 rfl (j := 1) rfl ?_
            refine g_iconst X dX8_advance_140 (v := 0) (by decide) ?_
            refine i_put X F I 100 rfl rfl rfl fk_X8_148 dX8_advance_141 rfl rfl (Nat.le_of_ble_eq_true rfl) (fun h => absurd h (by decide)) (fun M C F I K1 hC => ?_)
            have K := K.step K1 (by decide)
            have kq100_12 : C 100 12 = C0 100 12 := by rw [hC, pk_un (by decide)]; exact kq100_12
            have kq100_7 : C 100 7 = C0 100 7 := by rw [hC, pk_un (by decide)]; exact kq100_7
            have heg0_100 : C 100 8 = nI g0_100 := by rw [hC, pk_un (by decide)]; exact heg0_100
            have f5 : C 100 9 = nI g0_100 := by rw [hC, pk_un (by decide)]; exact f5
            refine g_lv [0, 1] (lv2 := [(1, .int (nI n7)), (0, .ref (a 100))]) rfl ?_
            refine i_loop (mods := [100]) (fun x : Nat => 800 - x) (fun x => [(1, .int (nI n7)), (0, .ref (a 100))]) (fun x C => C 100 8 = nI (x) ∧ 0 ≤ x ∧ x ≤ 800 ∧ C 100 12 = C0 100 12 ∧ C 100 7 = C0 100 7 ∧ (a0 ≤ x) ∧ (g0_100 ≤ x)) (fun x L M C D F I K hP ih144 => ?_) ((g0_100) : Nat) F I K ⟨heg0_100, by show _ ≤ _; omega, by show _ ≤ _; omega, kq100_12, kq100_7, (by show a0 ≤ _; omega), (by show g0_100 ≤ _; omega)⟩
            obtain ⟨g144_100, rfl⟩ : ∃ z, z = x := ⟨_, rfl⟩
            obtain ⟨eg144_100, hg144_100a, hg144_100b, kq100_12, kq100_7, ha0, ha1⟩ := hP
            have heg144_100 : C 100 8 = nI g144_100 := eg144_100
            refine g_lv [0, 1] (lv2 := [(1, .int (nI n7)), (0, .ref (a 100))]) rfl ?_
            refine g_aload_n X dX8_advance_144 rfl (j := 1) rfl ?_
            refine g_aload_n X dX8_advance_145 rfl (j := 1) rfl ?_
            refine i_get X F 100 rfl rfl fk_X8_127 dX8_advance_146 (v := .int (nI g144_100)) (congrArg (fun z => some (Value.int z)) heg144_100) ?_
            refine g_callVI X (s_X8_see l G F I g144_100 (by omega) (by omega) ) lk_X8_130 (F.1 100 rfl).2 (F.1 100 rfl).1 rfl rfl dX8_advance_149 (Nat.le_of_ble_eq_true rfl) ⟨by decide, by decide⟩ ⟨by decide, by decide⟩ (fun r19 L M hp => ?_)
            obtain ⟨C, D, F, I, K1, hr⟩ := hp
            have K := K.step K1 (by decide)
            have kq100_12 : C 100 12 = C0 100 12 := (congrFun (K1 100 (by decide)).1 12).trans kq100_12
            have kq100_7 : C 100 7 = C0 100 7 := (congrFun (K1 100 (by decide)).1 7).trans kq100_7
            have heg144_100 : C 100 8 = nI g144_100 := (congrFun (K1 100 (by decide)).1 8).trans heg144_100
            rcases hr with ⟨rfl, hgen20⟩ | ⟨hltn20, n20, hn20, hvn20, rfl⟩
            · skip
              rw [kq100_7] at hgen20
              refine g_i2l X dX8_advance_152 rfl ?_
              refine Go.top (v := .long (-1)) (by decide) ?_
              refine g_ldc2 X (v := 48) wd972 dX8_advance_153 ?_
              refine g_ldc2 X (v := 57) wd973 dX8_advance_156 ?_
              refine g_callSI X (s_X8_in l G F I (-1 : Int64) (48 : Int64) (57 : Int64) ) lk_X8_94 rfl rfl dX8_advance_159 (Nat.le_of_ble_eq_true rfl) ⟨by decide, by decide⟩ ⟨by decide, by decide⟩ (fun r21 L M hp => ?_)
              obtain ⟨C, D, F, I, K1, hr⟩ := hp
              have K := K.step K1 (by decide)
              have kq100_12 : C 100 12 = C0 100 12 := (congrFun (K1 100 (by decide)).1 12).trans kq100_12
              have kq100_7 : C 100 7 = C0 100 7 := (congrFun (K1 100 (by decide)).1 7).trans kq100_7
              have heg144_100 : C 100 8 = nI g144_100 := (congrFun (K1 100 (by decide)).1 8).trans heg144_100
              rcases hr with ⟨rfl, hq⟩ | ⟨rfl, hq⟩
              · skip
                refine g_if_eq X dX8_advance_162 (tgt := 206) (by decide) (fun _ => ?_) (fun q => absurd (by decide) q)
                have hgt : g0_100 < g144_100 := by
                  rcases Nat.lt_or_ge g0_100 g144_100 with h | h
                  · exact h
                  · exfalso
                    have eg : g144_100 = g0_100 := by omega
                    rw [eg] at hgen20; exact hgen20 hltn7
                refine g_aload_n X dX8_advance_206 rfl (j := 1) rfl ?_
                refine g_iconst X dX8_advance_207 (v := 2) (by decide) ?_
                refine i_put X F I 100 rfl rfl rfl fk_X8_137 dX8_advance_208 rfl rfl (Nat.le_of_ble_eq_true rfl) (fun h => absurd h (by decide)) (fun M C F I K1 hC => ?_)
                have K := K.step K1 (by decide)
                have kq100_12 : C 100 12 = C0 100 12 := by rw [hC, pk_un (by decide)]; exact kq100_12
                have kq100_7 : C 100 7 = C0 100 7 := by rw [hC, pk_un (by decide)]; exact kq100_7
                have heg144_100 : C 100 8 = nI g144_100 := by rw [hC, pk_un (by decide)]; exact heg144_100
                have f22 : C 100 10 = 2 := by rw [hC]; exact pk_us
                refine g_goto X dX8_advance_211 (tgt := 239) (by decide) ?_
                exact g_vret X hrt dX8_advance_239 (by decide) (by decide) ⟨C, D, F, I, K, kq100_12, kq100_7, by rw [ea00, nI_toInt (by omega), heg144_100, nI_toInt (by omega)]; omega, (fun _ => by rw [ea00, nI_toInt (by omega), heg144_100, nI_toInt (by omega)]; omega)⟩
              · skip
                exact absurd hq (by decide)
            · skip
              have hatn20 : g144_100 + 1 ≤ 800 := by have z := (I 100 7 (by decide)).2; omega
              rw [kq100_7] at hltn20
              rw [(K 104 (by decide)).1] at hvn20
              refine g_i2l X dX8_advance_152 rfl ?_
              refine g_ldc2 X (v := 48) wd972 dX8_advance_153 ?_
              refine g_ldc2 X (v := 57) wd973 dX8_advance_156 ?_
              refine g_callSI X (s_X8_in l G F I ((Int32.toInt64 (nI n20))) (48 : Int64) (57 : Int64) ) lk_X8_94 rfl rfl dX8_advance_159 (Nat.le_of_ble_eq_true rfl) ⟨by decide, by decide⟩ ⟨by decide, by decide⟩ (fun r23 L M hp => ?_)
              obtain ⟨C, D, F, I, K1, hr⟩ := hp
              have K := K.step K1 (by decide)
              have kq100_12 : C 100 12 = C0 100 12 := (congrFun (K1 100 (by decide)).1 12).trans kq100_12
              have kq100_7 : C 100 7 = C0 100 7 := (congrFun (K1 100 (by decide)).1 7).trans kq100_7
              have heg144_100 : C 100 8 = nI g144_100 := (congrFun (K1 100 (by decide)).1 8).trans heg144_100
              rcases hr with ⟨rfl, hq24⟩ | ⟨rfl, hq24⟩
              · skip
                have hq24x := Jvm.Kit.i64_of_i32 (nI n20)
                rw [nI_toInt (by omega)] at hq24x
                have hq24l : (48 : Int64).toInt = 48 := (by decide)
                have hq24h : (57 : Int64).toInt = 57 := (by decide)
                refine g_if_eq X dX8_advance_162 (tgt := 206) (by decide) (fun _ => ?_) (fun q => absurd (by decide) q)
                have hgt : g0_100 < g144_100 := by
                  rcases Nat.lt_or_ge g0_100 g144_100 with h | h
                  · exact h
                  · exfalso
                    have eg : g144_100 = g0_100 := by omega
                    rw [eg] at hvn20; have z := (nI_eq (by omega) (by omega)).mp (hvn20.symm.trans hvn7); omega
                refine g_aload_n X dX8_advance_206 rfl (j := 1) rfl ?_
                refine g_iconst X dX8_advance_207 (v := 2) (by decide) ?_
                refine i_put X F I 100 rfl rfl rfl fk_X8_137 dX8_advance_208 rfl rfl (Nat.le_of_ble_eq_true rfl) (fun h => absurd h (by decide)) (fun M C F I K1 hC => ?_)
                have K := K.step K1 (by decide)
                have kq100_12 : C 100 12 = C0 100 12 := by rw [hC, pk_un (by decide)]; exact kq100_12
                have kq100_7 : C 100 7 = C0 100 7 := by rw [hC, pk_un (by decide)]; exact kq100_7
                have heg144_100 : C 100 8 = nI g144_100 := by rw [hC, pk_un (by decide)]; exact heg144_100
                have f25 : C 100 10 = 2 := by rw [hC]; exact pk_us
                refine g_goto X dX8_advance_211 (tgt := 239) (by decide) ?_
                exact g_vret X hrt dX8_advance_239 (by decide) (by decide) ⟨C, D, F, I, K, kq100_12, kq100_7, by rw [ea00, nI_toInt (by omega), heg144_100, nI_toInt (by omega)]; omega, (fun _ => by rw [ea00, nI_toInt (by omega), heg144_100, nI_toInt (by omega)]; omega)⟩
              · skip
                have hq24x := Jvm.Kit.i64_of_i32 (nI n20)
                rw [nI_toInt (by omega)] at hq24x
                have hq24l : (48 : Int64).toInt = 48 := (by decide)
                have hq24h : (57 : Int64).toInt = 57 := (by decide)
                refine g_if_eq X dX8_advance_162 (tgt := 206) (by decide) (fun q => absurd q (by decide)) (fun _ => ?_)
                refine g_aload_n X dX8_advance_165 rfl (j := 1) rfl ?_
                refine g_ldc X (v := 99999) wd975 dX8_advance_166 ?_
                refine g_bipush X dX8_advance_168 (v := 10) (by decide) ?_
                refine g_aload_n X dX8_advance_170 rfl (j := 1) rfl ?_
                refine i_get X F 100 rfl rfl fk_X8_148 dX8_advance_171 rfl ?_
                refine Go.gen (fun o26 => ?_)
                refine g_imul X dX8_advance_174 ?_
                refine Go.gen (fun o27 => ?_)
                refine g_aload_n X dX8_advance_175 rfl (j := 1) rfl ?_
                refine g_aload_n X dX8_advance_176 rfl (j := 1) rfl ?_
                refine i_get X F 100 rfl rfl fk_X8_127 dX8_advance_177 (v := .int (nI g144_100)) (congrArg (fun z => some (Value.int z)) heg144_100) ?_
                refine g_callVI X (s_X8_see l G F I g144_100 (by omega) (by omega) ) lk_X8_130 (F.1 100 rfl).2 (F.1 100 rfl).1 rfl rfl dX8_advance_180 (Nat.le_of_ble_eq_true rfl) ⟨by decide, by decide⟩ ⟨by decide, by decide⟩ (fun r28 L M hp => ?_)
                obtain ⟨C, D, F, I, K1, hr⟩ := hp
                have K := K.step K1 (by decide)
                have kq100_12 : C 100 12 = C0 100 12 := (congrFun (K1 100 (by decide)).1 12).trans kq100_12
                have kq100_7 : C 100 7 = C0 100 7 := (congrFun (K1 100 (by decide)).1 7).trans kq100_7
                have heg144_100 : C 100 8 = nI g144_100 := (congrFun (K1 100 (by decide)).1 8).trans heg144_100
                rcases hr with ⟨rfl, hgen29⟩ | ⟨hltn29, n29, hn29, hvn29, rfl⟩
                · skip
                  rw [kq100_7] at hgen29
                  refine g_iadd X dX8_advance_183 ?_
                  refine Go.gen (fun o30 => ?_)
                  refine g_bipush X dX8_advance_184 (v := 48) (by decide) ?_
                  refine g_isub X dX8_advance_186 ?_
                  refine Go.gen (fun o31 => ?_)
                  refine g_mmin X wd976 wd392 wd80 wd393 (by decide) (Nat.le_of_ble_eq_true rfl) (by decide) (by decide) dX8_advance_187 (fun o32 => ?_)
                  refine i_put X F I 100 rfl rfl rfl fk_X8_148 dX8_advance_190 rfl rfl (Nat.le_of_ble_eq_true rfl) (fun h => absurd h (by decide)) (fun M C F I K1 hC => ?_)
                  have K := K.step K1 (by decide)
                  have kq100_12 : C 100 12 = C0 100 12 := by rw [hC, pk_un (by decide)]; exact kq100_12
                  have kq100_7 : C 100 7 = C0 100 7 := by rw [hC, pk_un (by decide)]; exact kq100_7
                  have heg144_100 : C 100 8 = nI g144_100 := by rw [hC, pk_un (by decide)]; exact heg144_100
                  refine g_aload_n X dX8_advance_193 rfl (j := 1) rfl ?_
                  refine g_dup X dX8_advance_194 rfl ?_
                  refine i_get X F 100 rfl rfl fk_X8_127 dX8_advance_195 (v := .int (nI g144_100)) (congrArg (fun z => some (Value.int z)) heg144_100) ?_
                  refine g_iconst X dX8_advance_198 (v := 1) (by decide) ?_
                  refine g_iadd X dX8_advance_199 ?_
                  refine Go.top (v := .int (nI (g144_100 + 1))) (congrArg Value.int (nI_add g144_100 1)) ?_
                  refine i_put X F I 100 rfl rfl rfl fk_X8_127 dX8_advance_200 rfl rfl (Nat.le_of_ble_eq_true rfl) (fun _ => (rg_of (n := (g144_100 + 1)) (by omega) (by omega) (by omega))) (fun M C F I K1 hC => ?_)
                  have K := K.step K1 (by decide)
                  have kq100_12 : C 100 12 = C0 100 12 := by rw [hC, pk_un (by decide)]; exact kq100_12
                  have kq100_7 : C 100 7 = C0 100 7 := by rw [hC, pk_un (by decide)]; exact kq100_7
                  have f33 : C 100 8 = nI (g144_100 + 1) := by rw [hC]; exact pk_us
                  refine g_goto X dX8_advance_203 (tgt := 144) (by decide) ?_
                  refine g_lv [0, 1] (lv2 := [(1, .int (nI n7)), (0, .ref (a 100))]) rfl ?_
                  exact ih144 ((g144_100 + 1)) L M C D F I K ⟨f33, by omega, by omega, kq100_12, kq100_7, (by show a0 ≤ _; omega), (by show g0_100 ≤ _; omega)⟩ (by show _ < _; omega)
                · skip
                  have hatn29 : g144_100 + 1 ≤ 800 := by have z := (I 100 7 (by decide)).2; omega
                  rw [kq100_7] at hltn29
                  rw [(K 104 (by decide)).1] at hvn29
                  refine g_iadd X dX8_advance_183 ?_
                  refine Go.gen (fun o34 => ?_)
                  refine g_bipush X dX8_advance_184 (v := 48) (by decide) ?_
                  refine g_isub X dX8_advance_186 ?_
                  refine Go.gen (fun o35 => ?_)
                  refine g_mmin X wd976 wd392 wd80 wd393 (by decide) (Nat.le_of_ble_eq_true rfl) (by decide) (by decide) dX8_advance_187 (fun o36 => ?_)
                  refine i_put X F I 100 rfl rfl rfl fk_X8_148 dX8_advance_190 rfl rfl (Nat.le_of_ble_eq_true rfl) (fun h => absurd h (by decide)) (fun M C F I K1 hC => ?_)
                  have K := K.step K1 (by decide)
                  have kq100_12 : C 100 12 = C0 100 12 := by rw [hC, pk_un (by decide)]; exact kq100_12
                  have kq100_7 : C 100 7 = C0 100 7 := by rw [hC, pk_un (by decide)]; exact kq100_7
                  have heg144_100 : C 100 8 = nI g144_100 := by rw [hC, pk_un (by decide)]; exact heg144_100
                  refine g_aload_n X dX8_advance_193 rfl (j := 1) rfl ?_
                  refine g_dup X dX8_advance_194 rfl ?_
                  refine i_get X F 100 rfl rfl fk_X8_127 dX8_advance_195 (v := .int (nI g144_100)) (congrArg (fun z => some (Value.int z)) heg144_100) ?_
                  refine g_iconst X dX8_advance_198 (v := 1) (by decide) ?_
                  refine g_iadd X dX8_advance_199 ?_
                  refine Go.top (v := .int (nI (g144_100 + 1))) (congrArg Value.int (nI_add g144_100 1)) ?_
                  refine i_put X F I 100 rfl rfl rfl fk_X8_127 dX8_advance_200 rfl rfl (Nat.le_of_ble_eq_true rfl) (fun _ => (rg_of (n := (g144_100 + 1)) (by omega) (by omega) (by omega))) (fun M C F I K1 hC => ?_)
                  have K := K.step K1 (by decide)
                  have kq100_12 : C 100 12 = C0 100 12 := by rw [hC, pk_un (by decide)]; exact kq100_12
                  have kq100_7 : C 100 7 = C0 100 7 := by rw [hC, pk_un (by decide)]; exact kq100_7
                  have f37 : C 100 8 = nI (g144_100 + 1) := by rw [hC]; exact pk_us
                  refine g_goto X dX8_advance_203 (tgt := 144) (by decide) ?_
                  refine g_lv [0, 1] (lv2 := [(1, .int (nI n7)), (0, .ref (a 100))]) rfl ?_
                  exact ih144 ((g144_100 + 1)) L M C D F I K ⟨f37, by omega, by omega, kq100_12, kq100_7, (by show a0 ≤ _; omega), (by show g0_100 ≤ _; omega)⟩ (by show _ < _; omega)
        · skip
          have hq11x := Jvm.Kit.i64_of_i32 (nI n7)
          rw [nI_toInt (by omega)] at hq11x
          have hq11l : (97 : Int64).toInt = 97 := (by decide)
          have hq11h : (122 : Int64).toInt = 122 := (by decide)
          refine g_if_eq X dX8_advance_80 (tgt := 125) (by decide) (fun q => absurd q (by decide)) (fun _ => ?_)
          refine g_lv [0, 1] (lv2 := [(1, .int (nI n7)), (0, .ref (a 100))]) rfl ?_
          refine i_loop (mods := [100]) (fun x : Nat => 800 - x) (fun x => [(1, .int (nI n7)), (0, .ref (a 100))]) (fun x C => C 100 8 = nI (x) ∧ 0 ≤ x ∧ x ≤ 800 ∧ C 100 12 = C0 100 12 ∧ C 100 7 = C0 100 7 ∧ (a0 ≤ x) ∧ (g0_100 ≤ x)) (fun x L M C D F I K hP ih83 => ?_) ((g0_100) : Nat) F I K ⟨heg0_100, by show _ ≤ _; omega, by show _ ≤ _; omega, kq100_12, kq100_7, (by show a0 ≤ _; omega), (by show g0_100 ≤ _; omega)⟩
          obtain ⟨g83_100, rfl⟩ : ∃ z, z = x := ⟨_, rfl⟩
          obtain ⟨eg83_100, hg83_100a, hg83_100b, kq100_12, kq100_7, ha0, ha1⟩ := hP
          have heg83_100 : C 100 8 = nI g83_100 := eg83_100
          refine g_lv [0, 1] (lv2 := [(1, .int (nI n7)), (0, .ref (a 100))]) rfl ?_
          refine g_aload_n X dX8_advance_83 rfl (j := 1) rfl ?_
          refine g_aload_n X dX8_advance_84 rfl (j := 1) rfl ?_
          refine i_get X F 100 rfl rfl fk_X8_127 dX8_advance_85 (v := .int (nI g83_100)) (congrArg (fun z => some (Value.int z)) heg83_100) ?_
          refine g_callVI X (s_X8_see l G F I g83_100 (by omega) (by omega) ) lk_X8_130 (F.1 100 rfl).2 (F.1 100 rfl).1 rfl rfl dX8_advance_88 (Nat.le_of_ble_eq_true rfl) ⟨by decide, by decide⟩ ⟨by decide, by decide⟩ (fun r38 L M hp => ?_)
          obtain ⟨C, D, F, I, K1, hr⟩ := hp
          have K := K.step K1 (by decide)
          have kq100_12 : C 100 12 = C0 100 12 := (congrFun (K1 100 (by decide)).1 12).trans kq100_12
          have kq100_7 : C 100 7 = C0 100 7 := (congrFun (K1 100 (by decide)).1 7).trans kq100_7
          have heg83_100 : C 100 8 = nI g83_100 := (congrFun (K1 100 (by decide)).1 8).trans heg83_100
          rcases hr with ⟨rfl, hgen39⟩ | ⟨hltn39, n39, hn39, hvn39, rfl⟩
          · skip
            rw [kq100_7] at hgen39
            refine g_i2l X dX8_advance_91 rfl ?_
            refine Go.top (v := .long (-1)) (by decide) ?_
            refine g_ldc2 X (v := 97) wd970 dX8_advance_92 ?_
            refine g_ldc2 X (v := 122) wd971 dX8_advance_95 ?_
            refine g_callSI X (s_X8_in l G F I (-1 : Int64) (97 : Int64) (122 : Int64) ) lk_X8_94 rfl rfl dX8_advance_98 (Nat.le_of_ble_eq_true rfl) ⟨by decide, by decide⟩ ⟨by decide, by decide⟩ (fun r40 L M hp => ?_)
            obtain ⟨C, D, F, I, K1, hr⟩ := hp
            have K := K.step K1 (by decide)
            have kq100_12 : C 100 12 = C0 100 12 := (congrFun (K1 100 (by decide)).1 12).trans kq100_12
            have kq100_7 : C 100 7 = C0 100 7 := (congrFun (K1 100 (by decide)).1 7).trans kq100_7
            have heg83_100 : C 100 8 = nI g83_100 := (congrFun (K1 100 (by decide)).1 8).trans heg83_100
            rcases hr with ⟨rfl, hq⟩ | ⟨rfl, hq⟩
            · skip
              refine g_if_eq X dX8_advance_101 (tgt := 117) (by decide) (fun _ => ?_) (fun q => absurd (by decide) q)
              have hgt : g0_100 < g83_100 := by
                rcases Nat.lt_or_ge g0_100 g83_100 with h | h
                · exact h
                · exfalso
                  have eg : g83_100 = g0_100 := by omega
                  rw [eg] at hgen39; exact hgen39 hltn7
              refine g_aload_n X dX8_advance_117 rfl (j := 1) rfl ?_
              refine g_iconst X dX8_advance_118 (v := 1) (by decide) ?_
              refine i_put X F I 100 rfl rfl rfl fk_X8_137 dX8_advance_119 rfl rfl (Nat.le_of_ble_eq_true rfl) (fun h => absurd h (by decide)) (fun M C F I K1 hC => ?_)
              have K := K.step K1 (by decide)
              have kq100_12 : C 100 12 = C0 100 12 := by rw [hC, pk_un (by decide)]; exact kq100_12
              have kq100_7 : C 100 7 = C0 100 7 := by rw [hC, pk_un (by decide)]; exact kq100_7
              have heg83_100 : C 100 8 = nI g83_100 := by rw [hC, pk_un (by decide)]; exact heg83_100
              have f41 : C 100 10 = 1 := by rw [hC]; exact pk_us
              refine g_goto X dX8_advance_122 (tgt := 239) (by decide) ?_
              exact g_vret X hrt dX8_advance_239 (by decide) (by decide) ⟨C, D, F, I, K, kq100_12, kq100_7, by rw [ea00, nI_toInt (by omega), heg83_100, nI_toInt (by omega)]; omega, (fun _ => by rw [ea00, nI_toInt (by omega), heg83_100, nI_toInt (by omega)]; omega)⟩
            · skip
              exact absurd hq (by decide)
          · skip
            have hatn39 : g83_100 + 1 ≤ 800 := by have z := (I 100 7 (by decide)).2; omega
            rw [kq100_7] at hltn39
            rw [(K 104 (by decide)).1] at hvn39
            refine g_i2l X dX8_advance_91 rfl ?_
            refine g_ldc2 X (v := 97) wd970 dX8_advance_92 ?_
            refine g_ldc2 X (v := 122) wd971 dX8_advance_95 ?_
            refine g_callSI X (s_X8_in l G F I ((Int32.toInt64 (nI n39))) (97 : Int64) (122 : Int64) ) lk_X8_94 rfl rfl dX8_advance_98 (Nat.le_of_ble_eq_true rfl) ⟨by decide, by decide⟩ ⟨by decide, by decide⟩ (fun r42 L M hp => ?_)
            obtain ⟨C, D, F, I, K1, hr⟩ := hp
            have K := K.step K1 (by decide)
            have kq100_12 : C 100 12 = C0 100 12 := (congrFun (K1 100 (by decide)).1 12).trans kq100_12
            have kq100_7 : C 100 7 = C0 100 7 := (congrFun (K1 100 (by decide)).1 7).trans kq100_7
            have heg83_100 : C 100 8 = nI g83_100 := (congrFun (K1 100 (by decide)).1 8).trans heg83_100
            rcases hr with ⟨rfl, hq43⟩ | ⟨rfl, hq43⟩
            · skip
              have hq43x := Jvm.Kit.i64_of_i32 (nI n39)
              rw [nI_toInt (by omega)] at hq43x
              have hq43l : (97 : Int64).toInt = 97 := (by decide)
              have hq43h : (122 : Int64).toInt = 122 := (by decide)
              refine g_if_eq X dX8_advance_101 (tgt := 117) (by decide) (fun _ => ?_) (fun q => absurd (by decide) q)
              have hgt : g0_100 < g83_100 := by
                rcases Nat.lt_or_ge g0_100 g83_100 with h | h
                · exact h
                · exfalso
                  have eg : g83_100 = g0_100 := by omega
                  rw [eg] at hvn39; have z := (nI_eq (by omega) (by omega)).mp (hvn39.symm.trans hvn7); omega
              refine g_aload_n X dX8_advance_117 rfl (j := 1) rfl ?_
              refine g_iconst X dX8_advance_118 (v := 1) (by decide) ?_
              refine i_put X F I 100 rfl rfl rfl fk_X8_137 dX8_advance_119 rfl rfl (Nat.le_of_ble_eq_true rfl) (fun h => absurd h (by decide)) (fun M C F I K1 hC => ?_)
              have K := K.step K1 (by decide)
              have kq100_12 : C 100 12 = C0 100 12 := by rw [hC, pk_un (by decide)]; exact kq100_12
              have kq100_7 : C 100 7 = C0 100 7 := by rw [hC, pk_un (by decide)]; exact kq100_7
              have heg83_100 : C 100 8 = nI g83_100 := by rw [hC, pk_un (by decide)]; exact heg83_100
              have f44 : C 100 10 = 1 := by rw [hC]; exact pk_us
              refine g_goto X dX8_advance_122 (tgt := 239) (by decide) ?_
              exact g_vret X hrt dX8_advance_239 (by decide) (by decide) ⟨C, D, F, I, K, kq100_12, kq100_7, by rw [ea00, nI_toInt (by omega), heg83_100, nI_toInt (by omega)]; omega, (fun _ => by rw [ea00, nI_toInt (by omega), heg83_100, nI_toInt (by omega)]; omega)⟩
            · skip
              have hq43x := Jvm.Kit.i64_of_i32 (nI n39)
              rw [nI_toInt (by omega)] at hq43x
              have hq43l : (97 : Int64).toInt = 97 := (by decide)
              have hq43h : (122 : Int64).toInt = 122 := (by decide)
              refine g_if_eq X dX8_advance_101 (tgt := 117) (by decide) (fun q => absurd q (by decide)) (fun _ => ?_)
              refine g_aload_n X dX8_advance_104 rfl (j := 1) rfl ?_
              refine g_dup X dX8_advance_105 rfl ?_
              refine i_get X F 100 rfl rfl fk_X8_127 dX8_advance_106 (v := .int (nI g83_100)) (congrArg (fun z => some (Value.int z)) heg83_100) ?_
              refine g_iconst X dX8_advance_109 (v := 1) (by decide) ?_
              refine g_iadd X dX8_advance_110 ?_
              refine Go.top (v := .int (nI (g83_100 + 1))) (congrArg Value.int (nI_add g83_100 1)) ?_
              refine i_put X F I 100 rfl rfl rfl fk_X8_127 dX8_advance_111 rfl rfl (Nat.le_of_ble_eq_true rfl) (fun _ => (rg_of (n := (g83_100 + 1)) (by omega) (by omega) (by omega))) (fun M C F I K1 hC => ?_)
              have K := K.step K1 (by decide)
              have kq100_12 : C 100 12 = C0 100 12 := by rw [hC, pk_un (by decide)]; exact kq100_12
              have kq100_7 : C 100 7 = C0 100 7 := by rw [hC, pk_un (by decide)]; exact kq100_7
              have f45 : C 100 8 = nI (g83_100 + 1) := by rw [hC]; exact pk_us
              refine g_goto X dX8_advance_114 (tgt := 83) (by decide) ?_
              refine g_lv [0, 1] (lv2 := [(1, .int (nI n7)), (0, .ref (a 100))]) rfl ?_
              exact ih83 ((g83_100 + 1)) L M C D F I K ⟨f45, by omega, by omega, kq100_12, kq100_7, (by show a0 ≤ _; omega), (by show g0_100 ≤ _; omega)⟩ (by show _ < _; omega)
    · skip
      have hatn4 : g0_100 + 1 ≤ 800 := by have z := (I 100 7 (by decide)).2; omega
      rw [kq100_7] at hltn4
      rw [(K 104 (by decide)).1] at hvn4
      refine g_bipush X dX8_advance_21 (v := 10) (by decide) ?_
      refine g_icmp_ne X dX8_advance_23 (tgt := 39) (by decide) (fun q46 => ?_) (fun q46 => ?_)
      · skip
        have q46 : ¬ n4 = 10 := fun z => q46 ((nI_eq (a := n4) (b := 10) (by omega) (by omega)).mpr z)
        refine g_aload_n X dX8_advance_39 rfl (j := 0) rfl ?_
        refine g_aload_n X dX8_advance_40 rfl (j := 0) rfl ?_
        refine i_get X F 100 rfl rfl fk_X8_127 dX8_advance_41 (v := .int (nI g0_100)) (congrArg (fun z => some (Value.int z)) heg0_100) ?_
        refine i_put X F I 100 rfl rfl rfl fk_X8_134 dX8_advance_44 rfl rfl (Nat.le_of_ble_eq_true rfl) (fun _ => (rg_of (n := g0_100) (by omega) (by omega) (by omega))) (fun M C F I K1 hC => ?_)
        have K := K.step K1 (by decide)
        have kq100_12 : C 100 12 = C0 100 12 := by rw [hC, pk_un (by decide)]; exact kq100_12
        have kq100_7 : C 100 7 = C0 100 7 := by rw [hC, pk_un (by decide)]; exact kq100_7
        have heg0_100 : C 100 8 = nI g0_100 := by rw [hC, pk_un (by decide)]; exact heg0_100
        have f47 : C 100 9 = nI g0_100 := by rw [hC]; exact pk_us
        refine g_aload_n X dX8_advance_47 rfl (j := 0) rfl ?_
        refine g_aload_n X dX8_advance_48 rfl (j := 0) rfl ?_
        refine i_get X F 100 rfl rfl fk_X8_127 dX8_advance_49 (v := .int (nI g0_100)) (congrArg (fun z => some (Value.int z)) heg0_100) ?_
        refine g_callVI X (s_X8_see l G F I g0_100 (by omega) (by omega) ) lk_X8_130 (F.1 100 rfl).2 (F.1 100 rfl).1 rfl rfl dX8_advance_52 (Nat.le_of_ble_eq_true rfl) ⟨by decide, by decide⟩ ⟨by decide, by decide⟩ (fun r48 L M hp => ?_)
        obtain ⟨C, D, F, I, K1, hr⟩ := hp
        have K := K.step K1 (by decide)
        have kq100_12 : C 100 12 = C0 100 12 := (congrFun (K1 100 (by decide)).1 12).trans kq100_12
        have kq100_7 : C 100 7 = C0 100 7 := (congrFun (K1 100 (by decide)).1 7).trans kq100_7
        have heg0_100 : C 100 8 = nI g0_100 := (congrFun (K1 100 (by decide)).1 8).trans heg0_100
        have f47 : C 100 9 = nI g0_100 := (congrFun (K1 100 (by decide)).1 9).trans f47
        rcases hr with ⟨rfl, hgen49⟩ | ⟨hltn49, n49, hn49, hvn49, rfl⟩
        · skip
          rw [kq100_7] at hgen49
          refine g_istore_n X dX8_advance_55 rfl (by decide) (lv2 := [(1, .int (-1)), (0, .ref (a 100))]) rfl ?_
          refine g_iload_n X dX8_advance_56 rfl (j := 0) rfl ?_
          refine g_iconst X dX8_advance_57 (v := -1) (by decide) ?_
          refine g_icmp_ne X dX8_advance_58 (tgt := 69) (by decide) (fun q => absurd (by decide) q) (fun _ => ?_)
          refine g_aload_n X dX8_advance_61 rfl (j := 1) rfl ?_
          refine g_iconst X dX8_advance_62 (v := 0) (by decide) ?_
          refine i_put X F I 100 rfl rfl rfl fk_X8_137 dX8_advance_63 rfl rfl (Nat.le_of_ble_eq_true rfl) (fun h => absurd h (by decide)) (fun M C F I K1 hC => ?_)
          have K := K.step K1 (by decide)
          have kq100_12 : C 100 12 = C0 100 12 := by rw [hC, pk_un (by decide)]; exact kq100_12
          have kq100_7 : C 100 7 = C0 100 7 := by rw [hC, pk_un (by decide)]; exact kq100_7
          have heg0_100 : C 100 8 = nI g0_100 := by rw [hC, pk_un (by decide)]; exact heg0_100
          have f47 : C 100 9 = nI g0_100 := by rw [hC, pk_un (by decide)]; exact f47
          have f50 : C 100 10 = 0 := by rw [hC]; exact pk_us
          refine g_goto X dX8_advance_66 (tgt := 239) (by decide) ?_
          exact g_vret X hrt dX8_advance_239 (by decide) (by decide) ⟨C, D, F, I, K, kq100_12, kq100_7, by rw [ea00, nI_toInt (by omega), heg0_100, nI_toInt (by omega)]; omega, (fun z => absurd f50 z)⟩
        · skip
          have hatn49 : g0_100 + 1 ≤ 800 := by have z := (I 100 7 (by decide)).2; omega
          rw [kq100_7] at hltn49
          rw [(K 104 (by decide)).1] at hvn49
          refine g_istore_n X dX8_advance_55 rfl (by decide) (lv2 := [(1, .int (nI n49)), (0, .ref (a 100))]) rfl ?_
          refine g_iload_n X dX8_advance_56 rfl (j := 0) rfl ?_
          refine g_iconst X dX8_advance_57 (v := -1) (by decide) ?_
          refine g_icmp_ne X dX8_advance_58 (tgt := 69) (by decide) (fun _ => ?_) (fun q => absurd q (nI_nm1 (by omega)))
          refine g_iload_n X dX8_advance_69 rfl (j := 0) rfl ?_
          refine g_i2l X dX8_advance_70 rfl ?_
          refine g_ldc2 X (v := 97) wd970 dX8_advance_71 ?_
          refine g_ldc2 X (v := 122) wd971 dX8_advance_74 ?_
          refine g_callSI X (s_X8_in l G F I ((Int32.toInt64 (nI n49))) (97 : Int64) (122 : Int64) ) lk_X8_94 rfl rfl dX8_advance_77 (Nat.le_of_ble_eq_true rfl) ⟨by decide, by decide⟩ ⟨by decide, by decide⟩ (fun r52 L M hp => ?_)
          obtain ⟨C, D, F, I, K1, hr⟩ := hp
          have K := K.step K1 (by decide)
          have kq100_12 : C 100 12 = C0 100 12 := (congrFun (K1 100 (by decide)).1 12).trans kq100_12
          have kq100_7 : C 100 7 = C0 100 7 := (congrFun (K1 100 (by decide)).1 7).trans kq100_7
          have heg0_100 : C 100 8 = nI g0_100 := (congrFun (K1 100 (by decide)).1 8).trans heg0_100
          have f47 : C 100 9 = nI g0_100 := (congrFun (K1 100 (by decide)).1 9).trans f47
          rcases hr with ⟨rfl, hq53⟩ | ⟨rfl, hq53⟩
          · skip
            have hq53x := Jvm.Kit.i64_of_i32 (nI n49)
            rw [nI_toInt (by omega)] at hq53x
            have hq53l : (97 : Int64).toInt = 97 := (by decide)
            have hq53h : (122 : Int64).toInt = 122 := (by decide)
            refine g_if_eq X dX8_advance_80 (tgt := 125) (by decide) (fun _ => ?_) (fun q => absurd (by decide) q)
            refine g_iload_n X dX8_advance_125 rfl (j := 0) rfl ?_
            refine g_i2l X dX8_advance_126 rfl ?_
            refine g_ldc2 X (v := 48) wd972 dX8_advance_127 ?_
            refine g_ldc2 X (v := 57) wd973 dX8_advance_130 ?_
            refine g_callSI X (s_X8_in l G F I ((Int32.toInt64 (nI n49))) (48 : Int64) (57 : Int64) ) lk_X8_94 rfl rfl dX8_advance_133 (Nat.le_of_ble_eq_true rfl) ⟨by decide, by decide⟩ ⟨by decide, by decide⟩ (fun r54 L M hp => ?_)
            obtain ⟨C, D, F, I, K1, hr⟩ := hp
            have K := K.step K1 (by decide)
            have kq100_12 : C 100 12 = C0 100 12 := (congrFun (K1 100 (by decide)).1 12).trans kq100_12
            have kq100_7 : C 100 7 = C0 100 7 := (congrFun (K1 100 (by decide)).1 7).trans kq100_7
            have heg0_100 : C 100 8 = nI g0_100 := (congrFun (K1 100 (by decide)).1 8).trans heg0_100
            have f47 : C 100 9 = nI g0_100 := (congrFun (K1 100 (by decide)).1 9).trans f47
            rcases hr with ⟨rfl, hq55⟩ | ⟨rfl, hq55⟩
            · skip
              have hq55x := Jvm.Kit.i64_of_i32 (nI n49)
              rw [nI_toInt (by omega)] at hq55x
              have hq55l : (48 : Int64).toInt = 48 := (by decide)
              have hq55h : (57 : Int64).toInt = 57 := (by decide)
              refine g_if_eq X dX8_advance_136 (tgt := 214) (by decide) (fun _ => ?_) (fun q => absurd (by decide) q)
              refine g_aload_n X dX8_advance_214 rfl (j := 1) rfl ?_
              refine g_iload_n X dX8_advance_215 rfl (j := 0) rfl ?_
              refine g_bipush X dX8_advance_216 (v := 59) (by decide) ?_
              refine g_icmp_ne X dX8_advance_218 (tgt := 225) (by decide) (fun q56 => ?_) (fun q56 => ?_)
              · skip
                have q56 : ¬ n49 = 59 := fun z => q56 ((nI_eq (a := n49) (b := 59) (by omega) (by omega)).mpr z)
                refine g_iconst X dX8_advance_225 (v := 4) (by decide) ?_
                refine i_put X F I 100 rfl rfl rfl fk_X8_137 dX8_advance_226 rfl rfl (Nat.le_of_ble_eq_true rfl) (fun h => absurd h (by decide)) (fun M C F I K1 hC => ?_)
                have K := K.step K1 (by decide)
                have kq100_12 : C 100 12 = C0 100 12 := by rw [hC, pk_un (by decide)]; exact kq100_12
                have kq100_7 : C 100 7 = C0 100 7 := by rw [hC, pk_un (by decide)]; exact kq100_7
                have heg0_100 : C 100 8 = nI g0_100 := by rw [hC, pk_un (by decide)]; exact heg0_100
                have f47 : C 100 9 = nI g0_100 := by rw [hC, pk_un (by decide)]; exact f47
                have f57 : C 100 10 = 4 := by rw [hC]; exact pk_us
                refine g_aload_n X dX8_advance_229 rfl (j := 1) rfl ?_
                refine g_dup X dX8_advance_230 rfl ?_
                refine i_get X F 100 rfl rfl fk_X8_127 dX8_advance_231 (v := .int (nI g0_100)) (congrArg (fun z => some (Value.int z)) heg0_100) ?_
                refine g_iconst X dX8_advance_234 (v := 1) (by decide) ?_
                refine g_iadd X dX8_advance_235 ?_
                refine Go.top (v := .int (nI (g0_100 + 1))) (congrArg Value.int (nI_add g0_100 1)) ?_
                refine i_put X F I 100 rfl rfl rfl fk_X8_127 dX8_advance_236 rfl rfl (Nat.le_of_ble_eq_true rfl) (fun _ => (rg_of (n := (g0_100 + 1)) (by omega) (by omega) (by omega))) (fun M C F I K1 hC => ?_)
                have K := K.step K1 (by decide)
                have kq100_12 : C 100 12 = C0 100 12 := by rw [hC, pk_un (by decide)]; exact kq100_12
                have kq100_7 : C 100 7 = C0 100 7 := by rw [hC, pk_un (by decide)]; exact kq100_7
                have f47 : C 100 9 = nI g0_100 := by rw [hC, pk_un (by decide)]; exact f47
                have f57 : C 100 10 = 4 := by rw [hC, pk_un (by decide)]; exact f57
                have f58 : C 100 8 = nI (g0_100 + 1) := by rw [hC]; exact pk_us
                exact g_vret X hrt dX8_advance_239 (by decide) (by decide) ⟨C, D, F, I, K, kq100_12, kq100_7, by rw [ea00, nI_toInt (by omega), f58, nI_toInt (by omega)]; omega, (fun _ => by rw [ea00, nI_toInt (by omega), f58, nI_toInt (by omega)]; omega)⟩
              · skip
                have q56 : n49 = 59 := (nI_eq (a := n49) (b := 59) (by omega) (by omega)).mp q56
                refine g_iconst X dX8_advance_221 (v := 3) (by decide) ?_
                refine g_goto X dX8_advance_222 (tgt := 226) (by decide) ?_
                refine i_put X F I 100 rfl rfl rfl fk_X8_137 dX8_advance_226 rfl rfl (Nat.le_of_ble_eq_true rfl) (fun h => absurd h (by decide)) (fun M C F I K1 hC => ?_)
                have K := K.step K1 (by decide)
                have kq100_12 : C 100 12 = C0 100 12 := by rw [hC, pk_un (by decide)]; exact kq100_12
                have kq100_7 : C 100 7 = C0 100 7 := by rw [hC, pk_un (by decide)]; exact kq100_7
                have heg0_100 : C 100 8 = nI g0_100 := by rw [hC, pk_un (by decide)]; exact heg0_100
                have f47 : C 100 9 = nI g0_100 := by rw [hC, pk_un (by decide)]; exact f47
                have f59 : C 100 10 = 3 := by rw [hC]; exact pk_us
                refine g_aload_n X dX8_advance_229 rfl (j := 1) rfl ?_
                refine g_dup X dX8_advance_230 rfl ?_
                refine i_get X F 100 rfl rfl fk_X8_127 dX8_advance_231 (v := .int (nI g0_100)) (congrArg (fun z => some (Value.int z)) heg0_100) ?_
                refine g_iconst X dX8_advance_234 (v := 1) (by decide) ?_
                refine g_iadd X dX8_advance_235 ?_
                refine Go.top (v := .int (nI (g0_100 + 1))) (congrArg Value.int (nI_add g0_100 1)) ?_
                refine i_put X F I 100 rfl rfl rfl fk_X8_127 dX8_advance_236 rfl rfl (Nat.le_of_ble_eq_true rfl) (fun _ => (rg_of (n := (g0_100 + 1)) (by omega) (by omega) (by omega))) (fun M C F I K1 hC => ?_)
                have K := K.step K1 (by decide)
                have kq100_12 : C 100 12 = C0 100 12 := by rw [hC, pk_un (by decide)]; exact kq100_12
                have kq100_7 : C 100 7 = C0 100 7 := by rw [hC, pk_un (by decide)]; exact kq100_7
                have f47 : C 100 9 = nI g0_100 := by rw [hC, pk_un (by decide)]; exact f47
                have f59 : C 100 10 = 3 := by rw [hC, pk_un (by decide)]; exact f59
                have f60 : C 100 8 = nI (g0_100 + 1) := by rw [hC]; exact pk_us
                exact g_vret X hrt dX8_advance_239 (by decide) (by decide) ⟨C, D, F, I, K, kq100_12, kq100_7, by rw [ea00, nI_toInt (by omega), f60, nI_toInt (by omega)]; omega, (fun _ => by rw [ea00, nI_toInt (by omega), f60, nI_toInt (by omega)]; omega)⟩
            · skip
              have hq55x := Jvm.Kit.i64_of_i32 (nI n49)
              rw [nI_toInt (by omega)] at hq55x
              have hq55l : (48 : Int64).toInt = 48 := (by decide)
              have hq55h : (57 : Int64).toInt = 57 := (by decide)
              refine g_if_eq X dX8_advance_136 (tgt := 214) (by decide) (fun q => absurd q (by decide)) (fun _ => ?_)
              refine g_aload_n X dX8_advance_139 rfl (j := 1) rfl ?_
              refine g_iconst X dX8_advance_140 (v := 0) (by decide) ?_
              refine i_put X F I 100 rfl rfl rfl fk_X8_148 dX8_advance_141 rfl rfl (Nat.le_of_ble_eq_true rfl) (fun h => absurd h (by decide)) (fun M C F I K1 hC => ?_)
              have K := K.step K1 (by decide)
              have kq100_12 : C 100 12 = C0 100 12 := by rw [hC, pk_un (by decide)]; exact kq100_12
              have kq100_7 : C 100 7 = C0 100 7 := by rw [hC, pk_un (by decide)]; exact kq100_7
              have heg0_100 : C 100 8 = nI g0_100 := by rw [hC, pk_un (by decide)]; exact heg0_100
              have f47 : C 100 9 = nI g0_100 := by rw [hC, pk_un (by decide)]; exact f47
              refine g_lv [0, 1] (lv2 := [(1, .int (nI n49)), (0, .ref (a 100))]) rfl ?_
              refine i_loop (mods := [100]) (fun x : Nat => 800 - x) (fun x => [(1, .int (nI n49)), (0, .ref (a 100))]) (fun x C => C 100 8 = nI (x) ∧ 0 ≤ x ∧ x ≤ 800 ∧ C 100 12 = C0 100 12 ∧ C 100 7 = C0 100 7 ∧ (a0 ≤ x) ∧ (g0_100 ≤ x)) (fun x L M C D F I K hP ih144 => ?_) ((g0_100) : Nat) F I K ⟨heg0_100, by show _ ≤ _; omega, by show _ ≤ _; omega, kq100_12, kq100_7, (by show a0 ≤ _; omega), (by show g0_100 ≤ _; omega)⟩
              obtain ⟨g144_100, rfl⟩ : ∃ z, z = x := ⟨_, rfl⟩
              obtain ⟨eg144_100, hg144_100a, hg144_100b, kq100_12, kq100_7, ha0, ha1⟩ := hP
              have heg144_100 : C 100 8 = nI g144_100 := eg144_100
              refine g_lv [0, 1] (lv2 := [(1, .int (nI n49)), (0, .ref (a 100))]) rfl ?_
              refine g_aload_n X dX8_advance_144 rfl (j := 1) rfl ?_
              refine g_aload_n X dX8_advance_145 rfl (j := 1) rfl ?_
              refine i_get X F 100 rfl rfl fk_X8_127 dX8_advance_146 (v := .int (nI g144_100)) (congrArg (fun z => some (Value.int z)) heg144_100) ?_
              refine g_callVI X (s_X8_see l G F I g144_100 (by omega) (by omega) ) lk_X8_130 (F.1 100 rfl).2 (F.1 100 rfl).1 rfl rfl dX8_advance_149 (Nat.le_of_ble_eq_true rfl) ⟨by decide, by decide⟩ ⟨by decide, by decide⟩ (fun r61 L M hp => ?_)
              obtain ⟨C, D, F, I, K1, hr⟩ := hp
              have K := K.step K1 (by decide)
              have kq100_12 : C 100 12 = C0 100 12 := (congrFun (K1 100 (by decide)).1 12).trans kq100_12
              have kq100_7 : C 100 7 = C0 100 7 := (congrFun (K1 100 (by decide)).1 7).trans kq100_7
              have heg144_100 : C 100 8 = nI g144_100 := (congrFun (K1 100 (by decide)).1 8).trans heg144_100
              rcases hr with ⟨rfl, hgen62⟩ | ⟨hltn62, n62, hn62, hvn62, rfl⟩
              · skip
                rw [kq100_7] at hgen62
                refine g_i2l X dX8_advance_152 rfl ?_
                refine Go.top (v := .long (-1)) (by decide) ?_
                refine g_ldc2 X (v := 48) wd972 dX8_advance_153 ?_
                refine g_ldc2 X (v := 57) wd973 dX8_advance_156 ?_
                refine g_callSI X (s_X8_in l G F I (-1 : Int64) (48 : Int64) (57 : Int64) ) lk_X8_94 rfl rfl dX8_advance_159 (Nat.le_of_ble_eq_true rfl) ⟨by decide, by decide⟩ ⟨by decide, by decide⟩ (fun r63 L M hp => ?_)
                obtain ⟨C, D, F, I, K1, hr⟩ := hp
                have K := K.step K1 (by decide)
                have kq100_12 : C 100 12 = C0 100 12 := (congrFun (K1 100 (by decide)).1 12).trans kq100_12
                have kq100_7 : C 100 7 = C0 100 7 := (congrFun (K1 100 (by decide)).1 7).trans kq100_7
                have heg144_100 : C 100 8 = nI g144_100 := (congrFun (K1 100 (by decide)).1 8).trans heg144_100
                rcases hr with ⟨rfl, hq⟩ | ⟨rfl, hq⟩
                · skip
                  refine g_if_eq X dX8_advance_162 (tgt := 206) (by decide) (fun _ => ?_) (fun q => absurd (by decide) q)
                  have hgt : g0_100 < g144_100 := by
                    rcases Nat.lt_or_ge g0_100 g144_100 with h | h
                    · exact h
                    · exfalso
                      have eg : g144_100 = g0_100 := by omega
                      rw [eg] at hgen62; exact hgen62 hltn49
                  refine g_aload_n X dX8_advance_206 rfl (j := 1) rfl ?_
                  refine g_iconst X dX8_advance_207 (v := 2) (by decide) ?_
                  refine i_put X F I 100 rfl rfl rfl fk_X8_137 dX8_advance_208 rfl rfl (Nat.le_of_ble_eq_true rfl) (fun h => absurd h (by decide)) (fun M C F I K1 hC => ?_)
                  have K := K.step K1 (by decide)
                  have kq100_12 : C 100 12 = C0 100 12 := by rw [hC, pk_un (by decide)]; exact kq100_12
                  have kq100_7 : C 100 7 = C0 100 7 := by rw [hC, pk_un (by decide)]; exact kq100_7
                  have heg144_100 : C 100 8 = nI g144_100 := by rw [hC, pk_un (by decide)]; exact heg144_100
                  have f64 : C 100 10 = 2 := by rw [hC]; exact pk_us
                  refine g_goto X dX8_advance_211 (tgt := 239) (by decide) ?_
                  exact g_vret X hrt dX8_advance_239 (by decide) (by decide) ⟨C, D, F, I, K, kq100_12, kq100_7, by rw [ea00, nI_toInt (by omega), heg144_100, nI_toInt (by omega)]; omega, (fun _ => by rw [ea00, nI_toInt (by omega), heg144_100, nI_toInt (by omega)]; omega)⟩
                · skip
                  exact absurd hq (by decide)
              · skip
                have hatn62 : g144_100 + 1 ≤ 800 := by have z := (I 100 7 (by decide)).2; omega
                rw [kq100_7] at hltn62
                rw [(K 104 (by decide)).1] at hvn62
                refine g_i2l X dX8_advance_152 rfl ?_
                refine g_ldc2 X (v := 48) wd972 dX8_advance_153 ?_
                refine g_ldc2 X (v := 57) wd973 dX8_advance_156 ?_
                refine g_callSI X (s_X8_in l G F I ((Int32.toInt64 (nI n62))) (48 : Int64) (57 : Int64) ) lk_X8_94 rfl rfl dX8_advance_159 (Nat.le_of_ble_eq_true rfl) ⟨by decide, by decide⟩ ⟨by decide, by decide⟩ (fun r65 L M hp => ?_)
                obtain ⟨C, D, F, I, K1, hr⟩ := hp
                have K := K.step K1 (by decide)
                have kq100_12 : C 100 12 = C0 100 12 := (congrFun (K1 100 (by decide)).1 12).trans kq100_12
                have kq100_7 : C 100 7 = C0 100 7 := (congrFun (K1 100 (by decide)).1 7).trans kq100_7
                have heg144_100 : C 100 8 = nI g144_100 := (congrFun (K1 100 (by decide)).1 8).trans heg144_100
                rcases hr with ⟨rfl, hq66⟩ | ⟨rfl, hq66⟩
                · skip
                  have hq66x := Jvm.Kit.i64_of_i32 (nI n62)
                  rw [nI_toInt (by omega)] at hq66x
                  have hq66l : (48 : Int64).toInt = 48 := (by decide)
                  have hq66h : (57 : Int64).toInt = 57 := (by decide)
                  refine g_if_eq X dX8_advance_162 (tgt := 206) (by decide) (fun _ => ?_) (fun q => absurd (by decide) q)
                  have hgt : g0_100 < g144_100 := by
                    rcases Nat.lt_or_ge g0_100 g144_100 with h | h
                    · exact h
                    · exfalso
                      have eg : g144_100 = g0_100 := by omega
                      rw [eg] at hvn62; have z := (nI_eq (by omega) (by omega)).mp (hvn62.symm.trans hvn49); omega
                  refine g_aload_n X dX8_advance_206 rfl (j := 1) rfl ?_
                  refine g_iconst X dX8_advance_207 (v := 2) (by decide) ?_
                  refine i_put X F I 100 rfl rfl rfl fk_X8_137 dX8_advance_208 rfl rfl (Nat.le_of_ble_eq_true rfl) (fun h => absurd h (by decide)) (fun M C F I K1 hC => ?_)
                  have K := K.step K1 (by decide)
                  have kq100_12 : C 100 12 = C0 100 12 := by rw [hC, pk_un (by decide)]; exact kq100_12
                  have kq100_7 : C 100 7 = C0 100 7 := by rw [hC, pk_un (by decide)]; exact kq100_7
                  have heg144_100 : C 100 8 = nI g144_100 := by rw [hC, pk_un (by decide)]; exact heg144_100
                  have f67 : C 100 10 = 2 := by rw [hC]; exact pk_us
                  refine g_goto X dX8_advance_211 (tgt := 239) (by decide) ?_
                  exact g_vret X hrt dX8_advance_239 (by decide) (by decide) ⟨C, D, F, I, K, kq100_12, kq100_7, by rw [ea00, nI_toInt (by omega), heg144_100, nI_toInt (by omega)]; omega, (fun _ => by rw [ea00, nI_toInt (by omega), heg144_100, nI_toInt (by omega)]; omega)⟩
                · skip
                  have hq66x := Jvm.Kit.i64_of_i32 (nI n62)
                  rw [nI_toInt (by omega)] at hq66x
                  have hq66l : (48 : Int64).toInt = 48 := (by decide)
                  have hq66h : (57 : Int64).toInt = 57 := (by decide)
                  refine g_if_eq X dX8_advance_162 (tgt := 206) (by decide) (fun q => absurd q (by decide)) (fun _ => ?_)
                  refine g_aload_n X dX8_advance_165 rfl (j := 1) rfl ?_
                  refine g_ldc X (v := 99999) wd975 dX8_advance_166 ?_
                  refine g_bipush X dX8_advance_168 (v := 10) (by decide) ?_
                  refine g_aload_n X dX8_advance_170 rfl (j := 1) rfl ?_
                  refine i_get X F 100 rfl rfl fk_X8_148 dX8_advance_171 rfl ?_
                  refine Go.gen (fun o68 => ?_)
                  refine g_imul X dX8_advance_174 ?_
                  refine Go.gen (fun o69 => ?_)
                  refine g_aload_n X dX8_advance_175 rfl (j := 1) rfl ?_
                  refine g_aload_n X dX8_advance_176 rfl (j := 1) rfl ?_
                  refine i_get X F 100 rfl rfl fk_X8_127 dX8_advance_177 (v := .int (nI g144_100)) (congrArg (fun z => some (Value.int z)) heg144_100) ?_
                  refine g_callVI X (s_X8_see l G F I g144_100 (by omega) (by omega) ) lk_X8_130 (F.1 100 rfl).2 (F.1 100 rfl).1 rfl rfl dX8_advance_180 (Nat.le_of_ble_eq_true rfl) ⟨by decide, by decide⟩ ⟨by decide, by decide⟩ (fun r70 L M hp => ?_)
                  obtain ⟨C, D, F, I, K1, hr⟩ := hp
                  have K := K.step K1 (by decide)
                  have kq100_12 : C 100 12 = C0 100 12 := (congrFun (K1 100 (by decide)).1 12).trans kq100_12
                  have kq100_7 : C 100 7 = C0 100 7 := (congrFun (K1 100 (by decide)).1 7).trans kq100_7
                  have heg144_100 : C 100 8 = nI g144_100 := (congrFun (K1 100 (by decide)).1 8).trans heg144_100
                  rcases hr with ⟨rfl, hgen71⟩ | ⟨hltn71, n71, hn71, hvn71, rfl⟩
                  · skip
                    rw [kq100_7] at hgen71
                    refine g_iadd X dX8_advance_183 ?_
                    refine Go.gen (fun o72 => ?_)
                    refine g_bipush X dX8_advance_184 (v := 48) (by decide) ?_
                    refine g_isub X dX8_advance_186 ?_
                    refine Go.gen (fun o73 => ?_)
                    refine g_mmin X wd976 wd392 wd80 wd393 (by decide) (Nat.le_of_ble_eq_true rfl) (by decide) (by decide) dX8_advance_187 (fun o74 => ?_)
                    refine i_put X F I 100 rfl rfl rfl fk_X8_148 dX8_advance_190 rfl rfl (Nat.le_of_ble_eq_true rfl) (fun h => absurd h (by decide)) (fun M C F I K1 hC => ?_)
                    have K := K.step K1 (by decide)
                    have kq100_12 : C 100 12 = C0 100 12 := by rw [hC, pk_un (by decide)]; exact kq100_12
                    have kq100_7 : C 100 7 = C0 100 7 := by rw [hC, pk_un (by decide)]; exact kq100_7
                    have heg144_100 : C 100 8 = nI g144_100 := by rw [hC, pk_un (by decide)]; exact heg144_100
                    refine g_aload_n X dX8_advance_193 rfl (j := 1) rfl ?_
                    refine g_dup X dX8_advance_194 rfl ?_
                    refine i_get X F 100 rfl rfl fk_X8_127 dX8_advance_195 (v := .int (nI g144_100)) (congrArg (fun z => some (Value.int z)) heg144_100) ?_
                    refine g_iconst X dX8_advance_198 (v := 1) (by decide) ?_
                    refine g_iadd X dX8_advance_199 ?_
                    refine Go.top (v := .int (nI (g144_100 + 1))) (congrArg Value.int (nI_add g144_100 1)) ?_
                    refine i_put X F I 100 rfl rfl rfl fk_X8_127 dX8_advance_200 rfl rfl (Nat.le_of_ble_eq_true rfl) (fun _ => (rg_of (n := (g144_100 + 1)) (by omega) (by omega) (by omega))) (fun M C F I K1 hC => ?_)
                    have K := K.step K1 (by decide)
                    have kq100_12 : C 100 12 = C0 100 12 := by rw [hC, pk_un (by decide)]; exact kq100_12
                    have kq100_7 : C 100 7 = C0 100 7 := by rw [hC, pk_un (by decide)]; exact kq100_7
                    have f75 : C 100 8 = nI (g144_100 + 1) := by rw [hC]; exact pk_us
                    refine g_goto X dX8_advance_203 (tgt := 144) (by decide) ?_
                    refine g_lv [0, 1] (lv2 := [(1, .int (nI n49)), (0, .ref (a 100))]) rfl ?_
                    exact ih144 ((g144_100 + 1)) L M C D F I K ⟨f75, by omega, by omega, kq100_12, kq100_7, (by show a0 ≤ _; omega), (by show g0_100 ≤ _; omega)⟩ (by show _ < _; omega)
                  · skip
                    have hatn71 : g144_100 + 1 ≤ 800 := by have z := (I 100 7 (by decide)).2; omega
                    rw [kq100_7] at hltn71
                    rw [(K 104 (by decide)).1] at hvn71
                    refine g_iadd X dX8_advance_183 ?_
                    refine Go.gen (fun o76 => ?_)
                    refine g_bipush X dX8_advance_184 (v := 48) (by decide) ?_
                    refine g_isub X dX8_advance_186 ?_
                    refine Go.gen (fun o77 => ?_)
                    refine g_mmin X wd976 wd392 wd80 wd393 (by decide) (Nat.le_of_ble_eq_true rfl) (by decide) (by decide) dX8_advance_187 (fun o78 => ?_)
                    refine i_put X F I 100 rfl rfl rfl fk_X8_148 dX8_advance_190 rfl rfl (Nat.le_of_ble_eq_true rfl) (fun h => absurd h (by decide)) (fun M C F I K1 hC => ?_)
                    have K := K.step K1 (by decide)
                    have kq100_12 : C 100 12 = C0 100 12 := by rw [hC, pk_un (by decide)]; exact kq100_12
                    have kq100_7 : C 100 7 = C0 100 7 := by rw [hC, pk_un (by decide)]; exact kq100_7
                    have heg144_100 : C 100 8 = nI g144_100 := by rw [hC, pk_un (by decide)]; exact heg144_100
                    refine g_aload_n X dX8_advance_193 rfl (j := 1) rfl ?_
                    refine g_dup X dX8_advance_194 rfl ?_
                    refine i_get X F 100 rfl rfl fk_X8_127 dX8_advance_195 (v := .int (nI g144_100)) (congrArg (fun z => some (Value.int z)) heg144_100) ?_
                    refine g_iconst X dX8_advance_198 (v := 1) (by decide) ?_
                    refine g_iadd X dX8_advance_199 ?_
                    refine Go.top (v := .int (nI (g144_100 + 1))) (congrArg Value.int (nI_add g144_100 1)) ?_
                    refine i_put X F I 100 rfl rfl rfl fk_X8_127 dX8_advance_200 rfl rfl (Nat.le_of_ble_eq_true rfl) (fun _ => (rg_of (n := (g144_100 + 1)) (by omega) (by omega) (by omega))) (fun M C F I K1 hC => ?_)
                    have K := K.step K1 (by decide)
                    have kq100_12 : C 100 12 = C0 100 12 := by rw [hC, pk_un (by decide)]; exact kq100_12
                    have kq100_7 : C 100 7 = C0 100 7 := by rw [hC, pk_un (by decide)]; exact kq100_7
                    have f79 : C 100 8 = nI (g144_100 + 1) := by rw [hC]; exact pk_us
                    refine g_goto X dX8_advance_203 (tgt := 144) (by decide) ?_
                    refine g_lv [0, 1] (lv2 := [(1, .int (nI n49)), (0, .ref (a 100))]) rfl ?_
                    exact ih144 ((g144_100 + 1)) L M C D F I K ⟨f79, by omega, by omega, kq100_12, kq100_7, (by show a0 ≤ _; omega), (by show g0_100 ≤ _; omega)⟩ (by show _ < _; omega)
          · skip
            have hq53x := Jvm.Kit.i64_of_i32 (nI n49)
            rw [nI_toInt (by omega)] at hq53x
            have hq53l : (97 : Int64).toInt = 97 := (by decide)
            have hq53h : (122 : Int64).toInt = 122 := (by decide)
            refine g_if_eq X dX8_advance_80 (tgt := 125) (by decide) (fun q => absurd q (by decide)) (fun _ => ?_)
            refine g_lv [0, 1] (lv2 := [(1, .int (nI n49)), (0, .ref (a 100))]) rfl ?_
            refine i_loop (mods := [100]) (fun x : Nat => 800 - x) (fun x => [(1, .int (nI n49)), (0, .ref (a 100))]) (fun x C => C 100 8 = nI (x) ∧ 0 ≤ x ∧ x ≤ 800 ∧ C 100 12 = C0 100 12 ∧ C 100 7 = C0 100 7 ∧ (a0 ≤ x) ∧ (g0_100 ≤ x)) (fun x L M C D F I K hP ih83 => ?_) ((g0_100) : Nat) F I K ⟨heg0_100, by show _ ≤ _; omega, by show _ ≤ _; omega, kq100_12, kq100_7, (by show a0 ≤ _; omega), (by show g0_100 ≤ _; omega)⟩
            obtain ⟨g83_100, rfl⟩ : ∃ z, z = x := ⟨_, rfl⟩
            obtain ⟨eg83_100, hg83_100a, hg83_100b, kq100_12, kq100_7, ha0, ha1⟩ := hP
            have heg83_100 : C 100 8 = nI g83_100 := eg83_100
            refine g_lv [0, 1] (lv2 := [(1, .int (nI n49)), (0, .ref (a 100))]) rfl ?_
            refine g_aload_n X dX8_advance_83 rfl (j := 1) rfl ?_
            refine g_aload_n X dX8_advance_84 rfl (j := 1) rfl ?_
            refine i_get X F 100 rfl rfl fk_X8_127 dX8_advance_85 (v := .int (nI g83_100)) (congrArg (fun z => some (Value.int z)) heg83_100) ?_
            refine g_callVI X (s_X8_see l G F I g83_100 (by omega) (by omega) ) lk_X8_130 (F.1 100 rfl).2 (F.1 100 rfl).1 rfl rfl dX8_advance_88 (Nat.le_of_ble_eq_true rfl) ⟨by decide, by decide⟩ ⟨by decide, by decide⟩ (fun r80 L M hp => ?_)
            obtain ⟨C, D, F, I, K1, hr⟩ := hp
            have K := K.step K1 (by decide)
            have kq100_12 : C 100 12 = C0 100 12 := (congrFun (K1 100 (by decide)).1 12).trans kq100_12
            have kq100_7 : C 100 7 = C0 100 7 := (congrFun (K1 100 (by decide)).1 7).trans kq100_7
            have heg83_100 : C 100 8 = nI g83_100 := (congrFun (K1 100 (by decide)).1 8).trans heg83_100
            rcases hr with ⟨rfl, hgen81⟩ | ⟨hltn81, n81, hn81, hvn81, rfl⟩
            · skip
              rw [kq100_7] at hgen81
              refine g_i2l X dX8_advance_91 rfl ?_
              refine Go.top (v := .long (-1)) (by decide) ?_
              refine g_ldc2 X (v := 97) wd970 dX8_advance_92 ?_
              refine g_ldc2 X (v := 122) wd971 dX8_advance_95 ?_
              refine g_callSI X (s_X8_in l G F I (-1 : Int64) (97 : Int64) (122 : Int64) ) lk_X8_94 rfl rfl dX8_advance_98 (Nat.le_of_ble_eq_true rfl) ⟨by decide, by decide⟩ ⟨by decide, by decide⟩ (fun r82 L M hp => ?_)
              obtain ⟨C, D, F, I, K1, hr⟩ := hp
              have K := K.step K1 (by decide)
              have kq100_12 : C 100 12 = C0 100 12 := (congrFun (K1 100 (by decide)).1 12).trans kq100_12
              have kq100_7 : C 100 7 = C0 100 7 := (congrFun (K1 100 (by decide)).1 7).trans kq100_7
              have heg83_100 : C 100 8 = nI g83_100 := (congrFun (K1 100 (by decide)).1 8).trans heg83_100
              rcases hr with ⟨rfl, hq⟩ | ⟨rfl, hq⟩
              · skip
                refine g_if_eq X dX8_advance_101 (tgt := 117) (by decide) (fun _ => ?_) (fun q => absurd (by decide) q)
                have hgt : g0_100 < g83_100 := by
                  rcases Nat.lt_or_ge g0_100 g83_100 with h | h
                  · exact h
                  · exfalso
                    have eg : g83_100 = g0_100 := by omega
                    rw [eg] at hgen81; exact hgen81 hltn49
                refine g_aload_n X dX8_advance_117 rfl (j := 1) rfl ?_
                refine g_iconst X dX8_advance_118 (v := 1) (by decide) ?_
                refine i_put X F I 100 rfl rfl rfl fk_X8_137 dX8_advance_119 rfl rfl (Nat.le_of_ble_eq_true rfl) (fun h => absurd h (by decide)) (fun M C F I K1 hC => ?_)
                have K := K.step K1 (by decide)
                have kq100_12 : C 100 12 = C0 100 12 := by rw [hC, pk_un (by decide)]; exact kq100_12
                have kq100_7 : C 100 7 = C0 100 7 := by rw [hC, pk_un (by decide)]; exact kq100_7
                have heg83_100 : C 100 8 = nI g83_100 := by rw [hC, pk_un (by decide)]; exact heg83_100
                have f83 : C 100 10 = 1 := by rw [hC]; exact pk_us
                refine g_goto X dX8_advance_122 (tgt := 239) (by decide) ?_
                exact g_vret X hrt dX8_advance_239 (by decide) (by decide) ⟨C, D, F, I, K, kq100_12, kq100_7, by rw [ea00, nI_toInt (by omega), heg83_100, nI_toInt (by omega)]; omega, (fun _ => by rw [ea00, nI_toInt (by omega), heg83_100, nI_toInt (by omega)]; omega)⟩
              · skip
                exact absurd hq (by decide)
            · skip
              have hatn81 : g83_100 + 1 ≤ 800 := by have z := (I 100 7 (by decide)).2; omega
              rw [kq100_7] at hltn81
              rw [(K 104 (by decide)).1] at hvn81
              refine g_i2l X dX8_advance_91 rfl ?_
              refine g_ldc2 X (v := 97) wd970 dX8_advance_92 ?_
              refine g_ldc2 X (v := 122) wd971 dX8_advance_95 ?_
              refine g_callSI X (s_X8_in l G F I ((Int32.toInt64 (nI n81))) (97 : Int64) (122 : Int64) ) lk_X8_94 rfl rfl dX8_advance_98 (Nat.le_of_ble_eq_true rfl) ⟨by decide, by decide⟩ ⟨by decide, by decide⟩ (fun r84 L M hp => ?_)
              obtain ⟨C, D, F, I, K1, hr⟩ := hp
              have K := K.step K1 (by decide)
              have kq100_12 : C 100 12 = C0 100 12 := (congrFun (K1 100 (by decide)).1 12).trans kq100_12
              have kq100_7 : C 100 7 = C0 100 7 := (congrFun (K1 100 (by decide)).1 7).trans kq100_7
              have heg83_100 : C 100 8 = nI g83_100 := (congrFun (K1 100 (by decide)).1 8).trans heg83_100
              rcases hr with ⟨rfl, hq85⟩ | ⟨rfl, hq85⟩
              · skip
                have hq85x := Jvm.Kit.i64_of_i32 (nI n81)
                rw [nI_toInt (by omega)] at hq85x
                have hq85l : (97 : Int64).toInt = 97 := (by decide)
                have hq85h : (122 : Int64).toInt = 122 := (by decide)
                refine g_if_eq X dX8_advance_101 (tgt := 117) (by decide) (fun _ => ?_) (fun q => absurd (by decide) q)
                have hgt : g0_100 < g83_100 := by
                  rcases Nat.lt_or_ge g0_100 g83_100 with h | h
                  · exact h
                  · exfalso
                    have eg : g83_100 = g0_100 := by omega
                    rw [eg] at hvn81; have z := (nI_eq (by omega) (by omega)).mp (hvn81.symm.trans hvn49); omega
                refine g_aload_n X dX8_advance_117 rfl (j := 1) rfl ?_
                refine g_iconst X dX8_advance_118 (v := 1) (by decide) ?_
                refine i_put X F I 100 rfl rfl rfl fk_X8_137 dX8_advance_119 rfl rfl (Nat.le_of_ble_eq_true rfl) (fun h => absurd h (by decide)) (fun M C F I K1 hC => ?_)
                have K := K.step K1 (by decide)
                have kq100_12 : C 100 12 = C0 100 12 := by rw [hC, pk_un (by decide)]; exact kq100_12
                have kq100_7 : C 100 7 = C0 100 7 := by rw [hC, pk_un (by decide)]; exact kq100_7
                have heg83_100 : C 100 8 = nI g83_100 := by rw [hC, pk_un (by decide)]; exact heg83_100
                have f86 : C 100 10 = 1 := by rw [hC]; exact pk_us
                refine g_goto X dX8_advance_122 (tgt := 239) (by decide) ?_
                exact g_vret X hrt dX8_advance_239 (by decide) (by decide) ⟨C, D, F, I, K, kq100_12, kq100_7, by rw [ea00, nI_toInt (by omega), heg83_100, nI_toInt (by omega)]; omega, (fun _ => by rw [ea00, nI_toInt (by omega), heg83_100, nI_toInt (by omega)]; omega)⟩
              · skip
                have hq85x := Jvm.Kit.i64_of_i32 (nI n81)
                rw [nI_toInt (by omega)] at hq85x
                have hq85l : (97 : Int64).toInt = 97 := (by decide)
                have hq85h : (122 : Int64).toInt = 122 := (by decide)
                refine g_if_eq X dX8_advance_101 (tgt := 117) (by decide) (fun q => absurd q (by decide)) (fun _ => ?_)
                refine g_aload_n X dX8_advance_104 rfl (j := 1) rfl ?_
                refine g_dup X dX8_advance_105 rfl ?_
                refine i_get X F 100 rfl rfl fk_X8_127 dX8_advance_106 (v := .int (nI g83_100)) (congrArg (fun z => some (Value.int z)) heg83_100) ?_
                refine g_iconst X dX8_advance_109 (v := 1) (by decide) ?_
                refine g_iadd X dX8_advance_110 ?_
                refine Go.top (v := .int (nI (g83_100 + 1))) (congrArg Value.int (nI_add g83_100 1)) ?_
                refine i_put X F I 100 rfl rfl rfl fk_X8_127 dX8_advance_111 rfl rfl (Nat.le_of_ble_eq_true rfl) (fun _ => (rg_of (n := (g83_100 + 1)) (by omega) (by omega) (by omega))) (fun M C F I K1 hC => ?_)
                have K := K.step K1 (by decide)
                have kq100_12 : C 100 12 = C0 100 12 := by rw [hC, pk_un (by decide)]; exact kq100_12
                have kq100_7 : C 100 7 = C0 100 7 := by rw [hC, pk_un (by decide)]; exact kq100_7
                have f87 : C 100 8 = nI (g83_100 + 1) := by rw [hC]; exact pk_us
                refine g_goto X dX8_advance_114 (tgt := 83) (by decide) ?_
                refine g_lv [0, 1] (lv2 := [(1, .int (nI n49)), (0, .ref (a 100))]) rfl ?_
                exact ih83 ((g83_100 + 1)) L M C D F I K ⟨f87, by omega, by omega, kq100_12, kq100_7, (by show a0 ≤ _; omega), (by show g0_100 ≤ _; omega)⟩ (by show _ < _; omega)
      · skip
        have q46 : n4 = 10 := (nI_eq (a := n4) (b := 10) (by omega) (by omega)).mp q46
        refine g_aload_n X dX8_advance_26 rfl (j := 0) rfl ?_
        refine g_dup X dX8_advance_27 rfl ?_
        refine i_get X F 100 rfl rfl fk_X8_127 dX8_advance_28 (v := .int (nI g0_100)) (congrArg (fun z => some (Value.int z)) heg0_100) ?_
        refine g_iconst X dX8_advance_31 (v := 1) (by decide) ?_
        refine g_iadd X dX8_advance_32 ?_
        refine Go.top (v := .int (nI (g0_100 + 1))) (congrArg Value.int (nI_add g0_100 1)) ?_
        refine i_put X F I 100 rfl rfl rfl fk_X8_127 dX8_advance_33 rfl rfl (Nat.le_of_ble_eq_true rfl) (fun _ => (rg_of (n := (g0_100 + 1)) (by omega) (by omega) (by omega))) (fun M C F I K1 hC => ?_)
        have K := K.step K1 (by decide)
        have kq100_12 : C 100 12 = C0 100 12 := by rw [hC, pk_un (by decide)]; exact kq100_12
        have kq100_7 : C 100 7 = C0 100 7 := by rw [hC, pk_un (by decide)]; exact kq100_7
        have f88 : C 100 8 = nI (g0_100 + 1) := by rw [hC]; exact pk_us
        refine g_goto X dX8_advance_36 (tgt := 0) (by decide) ?_
        refine g_lv [0] (lv2 := [(0, .ref (a 100))]) rfl ?_
        exact ih0 ((g0_100 + 1)) L M C D F I K ⟨f88, by omega, by omega, kq100_12, kq100_7, (by show a0 ≤ _; omega)⟩ (by show _ < _; omega)
  · skip
    have hatn2 : g0_100 + 1 ≤ 800 := by have z := (I 100 7 (by decide)).2; omega
    rw [kq100_7] at hltn2
    rw [(K 104 (by decide)).1] at hvn2
    refine g_bipush X dX8_advance_8 (v := 32) (by decide) ?_
    refine g_icmp_eq X dX8_advance_10 (tgt := 26) (by decide) (fun q89 => ?_) (fun q89 => ?_)
    · skip
      have q89 : n2 = 32 := (nI_eq (a := n2) (b := 32) (by omega) (by omega)).mp q89
      refine g_aload_n X dX8_advance_26 rfl (j := 0) rfl ?_
      refine g_dup X dX8_advance_27 rfl ?_
      refine i_get X F 100 rfl rfl fk_X8_127 dX8_advance_28 (v := .int (nI g0_100)) (congrArg (fun z => some (Value.int z)) heg0_100) ?_
      refine g_iconst X dX8_advance_31 (v := 1) (by decide) ?_
      refine g_iadd X dX8_advance_32 ?_
      refine Go.top (v := .int (nI (g0_100 + 1))) (congrArg Value.int (nI_add g0_100 1)) ?_
      refine i_put X F I 100 rfl rfl rfl fk_X8_127 dX8_advance_33 rfl rfl (Nat.le_of_ble_eq_true rfl) (fun _ => (rg_of (n := (g0_100 + 1)) (by omega) (by omega) (by omega))) (fun M C F I K1 hC => ?_)
      have K := K.step K1 (by decide)
      have kq100_12 : C 100 12 = C0 100 12 := by rw [hC, pk_un (by decide)]; exact kq100_12
      have kq100_7 : C 100 7 = C0 100 7 := by rw [hC, pk_un (by decide)]; exact kq100_7
      have f90 : C 100 8 = nI (g0_100 + 1) := by rw [hC]; exact pk_us
      refine g_goto X dX8_advance_36 (tgt := 0) (by decide) ?_
      refine g_lv [0] (lv2 := [(0, .ref (a 100))]) rfl ?_
      exact ih0 ((g0_100 + 1)) L M C D F I K ⟨f90, by omega, by omega, kq100_12, kq100_7, (by show a0 ≤ _; omega)⟩ (by show _ < _; omega)
    · skip
      have q89 : ¬ n2 = 32 := fun z => q89 ((nI_eq (a := n2) (b := 32) (by omega) (by omega)).mpr z)
      refine g_aload_n X dX8_advance_13 rfl (j := 0) rfl ?_
      refine g_aload_n X dX8_advance_14 rfl (j := 0) rfl ?_
      refine i_get X F 100 rfl rfl fk_X8_127 dX8_advance_15 (v := .int (nI g0_100)) (congrArg (fun z => some (Value.int z)) heg0_100) ?_
      refine g_callVI X (s_X8_see l G F I g0_100 (by omega) (by omega) ) lk_X8_130 (F.1 100 rfl).2 (F.1 100 rfl).1 rfl rfl dX8_advance_18 (Nat.le_of_ble_eq_true rfl) ⟨by decide, by decide⟩ ⟨by decide, by decide⟩ (fun r91 L M hp => ?_)
      obtain ⟨C, D, F, I, K1, hr⟩ := hp
      have K := K.step K1 (by decide)
      have kq100_12 : C 100 12 = C0 100 12 := (congrFun (K1 100 (by decide)).1 12).trans kq100_12
      have kq100_7 : C 100 7 = C0 100 7 := (congrFun (K1 100 (by decide)).1 7).trans kq100_7
      have heg0_100 : C 100 8 = nI g0_100 := (congrFun (K1 100 (by decide)).1 8).trans heg0_100
      rcases hr with ⟨rfl, hgen92⟩ | ⟨hltn92, n92, hn92, hvn92, rfl⟩
      · skip
        rw [kq100_7] at hgen92
        refine g_bipush X dX8_advance_21 (v := 10) (by decide) ?_
        refine g_icmp_ne X dX8_advance_23 (tgt := 39) (by decide) (fun _ => ?_) (fun q => absurd q (by decide))
        refine g_aload_n X dX8_advance_39 rfl (j := 0) rfl ?_
        refine g_aload_n X dX8_advance_40 rfl (j := 0) rfl ?_
        refine i_get X F 100 rfl rfl fk_X8_127 dX8_advance_41 (v := .int (nI g0_100)) (congrArg (fun z => some (Value.int z)) heg0_100) ?_
        refine i_put X F I 100 rfl rfl rfl fk_X8_134 dX8_advance_44 rfl rfl (Nat.le_of_ble_eq_true rfl) (fun _ => (rg_of (n := g0_100) (by omega) (by omega) (by omega))) (fun M C F I K1 hC => ?_)
        have K := K.step K1 (by decide)
        have kq100_12 : C 100 12 = C0 100 12 := by rw [hC, pk_un (by decide)]; exact kq100_12
        have kq100_7 : C 100 7 = C0 100 7 := by rw [hC, pk_un (by decide)]; exact kq100_7
        have heg0_100 : C 100 8 = nI g0_100 := by rw [hC, pk_un (by decide)]; exact heg0_100
        have f93 : C 100 9 = nI g0_100 := by rw [hC]; exact pk_us
        refine g_aload_n X dX8_advance_47 rfl (j := 0) rfl ?_
        refine g_aload_n X dX8_advance_48 rfl (j := 0) rfl ?_
        refine i_get X F 100 rfl rfl fk_X8_127 dX8_advance_49 (v := .int (nI g0_100)) (congrArg (fun z => some (Value.int z)) heg0_100) ?_
        refine g_callVI X (s_X8_see l G F I g0_100 (by omega) (by omega) ) lk_X8_130 (F.1 100 rfl).2 (F.1 100 rfl).1 rfl rfl dX8_advance_52 (Nat.le_of_ble_eq_true rfl) ⟨by decide, by decide⟩ ⟨by decide, by decide⟩ (fun r94 L M hp => ?_)
        obtain ⟨C, D, F, I, K1, hr⟩ := hp
        have K := K.step K1 (by decide)
        have kq100_12 : C 100 12 = C0 100 12 := (congrFun (K1 100 (by decide)).1 12).trans kq100_12
        have kq100_7 : C 100 7 = C0 100 7 := (congrFun (K1 100 (by decide)).1 7).trans kq100_7
        have heg0_100 : C 100 8 = nI g0_100 := (congrFun (K1 100 (by decide)).1 8).trans heg0_100
        have f93 : C 100 9 = nI g0_100 := (congrFun (K1 100 (by decide)).1 9).trans f93
        rcases hr with ⟨rfl, hgen95⟩ | ⟨hltn95, n95, hn95, hvn95, rfl⟩
        · skip
          rw [kq100_7] at hgen95
          refine g_istore_n X dX8_advance_55 rfl (by decide) (lv2 := [(1, .int (-1)), (0, .ref (a 100))]) rfl ?_
          refine g_iload_n X dX8_advance_56 rfl (j := 0) rfl ?_
          refine g_iconst X dX8_advance_57 (v := -1) (by decide) ?_
          refine g_icmp_ne X dX8_advance_58 (tgt := 69) (by decide) (fun q => absurd (by decide) q) (fun _ => ?_)
          refine g_aload_n X dX8_advance_61 rfl (j := 1) rfl ?_
          refine g_iconst X dX8_advance_62 (v := 0) (by decide) ?_
          refine i_put X F I 100 rfl rfl rfl fk_X8_137 dX8_advance_63 rfl rfl (Nat.le_of_ble_eq_true rfl) (fun h => absurd h (by decide)) (fun M C F I K1 hC => ?_)
          have K := K.step K1 (by decide)
          have kq100_12 : C 100 12 = C0 100 12 := by rw [hC, pk_un (by decide)]; exact kq100_12
          have kq100_7 : C 100 7 = C0 100 7 := by rw [hC, pk_un (by decide)]; exact kq100_7
          have heg0_100 : C 100 8 = nI g0_100 := by rw [hC, pk_un (by decide)]; exact heg0_100
          have f93 : C 100 9 = nI g0_100 := by rw [hC, pk_un (by decide)]; exact f93
          have f96 : C 100 10 = 0 := by rw [hC]; exact pk_us
          refine g_goto X dX8_advance_66 (tgt := 239) (by decide) ?_
          exact g_vret X hrt dX8_advance_239 (by decide) (by decide) ⟨C, D, F, I, K, kq100_12, kq100_7, by rw [ea00, nI_toInt (by omega), heg0_100, nI_toInt (by omega)]; omega, (fun z => absurd f96 z)⟩
        · skip
          have hatn95 : g0_100 + 1 ≤ 800 := by have z := (I 100 7 (by decide)).2; omega
          rw [kq100_7] at hltn95
          rw [(K 104 (by decide)).1] at hvn95
          refine g_istore_n X dX8_advance_55 rfl (by decide) (lv2 := [(1, .int (nI n95)), (0, .ref (a 100))]) rfl ?_
          refine g_iload_n X dX8_advance_56 rfl (j := 0) rfl ?_
          refine g_iconst X dX8_advance_57 (v := -1) (by decide) ?_
          refine g_icmp_ne X dX8_advance_58 (tgt := 69) (by decide) (fun _ => ?_) (fun q => absurd q (nI_nm1 (by omega)))
          refine g_iload_n X dX8_advance_69 rfl (j := 0) rfl ?_
          refine g_i2l X dX8_advance_70 rfl ?_
          refine g_ldc2 X (v := 97) wd970 dX8_advance_71 ?_
          refine g_ldc2 X (v := 122) wd971 dX8_advance_74 ?_
          refine g_callSI X (s_X8_in l G F I ((Int32.toInt64 (nI n95))) (97 : Int64) (122 : Int64) ) lk_X8_94 rfl rfl dX8_advance_77 (Nat.le_of_ble_eq_true rfl) ⟨by decide, by decide⟩ ⟨by decide, by decide⟩ (fun r98 L M hp => ?_)
          obtain ⟨C, D, F, I, K1, hr⟩ := hp
          have K := K.step K1 (by decide)
          have kq100_12 : C 100 12 = C0 100 12 := (congrFun (K1 100 (by decide)).1 12).trans kq100_12
          have kq100_7 : C 100 7 = C0 100 7 := (congrFun (K1 100 (by decide)).1 7).trans kq100_7
          have heg0_100 : C 100 8 = nI g0_100 := (congrFun (K1 100 (by decide)).1 8).trans heg0_100
          have f93 : C 100 9 = nI g0_100 := (congrFun (K1 100 (by decide)).1 9).trans f93
          rcases hr with ⟨rfl, hq99⟩ | ⟨rfl, hq99⟩
          · skip
            have hq99x := Jvm.Kit.i64_of_i32 (nI n95)
            rw [nI_toInt (by omega)] at hq99x
            have hq99l : (97 : Int64).toInt = 97 := (by decide)
            have hq99h : (122 : Int64).toInt = 122 := (by decide)
            refine g_if_eq X dX8_advance_80 (tgt := 125) (by decide) (fun _ => ?_) (fun q => absurd (by decide) q)
            refine g_iload_n X dX8_advance_125 rfl (j := 0) rfl ?_
            refine g_i2l X dX8_advance_126 rfl ?_
            refine g_ldc2 X (v := 48) wd972 dX8_advance_127 ?_
            refine g_ldc2 X (v := 57) wd973 dX8_advance_130 ?_
            refine g_callSI X (s_X8_in l G F I ((Int32.toInt64 (nI n95))) (48 : Int64) (57 : Int64) ) lk_X8_94 rfl rfl dX8_advance_133 (Nat.le_of_ble_eq_true rfl) ⟨by decide, by decide⟩ ⟨by decide, by decide⟩ (fun r100 L M hp => ?_)
            obtain ⟨C, D, F, I, K1, hr⟩ := hp
            have K := K.step K1 (by decide)
            have kq100_12 : C 100 12 = C0 100 12 := (congrFun (K1 100 (by decide)).1 12).trans kq100_12
            have kq100_7 : C 100 7 = C0 100 7 := (congrFun (K1 100 (by decide)).1 7).trans kq100_7
            have heg0_100 : C 100 8 = nI g0_100 := (congrFun (K1 100 (by decide)).1 8).trans heg0_100
            have f93 : C 100 9 = nI g0_100 := (congrFun (K1 100 (by decide)).1 9).trans f93
            rcases hr with ⟨rfl, hq101⟩ | ⟨rfl, hq101⟩
            · skip
              have hq101x := Jvm.Kit.i64_of_i32 (nI n95)
              rw [nI_toInt (by omega)] at hq101x
              have hq101l : (48 : Int64).toInt = 48 := (by decide)
              have hq101h : (57 : Int64).toInt = 57 := (by decide)
              refine g_if_eq X dX8_advance_136 (tgt := 214) (by decide) (fun _ => ?_) (fun q => absurd (by decide) q)
              refine g_aload_n X dX8_advance_214 rfl (j := 1) rfl ?_
              refine g_iload_n X dX8_advance_215 rfl (j := 0) rfl ?_
              refine g_bipush X dX8_advance_216 (v := 59) (by decide) ?_
              refine g_icmp_ne X dX8_advance_218 (tgt := 225) (by decide) (fun q102 => ?_) (fun q102 => ?_)
              · skip
                have q102 : ¬ n95 = 59 := fun z => q102 ((nI_eq (a := n95) (b := 59) (by omega) (by omega)).mpr z)
                refine g_iconst X dX8_advance_225 (v := 4) (by decide) ?_
                refine i_put X F I 100 rfl rfl rfl fk_X8_137 dX8_advance_226 rfl rfl (Nat.le_of_ble_eq_true rfl) (fun h => absurd h (by decide)) (fun M C F I K1 hC => ?_)
                have K := K.step K1 (by decide)
                have kq100_12 : C 100 12 = C0 100 12 := by rw [hC, pk_un (by decide)]; exact kq100_12
                have kq100_7 : C 100 7 = C0 100 7 := by rw [hC, pk_un (by decide)]; exact kq100_7
                have heg0_100 : C 100 8 = nI g0_100 := by rw [hC, pk_un (by decide)]; exact heg0_100
                have f93 : C 100 9 = nI g0_100 := by rw [hC, pk_un (by decide)]; exact f93
                have f103 : C 100 10 = 4 := by rw [hC]; exact pk_us
                refine g_aload_n X dX8_advance_229 rfl (j := 1) rfl ?_
                refine g_dup X dX8_advance_230 rfl ?_
                refine i_get X F 100 rfl rfl fk_X8_127 dX8_advance_231 (v := .int (nI g0_100)) (congrArg (fun z => some (Value.int z)) heg0_100) ?_
                refine g_iconst X dX8_advance_234 (v := 1) (by decide) ?_
                refine g_iadd X dX8_advance_235 ?_
                refine Go.top (v := .int (nI (g0_100 + 1))) (congrArg Value.int (nI_add g0_100 1)) ?_
                refine i_put X F I 100 rfl rfl rfl fk_X8_127 dX8_advance_236 rfl rfl (Nat.le_of_ble_eq_true rfl) (fun _ => (rg_of (n := (g0_100 + 1)) (by omega) (by omega) (by omega))) (fun M C F I K1 hC => ?_)
                have K := K.step K1 (by decide)
                have kq100_12 : C 100 12 = C0 100 12 := by rw [hC, pk_un (by decide)]; exact kq100_12
                have kq100_7 : C 100 7 = C0 100 7 := by rw [hC, pk_un (by decide)]; exact kq100_7
                have f93 : C 100 9 = nI g0_100 := by rw [hC, pk_un (by decide)]; exact f93
                have f103 : C 100 10 = 4 := by rw [hC, pk_un (by decide)]; exact f103
                have f104 : C 100 8 = nI (g0_100 + 1) := by rw [hC]; exact pk_us
                exact g_vret X hrt dX8_advance_239 (by decide) (by decide) ⟨C, D, F, I, K, kq100_12, kq100_7, by rw [ea00, nI_toInt (by omega), f104, nI_toInt (by omega)]; omega, (fun _ => by rw [ea00, nI_toInt (by omega), f104, nI_toInt (by omega)]; omega)⟩
              · skip
                have q102 : n95 = 59 := (nI_eq (a := n95) (b := 59) (by omega) (by omega)).mp q102
                refine g_iconst X dX8_advance_221 (v := 3) (by decide) ?_
                refine g_goto X dX8_advance_222 (tgt := 226) (by decide) ?_
                refine i_put X F I 100 rfl rfl rfl fk_X8_137 dX8_advance_226 rfl rfl (Nat.le_of_ble_eq_true rfl) (fun h => absurd h (by decide)) (fun M C F I K1 hC => ?_)
                have K := K.step K1 (by decide)
                have kq100_12 : C 100 12 = C0 100 12 := by rw [hC, pk_un (by decide)]; exact kq100_12
                have kq100_7 : C 100 7 = C0 100 7 := by rw [hC, pk_un (by decide)]; exact kq100_7
                have heg0_100 : C 100 8 = nI g0_100 := by rw [hC, pk_un (by decide)]; exact heg0_100
                have f93 : C 100 9 = nI g0_100 := by rw [hC, pk_un (by decide)]; exact f93
                have f105 : C 100 10 = 3 := by rw [hC]; exact pk_us
                refine g_aload_n X dX8_advance_229 rfl (j := 1) rfl ?_
                refine g_dup X dX8_advance_230 rfl ?_
                refine i_get X F 100 rfl rfl fk_X8_127 dX8_advance_231 (v := .int (nI g0_100)) (congrArg (fun z => some (Value.int z)) heg0_100) ?_
                refine g_iconst X dX8_advance_234 (v := 1) (by decide) ?_
                refine g_iadd X dX8_advance_235 ?_
                refine Go.top (v := .int (nI (g0_100 + 1))) (congrArg Value.int (nI_add g0_100 1)) ?_
                refine i_put X F I 100 rfl rfl rfl fk_X8_127 dX8_advance_236 rfl rfl (Nat.le_of_ble_eq_true rfl) (fun _ => (rg_of (n := (g0_100 + 1)) (by omega) (by omega) (by omega))) (fun M C F I K1 hC => ?_)
                have K := K.step K1 (by decide)
                have kq100_12 : C 100 12 = C0 100 12 := by rw [hC, pk_un (by decide)]; exact kq100_12
                have kq100_7 : C 100 7 = C0 100 7 := by rw [hC, pk_un (by decide)]; exact kq100_7
                have f93 : C 100 9 = nI g0_100 := by rw [hC, pk_un (by decide)]; exact f93
                have f105 : C 100 10 = 3 := by rw [hC, pk_un (by decide)]; exact f105
                have f106 : C 100 8 = nI (g0_100 + 1) := by rw [hC]; exact pk_us
                exact g_vret X hrt dX8_advance_239 (by decide) (by decide) ⟨C, D, F, I, K, kq100_12, kq100_7, by rw [ea00, nI_toInt (by omega), f106, nI_toInt (by omega)]; omega, (fun _ => by rw [ea00, nI_toInt (by omega), f106, nI_toInt (by omega)]; omega)⟩
            · skip
              have hq101x := Jvm.Kit.i64_of_i32 (nI n95)
              rw [nI_toInt (by omega)] at hq101x
              have hq101l : (48 : Int64).toInt = 48 := (by decide)
              have hq101h : (57 : Int64).toInt = 57 := (by decide)
              refine g_if_eq X dX8_advance_136 (tgt := 214) (by decide) (fun q => absurd q (by decide)) (fun _ => ?_)
              refine g_aload_n X dX8_advance_139 rfl (j := 1) rfl ?_
              refine g_iconst X dX8_advance_140 (v := 0) (by decide) ?_
              refine i_put X F I 100 rfl rfl rfl fk_X8_148 dX8_advance_141 rfl rfl (Nat.le_of_ble_eq_true rfl) (fun h => absurd h (by decide)) (fun M C F I K1 hC => ?_)
              have K := K.step K1 (by decide)
              have kq100_12 : C 100 12 = C0 100 12 := by rw [hC, pk_un (by decide)]; exact kq100_12
              have kq100_7 : C 100 7 = C0 100 7 := by rw [hC, pk_un (by decide)]; exact kq100_7
              have heg0_100 : C 100 8 = nI g0_100 := by rw [hC, pk_un (by decide)]; exact heg0_100
              have f93 : C 100 9 = nI g0_100 := by rw [hC, pk_un (by decide)]; exact f93
              refine g_lv [0, 1] (lv2 := [(1, .int (nI n95)), (0, .ref (a 100))]) rfl ?_
              refine i_loop (mods := [100]) (fun x : Nat => 800 - x) (fun x => [(1, .int (nI n95)), (0, .ref (a 100))]) (fun x C => C 100 8 = nI (x) ∧ 0 ≤ x ∧ x ≤ 800 ∧ C 100 12 = C0 100 12 ∧ C 100 7 = C0 100 7 ∧ (a0 ≤ x) ∧ (g0_100 ≤ x)) (fun x L M C D F I K hP ih144 => ?_) ((g0_100) : Nat) F I K ⟨heg0_100, by show _ ≤ _; omega, by show _ ≤ _; omega, kq100_12, kq100_7, (by show a0 ≤ _; omega), (by show g0_100 ≤ _; omega)⟩
              obtain ⟨g144_100, rfl⟩ : ∃ z, z = x := ⟨_, rfl⟩
              obtain ⟨eg144_100, hg144_100a, hg144_100b, kq100_12, kq100_7, ha0, ha1⟩ := hP
              have heg144_100 : C 100 8 = nI g144_100 := eg144_100
              refine g_lv [0, 1] (lv2 := [(1, .int (nI n95)), (0, .ref (a 100))]) rfl ?_
              refine g_aload_n X dX8_advance_144 rfl (j := 1) rfl ?_
              refine g_aload_n X dX8_advance_145 rfl (j := 1) rfl ?_
              refine i_get X F 100 rfl rfl fk_X8_127 dX8_advance_146 (v := .int (nI g144_100)) (congrArg (fun z => some (Value.int z)) heg144_100) ?_
              refine g_callVI X (s_X8_see l G F I g144_100 (by omega) (by omega) ) lk_X8_130 (F.1 100 rfl).2 (F.1 100 rfl).1 rfl rfl dX8_advance_149 (Nat.le_of_ble_eq_true rfl) ⟨by decide, by decide⟩ ⟨by decide, by decide⟩ (fun r107 L M hp => ?_)
              obtain ⟨C, D, F, I, K1, hr⟩ := hp
              have K := K.step K1 (by decide)
              have kq100_12 : C 100 12 = C0 100 12 := (congrFun (K1 100 (by decide)).1 12).trans kq100_12
              have kq100_7 : C 100 7 = C0 100 7 := (congrFun (K1 100 (by decide)).1 7).trans kq100_7
              have heg144_100 : C 100 8 = nI g144_100 := (congrFun (K1 100 (by decide)).1 8).trans heg144_100
              rcases hr with ⟨rfl, hgen108⟩ | ⟨hltn108, n108, hn108, hvn108, rfl⟩
              · skip
                rw [kq100_7] at hgen108
                refine g_i2l X dX8_advance_152 rfl ?_
                refine Go.top (v := .long (-1)) (by decide) ?_
                refine g_ldc2 X (v := 48) wd972 dX8_advance_153 ?_
                refine g_ldc2 X (v := 57) wd973 dX8_advance_156 ?_
                refine g_callSI X (s_X8_in l G F I (-1 : Int64) (48 : Int64) (57 : Int64) ) lk_X8_94 rfl rfl dX8_advance_159 (Nat.le_of_ble_eq_true rfl) ⟨by decide, by decide⟩ ⟨by decide, by decide⟩ (fun r109 L M hp => ?_)
                obtain ⟨C, D, F, I, K1, hr⟩ := hp
                have K := K.step K1 (by decide)
                have kq100_12 : C 100 12 = C0 100 12 := (congrFun (K1 100 (by decide)).1 12).trans kq100_12
                have kq100_7 : C 100 7 = C0 100 7 := (congrFun (K1 100 (by decide)).1 7).trans kq100_7
                have heg144_100 : C 100 8 = nI g144_100 := (congrFun (K1 100 (by decide)).1 8).trans heg144_100
                rcases hr with ⟨rfl, hq⟩ | ⟨rfl, hq⟩
                · skip
                  refine g_if_eq X dX8_advance_162 (tgt := 206) (by decide) (fun _ => ?_) (fun q => absurd (by decide) q)
                  have hgt : g0_100 < g144_100 := by
                    rcases Nat.lt_or_ge g0_100 g144_100 with h | h
                    · exact h
                    · exfalso
                      have eg : g144_100 = g0_100 := by omega
                      rw [eg] at hgen108; exact hgen108 hltn95
                  refine g_aload_n X dX8_advance_206 rfl (j := 1) rfl ?_
                  refine g_iconst X dX8_advance_207 (v := 2) (by decide) ?_
                  refine i_put X F I 100 rfl rfl rfl fk_X8_137 dX8_advance_208 rfl rfl (Nat.le_of_ble_eq_true rfl) (fun h => absurd h (by decide)) (fun M C F I K1 hC => ?_)
                  have K := K.step K1 (by decide)
                  have kq100_12 : C 100 12 = C0 100 12 := by rw [hC, pk_un (by decide)]; exact kq100_12
                  have kq100_7 : C 100 7 = C0 100 7 := by rw [hC, pk_un (by decide)]; exact kq100_7
                  have heg144_100 : C 100 8 = nI g144_100 := by rw [hC, pk_un (by decide)]; exact heg144_100
                  have f110 : C 100 10 = 2 := by rw [hC]; exact pk_us
                  refine g_goto X dX8_advance_211 (tgt := 239) (by decide) ?_
                  exact g_vret X hrt dX8_advance_239 (by decide) (by decide) ⟨C, D, F, I, K, kq100_12, kq100_7, by rw [ea00, nI_toInt (by omega), heg144_100, nI_toInt (by omega)]; omega, (fun _ => by rw [ea00, nI_toInt (by omega), heg144_100, nI_toInt (by omega)]; omega)⟩
                · skip
                  exact absurd hq (by decide)
              · skip
                have hatn108 : g144_100 + 1 ≤ 800 := by have z := (I 100 7 (by decide)).2; omega
                rw [kq100_7] at hltn108
                rw [(K 104 (by decide)).1] at hvn108
                refine g_i2l X dX8_advance_152 rfl ?_
                refine g_ldc2 X (v := 48) wd972 dX8_advance_153 ?_
                refine g_ldc2 X (v := 57) wd973 dX8_advance_156 ?_
                refine g_callSI X (s_X8_in l G F I ((Int32.toInt64 (nI n108))) (48 : Int64) (57 : Int64) ) lk_X8_94 rfl rfl dX8_advance_159 (Nat.le_of_ble_eq_true rfl) ⟨by decide, by decide⟩ ⟨by decide, by decide⟩ (fun r111 L M hp => ?_)
                obtain ⟨C, D, F, I, K1, hr⟩ := hp
                have K := K.step K1 (by decide)
                have kq100_12 : C 100 12 = C0 100 12 := (congrFun (K1 100 (by decide)).1 12).trans kq100_12
                have kq100_7 : C 100 7 = C0 100 7 := (congrFun (K1 100 (by decide)).1 7).trans kq100_7
                have heg144_100 : C 100 8 = nI g144_100 := (congrFun (K1 100 (by decide)).1 8).trans heg144_100
                rcases hr with ⟨rfl, hq112⟩ | ⟨rfl, hq112⟩
                · skip
                  have hq112x := Jvm.Kit.i64_of_i32 (nI n108)
                  rw [nI_toInt (by omega)] at hq112x
                  have hq112l : (48 : Int64).toInt = 48 := (by decide)
                  have hq112h : (57 : Int64).toInt = 57 := (by decide)
                  refine g_if_eq X dX8_advance_162 (tgt := 206) (by decide) (fun _ => ?_) (fun q => absurd (by decide) q)
                  have hgt : g0_100 < g144_100 := by
                    rcases Nat.lt_or_ge g0_100 g144_100 with h | h
                    · exact h
                    · exfalso
                      have eg : g144_100 = g0_100 := by omega
                      rw [eg] at hvn108; have z := (nI_eq (by omega) (by omega)).mp (hvn108.symm.trans hvn95); omega
                  refine g_aload_n X dX8_advance_206 rfl (j := 1) rfl ?_
                  refine g_iconst X dX8_advance_207 (v := 2) (by decide) ?_
                  refine i_put X F I 100 rfl rfl rfl fk_X8_137 dX8_advance_208 rfl rfl (Nat.le_of_ble_eq_true rfl) (fun h => absurd h (by decide)) (fun M C F I K1 hC => ?_)
                  have K := K.step K1 (by decide)
                  have kq100_12 : C 100 12 = C0 100 12 := by rw [hC, pk_un (by decide)]; exact kq100_12
                  have kq100_7 : C 100 7 = C0 100 7 := by rw [hC, pk_un (by decide)]; exact kq100_7
                  have heg144_100 : C 100 8 = nI g144_100 := by rw [hC, pk_un (by decide)]; exact heg144_100
                  have f113 : C 100 10 = 2 := by rw [hC]; exact pk_us
                  refine g_goto X dX8_advance_211 (tgt := 239) (by decide) ?_
                  exact g_vret X hrt dX8_advance_239 (by decide) (by decide) ⟨C, D, F, I, K, kq100_12, kq100_7, by rw [ea00, nI_toInt (by omega), heg144_100, nI_toInt (by omega)]; omega, (fun _ => by rw [ea00, nI_toInt (by omega), heg144_100, nI_toInt (by omega)]; omega)⟩
                · skip
                  have hq112x := Jvm.Kit.i64_of_i32 (nI n108)
                  rw [nI_toInt (by omega)] at hq112x
                  have hq112l : (48 : Int64).toInt = 48 := (by decide)
                  have hq112h : (57 : Int64).toInt = 57 := (by decide)
                  refine g_if_eq X dX8_advance_162 (tgt := 206) (by decide) (fun q => absurd q (by decide)) (fun _ => ?_)
                  refine g_aload_n X dX8_advance_165 rfl (j := 1) rfl ?_
                  refine g_ldc X (v := 99999) wd975 dX8_advance_166 ?_
                  refine g_bipush X dX8_advance_168 (v := 10) (by decide) ?_
                  refine g_aload_n X dX8_advance_170 rfl (j := 1) rfl ?_
                  refine i_get X F 100 rfl rfl fk_X8_148 dX8_advance_171 rfl ?_
                  refine Go.gen (fun o114 => ?_)
                  refine g_imul X dX8_advance_174 ?_
                  refine Go.gen (fun o115 => ?_)
                  refine g_aload_n X dX8_advance_175 rfl (j := 1) rfl ?_
                  refine g_aload_n X dX8_advance_176 rfl (j := 1) rfl ?_
                  refine i_get X F 100 rfl rfl fk_X8_127 dX8_advance_177 (v := .int (nI g144_100)) (congrArg (fun z => some (Value.int z)) heg144_100) ?_
                  refine g_callVI X (s_X8_see l G F I g144_100 (by omega) (by omega) ) lk_X8_130 (F.1 100 rfl).2 (F.1 100 rfl).1 rfl rfl dX8_advance_180 (Nat.le_of_ble_eq_true rfl) ⟨by decide, by decide⟩ ⟨by decide, by decide⟩ (fun r116 L M hp => ?_)
                  obtain ⟨C, D, F, I, K1, hr⟩ := hp
                  have K := K.step K1 (by decide)
                  have kq100_12 : C 100 12 = C0 100 12 := (congrFun (K1 100 (by decide)).1 12).trans kq100_12
                  have kq100_7 : C 100 7 = C0 100 7 := (congrFun (K1 100 (by decide)).1 7).trans kq100_7
                  have heg144_100 : C 100 8 = nI g144_100 := (congrFun (K1 100 (by decide)).1 8).trans heg144_100
                  rcases hr with ⟨rfl, hgen117⟩ | ⟨hltn117, n117, hn117, hvn117, rfl⟩
                  · skip
                    rw [kq100_7] at hgen117
                    refine g_iadd X dX8_advance_183 ?_
                    refine Go.gen (fun o118 => ?_)
                    refine g_bipush X dX8_advance_184 (v := 48) (by decide) ?_
                    refine g_isub X dX8_advance_186 ?_
                    refine Go.gen (fun o119 => ?_)
                    refine g_mmin X wd976 wd392 wd80 wd393 (by decide) (Nat.le_of_ble_eq_true rfl) (by decide) (by decide) dX8_advance_187 (fun o120 => ?_)
                    refine i_put X F I 100 rfl rfl rfl fk_X8_148 dX8_advance_190 rfl rfl (Nat.le_of_ble_eq_true rfl) (fun h => absurd h (by decide)) (fun M C F I K1 hC => ?_)
                    have K := K.step K1 (by decide)
                    have kq100_12 : C 100 12 = C0 100 12 := by rw [hC, pk_un (by decide)]; exact kq100_12
                    have kq100_7 : C 100 7 = C0 100 7 := by rw [hC, pk_un (by decide)]; exact kq100_7
                    have heg144_100 : C 100 8 = nI g144_100 := by rw [hC, pk_un (by decide)]; exact heg144_100
                    refine g_aload_n X dX8_advance_193 rfl (j := 1) rfl ?_
                    refine g_dup X dX8_advance_194 rfl ?_
                    refine i_get X F 100 rfl rfl fk_X8_127 dX8_advance_195 (v := .int (nI g144_100)) (congrArg (fun z => some (Value.int z)) heg144_100) ?_
                    refine g_iconst X dX8_advance_198 (v := 1) (by decide) ?_
                    refine g_iadd X dX8_advance_199 ?_
                    refine Go.top (v := .int (nI (g144_100 + 1))) (congrArg Value.int (nI_add g144_100 1)) ?_
                    refine i_put X F I 100 rfl rfl rfl fk_X8_127 dX8_advance_200 rfl rfl (Nat.le_of_ble_eq_true rfl) (fun _ => (rg_of (n := (g144_100 + 1)) (by omega) (by omega) (by omega))) (fun M C F I K1 hC => ?_)
                    have K := K.step K1 (by decide)
                    have kq100_12 : C 100 12 = C0 100 12 := by rw [hC, pk_un (by decide)]; exact kq100_12
                    have kq100_7 : C 100 7 = C0 100 7 := by rw [hC, pk_un (by decide)]; exact kq100_7
                    have f121 : C 100 8 = nI (g144_100 + 1) := by rw [hC]; exact pk_us
                    refine g_goto X dX8_advance_203 (tgt := 144) (by decide) ?_
                    refine g_lv [0, 1] (lv2 := [(1, .int (nI n95)), (0, .ref (a 100))]) rfl ?_
                    exact ih144 ((g144_100 + 1)) L M C D F I K ⟨f121, by omega, by omega, kq100_12, kq100_7, (by show a0 ≤ _; omega), (by show g0_100 ≤ _; omega)⟩ (by show _ < _; omega)
                  · skip
                    have hatn117 : g144_100 + 1 ≤ 800 := by have z := (I 100 7 (by decide)).2; omega
                    rw [kq100_7] at hltn117
                    rw [(K 104 (by decide)).1] at hvn117
                    refine g_iadd X dX8_advance_183 ?_
                    refine Go.gen (fun o122 => ?_)
                    refine g_bipush X dX8_advance_184 (v := 48) (by decide) ?_
                    refine g_isub X dX8_advance_186 ?_
                    refine Go.gen (fun o123 => ?_)
                    refine g_mmin X wd976 wd392 wd80 wd393 (by decide) (Nat.le_of_ble_eq_true rfl) (by decide) (by decide) dX8_advance_187 (fun o124 => ?_)
                    refine i_put X F I 100 rfl rfl rfl fk_X8_148 dX8_advance_190 rfl rfl (Nat.le_of_ble_eq_true rfl) (fun h => absurd h (by decide)) (fun M C F I K1 hC => ?_)
                    have K := K.step K1 (by decide)
                    have kq100_12 : C 100 12 = C0 100 12 := by rw [hC, pk_un (by decide)]; exact kq100_12
                    have kq100_7 : C 100 7 = C0 100 7 := by rw [hC, pk_un (by decide)]; exact kq100_7
                    have heg144_100 : C 100 8 = nI g144_100 := by rw [hC, pk_un (by decide)]; exact heg144_100
                    refine g_aload_n X dX8_advance_193 rfl (j := 1) rfl ?_
                    refine g_dup X dX8_advance_194 rfl ?_
                    refine i_get X F 100 rfl rfl fk_X8_127 dX8_advance_195 (v := .int (nI g144_100)) (congrArg (fun z => some (Value.int z)) heg144_100) ?_
                    refine g_iconst X dX8_advance_198 (v := 1) (by decide) ?_
                    refine g_iadd X dX8_advance_199 ?_
                    refine Go.top (v := .int (nI (g144_100 + 1))) (congrArg Value.int (nI_add g144_100 1)) ?_
                    refine i_put X F I 100 rfl rfl rfl fk_X8_127 dX8_advance_200 rfl rfl (Nat.le_of_ble_eq_true rfl) (fun _ => (rg_of (n := (g144_100 + 1)) (by omega) (by omega) (by omega))) (fun M C F I K1 hC => ?_)
                    have K := K.step K1 (by decide)
                    have kq100_12 : C 100 12 = C0 100 12 := by rw [hC, pk_un (by decide)]; exact kq100_12
                    have kq100_7 : C 100 7 = C0 100 7 := by rw [hC, pk_un (by decide)]; exact kq100_7
                    have f125 : C 100 8 = nI (g144_100 + 1) := by rw [hC]; exact pk_us
                    refine g_goto X dX8_advance_203 (tgt := 144) (by decide) ?_
                    refine g_lv [0, 1] (lv2 := [(1, .int (nI n95)), (0, .ref (a 100))]) rfl ?_
                    exact ih144 ((g144_100 + 1)) L M C D F I K ⟨f125, by omega, by omega, kq100_12, kq100_7, (by show a0 ≤ _; omega), (by show g0_100 ≤ _; omega)⟩ (by show _ < _; omega)
          · skip
            have hq99x := Jvm.Kit.i64_of_i32 (nI n95)
            rw [nI_toInt (by omega)] at hq99x
            have hq99l : (97 : Int64).toInt = 97 := (by decide)
            have hq99h : (122 : Int64).toInt = 122 := (by decide)
            refine g_if_eq X dX8_advance_80 (tgt := 125) (by decide) (fun q => absurd q (by decide)) (fun _ => ?_)
            refine g_lv [0, 1] (lv2 := [(1, .int (nI n95)), (0, .ref (a 100))]) rfl ?_
            refine i_loop (mods := [100]) (fun x : Nat => 800 - x) (fun x => [(1, .int (nI n95)), (0, .ref (a 100))]) (fun x C => C 100 8 = nI (x) ∧ 0 ≤ x ∧ x ≤ 800 ∧ C 100 12 = C0 100 12 ∧ C 100 7 = C0 100 7 ∧ (a0 ≤ x) ∧ (g0_100 ≤ x)) (fun x L M C D F I K hP ih83 => ?_) ((g0_100) : Nat) F I K ⟨heg0_100, by show _ ≤ _; omega, by show _ ≤ _; omega, kq100_12, kq100_7, (by show a0 ≤ _; omega), (by show g0_100 ≤ _; omega)⟩
            obtain ⟨g83_100, rfl⟩ : ∃ z, z = x := ⟨_, rfl⟩
            obtain ⟨eg83_100, hg83_100a, hg83_100b, kq100_12, kq100_7, ha0, ha1⟩ := hP
            have heg83_100 : C 100 8 = nI g83_100 := eg83_100
            refine g_lv [0, 1] (lv2 := [(1, .int (nI n95)), (0, .ref (a 100))]) rfl ?_
            refine g_aload_n X dX8_advance_83 rfl (j := 1) rfl ?_
            refine g_aload_n X dX8_advance_84 rfl (j := 1) rfl ?_
            refine i_get X F 100 rfl rfl fk_X8_127 dX8_advance_85 (v := .int (nI g83_100)) (congrArg (fun z => some (Value.int z)) heg83_100) ?_
            refine g_callVI X (s_X8_see l G F I g83_100 (by omega) (by omega) ) lk_X8_130 (F.1 100 rfl).2 (F.1 100 rfl).1 rfl rfl dX8_advance_88 (Nat.le_of_ble_eq_true rfl) ⟨by decide, by decide⟩ ⟨by decide, by decide⟩ (fun r126 L M hp => ?_)
            obtain ⟨C, D, F, I, K1, hr⟩ := hp
            have K := K.step K1 (by decide)
            have kq100_12 : C 100 12 = C0 100 12 := (congrFun (K1 100 (by decide)).1 12).trans kq100_12
            have kq100_7 : C 100 7 = C0 100 7 := (congrFun (K1 100 (by decide)).1 7).trans kq100_7
            have heg83_100 : C 100 8 = nI g83_100 := (congrFun (K1 100 (by decide)).1 8).trans heg83_100
            rcases hr with ⟨rfl, hgen127⟩ | ⟨hltn127, n127, hn127, hvn127, rfl⟩
            · skip
              rw [kq100_7] at hgen127
              refine g_i2l X dX8_advance_91 rfl ?_
              refine Go.top (v := .long (-1)) (by decide) ?_
              refine g_ldc2 X (v := 97) wd970 dX8_advance_92 ?_
              refine g_ldc2 X (v := 122) wd971 dX8_advance_95 ?_
              refine g_callSI X (s_X8_in l G F I (-1 : Int64) (97 : Int64) (122 : Int64) ) lk_X8_94 rfl rfl dX8_advance_98 (Nat.le_of_ble_eq_true rfl) ⟨by decide, by decide⟩ ⟨by decide, by decide⟩ (fun r128 L M hp => ?_)
              obtain ⟨C, D, F, I, K1, hr⟩ := hp
              have K := K.step K1 (by decide)
              have kq100_12 : C 100 12 = C0 100 12 := (congrFun (K1 100 (by decide)).1 12).trans kq100_12
              have kq100_7 : C 100 7 = C0 100 7 := (congrFun (K1 100 (by decide)).1 7).trans kq100_7
              have heg83_100 : C 100 8 = nI g83_100 := (congrFun (K1 100 (by decide)).1 8).trans heg83_100
              rcases hr with ⟨rfl, hq⟩ | ⟨rfl, hq⟩
              · skip
                refine g_if_eq X dX8_advance_101 (tgt := 117) (by decide) (fun _ => ?_) (fun q => absurd (by decide) q)
                have hgt : g0_100 < g83_100 := by
                  rcases Nat.lt_or_ge g0_100 g83_100 with h | h
                  · exact h
                  · exfalso
                    have eg : g83_100 = g0_100 := by omega
                    rw [eg] at hgen127; exact hgen127 hltn95
                refine g_aload_n X dX8_advance_117 rfl (j := 1) rfl ?_
                refine g_iconst X dX8_advance_118 (v := 1) (by decide) ?_
                refine i_put X F I 100 rfl rfl rfl fk_X8_137 dX8_advance_119 rfl rfl (Nat.le_of_ble_eq_true rfl) (fun h => absurd h (by decide)) (fun M C F I K1 hC => ?_)
                have K := K.step K1 (by decide)
                have kq100_12 : C 100 12 = C0 100 12 := by rw [hC, pk_un (by decide)]; exact kq100_12
                have kq100_7 : C 100 7 = C0 100 7 := by rw [hC, pk_un (by decide)]; exact kq100_7
                have heg83_100 : C 100 8 = nI g83_100 := by rw [hC, pk_un (by decide)]; exact heg83_100
                have f129 : C 100 10 = 1 := by rw [hC]; exact pk_us
                refine g_goto X dX8_advance_122 (tgt := 239) (by decide) ?_
                exact g_vret X hrt dX8_advance_239 (by decide) (by decide) ⟨C, D, F, I, K, kq100_12, kq100_7, by rw [ea00, nI_toInt (by omega), heg83_100, nI_toInt (by omega)]; omega, (fun _ => by rw [ea00, nI_toInt (by omega), heg83_100, nI_toInt (by omega)]; omega)⟩
              · skip
                exact absurd hq (by decide)
            · skip
              have hatn127 : g83_100 + 1 ≤ 800 := by have z := (I 100 7 (by decide)).2; omega
              rw [kq100_7] at hltn127
              rw [(K 104 (by decide)).1] at hvn127
              refine g_i2l X dX8_advance_91 rfl ?_
              refine g_ldc2 X (v := 97) wd970 dX8_advance_92 ?_
              refine g_ldc2 X (v := 122) wd971 dX8_advance_95 ?_
              refine g_callSI X (s_X8_in l G F I ((Int32.toInt64 (nI n127))) (97 : Int64) (122 : Int64) ) lk_X8_94 rfl rfl dX8_advance_98 (Nat.le_of_ble_eq_true rfl) ⟨by decide, by decide⟩ ⟨by decide, by decide⟩ (fun r130 L M hp => ?_)
              obtain ⟨C, D, F, I, K1, hr⟩ := hp
              have K := K.step K1 (by decide)
              have kq100_12 : C 100 12 = C0 100 12 := (congrFun (K1 100 (by decide)).1 12).trans kq100_12
              have kq100_7 : C 100 7 = C0 100 7 := (congrFun (K1 100 (by decide)).1 7).trans kq100_7
              have heg83_100 : C 100 8 = nI g83_100 := (congrFun (K1 100 (by decide)).1 8).trans heg83_100
              rcases hr with ⟨rfl, hq131⟩ | ⟨rfl, hq131⟩
              · skip
                have hq131x := Jvm.Kit.i64_of_i32 (nI n127)
                rw [nI_toInt (by omega)] at hq131x
                have hq131l : (97 : Int64).toInt = 97 := (by decide)
                have hq131h : (122 : Int64).toInt = 122 := (by decide)
                refine g_if_eq X dX8_advance_101 (tgt := 117) (by decide) (fun _ => ?_) (fun q => absurd (by decide) q)
                have hgt : g0_100 < g83_100 := by
                  rcases Nat.lt_or_ge g0_100 g83_100 with h | h
                  · exact h
                  · exfalso
                    have eg : g83_100 = g0_100 := by omega
                    rw [eg] at hvn127; have z := (nI_eq (by omega) (by omega)).mp (hvn127.symm.trans hvn95); omega
                refine g_aload_n X dX8_advance_117 rfl (j := 1) rfl ?_
                refine g_iconst X dX8_advance_118 (v := 1) (by decide) ?_
                refine i_put X F I 100 rfl rfl rfl fk_X8_137 dX8_advance_119 rfl rfl (Nat.le_of_ble_eq_true rfl) (fun h => absurd h (by decide)) (fun M C F I K1 hC => ?_)
                have K := K.step K1 (by decide)
                have kq100_12 : C 100 12 = C0 100 12 := by rw [hC, pk_un (by decide)]; exact kq100_12
                have kq100_7 : C 100 7 = C0 100 7 := by rw [hC, pk_un (by decide)]; exact kq100_7
                have heg83_100 : C 100 8 = nI g83_100 := by rw [hC, pk_un (by decide)]; exact heg83_100
                have f132 : C 100 10 = 1 := by rw [hC]; exact pk_us
                refine g_goto X dX8_advance_122 (tgt := 239) (by decide) ?_
                exact g_vret X hrt dX8_advance_239 (by decide) (by decide) ⟨C, D, F, I, K, kq100_12, kq100_7, by rw [ea00, nI_toInt (by omega), heg83_100, nI_toInt (by omega)]; omega, (fun _ => by rw [ea00, nI_toInt (by omega), heg83_100, nI_toInt (by omega)]; omega)⟩
              · skip
                have hq131x := Jvm.Kit.i64_of_i32 (nI n127)
                rw [nI_toInt (by omega)] at hq131x
                have hq131l : (97 : Int64).toInt = 97 := (by decide)
                have hq131h : (122 : Int64).toInt = 122 := (by decide)
                refine g_if_eq X dX8_advance_101 (tgt := 117) (by decide) (fun q => absurd q (by decide)) (fun _ => ?_)
                refine g_aload_n X dX8_advance_104 rfl (j := 1) rfl ?_
                refine g_dup X dX8_advance_105 rfl ?_
                refine i_get X F 100 rfl rfl fk_X8_127 dX8_advance_106 (v := .int (nI g83_100)) (congrArg (fun z => some (Value.int z)) heg83_100) ?_
                refine g_iconst X dX8_advance_109 (v := 1) (by decide) ?_
                refine g_iadd X dX8_advance_110 ?_
                refine Go.top (v := .int (nI (g83_100 + 1))) (congrArg Value.int (nI_add g83_100 1)) ?_
                refine i_put X F I 100 rfl rfl rfl fk_X8_127 dX8_advance_111 rfl rfl (Nat.le_of_ble_eq_true rfl) (fun _ => (rg_of (n := (g83_100 + 1)) (by omega) (by omega) (by omega))) (fun M C F I K1 hC => ?_)
                have K := K.step K1 (by decide)
                have kq100_12 : C 100 12 = C0 100 12 := by rw [hC, pk_un (by decide)]; exact kq100_12
                have kq100_7 : C 100 7 = C0 100 7 := by rw [hC, pk_un (by decide)]; exact kq100_7
                have f133 : C 100 8 = nI (g83_100 + 1) := by rw [hC]; exact pk_us
                refine g_goto X dX8_advance_114 (tgt := 83) (by decide) ?_
                refine g_lv [0, 1] (lv2 := [(1, .int (nI n95)), (0, .ref (a 100))]) rfl ?_
                exact ih83 ((g83_100 + 1)) L M C D F I K ⟨f133, by omega, by omega, kq100_12, kq100_7, (by show a0 ≤ _; omega), (by show g0_100 ≤ _; omega)⟩ (by show _ < _; omega)
      · skip
        have hatn92 : g0_100 + 1 ≤ 800 := by have z := (I 100 7 (by decide)).2; omega
        rw [kq100_7] at hltn92
        rw [(K 104 (by decide)).1] at hvn92
        refine g_bipush X dX8_advance_21 (v := 10) (by decide) ?_
        refine g_icmp_ne X dX8_advance_23 (tgt := 39) (by decide) (fun q134 => ?_) (fun q134 => ?_)
        · skip
          have q134 : ¬ n92 = 10 := fun z => q134 ((nI_eq (a := n92) (b := 10) (by omega) (by omega)).mpr z)
          refine g_aload_n X dX8_advance_39 rfl (j := 0) rfl ?_
          refine g_aload_n X dX8_advance_40 rfl (j := 0) rfl ?_
          refine i_get X F 100 rfl rfl fk_X8_127 dX8_advance_41 (v := .int (nI g0_100)) (congrArg (fun z => some (Value.int z)) heg0_100) ?_
          refine i_put X F I 100 rfl rfl rfl fk_X8_134 dX8_advance_44 rfl rfl (Nat.le_of_ble_eq_true rfl) (fun _ => (rg_of (n := g0_100) (by omega) (by omega) (by omega))) (fun M C F I K1 hC => ?_)
          have K := K.step K1 (by decide)
          have kq100_12 : C 100 12 = C0 100 12 := by rw [hC, pk_un (by decide)]; exact kq100_12
          have kq100_7 : C 100 7 = C0 100 7 := by rw [hC, pk_un (by decide)]; exact kq100_7
          have heg0_100 : C 100 8 = nI g0_100 := by rw [hC, pk_un (by decide)]; exact heg0_100
          have f135 : C 100 9 = nI g0_100 := by rw [hC]; exact pk_us
          refine g_aload_n X dX8_advance_47 rfl (j := 0) rfl ?_
          refine g_aload_n X dX8_advance_48 rfl (j := 0) rfl ?_
          refine i_get X F 100 rfl rfl fk_X8_127 dX8_advance_49 (v := .int (nI g0_100)) (congrArg (fun z => some (Value.int z)) heg0_100) ?_
          refine g_callVI X (s_X8_see l G F I g0_100 (by omega) (by omega) ) lk_X8_130 (F.1 100 rfl).2 (F.1 100 rfl).1 rfl rfl dX8_advance_52 (Nat.le_of_ble_eq_true rfl) ⟨by decide, by decide⟩ ⟨by decide, by decide⟩ (fun r136 L M hp => ?_)
          obtain ⟨C, D, F, I, K1, hr⟩ := hp
          have K := K.step K1 (by decide)
          have kq100_12 : C 100 12 = C0 100 12 := (congrFun (K1 100 (by decide)).1 12).trans kq100_12
          have kq100_7 : C 100 7 = C0 100 7 := (congrFun (K1 100 (by decide)).1 7).trans kq100_7
          have heg0_100 : C 100 8 = nI g0_100 := (congrFun (K1 100 (by decide)).1 8).trans heg0_100
          have f135 : C 100 9 = nI g0_100 := (congrFun (K1 100 (by decide)).1 9).trans f135
          rcases hr with ⟨rfl, hgen137⟩ | ⟨hltn137, n137, hn137, hvn137, rfl⟩
          · skip
            rw [kq100_7] at hgen137
            refine g_istore_n X dX8_advance_55 rfl (by decide) (lv2 := [(1, .int (-1)), (0, .ref (a 100))]) rfl ?_
            refine g_iload_n X dX8_advance_56 rfl (j := 0) rfl ?_
            refine g_iconst X dX8_advance_57 (v := -1) (by decide) ?_
            refine g_icmp_ne X dX8_advance_58 (tgt := 69) (by decide) (fun q => absurd (by decide) q) (fun _ => ?_)
            refine g_aload_n X dX8_advance_61 rfl (j := 1) rfl ?_
            refine g_iconst X dX8_advance_62 (v := 0) (by decide) ?_
            refine i_put X F I 100 rfl rfl rfl fk_X8_137 dX8_advance_63 rfl rfl (Nat.le_of_ble_eq_true rfl) (fun h => absurd h (by decide)) (fun M C F I K1 hC => ?_)
            have K := K.step K1 (by decide)
            have kq100_12 : C 100 12 = C0 100 12 := by rw [hC, pk_un (by decide)]; exact kq100_12
            have kq100_7 : C 100 7 = C0 100 7 := by rw [hC, pk_un (by decide)]; exact kq100_7
            have heg0_100 : C 100 8 = nI g0_100 := by rw [hC, pk_un (by decide)]; exact heg0_100
            have f135 : C 100 9 = nI g0_100 := by rw [hC, pk_un (by decide)]; exact f135
            have f138 : C 100 10 = 0 := by rw [hC]; exact pk_us
            refine g_goto X dX8_advance_66 (tgt := 239) (by decide) ?_
            exact g_vret X hrt dX8_advance_239 (by decide) (by decide) ⟨C, D, F, I, K, kq100_12, kq100_7, by rw [ea00, nI_toInt (by omega), heg0_100, nI_toInt (by omega)]; omega, (fun z => absurd f138 z)⟩
          · skip
            have hatn137 : g0_100 + 1 ≤ 800 := by have z := (I 100 7 (by decide)).2; omega
            rw [kq100_7] at hltn137
            rw [(K 104 (by decide)).1] at hvn137
            refine g_istore_n X dX8_advance_55 rfl (by decide) (lv2 := [(1, .int (nI n137)), (0, .ref (a 100))]) rfl ?_
            refine g_iload_n X dX8_advance_56 rfl (j := 0) rfl ?_
            refine g_iconst X dX8_advance_57 (v := -1) (by decide) ?_
            refine g_icmp_ne X dX8_advance_58 (tgt := 69) (by decide) (fun _ => ?_) (fun q => absurd q (nI_nm1 (by omega)))
            refine g_iload_n X dX8_advance_69 rfl (j := 0) rfl ?_
            refine g_i2l X dX8_advance_70 rfl ?_
            refine g_ldc2 X (v := 97) wd970 dX8_advance_71 ?_
            refine g_ldc2 X (v := 122) wd971 dX8_advance_74 ?_
            refine g_callSI X (s_X8_in l G F I ((Int32.toInt64 (nI n137))) (97 : Int64) (122 : Int64) ) lk_X8_94 rfl rfl dX8_advance_77 (Nat.le_of_ble_eq_true rfl) ⟨by decide, by decide⟩ ⟨by decide, by decide⟩ (fun r140 L M hp => ?_)
            obtain ⟨C, D, F, I, K1, hr⟩ := hp
            have K := K.step K1 (by decide)
            have kq100_12 : C 100 12 = C0 100 12 := (congrFun (K1 100 (by decide)).1 12).trans kq100_12
            have kq100_7 : C 100 7 = C0 100 7 := (congrFun (K1 100 (by decide)).1 7).trans kq100_7
            have heg0_100 : C 100 8 = nI g0_100 := (congrFun (K1 100 (by decide)).1 8).trans heg0_100
            have f135 : C 100 9 = nI g0_100 := (congrFun (K1 100 (by decide)).1 9).trans f135
            rcases hr with ⟨rfl, hq141⟩ | ⟨rfl, hq141⟩
            · skip
              have hq141x := Jvm.Kit.i64_of_i32 (nI n137)
              rw [nI_toInt (by omega)] at hq141x
              have hq141l : (97 : Int64).toInt = 97 := (by decide)
              have hq141h : (122 : Int64).toInt = 122 := (by decide)
              refine g_if_eq X dX8_advance_80 (tgt := 125) (by decide) (fun _ => ?_) (fun q => absurd (by decide) q)
              refine g_iload_n X dX8_advance_125 rfl (j := 0) rfl ?_
              refine g_i2l X dX8_advance_126 rfl ?_
              refine g_ldc2 X (v := 48) wd972 dX8_advance_127 ?_
              refine g_ldc2 X (v := 57) wd973 dX8_advance_130 ?_
              refine g_callSI X (s_X8_in l G F I ((Int32.toInt64 (nI n137))) (48 : Int64) (57 : Int64) ) lk_X8_94 rfl rfl dX8_advance_133 (Nat.le_of_ble_eq_true rfl) ⟨by decide, by decide⟩ ⟨by decide, by decide⟩ (fun r142 L M hp => ?_)
              obtain ⟨C, D, F, I, K1, hr⟩ := hp
              have K := K.step K1 (by decide)
              have kq100_12 : C 100 12 = C0 100 12 := (congrFun (K1 100 (by decide)).1 12).trans kq100_12
              have kq100_7 : C 100 7 = C0 100 7 := (congrFun (K1 100 (by decide)).1 7).trans kq100_7
              have heg0_100 : C 100 8 = nI g0_100 := (congrFun (K1 100 (by decide)).1 8).trans heg0_100
              have f135 : C 100 9 = nI g0_100 := (congrFun (K1 100 (by decide)).1 9).trans f135
              rcases hr with ⟨rfl, hq143⟩ | ⟨rfl, hq143⟩
              · skip
                have hq143x := Jvm.Kit.i64_of_i32 (nI n137)
                rw [nI_toInt (by omega)] at hq143x
                have hq143l : (48 : Int64).toInt = 48 := (by decide)
                have hq143h : (57 : Int64).toInt = 57 := (by decide)
                refine g_if_eq X dX8_advance_136 (tgt := 214) (by decide) (fun _ => ?_) (fun q => absurd (by decide) q)
                refine g_aload_n X dX8_advance_214 rfl (j := 1) rfl ?_
                refine g_iload_n X dX8_advance_215 rfl (j := 0) rfl ?_
                refine g_bipush X dX8_advance_216 (v := 59) (by decide) ?_
                refine g_icmp_ne X dX8_advance_218 (tgt := 225) (by decide) (fun q144 => ?_) (fun q144 => ?_)
                · skip
                  have q144 : ¬ n137 = 59 := fun z => q144 ((nI_eq (a := n137) (b := 59) (by omega) (by omega)).mpr z)
                  refine g_iconst X dX8_advance_225 (v := 4) (by decide) ?_
                  refine i_put X F I 100 rfl rfl rfl fk_X8_137 dX8_advance_226 rfl rfl (Nat.le_of_ble_eq_true rfl) (fun h => absurd h (by decide)) (fun M C F I K1 hC => ?_)
                  have K := K.step K1 (by decide)
                  have kq100_12 : C 100 12 = C0 100 12 := by rw [hC, pk_un (by decide)]; exact kq100_12
                  have kq100_7 : C 100 7 = C0 100 7 := by rw [hC, pk_un (by decide)]; exact kq100_7
                  have heg0_100 : C 100 8 = nI g0_100 := by rw [hC, pk_un (by decide)]; exact heg0_100
                  have f135 : C 100 9 = nI g0_100 := by rw [hC, pk_un (by decide)]; exact f135
                  have f145 : C 100 10 = 4 := by rw [hC]; exact pk_us
                  refine g_aload_n X dX8_advance_229 rfl (j := 1) rfl ?_
                  refine g_dup X dX8_advance_230 rfl ?_
                  refine i_get X F 100 rfl rfl fk_X8_127 dX8_advance_231 (v := .int (nI g0_100)) (congrArg (fun z => some (Value.int z)) heg0_100) ?_
                  refine g_iconst X dX8_advance_234 (v := 1) (by decide) ?_
                  refine g_iadd X dX8_advance_235 ?_
                  refine Go.top (v := .int (nI (g0_100 + 1))) (congrArg Value.int (nI_add g0_100 1)) ?_
                  refine i_put X F I 100 rfl rfl rfl fk_X8_127 dX8_advance_236 rfl rfl (Nat.le_of_ble_eq_true rfl) (fun _ => (rg_of (n := (g0_100 + 1)) (by omega) (by omega) (by omega))) (fun M C F I K1 hC => ?_)
                  have K := K.step K1 (by decide)
                  have kq100_12 : C 100 12 = C0 100 12 := by rw [hC, pk_un (by decide)]; exact kq100_12
                  have kq100_7 : C 100 7 = C0 100 7 := by rw [hC, pk_un (by decide)]; exact kq100_7
                  have f135 : C 100 9 = nI g0_100 := by rw [hC, pk_un (by decide)]; exact f135
                  have f145 : C 100 10 = 4 := by rw [hC, pk_un (by decide)]; exact f145
                  have f146 : C 100 8 = nI (g0_100 + 1) := by rw [hC]; exact pk_us
                  exact g_vret X hrt dX8_advance_239 (by decide) (by decide) ⟨C, D, F, I, K, kq100_12, kq100_7, by rw [ea00, nI_toInt (by omega), f146, nI_toInt (by omega)]; omega, (fun _ => by rw [ea00, nI_toInt (by omega), f146, nI_toInt (by omega)]; omega)⟩
                · skip
                  have q144 : n137 = 59 := (nI_eq (a := n137) (b := 59) (by omega) (by omega)).mp q144
                  refine g_iconst X dX8_advance_221 (v := 3) (by decide) ?_
                  refine g_goto X dX8_advance_222 (tgt := 226) (by decide) ?_
                  refine i_put X F I 100 rfl rfl rfl fk_X8_137 dX8_advance_226 rfl rfl (Nat.le_of_ble_eq_true rfl) (fun h => absurd h (by decide)) (fun M C F I K1 hC => ?_)
                  have K := K.step K1 (by decide)
                  have kq100_12 : C 100 12 = C0 100 12 := by rw [hC, pk_un (by decide)]; exact kq100_12
                  have kq100_7 : C 100 7 = C0 100 7 := by rw [hC, pk_un (by decide)]; exact kq100_7
                  have heg0_100 : C 100 8 = nI g0_100 := by rw [hC, pk_un (by decide)]; exact heg0_100
                  have f135 : C 100 9 = nI g0_100 := by rw [hC, pk_un (by decide)]; exact f135
                  have f147 : C 100 10 = 3 := by rw [hC]; exact pk_us
                  refine g_aload_n X dX8_advance_229 rfl (j := 1) rfl ?_
                  refine g_dup X dX8_advance_230 rfl ?_
                  refine i_get X F 100 rfl rfl fk_X8_127 dX8_advance_231 (v := .int (nI g0_100)) (congrArg (fun z => some (Value.int z)) heg0_100) ?_
                  refine g_iconst X dX8_advance_234 (v := 1) (by decide) ?_
                  refine g_iadd X dX8_advance_235 ?_
                  refine Go.top (v := .int (nI (g0_100 + 1))) (congrArg Value.int (nI_add g0_100 1)) ?_
                  refine i_put X F I 100 rfl rfl rfl fk_X8_127 dX8_advance_236 rfl rfl (Nat.le_of_ble_eq_true rfl) (fun _ => (rg_of (n := (g0_100 + 1)) (by omega) (by omega) (by omega))) (fun M C F I K1 hC => ?_)
                  have K := K.step K1 (by decide)
                  have kq100_12 : C 100 12 = C0 100 12 := by rw [hC, pk_un (by decide)]; exact kq100_12
                  have kq100_7 : C 100 7 = C0 100 7 := by rw [hC, pk_un (by decide)]; exact kq100_7
                  have f135 : C 100 9 = nI g0_100 := by rw [hC, pk_un (by decide)]; exact f135
                  have f147 : C 100 10 = 3 := by rw [hC, pk_un (by decide)]; exact f147
                  have f148 : C 100 8 = nI (g0_100 + 1) := by rw [hC]; exact pk_us
                  exact g_vret X hrt dX8_advance_239 (by decide) (by decide) ⟨C, D, F, I, K, kq100_12, kq100_7, by rw [ea00, nI_toInt (by omega), f148, nI_toInt (by omega)]; omega, (fun _ => by rw [ea00, nI_toInt (by omega), f148, nI_toInt (by omega)]; omega)⟩
              · skip
                have hq143x := Jvm.Kit.i64_of_i32 (nI n137)
                rw [nI_toInt (by omega)] at hq143x
                have hq143l : (48 : Int64).toInt = 48 := (by decide)
                have hq143h : (57 : Int64).toInt = 57 := (by decide)
                refine g_if_eq X dX8_advance_136 (tgt := 214) (by decide) (fun q => absurd q (by decide)) (fun _ => ?_)
                refine g_aload_n X dX8_advance_139 rfl (j := 1) rfl ?_
                refine g_iconst X dX8_advance_140 (v := 0) (by decide) ?_
                refine i_put X F I 100 rfl rfl rfl fk_X8_148 dX8_advance_141 rfl rfl (Nat.le_of_ble_eq_true rfl) (fun h => absurd h (by decide)) (fun M C F I K1 hC => ?_)
                have K := K.step K1 (by decide)
                have kq100_12 : C 100 12 = C0 100 12 := by rw [hC, pk_un (by decide)]; exact kq100_12
                have kq100_7 : C 100 7 = C0 100 7 := by rw [hC, pk_un (by decide)]; exact kq100_7
                have heg0_100 : C 100 8 = nI g0_100 := by rw [hC, pk_un (by decide)]; exact heg0_100
                have f135 : C 100 9 = nI g0_100 := by rw [hC, pk_un (by decide)]; exact f135
                refine g_lv [0, 1] (lv2 := [(1, .int (nI n137)), (0, .ref (a 100))]) rfl ?_
                refine i_loop (mods := [100]) (fun x : Nat => 800 - x) (fun x => [(1, .int (nI n137)), (0, .ref (a 100))]) (fun x C => C 100 8 = nI (x) ∧ 0 ≤ x ∧ x ≤ 800 ∧ C 100 12 = C0 100 12 ∧ C 100 7 = C0 100 7 ∧ (a0 ≤ x) ∧ (g0_100 ≤ x)) (fun x L M C D F I K hP ih144 => ?_) ((g0_100) : Nat) F I K ⟨heg0_100, by show _ ≤ _; omega, by show _ ≤ _; omega, kq100_12, kq100_7, (by show a0 ≤ _; omega), (by show g0_100 ≤ _; omega)⟩
                obtain ⟨g144_100, rfl⟩ : ∃ z, z = x := ⟨_, rfl⟩
                obtain ⟨eg144_100, hg144_100a, hg144_100b, kq100_12, kq100_7, ha0, ha1⟩ := hP
                have heg144_100 : C 100 8 = nI g144_100 := eg144_100
                refine g_lv [0, 1] (lv2 := [(1, .int (nI n137)), (0, .ref (a 100))]) rfl ?_
                refine g_aload_n X dX8_advance_144 rfl (j := 1) rfl ?_
                refine g_aload_n X dX8_advance_145 rfl (j := 1) rfl ?_
                refine i_get X F 100 rfl rfl fk_X8_127 dX8_advance_146 (v := .int (nI g144_100)) (congrArg (fun z => some (Value.int z)) heg144_100) ?_
                refine g_callVI X (s_X8_see l G F I g144_100 (by omega) (by omega) ) lk_X8_130 (F.1 100 rfl).2 (F.1 100 rfl).1 rfl rfl dX8_advance_149 (Nat.le_of_ble_eq_true rfl) ⟨by decide, by decide⟩ ⟨by decide, by decide⟩ (fun r149 L M hp => ?_)
                obtain ⟨C, D, F, I, K1, hr⟩ := hp
                have K := K.step K1 (by decide)
                have kq100_12 : C 100 12 = C0 100 12 := (congrFun (K1 100 (by decide)).1 12).trans kq100_12
                have kq100_7 : C 100 7 = C0 100 7 := (congrFun (K1 100 (by decide)).1 7).trans kq100_7
                have heg144_100 : C 100 8 = nI g144_100 := (congrFun (K1 100 (by decide)).1 8).trans heg144_100
                rcases hr with ⟨rfl, hgen150⟩ | ⟨hltn150, n150, hn150, hvn150, rfl⟩
                · skip
                  rw [kq100_7] at hgen150
                  refine g_i2l X dX8_advance_152 rfl ?_
                  refine Go.top (v := .long (-1)) (by decide) ?_
                  refine g_ldc2 X (v := 48) wd972 dX8_advance_153 ?_
                  refine g_ldc2 X (v := 57) wd973 dX8_advance_156 ?_
                  refine g_callSI X (s_X8_in l G F I (-1 : Int64) (48 : Int64) (57 : Int64) ) lk_X8_94 rfl rfl dX8_advance_159 (Nat.le_of_ble_eq_true rfl) ⟨by decide, by decide⟩ ⟨by decide, by decide⟩ (fun r151 L M hp => ?_)
                  obtain ⟨C, D, F, I, K1, hr⟩ := hp
                  have K := K.step K1 (by decide)
                  have kq100_12 : C 100 12 = C0 100 12 := (congrFun (K1 100 (by decide)).1 12).trans kq100_12
                  have kq100_7 : C 100 7 = C0 100 7 := (congrFun (K1 100 (by decide)).1 7).trans kq100_7
                  have heg144_100 : C 100 8 = nI g144_100 := (congrFun (K1 100 (by decide)).1 8).trans heg144_100
                  rcases hr with ⟨rfl, hq⟩ | ⟨rfl, hq⟩
                  · skip
                    refine g_if_eq X dX8_advance_162 (tgt := 206) (by decide) (fun _ => ?_) (fun q => absurd (by decide) q)
                    have hgt : g0_100 < g144_100 := by
                      rcases Nat.lt_or_ge g0_100 g144_100 with h | h
                      · exact h
                      · exfalso
                        have eg : g144_100 = g0_100 := by omega
                        rw [eg] at hgen150; exact hgen150 hltn137
                    refine g_aload_n X dX8_advance_206 rfl (j := 1) rfl ?_
                    refine g_iconst X dX8_advance_207 (v := 2) (by decide) ?_
                    refine i_put X F I 100 rfl rfl rfl fk_X8_137 dX8_advance_208 rfl rfl (Nat.le_of_ble_eq_true rfl) (fun h => absurd h (by decide)) (fun M C F I K1 hC => ?_)
                    have K := K.step K1 (by decide)
                    have kq100_12 : C 100 12 = C0 100 12 := by rw [hC, pk_un (by decide)]; exact kq100_12
                    have kq100_7 : C 100 7 = C0 100 7 := by rw [hC, pk_un (by decide)]; exact kq100_7
                    have heg144_100 : C 100 8 = nI g144_100 := by rw [hC, pk_un (by decide)]; exact heg144_100
                    have f152 : C 100 10 = 2 := by rw [hC]; exact pk_us
                    refine g_goto X dX8_advance_211 (tgt := 239) (by decide) ?_
                    exact g_vret X hrt dX8_advance_239 (by decide) (by decide) ⟨C, D, F, I, K, kq100_12, kq100_7, by rw [ea00, nI_toInt (by omega), heg144_100, nI_toInt (by omega)]; omega, (fun _ => by rw [ea00, nI_toInt (by omega), heg144_100, nI_toInt (by omega)]; omega)⟩
                  · skip
                    exact absurd hq (by decide)
                · skip
                  have hatn150 : g144_100 + 1 ≤ 800 := by have z := (I 100 7 (by decide)).2; omega
                  rw [kq100_7] at hltn150
                  rw [(K 104 (by decide)).1] at hvn150
                  refine g_i2l X dX8_advance_152 rfl ?_
                  refine g_ldc2 X (v := 48) wd972 dX8_advance_153 ?_
                  refine g_ldc2 X (v := 57) wd973 dX8_advance_156 ?_
                  refine g_callSI X (s_X8_in l G F I ((Int32.toInt64 (nI n150))) (48 : Int64) (57 : Int64) ) lk_X8_94 rfl rfl dX8_advance_159 (Nat.le_of_ble_eq_true rfl) ⟨by decide, by decide⟩ ⟨by decide, by decide⟩ (fun r153 L M hp => ?_)
                  obtain ⟨C, D, F, I, K1, hr⟩ := hp
                  have K := K.step K1 (by decide)
                  have kq100_12 : C 100 12 = C0 100 12 := (congrFun (K1 100 (by decide)).1 12).trans kq100_12
                  have kq100_7 : C 100 7 = C0 100 7 := (congrFun (K1 100 (by decide)).1 7).trans kq100_7
                  have heg144_100 : C 100 8 = nI g144_100 := (congrFun (K1 100 (by decide)).1 8).trans heg144_100
                  rcases hr with ⟨rfl, hq154⟩ | ⟨rfl, hq154⟩
                  · skip
                    have hq154x := Jvm.Kit.i64_of_i32 (nI n150)
                    rw [nI_toInt (by omega)] at hq154x
                    have hq154l : (48 : Int64).toInt = 48 := (by decide)
                    have hq154h : (57 : Int64).toInt = 57 := (by decide)
                    refine g_if_eq X dX8_advance_162 (tgt := 206) (by decide) (fun _ => ?_) (fun q => absurd (by decide) q)
                    have hgt : g0_100 < g144_100 := by
                      rcases Nat.lt_or_ge g0_100 g144_100 with h | h
                      · exact h
                      · exfalso
                        have eg : g144_100 = g0_100 := by omega
                        rw [eg] at hvn150; have z := (nI_eq (by omega) (by omega)).mp (hvn150.symm.trans hvn137); omega
                    refine g_aload_n X dX8_advance_206 rfl (j := 1) rfl ?_
                    refine g_iconst X dX8_advance_207 (v := 2) (by decide) ?_
                    refine i_put X F I 100 rfl rfl rfl fk_X8_137 dX8_advance_208 rfl rfl (Nat.le_of_ble_eq_true rfl) (fun h => absurd h (by decide)) (fun M C F I K1 hC => ?_)
                    have K := K.step K1 (by decide)
                    have kq100_12 : C 100 12 = C0 100 12 := by rw [hC, pk_un (by decide)]; exact kq100_12
                    have kq100_7 : C 100 7 = C0 100 7 := by rw [hC, pk_un (by decide)]; exact kq100_7
                    have heg144_100 : C 100 8 = nI g144_100 := by rw [hC, pk_un (by decide)]; exact heg144_100
                    have f155 : C 100 10 = 2 := by rw [hC]; exact pk_us
                    refine g_goto X dX8_advance_211 (tgt := 239) (by decide) ?_
                    exact g_vret X hrt dX8_advance_239 (by decide) (by decide) ⟨C, D, F, I, K, kq100_12, kq100_7, by rw [ea00, nI_toInt (by omega), heg144_100, nI_toInt (by omega)]; omega, (fun _ => by rw [ea00, nI_toInt (by omega), heg144_100, nI_toInt (by omega)]; omega)⟩
                  · skip
                    have hq154x := Jvm.Kit.i64_of_i32 (nI n150)
                    rw [nI_toInt (by omega)] at hq154x
                    have hq154l : (48 : Int64).toInt = 48 := (by decide)
                    have hq154h : (57 : Int64).toInt = 57 := (by decide)
                    refine g_if_eq X dX8_advance_162 (tgt := 206) (by decide) (fun q => absurd q (by decide)) (fun _ => ?_)
                    refine g_aload_n X dX8_advance_165 rfl (j := 1) rfl ?_
                    refine g_ldc X (v := 99999) wd975 dX8_advance_166 ?_
                    refine g_bipush X dX8_advance_168 (v := 10) (by decide) ?_
                    refine g_aload_n X dX8_advance_170 rfl (j := 1) rfl ?_
                    refine i_get X F 100 rfl rfl fk_X8_148 dX8_advance_171 rfl ?_
                    refine Go.gen (fun o156 => ?_)
                    refine g_imul X dX8_advance_174 ?_
                    refine Go.gen (fun o157 => ?_)
                    refine g_aload_n X dX8_advance_175 rfl (j := 1) rfl ?_
                    refine g_aload_n X dX8_advance_176 rfl (j := 1) rfl ?_
                    refine i_get X F 100 rfl rfl fk_X8_127 dX8_advance_177 (v := .int (nI g144_100)) (congrArg (fun z => some (Value.int z)) heg144_100) ?_
                    refine g_callVI X (s_X8_see l G F I g144_100 (by omega) (by omega) ) lk_X8_130 (F.1 100 rfl).2 (F.1 100 rfl).1 rfl rfl dX8_advance_180 (Nat.le_of_ble_eq_true rfl) ⟨by decide, by decide⟩ ⟨by decide, by decide⟩ (fun r158 L M hp => ?_)
                    obtain ⟨C, D, F, I, K1, hr⟩ := hp
                    have K := K.step K1 (by decide)
                    have kq100_12 : C 100 12 = C0 100 12 := (congrFun (K1 100 (by decide)).1 12).trans kq100_12
                    have kq100_7 : C 100 7 = C0 100 7 := (congrFun (K1 100 (by decide)).1 7).trans kq100_7
                    have heg144_100 : C 100 8 = nI g144_100 := (congrFun (K1 100 (by decide)).1 8).trans heg144_100
                    rcases hr with ⟨rfl, hgen159⟩ | ⟨hltn159, n159, hn159, hvn159, rfl⟩
                    · skip
                      rw [kq100_7] at hgen159
                      refine g_iadd X dX8_advance_183 ?_
                      refine Go.gen (fun o160 => ?_)
                      refine g_bipush X dX8_advance_184 (v := 48) (by decide) ?_
                      refine g_isub X dX8_advance_186 ?_
                      refine Go.gen (fun o161 => ?_)
                      refine g_mmin X wd976 wd392 wd80 wd393 (by decide) (Nat.le_of_ble_eq_true rfl) (by decide) (by decide) dX8_advance_187 (fun o162 => ?_)
                      refine i_put X F I 100 rfl rfl rfl fk_X8_148 dX8_advance_190 rfl rfl (Nat.le_of_ble_eq_true rfl) (fun h => absurd h (by decide)) (fun M C F I K1 hC => ?_)
                      have K := K.step K1 (by decide)
                      have kq100_12 : C 100 12 = C0 100 12 := by rw [hC, pk_un (by decide)]; exact kq100_12
                      have kq100_7 : C 100 7 = C0 100 7 := by rw [hC, pk_un (by decide)]; exact kq100_7
                      have heg144_100 : C 100 8 = nI g144_100 := by rw [hC, pk_un (by decide)]; exact heg144_100
                      refine g_aload_n X dX8_advance_193 rfl (j := 1) rfl ?_
                      refine g_dup X dX8_advance_194 rfl ?_
                      refine i_get X F 100 rfl rfl fk_X8_127 dX8_advance_195 (v := .int (nI g144_100)) (congrArg (fun z => some (Value.int z)) heg144_100) ?_
                      refine g_iconst X dX8_advance_198 (v := 1) (by decide) ?_
                      refine g_iadd X dX8_advance_199 ?_
                      refine Go.top (v := .int (nI (g144_100 + 1))) (congrArg Value.int (nI_add g144_100 1)) ?_
                      refine i_put X F I 100 rfl rfl rfl fk_X8_127 dX8_advance_200 rfl rfl (Nat.le_of_ble_eq_true rfl) (fun _ => (rg_of (n := (g144_100 + 1)) (by omega) (by omega) (by omega))) (fun M C F I K1 hC => ?_)
                      have K := K.step K1 (by decide)
                      have kq100_12 : C 100 12 = C0 100 12 := by rw [hC, pk_un (by decide)]; exact kq100_12
                      have kq100_7 : C 100 7 = C0 100 7 := by rw [hC, pk_un (by decide)]; exact kq100_7
                      have f163 : C 100 8 = nI (g144_100 + 1) := by rw [hC]; exact pk_us
                      refine g_goto X dX8_advance_203 (tgt := 144) (by decide) ?_
                      refine g_lv [0, 1] (lv2 := [(1, .int (nI n137)), (0, .ref (a 100))]) rfl ?_
                      exact ih144 ((g144_100 + 1)) L M C D F I K ⟨f163, by omega, by omega, kq100_12, kq100_7, (by show a0 ≤ _; omega), (by show g0_100 ≤ _; omega)⟩ (by show _ < _; omega)
                    · skip
                      have hatn159 : g144_100 + 1 ≤ 800 := by have z := (I 100 7 (by decide)).2; omega
                      rw [kq100_7] at hltn159
                      rw [(K 104 (by decide)).1] at hvn159
                      refine g_iadd X dX8_advance_183 ?_
                      refine Go.gen (fun o164 => ?_)
                      refine g_bipush X dX8_advance_184 (v := 48) (by decide) ?_
                      refine g_isub X dX8_advance_186 ?_
                      refine Go.gen (fun o165 => ?_)
                      refine g_mmin X wd976 wd392 wd80 wd393 (by decide) (Nat.le_of_ble_eq_true rfl) (by decide) (by decide) dX8_advance_187 (fun o166 => ?_)
                      refine i_put X F I 100 rfl rfl rfl fk_X8_148 dX8_advance_190 rfl rfl (Nat.le_of_ble_eq_true rfl) (fun h => absurd h (by decide)) (fun M C F I K1 hC => ?_)
                      have K := K.step K1 (by decide)
                      have kq100_12 : C 100 12 = C0 100 12 := by rw [hC, pk_un (by decide)]; exact kq100_12
                      have kq100_7 : C 100 7 = C0 100 7 := by rw [hC, pk_un (by decide)]; exact kq100_7
                      have heg144_100 : C 100 8 = nI g144_100 := by rw [hC, pk_un (by decide)]; exact heg144_100
                      refine g_aload_n X dX8_advance_193 rfl (j := 1) rfl ?_
                      refine g_dup X dX8_advance_194 rfl ?_
                      refine i_get X F 100 rfl rfl fk_X8_127 dX8_advance_195 (v := .int (nI g144_100)) (congrArg (fun z => some (Value.int z)) heg144_100) ?_
                      refine g_iconst X dX8_advance_198 (v := 1) (by decide) ?_
                      refine g_iadd X dX8_advance_199 ?_
                      refine Go.top (v := .int (nI (g144_100 + 1))) (congrArg Value.int (nI_add g144_100 1)) ?_
                      refine i_put X F I 100 rfl rfl rfl fk_X8_127 dX8_advance_200 rfl rfl (Nat.le_of_ble_eq_true rfl) (fun _ => (rg_of (n := (g144_100 + 1)) (by omega) (by omega) (by omega))) (fun M C F I K1 hC => ?_)
                      have K := K.step K1 (by decide)
                      have kq100_12 : C 100 12 = C0 100 12 := by rw [hC, pk_un (by decide)]; exact kq100_12
                      have kq100_7 : C 100 7 = C0 100 7 := by rw [hC, pk_un (by decide)]; exact kq100_7
                      have f167 : C 100 8 = nI (g144_100 + 1) := by rw [hC]; exact pk_us
                      refine g_goto X dX8_advance_203 (tgt := 144) (by decide) ?_
                      refine g_lv [0, 1] (lv2 := [(1, .int (nI n137)), (0, .ref (a 100))]) rfl ?_
                      exact ih144 ((g144_100 + 1)) L M C D F I K ⟨f167, by omega, by omega, kq100_12, kq100_7, (by show a0 ≤ _; omega), (by show g0_100 ≤ _; omega)⟩ (by show _ < _; omega)
            · skip
              have hq141x := Jvm.Kit.i64_of_i32 (nI n137)
              rw [nI_toInt (by omega)] at hq141x
              have hq141l : (97 : Int64).toInt = 97 := (by decide)
              have hq141h : (122 : Int64).toInt = 122 := (by decide)
              refine g_if_eq X dX8_advance_80 (tgt := 125) (by decide) (fun q => absurd q (by decide)) (fun _ => ?_)
              refine g_lv [0, 1] (lv2 := [(1, .int (nI n137)), (0, .ref (a 100))]) rfl ?_
              refine i_loop (mods := [100]) (fun x : Nat => 800 - x) (fun x => [(1, .int (nI n137)), (0, .ref (a 100))]) (fun x C => C 100 8 = nI (x) ∧ 0 ≤ x ∧ x ≤ 800 ∧ C 100 12 = C0 100 12 ∧ C 100 7 = C0 100 7 ∧ (a0 ≤ x) ∧ (g0_100 ≤ x)) (fun x L M C D F I K hP ih83 => ?_) ((g0_100) : Nat) F I K ⟨heg0_100, by show _ ≤ _; omega, by show _ ≤ _; omega, kq100_12, kq100_7, (by show a0 ≤ _; omega), (by show g0_100 ≤ _; omega)⟩
              obtain ⟨g83_100, rfl⟩ : ∃ z, z = x := ⟨_, rfl⟩
              obtain ⟨eg83_100, hg83_100a, hg83_100b, kq100_12, kq100_7, ha0, ha1⟩ := hP
              have heg83_100 : C 100 8 = nI g83_100 := eg83_100
              refine g_lv [0, 1] (lv2 := [(1, .int (nI n137)), (0, .ref (a 100))]) rfl ?_
              refine g_aload_n X dX8_advance_83 rfl (j := 1) rfl ?_
              refine g_aload_n X dX8_advance_84 rfl (j := 1) rfl ?_
              refine i_get X F 100 rfl rfl fk_X8_127 dX8_advance_85 (v := .int (nI g83_100)) (congrArg (fun z => some (Value.int z)) heg83_100) ?_
              refine g_callVI X (s_X8_see l G F I g83_100 (by omega) (by omega) ) lk_X8_130 (F.1 100 rfl).2 (F.1 100 rfl).1 rfl rfl dX8_advance_88 (Nat.le_of_ble_eq_true rfl) ⟨by decide, by decide⟩ ⟨by decide, by decide⟩ (fun r168 L M hp => ?_)
              obtain ⟨C, D, F, I, K1, hr⟩ := hp
              have K := K.step K1 (by decide)
              have kq100_12 : C 100 12 = C0 100 12 := (congrFun (K1 100 (by decide)).1 12).trans kq100_12
              have kq100_7 : C 100 7 = C0 100 7 := (congrFun (K1 100 (by decide)).1 7).trans kq100_7
              have heg83_100 : C 100 8 = nI g83_100 := (congrFun (K1 100 (by decide)).1 8).trans heg83_100
              rcases hr with ⟨rfl, hgen169⟩ | ⟨hltn169, n169, hn169, hvn169, rfl⟩
              · skip
                rw [kq100_7] at hgen169
                refine g_i2l X dX8_advance_91 rfl ?_
                refine Go.top (v := .long (-1)) (by decide) ?_
                refine g_ldc2 X (v := 97) wd970 dX8_advance_92 ?_
                refine g_ldc2 X (v := 122) wd971 dX8_advance_95 ?_
                refine g_callSI X (s_X8_in l G F I (-1 : Int64) (97 : Int64) (122 : Int64) ) lk_X8_94 rfl rfl dX8_advance_98 (Nat.le_of_ble_eq_true rfl) ⟨by decide, by decide⟩ ⟨by decide, by decide⟩ (fun r170 L M hp => ?_)
                obtain ⟨C, D, F, I, K1, hr⟩ := hp
                have K := K.step K1 (by decide)
                have kq100_12 : C 100 12 = C0 100 12 := (congrFun (K1 100 (by decide)).1 12).trans kq100_12
                have kq100_7 : C 100 7 = C0 100 7 := (congrFun (K1 100 (by decide)).1 7).trans kq100_7
                have heg83_100 : C 100 8 = nI g83_100 := (congrFun (K1 100 (by decide)).1 8).trans heg83_100
                rcases hr with ⟨rfl, hq⟩ | ⟨rfl, hq⟩
                · skip
                  refine g_if_eq X dX8_advance_101 (tgt := 117) (by decide) (fun _ => ?_) (fun q => absurd (by decide) q)
                  have hgt : g0_100 < g83_100 := by
                    rcases Nat.lt_or_ge g0_100 g83_100 with h | h
                    · exact h
                    · exfalso
                      have eg : g83_100 = g0_100 := by omega
                      rw [eg] at hgen169; exact hgen169 hltn137
                  refine g_aload_n X dX8_advance_117 rfl (j := 1) rfl ?_
                  refine g_iconst X dX8_advance_118 (v := 1) (by decide) ?_
                  refine i_put X F I 100 rfl rfl rfl fk_X8_137 dX8_advance_119 rfl rfl (Nat.le_of_ble_eq_true rfl) (fun h => absurd h (by decide)) (fun M C F I K1 hC => ?_)
                  have K := K.step K1 (by decide)
                  have kq100_12 : C 100 12 = C0 100 12 := by rw [hC, pk_un (by decide)]; exact kq100_12
                  have kq100_7 : C 100 7 = C0 100 7 := by rw [hC, pk_un (by decide)]; exact kq100_7
                  have heg83_100 : C 100 8 = nI g83_100 := by rw [hC, pk_un (by decide)]; exact heg83_100
                  have f171 : C 100 10 = 1 := by rw [hC]; exact pk_us
                  refine g_goto X dX8_advance_122 (tgt := 239) (by decide) ?_
                  exact g_vret X hrt dX8_advance_239 (by decide) (by decide) ⟨C, D, F, I, K, kq100_12, kq100_7, by rw [ea00, nI_toInt (by omega), heg83_100, nI_toInt (by omega)]; omega, (fun _ => by rw [ea00, nI_toInt (by omega), heg83_100, nI_toInt (by omega)]; omega)⟩
                · skip
                  exact absurd hq (by decide)
              · skip
                have hatn169 : g83_100 + 1 ≤ 800 := by have z := (I 100 7 (by decide)).2; omega
                rw [kq100_7] at hltn169
                rw [(K 104 (by decide)).1] at hvn169
                refine g_i2l X dX8_advance_91 rfl ?_
                refine g_ldc2 X (v := 97) wd970 dX8_advance_92 ?_
                refine g_ldc2 X (v := 122) wd971 dX8_advance_95 ?_
                refine g_callSI X (s_X8_in l G F I ((Int32.toInt64 (nI n169))) (97 : Int64) (122 : Int64) ) lk_X8_94 rfl rfl dX8_advance_98 (Nat.le_of_ble_eq_true rfl) ⟨by decide, by decide⟩ ⟨by decide, by decide⟩ (fun r172 L M hp => ?_)
                obtain ⟨C, D, F, I, K1, hr⟩ := hp
                have K := K.step K1 (by decide)
                have kq100_12 : C 100 12 = C0 100 12 := (congrFun (K1 100 (by decide)).1 12).trans kq100_12
                have kq100_7 : C 100 7 = C0 100 7 := (congrFun (K1 100 (by decide)).1 7).trans kq100_7
                have heg83_100 : C 100 8 = nI g83_100 := (congrFun (K1 100 (by decide)).1 8).trans heg83_100
                rcases hr with ⟨rfl, hq173⟩ | ⟨rfl, hq173⟩
                · skip
                  have hq173x := Jvm.Kit.i64_of_i32 (nI n169)
                  rw [nI_toInt (by omega)] at hq173x
                  have hq173l : (97 : Int64).toInt = 97 := (by decide)
                  have hq173h : (122 : Int64).toInt = 122 := (by decide)
                  refine g_if_eq X dX8_advance_101 (tgt := 117) (by decide) (fun _ => ?_) (fun q => absurd (by decide) q)
                  have hgt : g0_100 < g83_100 := by
                    rcases Nat.lt_or_ge g0_100 g83_100 with h | h
                    · exact h
                    · exfalso
                      have eg : g83_100 = g0_100 := by omega
                      rw [eg] at hvn169; have z := (nI_eq (by omega) (by omega)).mp (hvn169.symm.trans hvn137); omega
                  refine g_aload_n X dX8_advance_117 rfl (j := 1) rfl ?_
                  refine g_iconst X dX8_advance_118 (v := 1) (by decide) ?_
                  refine i_put X F I 100 rfl rfl rfl fk_X8_137 dX8_advance_119 rfl rfl (Nat.le_of_ble_eq_true rfl) (fun h => absurd h (by decide)) (fun M C F I K1 hC => ?_)
                  have K := K.step K1 (by decide)
                  have kq100_12 : C 100 12 = C0 100 12 := by rw [hC, pk_un (by decide)]; exact kq100_12
                  have kq100_7 : C 100 7 = C0 100 7 := by rw [hC, pk_un (by decide)]; exact kq100_7
                  have heg83_100 : C 100 8 = nI g83_100 := by rw [hC, pk_un (by decide)]; exact heg83_100
                  have f174 : C 100 10 = 1 := by rw [hC]; exact pk_us
                  refine g_goto X dX8_advance_122 (tgt := 239) (by decide) ?_
                  exact g_vret X hrt dX8_advance_239 (by decide) (by decide) ⟨C, D, F, I, K, kq100_12, kq100_7, by rw [ea00, nI_toInt (by omega), heg83_100, nI_toInt (by omega)]; omega, (fun _ => by rw [ea00, nI_toInt (by omega), heg83_100, nI_toInt (by omega)]; omega)⟩
                · skip
                  have hq173x := Jvm.Kit.i64_of_i32 (nI n169)
                  rw [nI_toInt (by omega)] at hq173x
                  have hq173l : (97 : Int64).toInt = 97 := (by decide)
                  have hq173h : (122 : Int64).toInt = 122 := (by decide)
                  refine g_if_eq X dX8_advance_101 (tgt := 117) (by decide) (fun q => absurd q (by decide)) (fun _ => ?_)
                  refine g_aload_n X dX8_advance_104 rfl (j := 1) rfl ?_
                  refine g_dup X dX8_advance_105 rfl ?_
                  refine i_get X F 100 rfl rfl fk_X8_127 dX8_advance_106 (v := .int (nI g83_100)) (congrArg (fun z => some (Value.int z)) heg83_100) ?_
                  refine g_iconst X dX8_advance_109 (v := 1) (by decide) ?_
                  refine g_iadd X dX8_advance_110 ?_
                  refine Go.top (v := .int (nI (g83_100 + 1))) (congrArg Value.int (nI_add g83_100 1)) ?_
                  refine i_put X F I 100 rfl rfl rfl fk_X8_127 dX8_advance_111 rfl rfl (Nat.le_of_ble_eq_true rfl) (fun _ => (rg_of (n := (g83_100 + 1)) (by omega) (by omega) (by omega))) (fun M C F I K1 hC => ?_)
                  have K := K.step K1 (by decide)
                  have kq100_12 : C 100 12 = C0 100 12 := by rw [hC, pk_un (by decide)]; exact kq100_12
                  have kq100_7 : C 100 7 = C0 100 7 := by rw [hC, pk_un (by decide)]; exact kq100_7
                  have f175 : C 100 8 = nI (g83_100 + 1) := by rw [hC]; exact pk_us
                  refine g_goto X dX8_advance_114 (tgt := 83) (by decide) ?_
                  refine g_lv [0, 1] (lv2 := [(1, .int (nI n137)), (0, .ref (a 100))]) rfl ?_
                  exact ih83 ((g83_100 + 1)) L M C D F I K ⟨f175, by omega, by omega, kq100_12, kq100_7, (by show a0 ≤ _; omega), (by show g0_100 ≤ _; omega)⟩ (by show _ < _; omega)
        · skip
          have q134 : n92 = 10 := (nI_eq (a := n92) (b := 10) (by omega) (by omega)).mp q134
          refine g_aload_n X dX8_advance_26 rfl (j := 0) rfl ?_
          refine g_dup X dX8_advance_27 rfl ?_
          refine i_get X F 100 rfl rfl fk_X8_127 dX8_advance_28 (v := .int (nI g0_100)) (congrArg (fun z => some (Value.int z)) heg0_100) ?_
          refine g_iconst X dX8_advance_31 (v := 1) (by decide) ?_
          refine g_iadd X dX8_advance_32 ?_
          refine Go.top (v := .int (nI (g0_100 + 1))) (congrArg Value.int (nI_add g0_100 1)) ?_
          refine i_put X F I 100 rfl rfl rfl fk_X8_127 dX8_advance_33 rfl rfl (Nat.le_of_ble_eq_true rfl) (fun _ => (rg_of (n := (g0_100 + 1)) (by omega) (by omega) (by omega))) (fun M C F I K1 hC => ?_)
          have K := K.step K1 (by decide)
          have kq100_12 : C 100 12 = C0 100 12 := by rw [hC, pk_un (by decide)]; exact kq100_12
          have kq100_7 : C 100 7 = C0 100 7 := by rw [hC, pk_un (by decide)]; exact kq100_7
          have f176 : C 100 8 = nI (g0_100 + 1) := by rw [hC]; exact pk_us
          refine g_goto X dX8_advance_36 (tgt := 0) (by decide) ?_
          refine g_lv [0] (lv2 := [(0, .ref (a 100))]) rfl ?_
          exact ih0 ((g0_100 + 1)) L M C D F I K ⟨f176, by omega, by omega, kq100_12, kq100_7, (by show a0 ≤ _; omega)⟩ (by show _ < _; omega)
set_option maxHeartbeats 4000000 in
set_option maxRecDepth 100000 in
theorem s_X8_good (l : Launch) (G : va_G) {cy : Nat → ClassId} {L : List Nat} {M : Nat → va_E} {a : Nat → Nat} {act : Nat → Bool} {C0 : Nat → Nat → Int32} {D0 : Nat → Nat → Int64} {R : Nat → Nat → Option Nat} (F : WI L M a act (ent cy a C0 D0 R)) (I : Inv C0)   : MI l G cy yX8_good cX8_good 1 (some .boolean) 0 0 0 [.ref (a 100)] L M (fun r L2 M2 => ∃ C2 D2, WI L2 M2 a act (ent cy a C2 D2 R) ∧ Inv C2 ∧ Kp [] C0 D0 C2 D2 ∧ ((r = 0 ∧ ¬ C2 100 12 = 0) ∨ (r = 1 ∧ C2 100 12 = 0))) := by
  refine MI.of (own := RX8) rfl (by decide) (Nat.le_of_ble_eq_true rfl) ?_
  intro p e s m below meth c A X hrt hnm
  obtain ⟨C, D, hC0, hD0, F, I, K⟩ : ∃ C D, C = C0 ∧ D = D0 ∧ WI L M a act (ent cy a C D R) ∧ Inv C ∧ Kp [] C0 D0 C D := ⟨C0, D0, rfl, rfl, F, I, Kp.rf⟩
  obtain ⟨o1, eo1⟩ : ∃ z, C0 100 12 = z := ⟨_, rfl⟩
  refine g_aload_n X dX8_good_0 rfl (j := 0) rfl ?_
  refine i_get X F 100 rfl rfl fk_X8_158 dX8_good_1 (v := .int o1) (congrArg (fun z => some (Value.int z)) ((congrFun (K 100 (by decide)).1 12).trans eo1)) ?_
  refine g_if_ne X dX8_good_4 (tgt := 11) (by decide) (fun q2 => ?_) (fun q2 => ?_)
  · skip
    refine g_iconst X dX8_good_11 (v := 0) (by decide) ?_
    exact g_zret X hrt rfl dX8_good_12 (by decide) (by decide) ⟨C, D, F, I, K, Or.inl ⟨rfl, fun z => q2 (eo1.symm.trans ((congrFun (K 100 (by decide)).1 12).symm.trans z))⟩⟩
  · skip
    subst q2
    refine g_iconst X dX8_good_7 (v := 1) (by decide) ?_
    refine g_goto X dX8_good_8 (tgt := 12) (by decide) ?_
    exact g_zret X hrt rfl dX8_good_12 (by decide) (by decide) ⟨C, D, F, I, K, Or.inr ⟨rfl, (congrFun (K 100 (by decide)).1 12).trans eo1⟩⟩
set_option maxHeartbeats 4000000 in
set_option maxRecDepth 100000 in
theorem s_X8_errs (l : Launch) (G : va_G) {cy : Nat → ClassId} {L : List Nat} {M : Nat → va_E} {a : Nat → Nat} {act : Nat → Bool} {C0 : Nat → Nat → Int32} {D0 : Nat → Nat → Int64} {R : Nat → Nat → Option Nat} (F : WI L M a act (ent cy a C0 D0 R)) (I : Inv C0) (p0 : Int32) (hw : ¬ p0 = 0) : MV l G cy yX8_errs cX8_errs 2 none 1 0 0 [.ref (a 100), .int p0] L M (fun L2 M2 => ∃ C2 D2, WI L2 M2 a act (ent cy a C2 D2 R) ∧ Inv C2 ∧ Kp [100] C0 D0 C2 D2 ∧ ¬ C2 100 12 = 0 ∧ C2 100 8 = C0 100 8) := by
  refine MV.of (own := RX8) rfl (by decide) (Nat.le_of_ble_eq_true rfl) ?_
  intro p e s m below meth c A X hrt hnm
  obtain ⟨C, D, hC0, hD0, F, I, K⟩ : ∃ C D, C = C0 ∧ D = D0 ∧ WI L M a act (ent cy a C D R) ∧ Inv C ∧ Kp [100] C0 D0 C D := ⟨C0, D0, rfl, rfl, F, I, Kp.rf⟩
  have kq100_8 : C 100 8 = C0 100 8 := by rw [hC0]
  refine g_aload_n X dX8_errs_0 rfl (j := 0) rfl ?_
  refine g_callVI X (s_X8_good l G F I  ) lk_X8_161 (F.1 100 rfl).2 (F.1 100 rfl).1 rfl rfl dX8_errs_1 (Nat.le_of_ble_eq_true rfl) ⟨by decide, by decide⟩ ⟨by decide, by decide⟩ (fun r1 L M hp => ?_)
  obtain ⟨C, D, F, I, K1, hr⟩ := hp
  have K := K.step K1 (by decide)
  have kq100_8 : C 100 8 = C0 100 8 := (congrFun (K1 100 (by decide)).1 8).trans kq100_8
  rcases hr with ⟨rfl, hg2⟩ | ⟨rfl, hg2⟩
  · skip
    have hgd := hg2
    refine g_if_ne X dX8_errs_4 (tgt := 8) (by decide) (fun q => absurd (by decide) q) (fun _ => ?_)
    exact g_vret X hrt dX8_errs_7 (by decide) (by decide) ⟨C, D, F, I, K, hgd, kq100_8⟩
  · skip
    have hgd := hg2
    refine g_if_ne X dX8_errs_4 (tgt := 8) (by decide) (fun _ => ?_) (fun q => absurd q (by decide))
    refine g_aload_n X dX8_errs_8 rfl (j := 0) rfl ?_
    refine g_iload_n X dX8_errs_9 rfl (j := 1) rfl ?_
    refine i_put X F I 100 rfl rfl rfl fk_X8_158 dX8_errs_10 rfl rfl (Nat.le_of_ble_eq_true rfl) (fun h => absurd h (by decide)) (fun M C F I K1 hC => ?_)
    have K := K.step K1 (by decide)
    have kq100_8 : C 100 8 = C0 100 8 := by rw [hC, pk_un (by decide)]; exact kq100_8
    have f3 : C 100 12 = p0 := by rw [hC]; exact pk_us
    refine g_aload_n X dX8_errs_13 rfl (j := 0) rfl ?_
    refine g_aload_n X dX8_errs_14 rfl (j := 0) rfl ?_
    obtain ⟨n4, hn4, en4⟩ := rg_nat (I 100 9 (by decide)) (by decide)
    refine i_get X F 100 rfl rfl fk_X8_134 dX8_errs_15 (v := .int (nI n4)) (congrArg (fun z => some (Value.int z)) en4) ?_
    refine i_put X F I 100 rfl rfl rfl fk_X8_27 dX8_errs_18 rfl rfl (Nat.le_of_ble_eq_true rfl) (fun h => absurd h (by decide)) (fun M C F I K1 hC => ?_)
    have K := K.step K1 (by decide)
    have kq100_8 : C 100 8 = C0 100 8 := by rw [hC, pk_un (by decide)]; exact kq100_8
    have f3 : C 100 12 = p0 := by rw [hC, pk_un (by decide)]; exact f3
    exact g_vret X hrt dX8_errs_21 (by decide) (by decide) ⟨C, D, F, I, K, (fun z => hw (f3.symm.trans z)), kq100_8⟩
set_option maxHeartbeats 4000000 in
set_option maxRecDepth 100000 in
theorem s_X8_is (l : Launch) (G : va_G) {cy : Nat → ClassId} {L : List Nat} {M : Nat → va_E} {a : Nat → Nat} {act : Nat → Bool} {C0 : Nat → Nat → Int32} {D0 : Nat → Nat → Int64} {R : Nat → Nat → Option Nat} (F : WI L M a act (ent cy a C0 D0 R)) (I : Inv C0) (p0 : Nat) (hp0 : p0 < 26)  : MI l G cy yX8_is cX8_is 4 (some .boolean) 4 0 0 [.ref (a 100), .ref (G.2 1000 p0)] L M (fun r L2 M2 => ∃ C2 D2, WI L2 M2 a act (ent cy a C2 D2 R) ∧ Inv C2 ∧ Kp [] C0 D0 C2 D2 ∧ ((r = 1 ∧ IsW p0 (C2 100) (C2 104)) ∨ (r = 0 ∧ ¬ IsW p0 (C2 100) (C2 104)))) := by
  refine MI.of (own := RX8) rfl (by decide) (Nat.le_of_ble_eq_true rfl) ?_
  intro p e s m below meth c A X hrt hnm
  obtain ⟨C, D, hC0, hD0, F, I, K⟩ : ∃ C D, C = C0 ∧ D = D0 ∧ WI L M a act (ent cy a C D R) ∧ Inv C ∧ Kp [] C0 D0 C D := ⟨C0, D0, rfl, rfl, F, I, Kp.rf⟩
  obtain ⟨n1, hn1, en1⟩ := rg_nat (I 100 8 (by decide)) (by decide)
  rw [hC0] at en1
  obtain ⟨n2, hn2, en2⟩ := rg_nat (I 100 9 (by decide)) (by decide)
  rw [hC0] at en2
  obtain ⟨o3, eo3⟩ : ∃ z, C0 100 10 = z := ⟨_, rfl⟩
  obtain ⟨FROM, hFROM⟩ : ∃ z, z = n2 := ⟨_, rfl⟩
  subst hFROM
  refine g_aload_n X dX8_is_0 rfl (j := 0) rfl ?_
  refine g_callVI X (s_X8_good l G F I  ) lk_X8_161 (F.1 100 rfl).2 (F.1 100 rfl).1 rfl rfl dX8_is_1 (Nat.le_of_ble_eq_true rfl) ⟨by decide, by decide⟩ ⟨by decide, by decide⟩ (fun r4 L M hp => ?_)
  obtain ⟨C, D, F, I, K1, hr⟩ := hp
  have K := K.step K1 (by decide)
  rcases hr with ⟨rfl, hg5⟩ | ⟨rfl, hg5⟩
  · skip
    have hgd := hg5
    refine g_if_eq X dX8_is_4 (tgt := 35) (by decide) (fun _ => ?_) (fun q => absurd (by decide) q)
    have hnw : ¬ IsW p0 (C0 100) (C0 104) := fun w => hgd ((congrFun (K 100 (by decide)).1 12).trans w.1)
    refine g_iconst X dX8_is_35 (v := 0) (by decide) ?_
    refine g_istore_n X dX8_is_36 rfl (by decide) (lv2 := [(2, .int 0), (0, .ref (a 100)), (1, .ref (G.2 1000 p0))]) rfl ?_
    refine g_iconst X dX8_is_37 (v := 0) (by decide) ?_
    refine g_istore_n X dX8_is_38 rfl (by decide) (lv2 := [(3, .int 0), (2, .int 0), (0, .ref (a 100)), (1, .ref (G.2 1000 p0))]) rfl ?_
    refine g_iload_n X dX8_is_39 rfl (j := 0) rfl ?_
    refine g_aload_n X dX8_is_40 rfl (j := 3) rfl ?_
    refine g_callT X hp0 (s_J0_length_8abf5 l G F I p0 hp0 ) rfl wd981 wd410 wd411 wd357 wd412 pl_J0_length_8abf5 rfl rfl dX8_is_41 (Nat.le_of_ble_eq_true rfl) ⟨by decide, by decide⟩ ⟨by decide, by decide⟩ (fun r6 L M hp => ?_)
    obtain ⟨C, D, F, I, K1, hr⟩ := hp
    have K := K.step K1 (by decide)
    have hgd : ¬ C 100 12 = 0 := by rw [(K1 100 (by decide)).1]; exact hgd
    obtain ⟨n7, hn7, enn7, rfl⟩ := hr
    refine g_icmp_ge X dX8_is_44 (tgt := 82) (by decide) (fun q8 => ?_) (fun q8 => ?_)
    · skip
      have q8 : n7 ≤ 0 := (nI_leI (a := n7) (b := 0) (by omega) (by omega)).mp q8
      refine g_iload_n X dX8_is_82 rfl (j := 1) rfl ?_
      exact g_zret X hrt rfl dX8_is_83 (by decide) (by decide) ⟨C, D, F, I, K, Or.inr ⟨rfl, by rw [(K 100 (by decide)).1, (K 104 (by decide)).1]; exact hnw⟩⟩
    · skip
      have q8 : ¬ n7 ≤ 0 := fun z => q8 ((nI_leI (a := n7) (b := 0) (by omega) (by omega)).mpr z)
      refine g_iload_n X dX8_is_47 rfl (j := 1) rfl ?_
      refine g_if_eq X dX8_is_48 (tgt := 82) (by decide) (fun _ => ?_) (fun q => absurd (by decide) q)
      refine g_iload_n X dX8_is_82 rfl (j := 1) rfl ?_
      exact g_zret X hrt rfl dX8_is_83 (by decide) (by decide) ⟨C, D, F, I, K, Or.inr ⟨rfl, by rw [(K 100 (by decide)).1, (K 104 (by decide)).1]; exact hnw⟩⟩
  · skip
    have hgd := hg5
    refine g_if_eq X dX8_is_4 (tgt := 35) (by decide) (fun q => absurd q (by decide)) (fun _ => ?_)
    refine g_aload_n X dX8_is_7 rfl (j := 0) rfl ?_
    refine i_get X F 100 rfl rfl fk_X8_137 dX8_is_8 (v := .int o3) (congrArg (fun z => some (Value.int z)) ((congrFun (K 100 (by decide)).1 10).trans eo3)) ?_
    refine g_iconst X dX8_is_11 (v := 1) (by decide) ?_
    refine g_icmp_ne X dX8_is_12 (tgt := 35) (by decide) (fun q9 => ?_) (fun q9 => ?_)
    · skip
      have hnw : ¬ IsW p0 (C0 100) (C0 104) := fun w => q9 (eo3.symm.trans w.2.1)
      refine g_iconst X dX8_is_35 (v := 0) (by decide) ?_
      refine g_istore_n X dX8_is_36 rfl (by decide) (lv2 := [(2, .int 0), (0, .ref (a 100)), (1, .ref (G.2 1000 p0))]) rfl ?_
      refine g_iconst X dX8_is_37 (v := 0) (by decide) ?_
      refine g_istore_n X dX8_is_38 rfl (by decide) (lv2 := [(3, .int 0), (2, .int 0), (0, .ref (a 100)), (1, .ref (G.2 1000 p0))]) rfl ?_
      refine g_iload_n X dX8_is_39 rfl (j := 0) rfl ?_
      refine g_aload_n X dX8_is_40 rfl (j := 3) rfl ?_
      refine g_callT X hp0 (s_J0_length_8abf5 l G F I p0 hp0 ) rfl wd981 wd410 wd411 wd357 wd412 pl_J0_length_8abf5 rfl rfl dX8_is_41 (Nat.le_of_ble_eq_true rfl) ⟨by decide, by decide⟩ ⟨by decide, by decide⟩ (fun r10 L M hp => ?_)
      obtain ⟨C, D, F, I, K1, hr⟩ := hp
      have K := K.step K1 (by decide)
      have hgd : C 100 12 = 0 := by rw [(K1 100 (by decide)).1]; exact hgd
      obtain ⟨n11, hn11, enn11, rfl⟩ := hr
      refine g_icmp_ge X dX8_is_44 (tgt := 82) (by decide) (fun q12 => ?_) (fun q12 => ?_)
      · skip
        have q12 : n11 ≤ 0 := (nI_leI (a := n11) (b := 0) (by omega) (by omega)).mp q12
        refine g_iload_n X dX8_is_82 rfl (j := 1) rfl ?_
        exact g_zret X hrt rfl dX8_is_83 (by decide) (by decide) ⟨C, D, F, I, K, Or.inr ⟨rfl, by rw [(K 100 (by decide)).1, (K 104 (by decide)).1]; exact hnw⟩⟩
      · skip
        have q12 : ¬ n11 ≤ 0 := fun z => q12 ((nI_leI (a := n11) (b := 0) (by omega) (by omega)).mpr z)
        refine g_iload_n X dX8_is_47 rfl (j := 1) rfl ?_
        refine g_if_eq X dX8_is_48 (tgt := 82) (by decide) (fun _ => ?_) (fun q => absurd (by decide) q)
        refine g_iload_n X dX8_is_82 rfl (j := 1) rfl ?_
        exact g_zret X hrt rfl dX8_is_83 (by decide) (by decide) ⟨C, D, F, I, K, Or.inr ⟨rfl, by rw [(K 100 (by decide)).1, (K 104 (by decide)).1]; exact hnw⟩⟩
    · skip
      subst q9
      refine g_aload_n X dX8_is_15 rfl (j := 0) rfl ?_
      refine i_get X F 100 rfl rfl fk_X8_127 dX8_is_16 (v := .int (nI n1)) (congrArg (fun z => some (Value.int z)) ((congrFun (K 100 (by decide)).1 8).trans en1)) ?_
      refine g_aload_n X dX8_is_19 rfl (j := 0) rfl ?_
      refine i_get X F 100 rfl rfl fk_X8_134 dX8_is_20 (v := .int (nI FROM)) (congrArg (fun z => some (Value.int z)) ((congrFun (K 100 (by decide)).1 9).trans en2)) ?_
      refine g_isub X dX8_is_23 ?_
      refine g_aload_n X dX8_is_24 rfl (j := 1) rfl ?_
      refine g_callT X hp0 (s_J0_length_8abf5 l G F I p0 hp0 ) rfl wd981 wd410 wd411 wd357 wd412 pl_J0_length_8abf5 rfl rfl dX8_is_25 (Nat.le_of_ble_eq_true rfl) ⟨by decide, by decide⟩ ⟨by decide, by decide⟩ (fun r13 L M hp => ?_)
      obtain ⟨C, D, F, I, K1, hr⟩ := hp
      have K := K.step K1 (by decide)
      have hgd : C 100 12 = 0 := by rw [(K1 100 (by decide)).1]; exact hgd
      obtain ⟨n14, hn14, enn14, rfl⟩ := hr
      refine g_icmp_ne X dX8_is_28 (tgt := 35) (by decide) (fun q15 => ?_) (fun q15 => ?_)
      · skip
        have hnw : ¬ IsW p0 (C0 100) (C0 104) := fun w => q15 (by have z := w.2.2.1; rw [en1, en2] at z; rw [enn14]; exact z)
        refine g_iconst X dX8_is_35 (v := 0) (by decide) ?_
        refine g_istore_n X dX8_is_36 rfl (by decide) (lv2 := [(2, .int 0), (0, .ref (a 100)), (1, .ref (G.2 1000 p0))]) rfl ?_
        refine g_iconst X dX8_is_37 (v := 0) (by decide) ?_
        refine g_istore_n X dX8_is_38 rfl (by decide) (lv2 := [(3, .int 0), (2, .int 0), (0, .ref (a 100)), (1, .ref (G.2 1000 p0))]) rfl ?_
        refine g_iload_n X dX8_is_39 rfl (j := 0) rfl ?_
        refine g_aload_n X dX8_is_40 rfl (j := 3) rfl ?_
        refine g_callT X hp0 (s_J0_length_8abf5 l G F I p0 hp0 ) rfl wd981 wd410 wd411 wd357 wd412 pl_J0_length_8abf5 rfl rfl dX8_is_41 (Nat.le_of_ble_eq_true rfl) ⟨by decide, by decide⟩ ⟨by decide, by decide⟩ (fun r16 L M hp => ?_)
        obtain ⟨C, D, F, I, K1, hr⟩ := hp
        have K := K.step K1 (by decide)
        have hgd : C 100 12 = 0 := by rw [(K1 100 (by decide)).1]; exact hgd
        obtain ⟨n17, hn17, enn17, rfl⟩ := hr
        refine g_icmp_ge X dX8_is_44 (tgt := 82) (by decide) (fun q18 => ?_) (fun q18 => ?_)
        · skip
          have q18 : n17 ≤ 0 := (nI_leI (a := n17) (b := 0) (by omega) (by omega)).mp q18
          refine g_iload_n X dX8_is_82 rfl (j := 1) rfl ?_
          exact g_zret X hrt rfl dX8_is_83 (by decide) (by decide) ⟨C, D, F, I, K, Or.inr ⟨rfl, by rw [(K 100 (by decide)).1, (K 104 (by decide)).1]; exact hnw⟩⟩
        · skip
          have q18 : ¬ n17 ≤ 0 := fun z => q18 ((nI_leI (a := n17) (b := 0) (by omega) (by omega)).mpr z)
          refine g_iload_n X dX8_is_47 rfl (j := 1) rfl ?_
          refine g_if_eq X dX8_is_48 (tgt := 82) (by decide) (fun _ => ?_) (fun q => absurd (by decide) q)
          refine g_iload_n X dX8_is_82 rfl (j := 1) rfl ?_
          exact g_zret X hrt rfl dX8_is_83 (by decide) (by decide) ⟨C, D, F, I, K, Or.inr ⟨rfl, by rw [(K 100 (by decide)).1, (K 104 (by decide)).1]; exact hnw⟩⟩
      · skip
        have hg0 : C0 100 12 = 0 := (congrFun (K 100 (by decide)).1 12).symm.trans hgd
        have hsub := nI_sub_eq (by omega) (by omega) (by omega) q15
        have hsubq := q15
        refine g_iconst X dX8_is_31 (v := 1) (by decide) ?_
        refine g_goto X dX8_is_32 (tgt := 36) (by decide) ?_
        refine g_istore_n X dX8_is_36 rfl (by decide) (lv2 := [(2, .int 1), (0, .ref (a 100)), (1, .ref (G.2 1000 p0))]) rfl ?_
        refine g_iconst X dX8_is_37 (v := 0) (by decide) ?_
        refine g_istore_n X dX8_is_38 rfl (by decide) (lv2 := [(3, .int 0), (2, .int 1), (0, .ref (a 100)), (1, .ref (G.2 1000 p0))]) rfl ?_
        refine g_lv [0, 1, 2, 3] (lv2 := [(3, .int 0), (2, .int 1), (0, .ref (a 100)), (1, .ref (G.2 1000 p0))]) rfl ?_
        refine i_loop (mods := []) (fun x : Nat × Int32 => 6 - x.1) (fun x => [(3, .int (nI (x.1))), (2, .int (x.2)), (0, .ref (a 100)), (1, .ref (G.2 1000 p0))]) (fun x C => 0 ≤ x.1 ∧ x.1 ≤ 6 ∧ ((x.2 = 1 ∧ ∀ j, j < x.1 → C0 104 (FROM + j) = chK p0 j) ∨ (x.2 = 0 ∧ ¬ IsW p0 (C0 100) (C0 104)))) (fun x L M C D F I K hP ih39 => ?_) ((0, 1) : Nat × Int32) F I K ⟨by show _ ≤ _; omega, by show _ ≤ _; omega, (Or.inl ⟨rfl, fun j hj => absurd hj (Nat.not_lt_zero _)⟩)⟩
        rcases x with ⟨i39_3, v39_2⟩
        obtain ⟨hi39_3a, hi39_3b, hb⟩ := hP
        try dsimp only at hb
        refine g_lv [0, 1, 2, 3] (lv2 := [(3, .int (nI i39_3)), (2, .int v39_2), (0, .ref (a 100)), (1, .ref (G.2 1000 p0))]) rfl ?_
        refine g_iload_n X dX8_is_39 rfl (j := 0) rfl ?_
        refine g_aload_n X dX8_is_40 rfl (j := 3) rfl ?_
        refine g_callT X hp0 (s_J0_length_8abf5 l G F I p0 hp0 ) rfl wd981 wd410 wd411 wd357 wd412 pl_J0_length_8abf5 rfl rfl dX8_is_41 (Nat.le_of_ble_eq_true rfl) ⟨by decide, by decide⟩ ⟨by decide, by decide⟩ (fun r19 L M hp => ?_)
        obtain ⟨C, D, F, I, K1, hr⟩ := hp
        have K := K.step K1 (by decide)
        obtain ⟨n20, hn20, enn20, rfl⟩ := hr
        refine g_icmp_ge X dX8_is_44 (tgt := 82) (by decide) (fun q21 => ?_) (fun q21 => ?_)
        · skip
          have q21 : n20 ≤ i39_3 := (nI_leI (a := n20) (b := i39_3) (by omega) (by omega)).mp q21
          rcases hb with ⟨hv1, hal⟩ | ⟨hv0, hnw⟩
          · skip
            subst hv1
            have hyw : IsW p0 (C0 100) (C0 104) := ⟨hg0, eo3, by rw [en1, en2, ← enn14]; exact hsubq, fun j hj => by rw [en2, nI_toInt (by omega), Int.toNat_natCast]; exact hal j (by omega)⟩
            refine g_iload_n X dX8_is_82 rfl (j := 1) rfl ?_
            exact g_zret X hrt rfl dX8_is_83 (by decide) (by decide) ⟨C, D, F, I, K, Or.inl ⟨rfl, by rw [(K 100 (by decide)).1, (K 104 (by decide)).1]; exact hyw⟩⟩
          · skip
            subst hv0
            refine g_iload_n X dX8_is_82 rfl (j := 1) rfl ?_
            exact g_zret X hrt rfl dX8_is_83 (by decide) (by decide) ⟨C, D, F, I, K, Or.inr ⟨rfl, by rw [(K 100 (by decide)).1, (K 104 (by decide)).1]; exact hnw⟩⟩
        · skip
          have q21 : ¬ n20 ≤ i39_3 := fun z => q21 ((nI_leI (a := n20) (b := i39_3) (by omega) (by omega)).mpr z)
          refine g_iload_n X dX8_is_47 rfl (j := 1) rfl ?_
          refine g_if_eq X dX8_is_48 (tgt := 82) (by decide) (fun q22 => ?_) (fun q22 => ?_)
          · skip
            subst q22
            rcases hb with ⟨hv1, hal⟩ | ⟨hv0, hnw⟩
            · skip
              exact absurd hv1 (by decide)
            · skip
              refine g_iload_n X dX8_is_82 rfl (j := 1) rfl ?_
              exact g_zret X hrt rfl dX8_is_83 (by decide) (by decide) ⟨C, D, F, I, K, Or.inr ⟨rfl, by rw [(K 100 (by decide)).1, (K 104 (by decide)).1]; exact hnw⟩⟩
          · skip
            have hal := (hb.resolve_right (fun z => q22 z.1)).2
            refine g_aload_n X dX8_is_51 rfl (j := 2) rfl ?_
            refine i_get X F 100 rfl rfl fk_X8_20 dX8_is_52 rfl ?_
            refine g_aload_n X dX8_is_55 rfl (j := 2) rfl ?_
            refine i_get X F 100 rfl rfl fk_X8_134 dX8_is_56 (v := .int (nI FROM)) (congrArg (fun z => some (Value.int z)) ((congrFun (K 100 (by decide)).1 9).trans en2)) ?_
            refine g_iload_n X dX8_is_59 rfl (j := 0) rfl ?_
            refine g_iadd X dX8_is_60 ?_
            refine Go.top (v := .int (nI (FROM + i39_3))) (congrArg Value.int (nI_add FROM i39_3)) ?_
            obtain ⟨o23, eo23⟩ : ∃ z, C 104 (FROM + i39_3) = z := ⟨_, rfl⟩
            refine i_bald X F 104 rfl rfl dX8_is_61 (vp_in_nI (by omega) (by decide)) (v := o23) (by rw [nI_clamp (by omega)]; exact eo23) ?_
            rw [(K 104 (by decide)).1] at eo23
            refine g_aload_n X dX8_is_62 rfl (j := 3) rfl ?_
            refine g_iload_n X dX8_is_63 rfl (j := 0) rfl ?_
            refine g_callT X hp0 (s_J0_charAt_5068e_v l G F I p0 hp0 i39_3 (by omega) (by omega) (by omega)) rfl wd982 wd414 wd415 wd357 wd416 pl_J0_charAt_5068e rfl rfl dX8_is_64 (Nat.le_of_ble_eq_true rfl) ⟨by decide, by decide⟩ ⟨by decide, by decide⟩ (fun r24 L M hp => ?_)
            obtain ⟨C, D, F, I, K1, hr⟩ := hp
            have K := K.step K1 (by decide)
            obtain ⟨hnarr24, hchr24⟩ := hr
            refine g_icmp_ne X dX8_is_67 (tgt := 74) (by decide) (fun q25 => ?_) (fun q25 => ?_)
            · skip
              have hbn : ((0 : Int32) = 1 ∧ ∀ j, j < (i39_3 + 1) → C0 104 (FROM + j) = chK p0 j) ∨ ((0 : Int32) = 0 ∧ ¬ IsW p0 (C0 100) (C0 104)) := Or.inr ⟨rfl, fun w => q25 (by have z := w.2.2.2 i39_3 (by omega); rw [en2, nI_toInt (by omega), Int.toNat_natCast] at z; rw [eo23] at z; rw [hchr24]; exact z)⟩
              refine g_iconst X dX8_is_74 (v := 0) (by decide) ?_
              refine g_istore_n X dX8_is_75 rfl (by decide) (lv2 := [(2, .int 0), (3, .int (nI i39_3)), (0, .ref (a 100)), (1, .ref (G.2 1000 p0))]) rfl ?_
              refine g_iinc X dX8_is_76 (j := 1) rfl (v := nI (i39_3 + 1)) (nI_1 i39_3) (by decide) (lv2 := [(3, .int (nI (i39_3 + 1))), (2, .int 0), (0, .ref (a 100)), (1, .ref (G.2 1000 p0))]) rfl ?_
              refine g_goto X dX8_is_79 (tgt := 39) (by decide) ?_
              refine g_lv [0, 1, 2, 3] (lv2 := [(3, .int (nI (i39_3 + 1))), (2, .int 0), (0, .ref (a 100)), (1, .ref (G.2 1000 p0))]) rfl ?_
              exact ih39 ((i39_3 + 1), 0) L M C D F I K ⟨by omega, by omega, hbn⟩ (by show _ < _; omega)
            · skip
              have hbn : ((1 : Int32) = 1 ∧ ∀ j, j < (i39_3 + 1) → C0 104 (FROM + j) = chK p0 j) ∨ ((1 : Int32) = 0 ∧ ¬ IsW p0 (C0 100) (C0 104)) := Or.inl ⟨rfl, fun j hj => (Nat.lt_or_ge j i39_3).elim (fun h => hal j h) (fun h => by have ej : j = i39_3 := (by omega); rw [ej, eo23, q25]; exact hchr24)⟩
              refine g_iconst X dX8_is_70 (v := 1) (by decide) ?_
              refine g_goto X dX8_is_71 (tgt := 75) (by decide) ?_
              refine g_istore_n X dX8_is_75 rfl (by decide) (lv2 := [(2, .int 1), (3, .int (nI i39_3)), (0, .ref (a 100)), (1, .ref (G.2 1000 p0))]) rfl ?_
              refine g_iinc X dX8_is_76 (j := 1) rfl (v := nI (i39_3 + 1)) (nI_1 i39_3) (by decide) (lv2 := [(3, .int (nI (i39_3 + 1))), (2, .int 1), (0, .ref (a 100)), (1, .ref (G.2 1000 p0))]) rfl ?_
              refine g_goto X dX8_is_79 (tgt := 39) (by decide) ?_
              refine g_lv [0, 1, 2, 3] (lv2 := [(3, .int (nI (i39_3 + 1))), (2, .int 1), (0, .ref (a 100)), (1, .ref (G.2 1000 p0))]) rfl ?_
              exact ih39 ((i39_3 + 1), 1) L M C D F I K ⟨by omega, by omega, hbn⟩ (by show _ < _; omega)
set_option maxHeartbeats 4000000 in
set_option maxRecDepth 100000 in
theorem s_X8_takes (l : Launch) (G : va_G) {cy : Nat → ClassId} {L : List Nat} {M : Nat → va_E} {a : Nat → Nat} {act : Nat → Bool} {C0 : Nat → Nat → Int32} {D0 : Nat → Nat → Int64} {R : Nat → Nat → Option Nat} (F : WI L M a act (ent cy a C0 D0 R)) (I : Inv C0) (p0 : Nat) (hp0 : p0 < 26)  : MI l G cy yX8_takes cX8_takes 3 (some .boolean) 5 0 0 [.ref (a 100), .ref (G.2 1000 p0)] L M (fun r L2 M2 => ∃ C2 D2, WI L2 M2 a act (ent cy a C2 D2 R) ∧ Inv C2 ∧ Kp [100] C0 D0 C2 D2 ∧ ((C0 100 8).toInt ≤ (C2 100 8).toInt ∧ (C2 100 12 = 0 → C0 100 12 = 0) ∧ ((r = 1 ∧ IsW p0 (C0 100) (C0 104)) ∨ (r = 0 ∧ ¬ IsW p0 (C0 100) (C0 104) ∧ C2 100 = C0 100)))) := by
  refine MI.of (own := RX8) rfl (by decide) (Nat.le_of_ble_eq_true rfl) ?_
  intro p e s m below meth c A X hrt hnm
  obtain ⟨C, D, hC0, hD0, F, I, K⟩ : ∃ C D, C = C0 ∧ D = D0 ∧ WI L M a act (ent cy a C D R) ∧ Inv C ∧ Kp [100] C0 D0 C D := ⟨C0, D0, rfl, rfl, F, I, Kp.rf⟩
  have o100 : C 100 = C0 100 := by rw [hC0]
  have ham : (C0 100 8).toInt ≤ (C 100 8).toInt := by rw [hC0]; exact Int.le_refl _
  have hm : C 100 12 = 0 → C0 100 12 = 0 := fun z => by rw [hC0] at z; exact z
  refine g_aload_n X dX8_takes_0 rfl (j := 0) rfl ?_
  refine g_aload_n X dX8_takes_1 rfl (j := 1) rfl ?_
  refine g_callVI X (s_X8_is l G F I p0 hp0 ) lk_X8_173 (F.1 100 rfl).2 (F.1 100 rfl).1 rfl rfl dX8_takes_2 (Nat.le_of_ble_eq_true rfl) ⟨by decide, by decide⟩ ⟨by decide, by decide⟩ (fun r1 L M hp => ?_)
  obtain ⟨C, D, F, I, K1, hr⟩ := hp
  have K := K.step K1 (by decide)
  have hm : C 100 12 = 0 → C0 100 12 = 0 := fun z => hm ((congrFun (K1 100 (by decide)).1 12).symm.trans z)
  have o100 : C 100 = C0 100 := by rw [(K1 100 (by decide)).1]; exact o100
  have ham : (C0 100 8).toInt ≤ (C 100 8).toInt := by rw [(K1 100 (by decide)).1]; exact ham
  rcases hr with ⟨rfl, hw2⟩ | ⟨rfl, hw2⟩
  · skip
    refine g_istore_n X dX8_takes_5 rfl (by decide) (lv2 := [(2, .int 1), (0, .ref (a 100)), (1, .ref (G.2 1000 p0))]) rfl ?_
    refine g_iload_n X dX8_takes_6 rfl (j := 0) rfl ?_
    refine g_if_eq X dX8_takes_7 (tgt := 14) (by decide) (fun q => absurd q (by decide)) (fun _ => ?_)
    have htw : IsW p0 (C0 100) (C0 104) := by have z := hw2; rw [o100, (K 104 (by decide)).1] at z; exact z
    refine g_aload_n X dX8_takes_10 rfl (j := 1) rfl ?_
    refine g_callVV X (s_X8_advance l G F I  ) lk_X8_177 (F.1 100 rfl).2 (F.1 100 rfl).1 rfl rfl dX8_takes_11 (Nat.le_of_ble_eq_true rfl) ⟨by decide, by decide⟩ ⟨by decide, by decide⟩ (fun L M hp => ?_)
    obtain ⟨C, D, F, I, K1, hr⟩ := hp
    have K := K.step K1 (by decide)
    obtain ⟨hr, hr7, hrat, hrtk⟩ := hr
    have hm : C 100 12 = 0 → C0 100 12 = 0 := fun z => hm (hr.symm.trans z)
    have ham : (C0 100 8).toInt ≤ (C 100 8).toInt := Int.le_trans ham hrat
    refine g_iload_n X dX8_takes_14 rfl (j := 0) rfl ?_
    exact g_zret X hrt rfl dX8_takes_15 (by decide) (by decide) ⟨C, D, F, I, K, ⟨ham, hm, Or.inl ⟨rfl, htw⟩⟩⟩
  · skip
    refine g_istore_n X dX8_takes_5 rfl (by decide) (lv2 := [(2, .int 0), (0, .ref (a 100)), (1, .ref (G.2 1000 p0))]) rfl ?_
    refine g_iload_n X dX8_takes_6 rfl (j := 0) rfl ?_
    refine g_if_eq X dX8_takes_7 (tgt := 14) (by decide) (fun _ => ?_) (fun q => absurd (by decide) q)
    refine g_iload_n X dX8_takes_14 rfl (j := 0) rfl ?_
    exact g_zret X hrt rfl dX8_takes_15 (by decide) (by decide) ⟨C, D, F, I, K, ⟨ham, hm, Or.inr ⟨rfl, by have z := hw2; rw [o100, (K 104 (by decide)).1] at z; exact z, o100⟩⟩⟩
set_option maxHeartbeats 4000000 in
set_option maxRecDepth 100000 in
theorem s_X8_expects (l : Launch) (G : va_G) {cy : Nat → ClassId} {L : List Nat} {M : Nat → va_E} {a : Nat → Nat} {act : Nat → Bool} {C0 : Nat → Nat → Int32} {D0 : Nat → Nat → Int64} {R : Nat → Nat → Option Nat} (F : WI L M a act (ent cy a C0 D0 R)) (I : Inv C0) (p0 : Nat) (hp0 : p0 < 26)  : MV l G cy yX8_expects cX8_expects 2 none 6 0 0 [.ref (a 100), .ref (G.2 1000 p0)] L M (fun L2 M2 => ∃ C2 D2, WI L2 M2 a act (ent cy a C2 D2 R) ∧ Inv C2 ∧ Kp [100] C0 D0 C2 D2 ∧ (C0 100 8).toInt ≤ (C2 100 8).toInt ∧ (C2 100 12 = 0 → C0 100 12 = 0)) := by
  refine MV.of (own := RX8) rfl (by decide) (Nat.le_of_ble_eq_true rfl) ?_
  intro p e s m below meth c A X hrt hnm
  obtain ⟨C, D, hC0, hD0, F, I, K⟩ : ∃ C D, C = C0 ∧ D = D0 ∧ WI L M a act (ent cy a C D R) ∧ Inv C ∧ Kp [100] C0 D0 C D := ⟨C0, D0, rfl, rfl, F, I, Kp.rf⟩
  have ham : (C0 100 8).toInt ≤ (C 100 8).toInt := by rw [hC0]; exact Int.le_refl _
  have hm : C 100 12 = 0 → C0 100 12 = 0 := fun z => by rw [hC0] at z; exact z
  refine g_aload_n X dX8_expects_0 rfl (j := 0) rfl ?_
  refine g_aload_n X dX8_expects_1 rfl (j := 1) rfl ?_
  refine g_callVI X (s_X8_takes l G F I p0 hp0 ) lk_X8_180 (F.1 100 rfl).2 (F.1 100 rfl).1 rfl rfl dX8_expects_2 (Nat.le_of_ble_eq_true rfl) ⟨by decide, by decide⟩ ⟨by decide, by decide⟩ (fun r1 L M hp => ?_)
  obtain ⟨C, D, F, I, K1, hr⟩ := hp
  have K := K.step K1 (by decide)
  obtain ⟨hrat, hrm, hr⟩ := hr
  have hm : C 100 12 = 0 → C0 100 12 = 0 := fun z => hm (hrm z)
  have ham : (C0 100 8).toInt ≤ (C 100 8).toInt := Int.le_trans ham hrat
  rcases hr with ⟨rfl, ht2⟩ | ⟨rfl, ht2, ht2E⟩
  · skip
    refine g_if_ne X dX8_expects_5 (tgt := 13) (by decide) (fun _ => ?_) (fun q => absurd q (by decide))
    exact g_vret X hrt dX8_expects_13 (by decide) (by decide) ⟨C, D, F, I, K, ham, hm⟩
  · skip
    refine g_if_ne X dX8_expects_5 (tgt := 13) (by decide) (fun q => absurd (by decide) q) (fun _ => ?_)
    refine g_aload_n X dX8_expects_8 rfl (j := 0) rfl ?_
    refine g_iconst X dX8_expects_9 (v := 1) (by decide) ?_
    refine g_callVV X (s_X8_errs l G F I (1 : Int32) (by decide)) lk_X8_183 (F.1 100 rfl).2 (F.1 100 rfl).1 rfl rfl dX8_expects_10 (Nat.le_of_ble_eq_true rfl) ⟨by decide, by decide⟩ ⟨by decide, by decide⟩ (fun L M hp => ?_)
    obtain ⟨C, D, F, I, K1, hr⟩ := hp
    have K := K.step K1 (by decide)
    obtain ⟨hr, hr8⟩ := hr
    have hm : C 100 12 = 0 → C0 100 12 = 0 := fun z => absurd z hr
    have hgd := hr
    have ham : (C0 100 8).toInt ≤ (C 100 8).toInt := Int.le_trans ham (by rw [hr8]; exact Int.le_refl _)
    exact g_vret X hrt dX8_expects_13 (by decide) (by decide) ⟨C, D, F, I, K, ham, hm⟩
set_option maxHeartbeats 4000000 in
set_option maxRecDepth 100000 in
theorem s_X8_number (l : Launch) (G : va_G) {cy : Nat → ClassId} {L : List Nat} {M : Nat → va_E} {a : Nat → Nat} {act : Nat → Bool} {C0 : Nat → Nat → Int32} {D0 : Nat → Nat → Int64} {R : Nat → Nat → Option Nat} (F : WI L M a act (ent cy a C0 D0 R)) (I : Inv C0) (p0 : Int32) (p1 : Int32)  : MI l G cy yX8_number cX8_number 4 (some .int) 2 0 0 [.ref (a 100), .int p0, .int p1] L M (fun r L2 M2 => ∃ C2 D2, WI L2 M2 a act (ent cy a C2 D2 R) ∧ Inv C2 ∧ Kp [100] C0 D0 C2 D2 ∧ (C0 100 8).toInt ≤ (C2 100 8).toInt ∧ (C2 100 12 = 0 → C0 100 12 = 0 ∧ C0 100 10 = 2 ∧ r = C0 100 11 ∧ p0.toInt ≤ r.toInt ∧ r.toInt ≤ p1.toInt) ∧ (r = 0 ∨ (p0.toInt ≤ r.toInt ∧ r.toInt ≤ p1.toInt))) := by
  refine MI.of (own := RX8) rfl (by decide) (Nat.le_of_ble_eq_true rfl) ?_
  intro p e s m below meth c A X hrt hnm
  obtain ⟨C, D, hC0, hD0, F, I, K⟩ : ∃ C D, C = C0 ∧ D = D0 ∧ WI L M a act (ent cy a C D R) ∧ Inv C ∧ Kp [100] C0 D0 C D := ⟨C0, D0, rfl, rfl, F, I, Kp.rf⟩
  obtain ⟨v0, ev0⟩ : ∃ z, C0 100 11 = z := ⟨_, rfl⟩
  obtain ⟨k0, ek0⟩ : ∃ z, C0 100 10 = z := ⟨_, rfl⟩
  have ev : C 100 11 = v0 := by rw [hC0]; exact ev0
  have ek : C 100 10 = k0 := by rw [hC0]; exact ek0
  have ham : (C0 100 8).toInt ≤ (C 100 8).toInt := by rw [hC0]; exact Int.le_refl _
  have hm : C 100 12 = 0 → C0 100 12 = 0 := fun z => by rw [hC0] at z; exact z
  refine g_aload_n X dX8_number_0 rfl (j := 0) rfl ?_
  refine g_callVI X (s_X8_good l G F I  ) lk_X8_161 (F.1 100 rfl).2 (F.1 100 rfl).1 rfl rfl dX8_number_1 (Nat.le_of_ble_eq_true rfl) ⟨by decide, by decide⟩ ⟨by decide, by decide⟩ (fun r1 L M hp => ?_)
  obtain ⟨C, D, F, I, K1, hr⟩ := hp
  have K := K.step K1 (by decide)
  have hm : C 100 12 = 0 → C0 100 12 = 0 := fun z => hm ((congrFun (K1 100 (by decide)).1 12).symm.trans z)
  have ham : (C0 100 8).toInt ≤ (C 100 8).toInt := by rw [(K1 100 (by decide)).1]; exact ham
  have ev : C 100 11 = v0 := (congrFun (K1 100 (by decide)).1 11).trans ev
  have ek : C 100 10 = k0 := (congrFun (K1 100 (by decide)).1 10).trans ek
  rcases hr with ⟨rfl, hg2⟩ | ⟨rfl, hg2⟩
  · skip
    have hgd := hg2
    refine g_if_eq X dX8_number_4 (tgt := 20) (by decide) (fun _ => ?_) (fun q => absurd (by decide) q)
    refine g_aload_n X dX8_number_20 rfl (j := 0) rfl ?_
    refine g_callVI X (s_X8_good l G F I  ) lk_X8_161 (F.1 100 rfl).2 (F.1 100 rfl).1 rfl rfl dX8_number_21 (Nat.le_of_ble_eq_true rfl) ⟨by decide, by decide⟩ ⟨by decide, by decide⟩ (fun r3 L M hp => ?_)
    obtain ⟨C, D, F, I, K1, hr⟩ := hp
    have K := K.step K1 (by decide)
    have hm : C 100 12 = 0 → C0 100 12 = 0 := fun z => hm ((congrFun (K1 100 (by decide)).1 12).symm.trans z)
    have ham : (C0 100 8).toInt ≤ (C 100 8).toInt := by rw [(K1 100 (by decide)).1]; exact ham
    have hgd : ¬ C 100 12 = 0 := by rw [(K1 100 (by decide)).1]; exact hgd
    have ev : C 100 11 = v0 := (congrFun (K1 100 (by decide)).1 11).trans ev
    have ek : C 100 10 = k0 := (congrFun (K1 100 (by decide)).1 10).trans ek
    rcases hr with ⟨rfl, hg4⟩ | ⟨rfl, hg4⟩
    · skip
      have hgd := hg4
      refine g_if_eq X dX8_number_24 (tgt := 47) (by decide) (fun _ => ?_) (fun q => absurd (by decide) q)
      refine g_aload_n X dX8_number_47 rfl (j := 0) rfl ?_
      refine g_callVI X (s_X8_good l G F I  ) lk_X8_161 (F.1 100 rfl).2 (F.1 100 rfl).1 rfl rfl dX8_number_48 (Nat.le_of_ble_eq_true rfl) ⟨by decide, by decide⟩ ⟨by decide, by decide⟩ (fun r5 L M hp => ?_)
      obtain ⟨C, D, F, I, K1, hr⟩ := hp
      have K := K.step K1 (by decide)
      have hm : C 100 12 = 0 → C0 100 12 = 0 := fun z => hm ((congrFun (K1 100 (by decide)).1 12).symm.trans z)
      have ham : (C0 100 8).toInt ≤ (C 100 8).toInt := by rw [(K1 100 (by decide)).1]; exact ham
      have hgd : ¬ C 100 12 = 0 := by rw [(K1 100 (by decide)).1]; exact hgd
      have ev : C 100 11 = v0 := (congrFun (K1 100 (by decide)).1 11).trans ev
      have ek : C 100 10 = k0 := (congrFun (K1 100 (by decide)).1 10).trans ek
      rcases hr with ⟨rfl, hg6⟩ | ⟨rfl, hg6⟩
      · skip
        have hgd := hg6
        refine g_if_ne X dX8_number_51 (tgt := 56) (by decide) (fun q => absurd (by decide) q) (fun _ => ?_)
        refine g_iconst X dX8_number_54 (v := 0) (by decide) ?_
        exact g_iret X hrt dX8_number_55 (by decide) (by decide) ⟨C, D, F, I, K, ham, (fun z => absurd z hgd), Or.inl rfl⟩
      · skip
        exact absurd hg6 hgd
    · skip
      exact absurd hg4 hgd
  · skip
    have hgd := hg2
    have hmy := hm hgd
    refine g_if_eq X dX8_number_4 (tgt := 20) (by decide) (fun q => absurd q (by decide)) (fun _ => ?_)
    refine g_aload_n X dX8_number_7 rfl (j := 0) rfl ?_
    refine i_get X F 100 rfl rfl fk_X8_137 dX8_number_8 (v := .int k0) (congrArg (fun z => some (Value.int z)) ek) ?_
    refine g_iconst X dX8_number_11 (v := 2) (by decide) ?_
    refine g_icmp_eq X dX8_number_12 (tgt := 20) (by decide) (fun q7 => ?_) (fun q7 => ?_)
    · skip
      subst q7
      refine g_aload_n X dX8_number_20 rfl (j := 0) rfl ?_
      refine g_callVI X (s_X8_good l G F I  ) lk_X8_161 (F.1 100 rfl).2 (F.1 100 rfl).1 rfl rfl dX8_number_21 (Nat.le_of_ble_eq_true rfl) ⟨by decide, by decide⟩ ⟨by decide, by decide⟩ (fun r8 L M hp => ?_)
      obtain ⟨C, D, F, I, K1, hr⟩ := hp
      have K := K.step K1 (by decide)
      have hm : C 100 12 = 0 → C0 100 12 = 0 := fun z => hm ((congrFun (K1 100 (by decide)).1 12).symm.trans z)
      have ham : (C0 100 8).toInt ≤ (C 100 8).toInt := by rw [(K1 100 (by decide)).1]; exact ham
      have hgd : C 100 12 = 0 := by rw [(K1 100 (by decide)).1]; exact hgd
      have ev : C 100 11 = v0 := (congrFun (K1 100 (by decide)).1 11).trans ev
      have ek : C 100 10 = 2 := (congrFun (K1 100 (by decide)).1 10).trans ek
      rcases hr with ⟨rfl, hg9⟩ | ⟨rfl, hg9⟩
      · skip
        exact absurd hgd hg9
      · skip
        have hgd := hg9
        have hmy := hm hgd
        refine g_if_eq X dX8_number_24 (tgt := 47) (by decide) (fun q => absurd q (by decide)) (fun _ => ?_)
        refine g_aload_n X dX8_number_27 rfl (j := 0) rfl ?_
        refine i_get X F 100 rfl rfl fk_X8_148 dX8_number_28 (v := .int v0) (congrArg (fun z => some (Value.int z)) ev) ?_
        refine g_i2l X dX8_number_31 rfl ?_
        refine g_iload_n X dX8_number_32 rfl (j := 1) rfl ?_
        refine g_i2l X dX8_number_33 rfl ?_
        refine g_iload_n X dX8_number_34 rfl (j := 2) rfl ?_
        refine g_i2l X dX8_number_35 rfl ?_
        refine g_callSI X (s_X8_in l G F I ((Int32.toInt64 v0)) ((Int32.toInt64 p0)) ((Int32.toInt64 p1)) ) lk_X8_94 rfl rfl dX8_number_36 (Nat.le_of_ble_eq_true rfl) ⟨by decide, by decide⟩ ⟨by decide, by decide⟩ (fun r10 L M hp => ?_)
        obtain ⟨C, D, F, I, K1, hr⟩ := hp
        have K := K.step K1 (by decide)
        have hm : C 100 12 = 0 → C0 100 12 = 0 := fun z => hm ((congrFun (K1 100 (by decide)).1 12).symm.trans z)
        have ham : (C0 100 8).toInt ≤ (C 100 8).toInt := by rw [(K1 100 (by decide)).1]; exact ham
        have hgd : C 100 12 = 0 := by rw [(K1 100 (by decide)).1]; exact hgd
        have ev : C 100 11 = v0 := (congrFun (K1 100 (by decide)).1 11).trans ev
        have ek : C 100 10 = 2 := (congrFun (K1 100 (by decide)).1 10).trans ek
        rcases hr with ⟨rfl, hq11⟩ | ⟨rfl, hq11⟩
        · skip
          have hq11x := Jvm.Kit.i64_of_i32 v0
          have hq11l := Jvm.Kit.i64_of_i32 p0
          have hq11h := Jvm.Kit.i64_of_i32 p1
          refine g_if_ne X dX8_number_39 (tgt := 47) (by decide) (fun q => absurd (by decide) q) (fun _ => ?_)
          refine g_aload_n X dX8_number_42 rfl (j := 0) rfl ?_
          refine g_iconst X dX8_number_43 (v := 2) (by decide) ?_
          refine g_callVV X (s_X8_errs l G F I (2 : Int32) (by decide)) lk_X8_183 (F.1 100 rfl).2 (F.1 100 rfl).1 rfl rfl dX8_number_44 (Nat.le_of_ble_eq_true rfl) ⟨by decide, by decide⟩ ⟨by decide, by decide⟩ (fun L M hp => ?_)
          obtain ⟨C, D, F, I, K1, hr⟩ := hp
          have K := K.step K1 (by decide)
          obtain ⟨hr, hr8⟩ := hr
          have hm : C 100 12 = 0 → C0 100 12 = 0 := fun z => absurd z hr
          have hgd := hr
          have ham : (C0 100 8).toInt ≤ (C 100 8).toInt := Int.le_trans ham (by rw [hr8]; exact Int.le_refl _)
          refine g_aload_n X dX8_number_47 rfl (j := 0) rfl ?_
          refine g_callVI X (s_X8_good l G F I  ) lk_X8_161 (F.1 100 rfl).2 (F.1 100 rfl).1 rfl rfl dX8_number_48 (Nat.le_of_ble_eq_true rfl) ⟨by decide, by decide⟩ ⟨by decide, by decide⟩ (fun r12 L M hp => ?_)
          obtain ⟨C, D, F, I, K1, hr⟩ := hp
          have K := K.step K1 (by decide)
          have hm : C 100 12 = 0 → C0 100 12 = 0 := fun z => hm ((congrFun (K1 100 (by decide)).1 12).symm.trans z)
          have hgd : ¬ C 100 12 = 0 := by rw [(K1 100 (by decide)).1]; exact hgd
          have ham : (C0 100 8).toInt ≤ (C 100 8).toInt := by rw [(K1 100 (by decide)).1]; exact ham
          rcases hr with ⟨rfl, hg13⟩ | ⟨rfl, hg13⟩
          · skip
            have hgd := hg13
            refine g_if_ne X dX8_number_51 (tgt := 56) (by decide) (fun q => absurd (by decide) q) (fun _ => ?_)
            refine g_iconst X dX8_number_54 (v := 0) (by decide) ?_
            exact g_iret X hrt dX8_number_55 (by decide) (by decide) ⟨C, D, F, I, K, ham, (fun z => absurd z hgd), Or.inl rfl⟩
          · skip
            exact absurd hg13 hgd
        · skip
          have hq11x := Jvm.Kit.i64_of_i32 v0
          have hq11l := Jvm.Kit.i64_of_i32 p0
          have hq11h := Jvm.Kit.i64_of_i32 p1
          refine g_if_ne X dX8_number_39 (tgt := 47) (by decide) (fun _ => ?_) (fun q => absurd q (by decide))
          refine g_aload_n X dX8_number_47 rfl (j := 0) rfl ?_
          refine g_callVI X (s_X8_good l G F I  ) lk_X8_161 (F.1 100 rfl).2 (F.1 100 rfl).1 rfl rfl dX8_number_48 (Nat.le_of_ble_eq_true rfl) ⟨by decide, by decide⟩ ⟨by decide, by decide⟩ (fun r14 L M hp => ?_)
          obtain ⟨C, D, F, I, K1, hr⟩ := hp
          have K := K.step K1 (by decide)
          have hm : C 100 12 = 0 → C0 100 12 = 0 := fun z => hm ((congrFun (K1 100 (by decide)).1 12).symm.trans z)
          have ham : (C0 100 8).toInt ≤ (C 100 8).toInt := by rw [(K1 100 (by decide)).1]; exact ham
          have hgd : C 100 12 = 0 := by rw [(K1 100 (by decide)).1]; exact hgd
          have ev : C 100 11 = v0 := (congrFun (K1 100 (by decide)).1 11).trans ev
          have ek : C 100 10 = 2 := (congrFun (K1 100 (by decide)).1 10).trans ek
          rcases hr with ⟨rfl, hg15⟩ | ⟨rfl, hg15⟩
          · skip
            exact absurd hgd hg15
          · skip
            have hgd := hg15
            have hmy := hm hgd
            refine g_if_ne X dX8_number_51 (tgt := 56) (by decide) (fun _ => ?_) (fun q => absurd q (by decide))
            refine g_aload_n X dX8_number_56 rfl (j := 0) rfl ?_
            refine i_get X F 100 rfl rfl fk_X8_148 dX8_number_57 (v := .int v0) (congrArg (fun z => some (Value.int z)) ev) ?_
            refine g_istore_n X dX8_number_60 rfl (by decide) (lv2 := [(3, .int v0), (0, .ref (a 100)), (1, .int p0), (2, .int p1)]) rfl ?_
            refine g_aload_n X dX8_number_61 rfl (j := 1) rfl ?_
            refine g_callVV X (s_X8_advance l G F I  ) lk_X8_177 (F.1 100 rfl).2 (F.1 100 rfl).1 rfl rfl dX8_number_62 (Nat.le_of_ble_eq_true rfl) ⟨by decide, by decide⟩ ⟨by decide, by decide⟩ (fun L M hp => ?_)
            obtain ⟨C, D, F, I, K1, hr⟩ := hp
            have K := K.step K1 (by decide)
            obtain ⟨hr, hr7, hrat, hrtk⟩ := hr
            have hm : C 100 12 = 0 → C0 100 12 = 0 := fun z => hm (hr.symm.trans z)
            have ham : (C0 100 8).toInt ≤ (C 100 8).toInt := Int.le_trans ham hrat
            have hgd : C 100 12 = 0 := hr.trans hgd
            refine g_iload_n X dX8_number_65 rfl (j := 0) rfl ?_
            exact g_iret X hrt dX8_number_66 (by decide) (by decide) ⟨C, D, F, I, K, ham, (fun z => ⟨hm z, (ek0.trans rfl), ev0.symm, by omega, by omega⟩), Or.inr ⟨by omega, by omega⟩⟩
    · skip
      refine g_aload_n X dX8_number_15 rfl (j := 0) rfl ?_
      refine g_iconst X dX8_number_16 (v := 1) (by decide) ?_
      refine g_callVV X (s_X8_errs l G F I (1 : Int32) (by decide)) lk_X8_183 (F.1 100 rfl).2 (F.1 100 rfl).1 rfl rfl dX8_number_17 (Nat.le_of_ble_eq_true rfl) ⟨by decide, by decide⟩ ⟨by decide, by decide⟩ (fun L M hp => ?_)
      obtain ⟨C, D, F, I, K1, hr⟩ := hp
      have K := K.step K1 (by decide)
      obtain ⟨hr, hr8⟩ := hr
      have hm : C 100 12 = 0 → C0 100 12 = 0 := fun z => absurd z hr
      have hgd := hr
      have ham : (C0 100 8).toInt ≤ (C 100 8).toInt := Int.le_trans ham (by rw [hr8]; exact Int.le_refl _)
      refine g_aload_n X dX8_number_20 rfl (j := 0) rfl ?_
      refine g_callVI X (s_X8_good l G F I  ) lk_X8_161 (F.1 100 rfl).2 (F.1 100 rfl).1 rfl rfl dX8_number_21 (Nat.le_of_ble_eq_true rfl) ⟨by decide, by decide⟩ ⟨by decide, by decide⟩ (fun r16 L M hp => ?_)
      obtain ⟨C, D, F, I, K1, hr⟩ := hp
      have K := K.step K1 (by decide)
      have hm : C 100 12 = 0 → C0 100 12 = 0 := fun z => hm ((congrFun (K1 100 (by decide)).1 12).symm.trans z)
      have hgd : ¬ C 100 12 = 0 := by rw [(K1 100 (by decide)).1]; exact hgd
      have ham : (C0 100 8).toInt ≤ (C 100 8).toInt := by rw [(K1 100 (by decide)).1]; exact ham
      rcases hr with ⟨rfl, hg17⟩ | ⟨rfl, hg17⟩
      · skip
        have hgd := hg17
        refine g_if_eq X dX8_number_24 (tgt := 47) (by decide) (fun _ => ?_) (fun q => absurd (by decide) q)
        refine g_aload_n X dX8_number_47 rfl (j := 0) rfl ?_
        refine g_callVI X (s_X8_good l G F I  ) lk_X8_161 (F.1 100 rfl).2 (F.1 100 rfl).1 rfl rfl dX8_number_48 (Nat.le_of_ble_eq_true rfl) ⟨by decide, by decide⟩ ⟨by decide, by decide⟩ (fun r18 L M hp => ?_)
        obtain ⟨C, D, F, I, K1, hr⟩ := hp
        have K := K.step K1 (by decide)
        have hm : C 100 12 = 0 → C0 100 12 = 0 := fun z => hm ((congrFun (K1 100 (by decide)).1 12).symm.trans z)
        have hgd : ¬ C 100 12 = 0 := by rw [(K1 100 (by decide)).1]; exact hgd
        have ham : (C0 100 8).toInt ≤ (C 100 8).toInt := by rw [(K1 100 (by decide)).1]; exact ham
        rcases hr with ⟨rfl, hg19⟩ | ⟨rfl, hg19⟩
        · skip
          have hgd := hg19
          refine g_if_ne X dX8_number_51 (tgt := 56) (by decide) (fun q => absurd (by decide) q) (fun _ => ?_)
          refine g_iconst X dX8_number_54 (v := 0) (by decide) ?_
          exact g_iret X hrt dX8_number_55 (by decide) (by decide) ⟨C, D, F, I, K, ham, (fun z => absurd z hgd), Or.inl rfl⟩
        · skip
          exact absurd hg19 hgd
      · skip
        exact absurd hg17 hgd
set_option maxHeartbeats 4000000 in
set_option maxRecDepth 100000 in
theorem s_X8_toldBy (l : Launch) (G : va_G) {cy : Nat → ClassId} {L : List Nat} {M : Nat → va_E} {a : Nat → Nat} {act : Nat → Bool} {C0 : Nat → Nat → Int32} {D0 : Nat → Nat → Int64} {R : Nat → Nat → Option Nat} (F : WI L M a act (ent cy a C0 D0 R)) (I : Inv C0) (p0 : Nat) (hp0 : p0 < 26) (p1 : Int32) (p2 : Int32)  : MI l G cy yX8_toldBy cX8_toldBy 4 (some .int) 7 0 0 [.ref (a 100), .ref (G.2 1000 p0), .int p1, .int p2] L M (fun r L2 M2 => ∃ C2 D2, WI L2 M2 a act (ent cy a C2 D2 R) ∧ Inv C2 ∧ Kp [100] C0 D0 C2 D2 ∧ (C0 100 8).toInt ≤ (C2 100 8).toInt ∧ (C2 100 12 = 0 → C0 100 12 = 0) ∧ (r = 0 ∨ (p1.toInt ≤ r.toInt ∧ r.toInt ≤ p2.toInt))) := by
  refine MI.of (own := RX8) rfl (by decide) (Nat.le_of_ble_eq_true rfl) ?_
  intro p e s m below meth c A X hrt hnm
  obtain ⟨C, D, hC0, hD0, F, I, K⟩ : ∃ C D, C = C0 ∧ D = D0 ∧ WI L M a act (ent cy a C D R) ∧ Inv C ∧ Kp [100] C0 D0 C D := ⟨C0, D0, rfl, rfl, F, I, Kp.rf⟩
  have ham : (C0 100 8).toInt ≤ (C 100 8).toInt := by rw [hC0]; exact Int.le_refl _
  have hm : C 100 12 = 0 → C0 100 12 = 0 := fun z => by rw [hC0] at z; exact z
  refine g_aload_n X dX8_toldBy_0 rfl (j := 0) rfl ?_
  refine g_aload_n X dX8_toldBy_1 rfl (j := 1) rfl ?_
  refine g_callVV X (s_X8_expects l G F I p0 hp0 ) lk_X8_187 (F.1 100 rfl).2 (F.1 100 rfl).1 rfl rfl dX8_toldBy_2 (Nat.le_of_ble_eq_true rfl) ⟨by decide, by decide⟩ ⟨by decide, by decide⟩ (fun L M hp => ?_)
  obtain ⟨C, D, F, I, K1, hr⟩ := hp
  have K := K.step K1 (by decide)
  obtain ⟨hrat, hr⟩ := hr
  have hm : C 100 12 = 0 → C0 100 12 = 0 := fun z => hm (hr z)
  have ham : (C0 100 8).toInt ≤ (C 100 8).toInt := Int.le_trans ham hrat
  refine g_aload_n X dX8_toldBy_5 rfl (j := 0) rfl ?_
  refine g_iload_n X dX8_toldBy_6 rfl (j := 2) rfl ?_
  refine g_iload_n X dX8_toldBy_7 rfl (j := 3) rfl ?_
  refine g_callVI X (s_X8_number l G F I p1 p2 ) lk_X8_191 (F.1 100 rfl).2 (F.1 100 rfl).1 rfl rfl dX8_toldBy_8 (Nat.le_of_ble_eq_true rfl) ⟨by decide, by decide⟩ ⟨by decide, by decide⟩ (fun r1 L M hp => ?_)
  obtain ⟨C, D, F, I, K1, hr⟩ := hp
  have K := K.step K1 (by decide)
  obtain ⟨hrat, hng, hnum⟩ := hr
  have hm : C 100 12 = 0 → C0 100 12 = 0 := fun z => hm (hng z).1
  have ham : (C0 100 8).toInt ≤ (C 100 8).toInt := Int.le_trans ham hrat
  exact g_iret X hrt dX8_toldBy_11 (by decide) (by decide) ⟨C, D, F, I, K, ham, hm, hnum⟩
set_option maxHeartbeats 4000000 in
set_option maxRecDepth 100000 in
theorem s_X8_readFirst (l : Launch) (G : va_G) {cy : Nat → ClassId} {L : List Nat} {M : Nat → va_E} {a : Nat → Nat} {act : Nat → Bool} {C0 : Nat → Nat → Int32} {D0 : Nat → Nat → Int64} {R : Nat → Nat → Option Nat} (F : WI L M a act (ent cy a C0 D0 R)) (I : Inv C0)   : MV l G cy yX8_readFirst cX8_readFirst 1 none 8 0 0 [.ref (a 100)] L M (fun L2 M2 => ∃ C2 D2, WI L2 M2 a act (ent cy a C2 D2 R) ∧ Inv C2 ∧ Kp [100, 114] C0 D0 C2 D2 ∧ (C0 100 8).toInt ≤ (C2 100 8).toInt) := by
  refine MV.of (own := RX8) rfl (by decide) (Nat.le_of_ble_eq_true rfl) ?_
  intro p e s m below meth c A X hrt hnm
  obtain ⟨C, D, hC0, hD0, F, I, K⟩ : ∃ C D, C = C0 ∧ D = D0 ∧ WI L M a act (ent cy a C D R) ∧ Inv C ∧ Kp [100, 114] C0 D0 C D := ⟨C0, D0, rfl, rfl, F, I, Kp.rf⟩
  have ham : (C0 100 8).toInt ≤ (C 100 8).toInt := by rw [hC0]; exact Int.le_refl _
  have hm : C 100 12 = 0 → C0 100 12 = 0 := fun z => by rw [hC0] at z; exact z
  refine g_aload_n X dX8_readFirst_0 rfl (j := 0) rfl ?_
  refine g_ldcS X (tx := "heath") (i := 13) (by decide) dX8_readFirst_1 ?_
  refine g_callVV X (s_X8_expects l G F I 13 (by decide) ) lk_X8_187 (F.1 100 rfl).2 (F.1 100 rfl).1 rfl rfl dX8_readFirst_3 (Nat.le_of_ble_eq_true rfl) ⟨by decide, by decide⟩ ⟨by decide, by decide⟩ (fun L M hp => ?_)
  obtain ⟨C, D, F, I, K1, hr⟩ := hp
  have K := K.step K1 (by decide)
  obtain ⟨hrat, hr⟩ := hr
  have hm : C 100 12 = 0 → C0 100 12 = 0 := fun z => hm (hr z)
  have ham : (C0 100 8).toInt ≤ (C 100 8).toInt := Int.le_trans ham hrat
  refine g_aload_n X dX8_readFirst_6 rfl (j := 0) rfl ?_
  refine i_get X F 100 rfl rfl fk_X8_31 dX8_readFirst_7 rfl ?_
  refine g_iconst X dX8_readFirst_10 (v := 0) (by decide) ?_
  refine g_aload_n X dX8_readFirst_11 rfl (j := 0) rfl ?_
  refine g_ldcS X (tx := "hours") (i := 14) (by decide) dX8_readFirst_12 ?_
  refine g_iconst X dX8_readFirst_14 (v := 1) (by decide) ?_
  refine g_bipush X dX8_readFirst_15 (v := 16) (by decide) ?_
  refine g_callVI X (s_X8_toldBy l G F I 14 (by decide) (1 : Int32) (16 : Int32) ) lk_X8_197 (F.1 100 rfl).2 (F.1 100 rfl).1 rfl rfl dX8_readFirst_17 (Nat.le_of_ble_eq_true rfl) ⟨by decide, by decide⟩ ⟨by decide, by decide⟩ (fun r1 L M hp => ?_)
  obtain ⟨C, D, F, I, K1, hr⟩ := hp
  have K := K.step K1 (by decide)
  obtain ⟨hrat, hrm, hnum⟩ := hr
  have hm : C 100 12 = 0 → C0 100 12 = 0 := fun z => hm (hrm z)
  have ham : (C0 100 8).toInt ≤ (C 100 8).toInt := Int.le_trans ham hrat
  obtain ⟨n2, hn2, en2⟩ := num_nat (B := 16) (by decide) hnum (by have kk : (16 : Int32).toInt = 16 := (by decide); omega)
  subst en2
  refine i_iast X F I 114 rfl (fun _ => rfl) dX8_readFirst_20 (vp_in_iff.mpr (by decide)) (by show okw (0) (nI n2); exact ⟨fun _ => (rg_of (n := n2) (by omega) (by omega) (by omega)), fun h => by exfalso; omega, fun h => by exfalso; omega, fun h => by exfalso; omega, fun h => by exfalso; omega, fun h => by exfalso; omega, fun a1 a2 a3 => by exfalso; omega, fun a1 a2 a3 => by exfalso; omega, fun a1 a2 a3 a4 => by exfalso; omega, fun a1 a2 a3 => by exfalso; omega, fun a1 a2 => by exfalso; omega⟩) (fun M C F I K1 hC => ?_)
  have K := K.step K1 (by decide)
  have hm : C 100 12 = 0 → C0 100 12 = 0 := fun z => hm ((congrFun (K1 100 (by decide)).1 12).symm.trans z)
  have ham : (C0 100 8).toInt ≤ (C 100 8).toInt := by rw [(K1 100 (by decide)).1]; exact ham
  refine g_aload_n X dX8_readFirst_21 rfl (j := 0) rfl ?_
  refine i_get X F 100 rfl rfl fk_X8_31 dX8_readFirst_22 rfl ?_
  refine g_iconst X dX8_readFirst_25 (v := 1) (by decide) ?_
  refine g_aload_n X dX8_readFirst_26 rfl (j := 0) rfl ?_
  refine g_ldcS X (tx := "law") (i := 15) (by decide) dX8_readFirst_27 ?_
  refine g_iconst X dX8_readFirst_29 (v := 0) (by decide) ?_
  refine g_iconst X dX8_readFirst_30 (v := 3) (by decide) ?_
  refine g_callVI X (s_X8_toldBy l G F I 15 (by decide) (0 : Int32) (3 : Int32) ) lk_X8_197 (F.1 100 rfl).2 (F.1 100 rfl).1 rfl rfl dX8_readFirst_31 (Nat.le_of_ble_eq_true rfl) ⟨by decide, by decide⟩ ⟨by decide, by decide⟩ (fun r3 L M hp => ?_)
  obtain ⟨C, D, F, I, K1, hr⟩ := hp
  have K := K.step K1 (by decide)
  obtain ⟨hrat, hrm, hnum⟩ := hr
  have hm : C 100 12 = 0 → C0 100 12 = 0 := fun z => hm (hrm z)
  have ham : (C0 100 8).toInt ≤ (C 100 8).toInt := Int.le_trans ham hrat
  obtain ⟨n4, hn4, en4⟩ := num_nat (B := 3) (by decide) hnum (by have kk : (3 : Int32).toInt = 3 := (by decide); omega)
  subst en4
  refine i_iast X F I 114 rfl (fun _ => rfl) dX8_readFirst_34 (vp_in_iff.mpr (by decide)) (by show okw (1) (nI n4); exact ⟨fun h => by exfalso; omega, fun h => by exfalso; omega, fun h => by exfalso; omega, fun h => by exfalso; omega, fun h => by exfalso; omega, fun h => by exfalso; omega, fun a1 a2 a3 => by exfalso; omega, fun a1 a2 a3 => by exfalso; omega, fun a1 a2 a3 a4 => by exfalso; omega, fun a1 a2 a3 => by exfalso; omega, fun a1 a2 => by exfalso; omega⟩) (fun M C F I K1 hC => ?_)
  have K := K.step K1 (by decide)
  have hm : C 100 12 = 0 → C0 100 12 = 0 := fun z => hm ((congrFun (K1 100 (by decide)).1 12).symm.trans z)
  have ham : (C0 100 8).toInt ≤ (C 100 8).toInt := by rw [(K1 100 (by decide)).1]; exact ham
  refine g_aload_n X dX8_readFirst_35 rfl (j := 0) rfl ?_
  refine i_get X F 100 rfl rfl fk_X8_31 dX8_readFirst_36 rfl ?_
  refine g_iconst X dX8_readFirst_39 (v := 2) (by decide) ?_
  refine g_aload_n X dX8_readFirst_40 rfl (j := 0) rfl ?_
  refine g_ldcS X (tx := "odds") (i := 16) (by decide) dX8_readFirst_41 ?_
  refine g_iconst X dX8_readFirst_43 (v := 0) (by decide) ?_
  refine g_bipush X dX8_readFirst_44 (v := 10) (by decide) ?_
  refine g_callVI X (s_X8_toldBy l G F I 16 (by decide) (0 : Int32) (10 : Int32) ) lk_X8_197 (F.1 100 rfl).2 (F.1 100 rfl).1 rfl rfl dX8_readFirst_46 (Nat.le_of_ble_eq_true rfl) ⟨by decide, by decide⟩ ⟨by decide, by decide⟩ (fun r5 L M hp => ?_)
  obtain ⟨C, D, F, I, K1, hr⟩ := hp
  have K := K.step K1 (by decide)
  obtain ⟨hrat, hrm, hnum⟩ := hr
  have hm : C 100 12 = 0 → C0 100 12 = 0 := fun z => hm (hrm z)
  have ham : (C0 100 8).toInt ≤ (C 100 8).toInt := Int.le_trans ham hrat
  obtain ⟨n6, hn6, en6⟩ := num_nat (B := 10) (by decide) hnum (by have kk : (10 : Int32).toInt = 10 := (by decide); omega)
  subst en6
  refine i_iast X F I 114 rfl (fun _ => rfl) dX8_readFirst_49 (vp_in_iff.mpr (by decide)) (by show okw (2) (nI n6); exact ⟨fun h => by exfalso; omega, fun _ => (rg_of (n := n6) (by omega) (by omega) (by omega)), fun h => by exfalso; omega, fun h => by exfalso; omega, fun h => by exfalso; omega, fun h => by exfalso; omega, fun a1 a2 a3 => by exfalso; omega, fun a1 a2 a3 => by exfalso; omega, fun a1 a2 a3 a4 => by exfalso; omega, fun a1 a2 a3 => by exfalso; omega, fun a1 a2 => by exfalso; omega⟩) (fun M C F I K1 hC => ?_)
  have K := K.step K1 (by decide)
  have hm : C 100 12 = 0 → C0 100 12 = 0 := fun z => hm ((congrFun (K1 100 (by decide)).1 12).symm.trans z)
  have ham : (C0 100 8).toInt ≤ (C 100 8).toInt := by rw [(K1 100 (by decide)).1]; exact ham
  exact g_vret X hrt dX8_readFirst_50 (by decide) (by decide) ⟨C, D, F, I, K, ham⟩
set_option maxHeartbeats 4000000 in
set_option maxRecDepth 100000 in
theorem s_X8_readPost (l : Launch) (G : va_G) {cy : Nat → ClassId} {L : List Nat} {M : Nat → va_E} {a : Nat → Nat} {act : Nat → Bool} {C0 : Nat → Nat → Int32} {D0 : Nat → Nat → Int64} {R : Nat → Nat → Option Nat} (F : WI L M a act (ent cy a C0 D0 R)) (I : Inv C0)   : MI l G cy yX8_readPost cX8_readPost 1 (some .int) 3 0 0 [.ref (a 100)] L M (fun r L2 M2 => ∃ C2 D2, WI L2 M2 a act (ent cy a C2 D2 R) ∧ Inv C2 ∧ Kp [100] C0 D0 C2 D2 ∧ (C0 100 8).toInt ≤ (C2 100 8).toInt ∧ (C2 100 12 = 0 → C0 100 12 = 0 ∧ C0 100 10 = 2 ∧ r = C0 100 11 ∧ r.toInt ≤ (C0 114 4 - 1).toInt) ∧ ∃ n : Nat, n ≤ 6 ∧ r = nI n) := by
  refine MI.of (own := RX8) rfl (by decide) (Nat.le_of_ble_eq_true rfl) ?_
  intro p e s m below meth c A X hrt hnm
  obtain ⟨C, D, hC0, hD0, F, I, K⟩ : ∃ C D, C = C0 ∧ D = D0 ∧ WI L M a act (ent cy a C D R) ∧ Inv C ∧ Kp [100] C0 D0 C D := ⟨C0, D0, rfl, rfl, F, I, Kp.rf⟩
  have o100 : C 100 = C0 100 := by rw [hC0]
  have ham : (C0 100 8).toInt ≤ (C 100 8).toInt := by rw [hC0]; exact Int.le_refl _
  have hm : C 100 12 = 0 → C0 100 12 = 0 := fun z => by rw [hC0] at z; exact z
  refine g_aload_n X dX8_readPost_0 rfl (j := 0) rfl ?_
  refine g_iconst X dX8_readPost_1 (v := 0) (by decide) ?_
  refine g_aload_n X dX8_readPost_2 rfl (j := 0) rfl ?_
  refine i_get X F 100 rfl rfl fk_X8_31 dX8_readPost_3 rfl ?_
  refine g_iconst X dX8_readPost_6 (v := 4) (by decide) ?_
  obtain ⟨n1, hn1, en1⟩ := rg_nat ((show okw (4) (C 114 (4)) from I 114 (4)).2.2.2.1 rfl) (by decide)
  refine i_iald X F 114 rfl rfl dX8_readPost_7 (vp_in_iff.mpr (by decide)) (v := nI n1) (by exact en1) ?_
  refine g_iconst X dX8_readPost_8 (v := 1) (by decide) ?_
  have w4 : C0 114 4 = nI n1 := by rw [← hC0]; exact en1
  refine g_isub X dX8_readPost_9 ?_
  have hs2 := nI_m1 (n := n1) (by omega)
  refine g_callVI X (s_X8_number l G F I (0 : Int32) ((nI n1 - 1)) ) lk_X8_191 (F.1 100 rfl).2 (F.1 100 rfl).1 rfl rfl dX8_readPost_10 (Nat.le_of_ble_eq_true rfl) ⟨by decide, by decide⟩ ⟨by decide, by decide⟩ (fun r3 L M hp => ?_)
  obtain ⟨C, D, F, I, K1, hr⟩ := hp
  have K := K.step K1 (by decide)
  obtain ⟨hrat, hng, hnum⟩ := hr
  have hm : C 100 12 = 0 → C0 100 12 = 0 := fun z => hm (hng z).1
  have ham : (C0 100 8).toInt ≤ (C 100 8).toInt := Int.le_trans ham hrat
  obtain ⟨n4, hn4, en4⟩ := num_nat (B := 6) (by decide) hnum (by omega)
  subst en4
  exact g_iret X hrt dX8_readPost_13 (by decide) (by decide) ⟨C, D, F, I, K, ham, (fun z => ⟨by have y := (hng z).1; rw [o100] at y; exact y, by have y := (hng z).2.1; rw [o100] at y; exact y, by have y := (hng z).2.2.1; rw [o100] at y; exact y, by have y := (hng z).2.2.2.2; rw [w4]; exact y⟩), ⟨n4, by omega, rfl⟩⟩
set_option maxHeartbeats 4000000 in
set_option maxRecDepth 100000 in
theorem s_X8_readRoad (l : Launch) (G : va_G) {cy : Nat → ClassId} {L : List Nat} {M : Nat → va_E} {a : Nat → Nat} {act : Nat → Bool} {C0 : Nat → Nat → Int32} {D0 : Nat → Nat → Int64} {R : Nat → Nat → Option Nat} (F : WI L M a act (ent cy a C0 D0 R)) (I : Inv C0)   : MV l G cy yX8_readRoad cX8_readRoad 5 none 8 0 0 [.ref (a 100)] L M (fun L2 M2 => ∃ C2 D2, WI L2 M2 a act (ent cy a C2 D2 R) ∧ Inv C2 ∧ Kp [100, 114] C0 D0 C2 D2 ∧ (C0 100 8).toInt ≤ (C2 100 8).toInt) := by
  refine MV.of (own := RX8) rfl (by decide) (Nat.le_of_ble_eq_true rfl) ?_
  intro p e s m below meth c A X hrt hnm
  obtain ⟨C, D, hC0, hD0, F, I, K⟩ : ∃ C D, C = C0 ∧ D = D0 ∧ WI L M a act (ent cy a C D R) ∧ Inv C ∧ Kp [100, 114] C0 D0 C D := ⟨C0, D0, rfl, rfl, F, I, Kp.rf⟩
  have ham : (C0 100 8).toInt ≤ (C 100 8).toInt := by rw [hC0]; exact Int.le_refl _
  have hm : C 100 12 = 0 → C0 100 12 = 0 := fun z => by rw [hC0] at z; exact z
  refine g_aload_n X dX8_readRoad_0 rfl (j := 0) rfl ?_
  refine g_callVI X (s_X8_good l G F I  ) lk_X8_161 (F.1 100 rfl).2 (F.1 100 rfl).1 rfl rfl dX8_readRoad_1 (Nat.le_of_ble_eq_true rfl) ⟨by decide, by decide⟩ ⟨by decide, by decide⟩ (fun r1 L M hp => ?_)
  obtain ⟨C, D, F, I, K1, hr⟩ := hp
  have K := K.step K1 (by decide)
  have hm : C 100 12 = 0 → C0 100 12 = 0 := fun z => hm ((congrFun (K1 100 (by decide)).1 12).symm.trans z)
  have ham : (C0 100 8).toInt ≤ (C 100 8).toInt := by rw [(K1 100 (by decide)).1]; exact ham
  rcases hr with ⟨rfl, hg2⟩ | ⟨rfl, hg2⟩
  · skip
    have hgd := hg2
    refine g_if_eq X dX8_readRoad_4 (tgt := 40) (by decide) (fun _ => ?_) (fun q => absurd (by decide) q)
    refine g_iconst X dX8_readRoad_40 (v := 0) (by decide) ?_
    refine g_istore_n X dX8_readRoad_41 rfl (by decide) (lv2 := [(1, .int 0), (0, .ref (a 100))]) rfl ?_
    refine g_iload_n X dX8_readRoad_42 rfl (j := 0) rfl ?_
    refine g_if_eq X dX8_readRoad_43 (tgt := 70) (by decide) (fun _ => ?_) (fun q => absurd (by decide) q)
    refine g_aload_n X dX8_readRoad_70 rfl (j := 1) rfl ?_
    refine g_callVI X (s_X8_readPost l G F I  ) lk_X8_205 (F.1 100 rfl).2 (F.1 100 rfl).1 rfl rfl dX8_readRoad_71 (Nat.le_of_ble_eq_true rfl) ⟨by decide, by decide⟩ ⟨by decide, by decide⟩ (fun r3 L M hp => ?_)
    obtain ⟨C, D, F, I, K1, hr⟩ := hp
    have K := K.step K1 (by decide)
    obtain ⟨hrat, hrp, ⟨n4, hn4, en4⟩⟩ := hr
    subst en4
    have hm : C 100 12 = 0 → C0 100 12 = 0 := fun z => hm (hrp z).1
    have ham : (C0 100 8).toInt ≤ (C 100 8).toInt := Int.le_trans ham hrat
    have hro : C 100 12 = 0 → (C 114 (14 + 6 * n4)).toInt ≤ 3 := fun z => absurd (hrp z).1 hgd
    refine g_istore_n X dX8_readRoad_74 rfl (by decide) (lv2 := [(2, .int (nI n4)), (1, .int 0), (0, .ref (a 100))]) rfl ?_
    refine g_bipush X dX8_readRoad_75 (v := 14) (by decide) ?_
    refine g_bipush X dX8_readRoad_77 (v := 6) (by decide) ?_
    refine g_iload_n X dX8_readRoad_79 rfl (j := 0) rfl ?_
    refine g_imul X dX8_readRoad_80 ?_
    refine Go.top (v := .int (nI (6 * n4))) (congrArg Value.int (pk_mul 6 n4)) ?_
    refine g_iadd X dX8_readRoad_81 ?_
    refine Go.top (v := .int (nI (14 + (6 * n4)))) (congrArg Value.int (nI_add 14 (6 * n4))) ?_
    refine g_istore_n X dX8_readRoad_82 rfl (by decide) (lv2 := [(3, .int (nI (14 + (6 * n4)))), (2, .int (nI n4)), (1, .int 0), (0, .ref (a 100))]) rfl ?_
    refine g_iconst X dX8_readRoad_83 (v := 0) (by decide) ?_
    refine g_istore X dX8_readRoad_84 (by decide) (lv2 := [(4, .int 0), (3, .int (nI (14 + (6 * n4)))), (2, .int (nI n4)), (1, .int 0), (0, .ref (a 100))]) rfl ?_
    refine g_aload_n X dX8_readRoad_86 rfl (j := 4) rfl ?_
    refine g_ldcS X (tx := "to") (i := 17) (by decide) dX8_readRoad_87 ?_
    refine g_callVI X (s_X8_takes l G F I 17 (by decide) ) lk_X8_180 (F.1 100 rfl).2 (F.1 100 rfl).1 rfl rfl dX8_readRoad_89 (Nat.le_of_ble_eq_true rfl) ⟨by decide, by decide⟩ ⟨by decide, by decide⟩ (fun r5 L M hp => ?_)
    obtain ⟨C, D, F, I, K1, hr⟩ := hp
    have K := K.step K1 (by decide)
    obtain ⟨hrat, hrm, hr⟩ := hr
    have hm : C 100 12 = 0 → C0 100 12 = 0 := fun z => hm (hrm z)
    have hro : C 100 12 = 0 → (C 114 (14 + 6 * n4)).toInt ≤ 3 := fun z => by rw [(K1 114 (by decide)).1]; exact hro (hrm z)
    have ham : (C0 100 8).toInt ≤ (C 100 8).toInt := Int.le_trans ham hrat
    rcases hr with ⟨rfl, ht6⟩ | ⟨rfl, ht6, ht6E⟩
    · skip
      refine g_if_eq X dX8_readRoad_92 (tgt := 132) (by decide) (fun q => absurd q (by decide)) (fun _ => ?_)
      refine g_aload_n X dX8_readRoad_95 rfl (j := 4) rfl ?_
      refine g_callVI X (s_X8_good l G F I  ) lk_X8_161 (F.1 100 rfl).2 (F.1 100 rfl).1 rfl rfl dX8_readRoad_96 (Nat.le_of_ble_eq_true rfl) ⟨by decide, by decide⟩ ⟨by decide, by decide⟩ (fun r7 L M hp => ?_)
      obtain ⟨C, D, F, I, K1, hr⟩ := hp
      have K := K.step K1 (by decide)
      have hm : C 100 12 = 0 → C0 100 12 = 0 := fun z => hm ((congrFun (K1 100 (by decide)).1 12).symm.trans z)
      have hro : C 100 12 = 0 → (C 114 (14 + 6 * n4)).toInt ≤ 3 := fun z => by rw [(K1 114 (by decide)).1]; exact hro ((congrFun (K1 100 (by decide)).1 12).symm.trans z)
      have ham : (C0 100 8).toInt ≤ (C 100 8).toInt := by rw [(K1 100 (by decide)).1]; exact ham
      rcases hr with ⟨rfl, hg8⟩ | ⟨rfl, hg8⟩
      · skip
        have hgd := hg8
        refine g_if_eq X dX8_readRoad_99 (tgt := 123) (by decide) (fun _ => ?_) (fun q => absurd (by decide) q)
        refine g_aload_n X dX8_readRoad_123 rfl (j := 4) rfl ?_
        refine g_callVI X (s_X8_readPost l G F I  ) lk_X8_205 (F.1 100 rfl).2 (F.1 100 rfl).1 rfl rfl dX8_readRoad_124 (Nat.le_of_ble_eq_true rfl) ⟨by decide, by decide⟩ ⟨by decide, by decide⟩ (fun r9 L M hp => ?_)
        obtain ⟨C, D, F, I, K1, hr⟩ := hp
        have K := K.step K1 (by decide)
        obtain ⟨hrat, hrp, ⟨n10, hn10, en10⟩⟩ := hr
        subst en10
        have hm : C 100 12 = 0 → C0 100 12 = 0 := fun z => hm (hrp z).1
        have hro : C 100 12 = 0 → (C 114 (14 + 6 * n4)).toInt ≤ 3 := fun z => by rw [(K1 114 (by decide)).1]; exact hro (hrp z).1
        have ham : (C0 100 8).toInt ≤ (C 100 8).toInt := Int.le_trans ham hrat
        refine g_istore X dX8_readRoad_127 (by decide) (lv2 := [(4, .int (nI n10)), (3, .int (nI (14 + (6 * n4)))), (2, .int (nI n4)), (1, .int 0), (0, .ref (a 100))]) rfl ?_
        refine g_goto X dX8_readRoad_129 (tgt := 152) (by decide) ?_
        refine g_aload_n X dX8_readRoad_152 rfl (j := 4) rfl ?_
        refine g_callVI X (s_X8_good l G F I  ) lk_X8_161 (F.1 100 rfl).2 (F.1 100 rfl).1 rfl rfl dX8_readRoad_153 (Nat.le_of_ble_eq_true rfl) ⟨by decide, by decide⟩ ⟨by decide, by decide⟩ (fun r11 L M hp => ?_)
        obtain ⟨C, D, F, I, K1, hr⟩ := hp
        have K := K.step K1 (by decide)
        have hm : C 100 12 = 0 → C0 100 12 = 0 := fun z => hm ((congrFun (K1 100 (by decide)).1 12).symm.trans z)
        have hro : C 100 12 = 0 → (C 114 (14 + 6 * n4)).toInt ≤ 3 := fun z => by rw [(K1 114 (by decide)).1]; exact hro ((congrFun (K1 100 (by decide)).1 12).symm.trans z)
        have ham : (C0 100 8).toInt ≤ (C 100 8).toInt := by rw [(K1 100 (by decide)).1]; exact ham
        rcases hr with ⟨rfl, hg12⟩ | ⟨rfl, hg12⟩
        · skip
          have hgd := hg12
          refine g_if_ne X dX8_readRoad_156 (tgt := 160) (by decide) (fun q => absurd (by decide) q) (fun _ => ?_)
          exact g_vret X hrt dX8_readRoad_159 (by decide) (by decide) ⟨C, D, F, I, K, ham⟩
        · skip
          have hgd := hg12
          have hmy := hm hgd
          have hroy := hro hgd
          refine g_if_ne X dX8_readRoad_156 (tgt := 160) (by decide) (fun _ => ?_) (fun q => absurd q (by decide))
          refine g_aload_n X dX8_readRoad_160 rfl (j := 4) rfl ?_
          refine i_get X F 100 rfl rfl fk_X8_31 dX8_readRoad_161 rfl ?_
          refine g_iload_n X dX8_readRoad_164 rfl (j := 1) rfl ?_
          refine g_iconst X dX8_readRoad_165 (v := 1) (by decide) ?_
          refine g_iadd X dX8_readRoad_166 ?_
          refine Go.top (v := .int (nI ((14 + (6 * n4)) + 1))) (congrArg Value.int (nI_add (14 + (6 * n4)) 1)) ?_
          refine g_aload_n X dX8_readRoad_167 rfl (j := 4) rfl ?_
          refine i_get X F 100 rfl rfl fk_X8_31 dX8_readRoad_168 rfl ?_
          refine g_iload_n X dX8_readRoad_171 rfl (j := 1) rfl ?_
          obtain ⟨n13, hn13, en13⟩ := rg_nat ((show okw (14 + (6 * n4)) (C 114 (14 + (6 * n4))) from I 114 (14 + (6 * n4))).2.2.2.2.2.2.1 (by omega) (by omega) (by omega)) (by decide)
          refine i_iald X F 114 rfl rfl dX8_readRoad_172 (vp_in_nI (by omega) (by decide)) (v := nI n13) (by rw [nI_clamp (by omega)]; exact en13) ?_
          have hlen13 : n13 ≤ 3 := by have z := hroy; rw [en13, nI_toInt (by omega)] at z; omega
          refine g_iadd X dX8_readRoad_173 ?_
          refine Go.top (v := .int (nI (((14 + (6 * n4)) + 1) + n13))) (congrArg Value.int (nI_add ((14 + (6 * n4)) + 1) n13)) ?_
          refine g_iload X dX8_readRoad_174 (j := 0) rfl ?_
          refine i_iast X F I 114 rfl (fun _ => rfl) dX8_readRoad_176 (vp_in_nI (by omega) (by decide)) (by rw [nI_clamp (by omega)]; show okw (((14 + (6 * n4)) + 1) + n13) (nI n10); exact ⟨fun h => by exfalso; omega, fun h => by exfalso; omega, fun h => by exfalso; omega, fun h => by exfalso; omega, fun h => by exfalso; omega, fun h => by exfalso; omega, fun a1 a2 a3 => by exfalso; omega, fun a1 a2 a3 => by exfalso; omega, fun _ _ _ _ => (gl_of (n := n10) (by omega)), fun a1 a2 a3 => by exfalso; omega, fun a1 a2 => by exfalso; omega⟩) (fun M C F I K1 hC => ?_)
          have K := K.step K1 (by decide)
          have hm : C 100 12 = 0 → C0 100 12 = 0 := fun z => hm ((congrFun (K1 100 (by decide)).1 12).symm.trans z)
          have ham : (C0 100 8).toInt ≤ (C 100 8).toInt := by rw [(K1 100 (by decide)).1]; exact ham
          have hgd : C 100 12 = 0 := by rw [(K1 100 (by decide)).1]; exact hgd
          have en13 : C 114 (14 + (6 * n4)) = nI n13 := by rw [hC, nI_clamp (by omega), pk_un (by omega)]; exact en13
          refine g_aload_n X dX8_readRoad_177 rfl (j := 4) rfl ?_
          refine i_get X F 100 rfl rfl fk_X8_31 dX8_readRoad_178 rfl ?_
          refine g_iload_n X dX8_readRoad_181 rfl (j := 1) rfl ?_
          refine g_dup2 X dX8_readRoad_182 rfl rfl ?_
          refine i_iald X F 114 rfl rfl dX8_readRoad_183 (vp_in_nI (by omega) (by decide)) (v := nI n13) (by rw [nI_clamp (by omega)]; exact en13) ?_
          refine g_iconst X dX8_readRoad_184 (v := 1) (by decide) ?_
          refine g_iadd X dX8_readRoad_185 ?_
          refine Go.top (v := .int (nI (n13 + 1))) (congrArg Value.int (nI_add n13 1)) ?_
          refine i_iast X F I 114 rfl (fun _ => rfl) dX8_readRoad_186 (vp_in_nI (by omega) (by decide)) (by rw [nI_clamp (by omega)]; show okw (14 + (6 * n4)) (nI (n13 + 1)); exact ⟨fun h => by exfalso; omega, fun h => by exfalso; omega, fun h => by exfalso; omega, fun h => by exfalso; omega, fun h => by exfalso; omega, fun h => by exfalso; omega, fun _ _ _ => (rg_of (n := (n13 + 1)) (by omega) (by omega) (by omega)), fun a1 a2 a3 => by exfalso; omega, fun a1 a2 a3 a4 => by exfalso; omega, fun a1 a2 a3 => by exfalso; omega, fun a1 a2 => by exfalso; omega⟩) (fun M C F I K1 hC => ?_)
          have K := K.step K1 (by decide)
          have hm : C 100 12 = 0 → C0 100 12 = 0 := fun z => hm ((congrFun (K1 100 (by decide)).1 12).symm.trans z)
          have ham : (C0 100 8).toInt ≤ (C 100 8).toInt := by rw [(K1 100 (by decide)).1]; exact ham
          have hgd : C 100 12 = 0 := by rw [(K1 100 (by decide)).1]; exact hgd
          refine g_aload_n X dX8_readRoad_187 rfl (j := 4) rfl ?_
          refine i_get X F 100 rfl rfl fk_X8_31 dX8_readRoad_188 rfl ?_
          refine g_iconst X dX8_readRoad_191 (v := 5) (by decide) ?_
          refine g_dup2 X dX8_readRoad_192 rfl rfl ?_
          refine i_iald X F 114 rfl rfl dX8_readRoad_193 (vp_in_iff.mpr (by decide)) rfl ?_
          refine Go.gen (fun o14 => ?_)
          refine g_iconst X dX8_readRoad_194 (v := 1) (by decide) ?_
          refine g_iadd X dX8_readRoad_195 ?_
          refine Go.gen (fun o15 => ?_)
          refine i_iast X F I 114 rfl (fun _ => rfl) dX8_readRoad_196 (vp_in_iff.mpr (by decide)) (by show okw (5) (o15); exact ⟨fun h => by exfalso; omega, fun h => by exfalso; omega, fun h => by exfalso; omega, fun h => by exfalso; omega, fun h => by exfalso; omega, fun h => by exfalso; omega, fun a1 a2 a3 => by exfalso; omega, fun a1 a2 a3 => by exfalso; omega, fun a1 a2 a3 a4 => by exfalso; omega, fun a1 a2 a3 => by exfalso; omega, fun a1 a2 => by exfalso; omega⟩) (fun M C F I K1 hC => ?_)
          have K := K.step K1 (by decide)
          have hm : C 100 12 = 0 → C0 100 12 = 0 := fun z => hm ((congrFun (K1 100 (by decide)).1 12).symm.trans z)
          have ham : (C0 100 8).toInt ≤ (C 100 8).toInt := by rw [(K1 100 (by decide)).1]; exact ham
          have hgd : C 100 12 = 0 := by rw [(K1 100 (by decide)).1]; exact hgd
          exact g_vret X hrt dX8_readRoad_197 (by decide) (by decide) ⟨C, D, F, I, K, ham⟩
      · skip
        have hgd := hg8
        have hmy := hm hgd
        have hroy := hro hgd
        refine g_if_eq X dX8_readRoad_99 (tgt := 123) (by decide) (fun q => absurd q (by decide)) (fun _ => ?_)
        refine g_aload_n X dX8_readRoad_102 rfl (j := 4) rfl ?_
        obtain ⟨o16, eo16⟩ : ∃ z, C 100 10 = z := ⟨_, rfl⟩
        refine i_get X F 100 rfl rfl fk_X8_137 dX8_readRoad_103 (v := .int o16) (congrArg (fun z => some (Value.int z)) eo16) ?_
        refine g_iconst X dX8_readRoad_106 (v := 2) (by decide) ?_
        refine g_icmp_ne X dX8_readRoad_107 (tgt := 123) (by decide) (fun q17 => ?_) (fun q17 => ?_)
        · skip
          refine g_aload_n X dX8_readRoad_123 rfl (j := 4) rfl ?_
          refine g_callVI X (s_X8_readPost l G F I  ) lk_X8_205 (F.1 100 rfl).2 (F.1 100 rfl).1 rfl rfl dX8_readRoad_124 (Nat.le_of_ble_eq_true rfl) ⟨by decide, by decide⟩ ⟨by decide, by decide⟩ (fun r18 L M hp => ?_)
          obtain ⟨C, D, F, I, K1, hr⟩ := hp
          have K := K.step K1 (by decide)
          obtain ⟨hrat, hrp, ⟨n19, hn19, en19⟩⟩ := hr
          subst en19
          have hm : C 100 12 = 0 → C0 100 12 = 0 := fun z => hm (hrp z).1
          have hro : C 100 12 = 0 → (C 114 (14 + 6 * n4)).toInt ≤ 3 := fun z => by rw [(K1 114 (by decide)).1]; exact hro (hrp z).1
          have ham : (C0 100 8).toInt ≤ (C 100 8).toInt := Int.le_trans ham hrat
          refine g_istore X dX8_readRoad_127 (by decide) (lv2 := [(4, .int (nI n19)), (3, .int (nI (14 + (6 * n4)))), (2, .int (nI n4)), (1, .int 0), (0, .ref (a 100))]) rfl ?_
          refine g_goto X dX8_readRoad_129 (tgt := 152) (by decide) ?_
          refine g_aload_n X dX8_readRoad_152 rfl (j := 4) rfl ?_
          refine g_callVI X (s_X8_good l G F I  ) lk_X8_161 (F.1 100 rfl).2 (F.1 100 rfl).1 rfl rfl dX8_readRoad_153 (Nat.le_of_ble_eq_true rfl) ⟨by decide, by decide⟩ ⟨by decide, by decide⟩ (fun r20 L M hp => ?_)
          obtain ⟨C, D, F, I, K1, hr⟩ := hp
          have K := K.step K1 (by decide)
          have hm : C 100 12 = 0 → C0 100 12 = 0 := fun z => hm ((congrFun (K1 100 (by decide)).1 12).symm.trans z)
          have hro : C 100 12 = 0 → (C 114 (14 + 6 * n4)).toInt ≤ 3 := fun z => by rw [(K1 114 (by decide)).1]; exact hro ((congrFun (K1 100 (by decide)).1 12).symm.trans z)
          have ham : (C0 100 8).toInt ≤ (C 100 8).toInt := by rw [(K1 100 (by decide)).1]; exact ham
          rcases hr with ⟨rfl, hg21⟩ | ⟨rfl, hg21⟩
          · skip
            have hgd := hg21
            refine g_if_ne X dX8_readRoad_156 (tgt := 160) (by decide) (fun q => absurd (by decide) q) (fun _ => ?_)
            exact g_vret X hrt dX8_readRoad_159 (by decide) (by decide) ⟨C, D, F, I, K, ham⟩
          · skip
            have hgd := hg21
            have hmy := hm hgd
            have hroy := hro hgd
            refine g_if_ne X dX8_readRoad_156 (tgt := 160) (by decide) (fun _ => ?_) (fun q => absurd q (by decide))
            refine g_aload_n X dX8_readRoad_160 rfl (j := 4) rfl ?_
            refine i_get X F 100 rfl rfl fk_X8_31 dX8_readRoad_161 rfl ?_
            refine g_iload_n X dX8_readRoad_164 rfl (j := 1) rfl ?_
            refine g_iconst X dX8_readRoad_165 (v := 1) (by decide) ?_
            refine g_iadd X dX8_readRoad_166 ?_
            refine Go.top (v := .int (nI ((14 + (6 * n4)) + 1))) (congrArg Value.int (nI_add (14 + (6 * n4)) 1)) ?_
            refine g_aload_n X dX8_readRoad_167 rfl (j := 4) rfl ?_
            refine i_get X F 100 rfl rfl fk_X8_31 dX8_readRoad_168 rfl ?_
            refine g_iload_n X dX8_readRoad_171 rfl (j := 1) rfl ?_
            obtain ⟨n22, hn22, en22⟩ := rg_nat ((show okw (14 + (6 * n4)) (C 114 (14 + (6 * n4))) from I 114 (14 + (6 * n4))).2.2.2.2.2.2.1 (by omega) (by omega) (by omega)) (by decide)
            refine i_iald X F 114 rfl rfl dX8_readRoad_172 (vp_in_nI (by omega) (by decide)) (v := nI n22) (by rw [nI_clamp (by omega)]; exact en22) ?_
            have hlen22 : n22 ≤ 3 := by have z := hroy; rw [en22, nI_toInt (by omega)] at z; omega
            refine g_iadd X dX8_readRoad_173 ?_
            refine Go.top (v := .int (nI (((14 + (6 * n4)) + 1) + n22))) (congrArg Value.int (nI_add ((14 + (6 * n4)) + 1) n22)) ?_
            refine g_iload X dX8_readRoad_174 (j := 0) rfl ?_
            refine i_iast X F I 114 rfl (fun _ => rfl) dX8_readRoad_176 (vp_in_nI (by omega) (by decide)) (by rw [nI_clamp (by omega)]; show okw (((14 + (6 * n4)) + 1) + n22) (nI n19); exact ⟨fun h => by exfalso; omega, fun h => by exfalso; omega, fun h => by exfalso; omega, fun h => by exfalso; omega, fun h => by exfalso; omega, fun h => by exfalso; omega, fun a1 a2 a3 => by exfalso; omega, fun a1 a2 a3 => by exfalso; omega, fun _ _ _ _ => (gl_of (n := n19) (by omega)), fun a1 a2 a3 => by exfalso; omega, fun a1 a2 => by exfalso; omega⟩) (fun M C F I K1 hC => ?_)
            have K := K.step K1 (by decide)
            have hm : C 100 12 = 0 → C0 100 12 = 0 := fun z => hm ((congrFun (K1 100 (by decide)).1 12).symm.trans z)
            have ham : (C0 100 8).toInt ≤ (C 100 8).toInt := by rw [(K1 100 (by decide)).1]; exact ham
            have hgd : C 100 12 = 0 := by rw [(K1 100 (by decide)).1]; exact hgd
            have en22 : C 114 (14 + (6 * n4)) = nI n22 := by rw [hC, nI_clamp (by omega), pk_un (by omega)]; exact en22
            refine g_aload_n X dX8_readRoad_177 rfl (j := 4) rfl ?_
            refine i_get X F 100 rfl rfl fk_X8_31 dX8_readRoad_178 rfl ?_
            refine g_iload_n X dX8_readRoad_181 rfl (j := 1) rfl ?_
            refine g_dup2 X dX8_readRoad_182 rfl rfl ?_
            refine i_iald X F 114 rfl rfl dX8_readRoad_183 (vp_in_nI (by omega) (by decide)) (v := nI n22) (by rw [nI_clamp (by omega)]; exact en22) ?_
            refine g_iconst X dX8_readRoad_184 (v := 1) (by decide) ?_
            refine g_iadd X dX8_readRoad_185 ?_
            refine Go.top (v := .int (nI (n22 + 1))) (congrArg Value.int (nI_add n22 1)) ?_
            refine i_iast X F I 114 rfl (fun _ => rfl) dX8_readRoad_186 (vp_in_nI (by omega) (by decide)) (by rw [nI_clamp (by omega)]; show okw (14 + (6 * n4)) (nI (n22 + 1)); exact ⟨fun h => by exfalso; omega, fun h => by exfalso; omega, fun h => by exfalso; omega, fun h => by exfalso; omega, fun h => by exfalso; omega, fun h => by exfalso; omega, fun _ _ _ => (rg_of (n := (n22 + 1)) (by omega) (by omega) (by omega)), fun a1 a2 a3 => by exfalso; omega, fun a1 a2 a3 a4 => by exfalso; omega, fun a1 a2 a3 => by exfalso; omega, fun a1 a2 => by exfalso; omega⟩) (fun M C F I K1 hC => ?_)
            have K := K.step K1 (by decide)
            have hm : C 100 12 = 0 → C0 100 12 = 0 := fun z => hm ((congrFun (K1 100 (by decide)).1 12).symm.trans z)
            have ham : (C0 100 8).toInt ≤ (C 100 8).toInt := by rw [(K1 100 (by decide)).1]; exact ham
            have hgd : C 100 12 = 0 := by rw [(K1 100 (by decide)).1]; exact hgd
            refine g_aload_n X dX8_readRoad_187 rfl (j := 4) rfl ?_
            refine i_get X F 100 rfl rfl fk_X8_31 dX8_readRoad_188 rfl ?_
            refine g_iconst X dX8_readRoad_191 (v := 5) (by decide) ?_
            refine g_dup2 X dX8_readRoad_192 rfl rfl ?_
            refine i_iald X F 114 rfl rfl dX8_readRoad_193 (vp_in_iff.mpr (by decide)) rfl ?_
            refine Go.gen (fun o23 => ?_)
            refine g_iconst X dX8_readRoad_194 (v := 1) (by decide) ?_
            refine g_iadd X dX8_readRoad_195 ?_
            refine Go.gen (fun o24 => ?_)
            refine i_iast X F I 114 rfl (fun _ => rfl) dX8_readRoad_196 (vp_in_iff.mpr (by decide)) (by show okw (5) (o24); exact ⟨fun h => by exfalso; omega, fun h => by exfalso; omega, fun h => by exfalso; omega, fun h => by exfalso; omega, fun h => by exfalso; omega, fun h => by exfalso; omega, fun a1 a2 a3 => by exfalso; omega, fun a1 a2 a3 => by exfalso; omega, fun a1 a2 a3 a4 => by exfalso; omega, fun a1 a2 a3 => by exfalso; omega, fun a1 a2 => by exfalso; omega⟩) (fun M C F I K1 hC => ?_)
            have K := K.step K1 (by decide)
            have hm : C 100 12 = 0 → C0 100 12 = 0 := fun z => hm ((congrFun (K1 100 (by decide)).1 12).symm.trans z)
            have ham : (C0 100 8).toInt ≤ (C 100 8).toInt := by rw [(K1 100 (by decide)).1]; exact ham
            have hgd : C 100 12 = 0 := by rw [(K1 100 (by decide)).1]; exact hgd
            exact g_vret X hrt dX8_readRoad_197 (by decide) (by decide) ⟨C, D, F, I, K, ham⟩
        · skip
          subst q17
          refine g_aload_n X dX8_readRoad_110 rfl (j := 4) rfl ?_
          obtain ⟨o25, eo25⟩ : ∃ z, C 100 11 = z := ⟨_, rfl⟩
          refine i_get X F 100 rfl rfl fk_X8_148 dX8_readRoad_111 (v := .int o25) (congrArg (fun z => some (Value.int z)) eo25) ?_
          refine g_iload_n X dX8_readRoad_114 rfl (j := 2) rfl ?_
          refine g_icmp_ne X dX8_readRoad_115 (tgt := 123) (by decide) (fun q26 => ?_) (fun q26 => ?_)
          · skip
            refine g_aload_n X dX8_readRoad_123 rfl (j := 4) rfl ?_
            refine g_callVI X (s_X8_readPost l G F I  ) lk_X8_205 (F.1 100 rfl).2 (F.1 100 rfl).1 rfl rfl dX8_readRoad_124 (Nat.le_of_ble_eq_true rfl) ⟨by decide, by decide⟩ ⟨by decide, by decide⟩ (fun r27 L M hp => ?_)
            obtain ⟨C, D, F, I, K1, hr⟩ := hp
            have K := K.step K1 (by decide)
            obtain ⟨hrat, hrp, ⟨n28, hn28, en28⟩⟩ := hr
            subst en28
            have hm : C 100 12 = 0 → C0 100 12 = 0 := fun z => hm (hrp z).1
            have hro : C 100 12 = 0 → (C 114 (14 + 6 * n4)).toInt ≤ 3 := fun z => by rw [(K1 114 (by decide)).1]; exact hro (hrp z).1
            have ham : (C0 100 8).toInt ≤ (C 100 8).toInt := Int.le_trans ham hrat
            refine g_istore X dX8_readRoad_127 (by decide) (lv2 := [(4, .int (nI n28)), (3, .int (nI (14 + (6 * n4)))), (2, .int (nI n4)), (1, .int 0), (0, .ref (a 100))]) rfl ?_
            refine g_goto X dX8_readRoad_129 (tgt := 152) (by decide) ?_
            refine g_aload_n X dX8_readRoad_152 rfl (j := 4) rfl ?_
            refine g_callVI X (s_X8_good l G F I  ) lk_X8_161 (F.1 100 rfl).2 (F.1 100 rfl).1 rfl rfl dX8_readRoad_153 (Nat.le_of_ble_eq_true rfl) ⟨by decide, by decide⟩ ⟨by decide, by decide⟩ (fun r29 L M hp => ?_)
            obtain ⟨C, D, F, I, K1, hr⟩ := hp
            have K := K.step K1 (by decide)
            have hm : C 100 12 = 0 → C0 100 12 = 0 := fun z => hm ((congrFun (K1 100 (by decide)).1 12).symm.trans z)
            have hro : C 100 12 = 0 → (C 114 (14 + 6 * n4)).toInt ≤ 3 := fun z => by rw [(K1 114 (by decide)).1]; exact hro ((congrFun (K1 100 (by decide)).1 12).symm.trans z)
            have ham : (C0 100 8).toInt ≤ (C 100 8).toInt := by rw [(K1 100 (by decide)).1]; exact ham
            rcases hr with ⟨rfl, hg30⟩ | ⟨rfl, hg30⟩
            · skip
              have hgd := hg30
              refine g_if_ne X dX8_readRoad_156 (tgt := 160) (by decide) (fun q => absurd (by decide) q) (fun _ => ?_)
              exact g_vret X hrt dX8_readRoad_159 (by decide) (by decide) ⟨C, D, F, I, K, ham⟩
            · skip
              have hgd := hg30
              have hmy := hm hgd
              have hroy := hro hgd
              refine g_if_ne X dX8_readRoad_156 (tgt := 160) (by decide) (fun _ => ?_) (fun q => absurd q (by decide))
              refine g_aload_n X dX8_readRoad_160 rfl (j := 4) rfl ?_
              refine i_get X F 100 rfl rfl fk_X8_31 dX8_readRoad_161 rfl ?_
              refine g_iload_n X dX8_readRoad_164 rfl (j := 1) rfl ?_
              refine g_iconst X dX8_readRoad_165 (v := 1) (by decide) ?_
              refine g_iadd X dX8_readRoad_166 ?_
              refine Go.top (v := .int (nI ((14 + (6 * n4)) + 1))) (congrArg Value.int (nI_add (14 + (6 * n4)) 1)) ?_
              refine g_aload_n X dX8_readRoad_167 rfl (j := 4) rfl ?_
              refine i_get X F 100 rfl rfl fk_X8_31 dX8_readRoad_168 rfl ?_
              refine g_iload_n X dX8_readRoad_171 rfl (j := 1) rfl ?_
              obtain ⟨n31, hn31, en31⟩ := rg_nat ((show okw (14 + (6 * n4)) (C 114 (14 + (6 * n4))) from I 114 (14 + (6 * n4))).2.2.2.2.2.2.1 (by omega) (by omega) (by omega)) (by decide)
              refine i_iald X F 114 rfl rfl dX8_readRoad_172 (vp_in_nI (by omega) (by decide)) (v := nI n31) (by rw [nI_clamp (by omega)]; exact en31) ?_
              have hlen31 : n31 ≤ 3 := by have z := hroy; rw [en31, nI_toInt (by omega)] at z; omega
              refine g_iadd X dX8_readRoad_173 ?_
              refine Go.top (v := .int (nI (((14 + (6 * n4)) + 1) + n31))) (congrArg Value.int (nI_add ((14 + (6 * n4)) + 1) n31)) ?_
              refine g_iload X dX8_readRoad_174 (j := 0) rfl ?_
              refine i_iast X F I 114 rfl (fun _ => rfl) dX8_readRoad_176 (vp_in_nI (by omega) (by decide)) (by rw [nI_clamp (by omega)]; show okw (((14 + (6 * n4)) + 1) + n31) (nI n28); exact ⟨fun h => by exfalso; omega, fun h => by exfalso; omega, fun h => by exfalso; omega, fun h => by exfalso; omega, fun h => by exfalso; omega, fun h => by exfalso; omega, fun a1 a2 a3 => by exfalso; omega, fun a1 a2 a3 => by exfalso; omega, fun _ _ _ _ => (gl_of (n := n28) (by omega)), fun a1 a2 a3 => by exfalso; omega, fun a1 a2 => by exfalso; omega⟩) (fun M C F I K1 hC => ?_)
              have K := K.step K1 (by decide)
              have hm : C 100 12 = 0 → C0 100 12 = 0 := fun z => hm ((congrFun (K1 100 (by decide)).1 12).symm.trans z)
              have ham : (C0 100 8).toInt ≤ (C 100 8).toInt := by rw [(K1 100 (by decide)).1]; exact ham
              have hgd : C 100 12 = 0 := by rw [(K1 100 (by decide)).1]; exact hgd
              have en31 : C 114 (14 + (6 * n4)) = nI n31 := by rw [hC, nI_clamp (by omega), pk_un (by omega)]; exact en31
              refine g_aload_n X dX8_readRoad_177 rfl (j := 4) rfl ?_
              refine i_get X F 100 rfl rfl fk_X8_31 dX8_readRoad_178 rfl ?_
              refine g_iload_n X dX8_readRoad_181 rfl (j := 1) rfl ?_
              refine g_dup2 X dX8_readRoad_182 rfl rfl ?_
              refine i_iald X F 114 rfl rfl dX8_readRoad_183 (vp_in_nI (by omega) (by decide)) (v := nI n31) (by rw [nI_clamp (by omega)]; exact en31) ?_
              refine g_iconst X dX8_readRoad_184 (v := 1) (by decide) ?_
              refine g_iadd X dX8_readRoad_185 ?_
              refine Go.top (v := .int (nI (n31 + 1))) (congrArg Value.int (nI_add n31 1)) ?_
              refine i_iast X F I 114 rfl (fun _ => rfl) dX8_readRoad_186 (vp_in_nI (by omega) (by decide)) (by rw [nI_clamp (by omega)]; show okw (14 + (6 * n4)) (nI (n31 + 1)); exact ⟨fun h => by exfalso; omega, fun h => by exfalso; omega, fun h => by exfalso; omega, fun h => by exfalso; omega, fun h => by exfalso; omega, fun h => by exfalso; omega, fun _ _ _ => (rg_of (n := (n31 + 1)) (by omega) (by omega) (by omega)), fun a1 a2 a3 => by exfalso; omega, fun a1 a2 a3 a4 => by exfalso; omega, fun a1 a2 a3 => by exfalso; omega, fun a1 a2 => by exfalso; omega⟩) (fun M C F I K1 hC => ?_)
              have K := K.step K1 (by decide)
              have hm : C 100 12 = 0 → C0 100 12 = 0 := fun z => hm ((congrFun (K1 100 (by decide)).1 12).symm.trans z)
              have ham : (C0 100 8).toInt ≤ (C 100 8).toInt := by rw [(K1 100 (by decide)).1]; exact ham
              have hgd : C 100 12 = 0 := by rw [(K1 100 (by decide)).1]; exact hgd
              refine g_aload_n X dX8_readRoad_187 rfl (j := 4) rfl ?_
              refine i_get X F 100 rfl rfl fk_X8_31 dX8_readRoad_188 rfl ?_
              refine g_iconst X dX8_readRoad_191 (v := 5) (by decide) ?_
              refine g_dup2 X dX8_readRoad_192 rfl rfl ?_
              refine i_iald X F 114 rfl rfl dX8_readRoad_193 (vp_in_iff.mpr (by decide)) rfl ?_
              refine Go.gen (fun o32 => ?_)
              refine g_iconst X dX8_readRoad_194 (v := 1) (by decide) ?_
              refine g_iadd X dX8_readRoad_195 ?_
              refine Go.gen (fun o33 => ?_)
              refine i_iast X F I 114 rfl (fun _ => rfl) dX8_readRoad_196 (vp_in_iff.mpr (by decide)) (by show okw (5) (o33); exact ⟨fun h => by exfalso; omega, fun h => by exfalso; omega, fun h => by exfalso; omega, fun h => by exfalso; omega, fun h => by exfalso; omega, fun h => by exfalso; omega, fun a1 a2 a3 => by exfalso; omega, fun a1 a2 a3 => by exfalso; omega, fun a1 a2 a3 a4 => by exfalso; omega, fun a1 a2 a3 => by exfalso; omega, fun a1 a2 => by exfalso; omega⟩) (fun M C F I K1 hC => ?_)
              have K := K.step K1 (by decide)
              have hm : C 100 12 = 0 → C0 100 12 = 0 := fun z => hm ((congrFun (K1 100 (by decide)).1 12).symm.trans z)
              have ham : (C0 100 8).toInt ≤ (C 100 8).toInt := by rw [(K1 100 (by decide)).1]; exact ham
              have hgd : C 100 12 = 0 := by rw [(K1 100 (by decide)).1]; exact hgd
              exact g_vret X hrt dX8_readRoad_197 (by decide) (by decide) ⟨C, D, F, I, K, ham⟩
          · skip
            refine g_aload_n X dX8_readRoad_118 rfl (j := 4) rfl ?_
            refine g_iconst X dX8_readRoad_119 (v := 2) (by decide) ?_
            refine g_callVV X (s_X8_errs l G F I (2 : Int32) (by decide)) lk_X8_183 (F.1 100 rfl).2 (F.1 100 rfl).1 rfl rfl dX8_readRoad_120 (Nat.le_of_ble_eq_true rfl) ⟨by decide, by decide⟩ ⟨by decide, by decide⟩ (fun L M hp => ?_)
            obtain ⟨C, D, F, I, K1, hr⟩ := hp
            have K := K.step K1 (by decide)
            obtain ⟨hr, hr8⟩ := hr
            have hm : C 100 12 = 0 → C0 100 12 = 0 := fun z => absurd z hr
            have hro : C 100 12 = 0 → (C 114 (14 + 6 * n4)).toInt ≤ 3 := fun z => by rw [(K1 114 (by decide)).1]; exact absurd z hr
            have hgd := hr
            have ham : (C0 100 8).toInt ≤ (C 100 8).toInt := Int.le_trans ham (by rw [hr8]; exact Int.le_refl _)
            refine g_aload_n X dX8_readRoad_123 rfl (j := 4) rfl ?_
            refine g_callVI X (s_X8_readPost l G F I  ) lk_X8_205 (F.1 100 rfl).2 (F.1 100 rfl).1 rfl rfl dX8_readRoad_124 (Nat.le_of_ble_eq_true rfl) ⟨by decide, by decide⟩ ⟨by decide, by decide⟩ (fun r34 L M hp => ?_)
            obtain ⟨C, D, F, I, K1, hr⟩ := hp
            have K := K.step K1 (by decide)
            obtain ⟨hrat, hrp, ⟨n35, hn35, en35⟩⟩ := hr
            subst en35
            have hm : C 100 12 = 0 → C0 100 12 = 0 := fun z => hm (hrp z).1
            have hro : C 100 12 = 0 → (C 114 (14 + 6 * n4)).toInt ≤ 3 := fun z => by rw [(K1 114 (by decide)).1]; exact hro (hrp z).1
            have ham : (C0 100 8).toInt ≤ (C 100 8).toInt := Int.le_trans ham hrat
            refine g_istore X dX8_readRoad_127 (by decide) (lv2 := [(4, .int (nI n35)), (3, .int (nI (14 + (6 * n4)))), (2, .int (nI n4)), (1, .int 0), (0, .ref (a 100))]) rfl ?_
            refine g_goto X dX8_readRoad_129 (tgt := 152) (by decide) ?_
            refine g_aload_n X dX8_readRoad_152 rfl (j := 4) rfl ?_
            refine g_callVI X (s_X8_good l G F I  ) lk_X8_161 (F.1 100 rfl).2 (F.1 100 rfl).1 rfl rfl dX8_readRoad_153 (Nat.le_of_ble_eq_true rfl) ⟨by decide, by decide⟩ ⟨by decide, by decide⟩ (fun r36 L M hp => ?_)
            obtain ⟨C, D, F, I, K1, hr⟩ := hp
            have K := K.step K1 (by decide)
            have hm : C 100 12 = 0 → C0 100 12 = 0 := fun z => hm ((congrFun (K1 100 (by decide)).1 12).symm.trans z)
            have hro : C 100 12 = 0 → (C 114 (14 + 6 * n4)).toInt ≤ 3 := fun z => by rw [(K1 114 (by decide)).1]; exact hro ((congrFun (K1 100 (by decide)).1 12).symm.trans z)
            have ham : (C0 100 8).toInt ≤ (C 100 8).toInt := by rw [(K1 100 (by decide)).1]; exact ham
            rcases hr with ⟨rfl, hg37⟩ | ⟨rfl, hg37⟩
            · skip
              have hgd := hg37
              refine g_if_ne X dX8_readRoad_156 (tgt := 160) (by decide) (fun q => absurd (by decide) q) (fun _ => ?_)
              exact g_vret X hrt dX8_readRoad_159 (by decide) (by decide) ⟨C, D, F, I, K, ham⟩
            · skip
              have hgd := hg37
              have hmy := hm hgd
              have hroy := hro hgd
              refine g_if_ne X dX8_readRoad_156 (tgt := 160) (by decide) (fun _ => ?_) (fun q => absurd q (by decide))
              refine g_aload_n X dX8_readRoad_160 rfl (j := 4) rfl ?_
              refine i_get X F 100 rfl rfl fk_X8_31 dX8_readRoad_161 rfl ?_
              refine g_iload_n X dX8_readRoad_164 rfl (j := 1) rfl ?_
              refine g_iconst X dX8_readRoad_165 (v := 1) (by decide) ?_
              refine g_iadd X dX8_readRoad_166 ?_
              refine Go.top (v := .int (nI ((14 + (6 * n4)) + 1))) (congrArg Value.int (nI_add (14 + (6 * n4)) 1)) ?_
              refine g_aload_n X dX8_readRoad_167 rfl (j := 4) rfl ?_
              refine i_get X F 100 rfl rfl fk_X8_31 dX8_readRoad_168 rfl ?_
              refine g_iload_n X dX8_readRoad_171 rfl (j := 1) rfl ?_
              obtain ⟨n38, hn38, en38⟩ := rg_nat ((show okw (14 + (6 * n4)) (C 114 (14 + (6 * n4))) from I 114 (14 + (6 * n4))).2.2.2.2.2.2.1 (by omega) (by omega) (by omega)) (by decide)
              refine i_iald X F 114 rfl rfl dX8_readRoad_172 (vp_in_nI (by omega) (by decide)) (v := nI n38) (by rw [nI_clamp (by omega)]; exact en38) ?_
              have hlen38 : n38 ≤ 3 := by have z := hroy; rw [en38, nI_toInt (by omega)] at z; omega
              refine g_iadd X dX8_readRoad_173 ?_
              refine Go.top (v := .int (nI (((14 + (6 * n4)) + 1) + n38))) (congrArg Value.int (nI_add ((14 + (6 * n4)) + 1) n38)) ?_
              refine g_iload X dX8_readRoad_174 (j := 0) rfl ?_
              refine i_iast X F I 114 rfl (fun _ => rfl) dX8_readRoad_176 (vp_in_nI (by omega) (by decide)) (by rw [nI_clamp (by omega)]; show okw (((14 + (6 * n4)) + 1) + n38) (nI n35); exact ⟨fun h => by exfalso; omega, fun h => by exfalso; omega, fun h => by exfalso; omega, fun h => by exfalso; omega, fun h => by exfalso; omega, fun h => by exfalso; omega, fun a1 a2 a3 => by exfalso; omega, fun a1 a2 a3 => by exfalso; omega, fun _ _ _ _ => (gl_of (n := n35) (by omega)), fun a1 a2 a3 => by exfalso; omega, fun a1 a2 => by exfalso; omega⟩) (fun M C F I K1 hC => ?_)
              have K := K.step K1 (by decide)
              have hm : C 100 12 = 0 → C0 100 12 = 0 := fun z => hm ((congrFun (K1 100 (by decide)).1 12).symm.trans z)
              have ham : (C0 100 8).toInt ≤ (C 100 8).toInt := by rw [(K1 100 (by decide)).1]; exact ham
              have hgd : C 100 12 = 0 := by rw [(K1 100 (by decide)).1]; exact hgd
              have en38 : C 114 (14 + (6 * n4)) = nI n38 := by rw [hC, nI_clamp (by omega), pk_un (by omega)]; exact en38
              refine g_aload_n X dX8_readRoad_177 rfl (j := 4) rfl ?_
              refine i_get X F 100 rfl rfl fk_X8_31 dX8_readRoad_178 rfl ?_
              refine g_iload_n X dX8_readRoad_181 rfl (j := 1) rfl ?_
              refine g_dup2 X dX8_readRoad_182 rfl rfl ?_
              refine i_iald X F 114 rfl rfl dX8_readRoad_183 (vp_in_nI (by omega) (by decide)) (v := nI n38) (by rw [nI_clamp (by omega)]; exact en38) ?_
              refine g_iconst X dX8_readRoad_184 (v := 1) (by decide) ?_
              refine g_iadd X dX8_readRoad_185 ?_
              refine Go.top (v := .int (nI (n38 + 1))) (congrArg Value.int (nI_add n38 1)) ?_
              refine i_iast X F I 114 rfl (fun _ => rfl) dX8_readRoad_186 (vp_in_nI (by omega) (by decide)) (by rw [nI_clamp (by omega)]; show okw (14 + (6 * n4)) (nI (n38 + 1)); exact ⟨fun h => by exfalso; omega, fun h => by exfalso; omega, fun h => by exfalso; omega, fun h => by exfalso; omega, fun h => by exfalso; omega, fun h => by exfalso; omega, fun _ _ _ => (rg_of (n := (n38 + 1)) (by omega) (by omega) (by omega)), fun a1 a2 a3 => by exfalso; omega, fun a1 a2 a3 a4 => by exfalso; omega, fun a1 a2 a3 => by exfalso; omega, fun a1 a2 => by exfalso; omega⟩) (fun M C F I K1 hC => ?_)
              have K := K.step K1 (by decide)
              have hm : C 100 12 = 0 → C0 100 12 = 0 := fun z => hm ((congrFun (K1 100 (by decide)).1 12).symm.trans z)
              have ham : (C0 100 8).toInt ≤ (C 100 8).toInt := by rw [(K1 100 (by decide)).1]; exact ham
              have hgd : C 100 12 = 0 := by rw [(K1 100 (by decide)).1]; exact hgd
              refine g_aload_n X dX8_readRoad_187 rfl (j := 4) rfl ?_
              refine i_get X F 100 rfl rfl fk_X8_31 dX8_readRoad_188 rfl ?_
              refine g_iconst X dX8_readRoad_191 (v := 5) (by decide) ?_
              refine g_dup2 X dX8_readRoad_192 rfl rfl ?_
              refine i_iald X F 114 rfl rfl dX8_readRoad_193 (vp_in_iff.mpr (by decide)) rfl ?_
              refine Go.gen (fun o39 => ?_)
              refine g_iconst X dX8_readRoad_194 (v := 1) (by decide) ?_
              refine g_iadd X dX8_readRoad_195 ?_
              refine Go.gen (fun o40 => ?_)
              refine i_iast X F I 114 rfl (fun _ => rfl) dX8_readRoad_196 (vp_in_iff.mpr (by decide)) (by show okw (5) (o40); exact ⟨fun h => by exfalso; omega, fun h => by exfalso; omega, fun h => by exfalso; omega, fun h => by exfalso; omega, fun h => by exfalso; omega, fun h => by exfalso; omega, fun a1 a2 a3 => by exfalso; omega, fun a1 a2 a3 => by exfalso; omega, fun a1 a2 a3 a4 => by exfalso; omega, fun a1 a2 a3 => by exfalso; omega, fun a1 a2 => by exfalso; omega⟩) (fun M C F I K1 hC => ?_)
              have K := K.step K1 (by decide)
              have hm : C 100 12 = 0 → C0 100 12 = 0 := fun z => hm ((congrFun (K1 100 (by decide)).1 12).symm.trans z)
              have ham : (C0 100 8).toInt ≤ (C 100 8).toInt := by rw [(K1 100 (by decide)).1]; exact ham
              have hgd : C 100 12 = 0 := by rw [(K1 100 (by decide)).1]; exact hgd
              exact g_vret X hrt dX8_readRoad_197 (by decide) (by decide) ⟨C, D, F, I, K, ham⟩
    · skip
      refine g_if_eq X dX8_readRoad_92 (tgt := 132) (by decide) (fun _ => ?_) (fun q => absurd (by decide) q)
      refine g_bipush X dX8_readRoad_132 (v := 10) (by decide) ?_
      refine g_aload_n X dX8_readRoad_134 rfl (j := 4) rfl ?_
      refine g_ldcS X (tx := "in") (i := 18) (by decide) dX8_readRoad_135 ?_
      refine g_iconst X dX8_readRoad_137 (v := 0) (by decide) ?_
      refine g_aload_n X dX8_readRoad_138 rfl (j := 4) rfl ?_
      refine i_get X F 100 rfl rfl fk_X8_31 dX8_readRoad_139 rfl ?_
      refine g_iconst X dX8_readRoad_142 (v := 3) (by decide) ?_
      obtain ⟨n41, hn41, en41⟩ := rg_nat ((show okw (3) (C 114 (3)) from I 114 (3)).2.2.1 rfl) (by decide)
      refine i_iald X F 114 rfl rfl dX8_readRoad_143 (vp_in_iff.mpr (by decide)) (v := nI n41) (by exact en41) ?_
      refine g_iconst X dX8_readRoad_144 (v := 1) (by decide) ?_
      refine g_isub X dX8_readRoad_145 ?_
      have hs42 := nI_m1 (n := n41) (by omega)
      refine g_callVI X (s_X8_toldBy l G F I 18 (by decide) (0 : Int32) ((nI n41 - 1)) ) lk_X8_197 (F.1 100 rfl).2 (F.1 100 rfl).1 rfl rfl dX8_readRoad_146 (Nat.le_of_ble_eq_true rfl) ⟨by decide, by decide⟩ ⟨by decide, by decide⟩ (fun r43 L M hp => ?_)
      obtain ⟨C, D, F, I, K1, hr⟩ := hp
      have K := K.step K1 (by decide)
      obtain ⟨hrat, hrm, hnum⟩ := hr
      have hm : C 100 12 = 0 → C0 100 12 = 0 := fun z => hm (hrm z)
      have hro : C 100 12 = 0 → (C 114 (14 + 6 * n4)).toInt ≤ 3 := fun z => by rw [(K1 114 (by decide)).1]; exact hro (hrm z)
      have ham : (C0 100 8).toInt ≤ (C 100 8).toInt := Int.le_trans ham hrat
      obtain ⟨n44, hn44, en44⟩ := num_nat (B := 3) (by decide) hnum (by omega)
      subst en44
      refine g_iadd X dX8_readRoad_149 ?_
      refine Go.top (v := .int (nI (10 + n44))) (congrArg Value.int (nI_add 10 n44)) ?_
      refine g_istore X dX8_readRoad_150 (by decide) (lv2 := [(4, .int (nI (10 + n44))), (3, .int (nI (14 + (6 * n4)))), (2, .int (nI n4)), (1, .int 0), (0, .ref (a 100))]) rfl ?_
      refine g_aload_n X dX8_readRoad_152 rfl (j := 4) rfl ?_
      refine g_callVI X (s_X8_good l G F I  ) lk_X8_161 (F.1 100 rfl).2 (F.1 100 rfl).1 rfl rfl dX8_readRoad_153 (Nat.le_of_ble_eq_true rfl) ⟨by decide, by decide⟩ ⟨by decide, by decide⟩ (fun r45 L M hp => ?_)
      obtain ⟨C, D, F, I, K1, hr⟩ := hp
      have K := K.step K1 (by decide)
      have hm : C 100 12 = 0 → C0 100 12 = 0 := fun z => hm ((congrFun (K1 100 (by decide)).1 12).symm.trans z)
      have hro : C 100 12 = 0 → (C 114 (14 + 6 * n4)).toInt ≤ 3 := fun z => by rw [(K1 114 (by decide)).1]; exact hro ((congrFun (K1 100 (by decide)).1 12).symm.trans z)
      have ham : (C0 100 8).toInt ≤ (C 100 8).toInt := by rw [(K1 100 (by decide)).1]; exact ham
      rcases hr with ⟨rfl, hg46⟩ | ⟨rfl, hg46⟩
      · skip
        have hgd := hg46
        refine g_if_ne X dX8_readRoad_156 (tgt := 160) (by decide) (fun q => absurd (by decide) q) (fun _ => ?_)
        exact g_vret X hrt dX8_readRoad_159 (by decide) (by decide) ⟨C, D, F, I, K, ham⟩
      · skip
        have hgd := hg46
        have hmy := hm hgd
        have hroy := hro hgd
        refine g_if_ne X dX8_readRoad_156 (tgt := 160) (by decide) (fun _ => ?_) (fun q => absurd q (by decide))
        refine g_aload_n X dX8_readRoad_160 rfl (j := 4) rfl ?_
        refine i_get X F 100 rfl rfl fk_X8_31 dX8_readRoad_161 rfl ?_
        refine g_iload_n X dX8_readRoad_164 rfl (j := 1) rfl ?_
        refine g_iconst X dX8_readRoad_165 (v := 1) (by decide) ?_
        refine g_iadd X dX8_readRoad_166 ?_
        refine Go.top (v := .int (nI ((14 + (6 * n4)) + 1))) (congrArg Value.int (nI_add (14 + (6 * n4)) 1)) ?_
        refine g_aload_n X dX8_readRoad_167 rfl (j := 4) rfl ?_
        refine i_get X F 100 rfl rfl fk_X8_31 dX8_readRoad_168 rfl ?_
        refine g_iload_n X dX8_readRoad_171 rfl (j := 1) rfl ?_
        obtain ⟨n47, hn47, en47⟩ := rg_nat ((show okw (14 + (6 * n4)) (C 114 (14 + (6 * n4))) from I 114 (14 + (6 * n4))).2.2.2.2.2.2.1 (by omega) (by omega) (by omega)) (by decide)
        refine i_iald X F 114 rfl rfl dX8_readRoad_172 (vp_in_nI (by omega) (by decide)) (v := nI n47) (by rw [nI_clamp (by omega)]; exact en47) ?_
        have hlen47 : n47 ≤ 3 := by have z := hroy; rw [en47, nI_toInt (by omega)] at z; omega
        refine g_iadd X dX8_readRoad_173 ?_
        refine Go.top (v := .int (nI (((14 + (6 * n4)) + 1) + n47))) (congrArg Value.int (nI_add ((14 + (6 * n4)) + 1) n47)) ?_
        refine g_iload X dX8_readRoad_174 (j := 0) rfl ?_
        refine i_iast X F I 114 rfl (fun _ => rfl) dX8_readRoad_176 (vp_in_nI (by omega) (by decide)) (by rw [nI_clamp (by omega)]; show okw (((14 + (6 * n4)) + 1) + n47) (nI (10 + n44)); exact ⟨fun h => by exfalso; omega, fun h => by exfalso; omega, fun h => by exfalso; omega, fun h => by exfalso; omega, fun h => by exfalso; omega, fun h => by exfalso; omega, fun a1 a2 a3 => by exfalso; omega, fun a1 a2 a3 => by exfalso; omega, fun _ _ _ _ => (gl_of (n := (10 + n44)) (by omega)), fun a1 a2 a3 => by exfalso; omega, fun a1 a2 => by exfalso; omega⟩) (fun M C F I K1 hC => ?_)
        have K := K.step K1 (by decide)
        have hm : C 100 12 = 0 → C0 100 12 = 0 := fun z => hm ((congrFun (K1 100 (by decide)).1 12).symm.trans z)
        have ham : (C0 100 8).toInt ≤ (C 100 8).toInt := by rw [(K1 100 (by decide)).1]; exact ham
        have hgd : C 100 12 = 0 := by rw [(K1 100 (by decide)).1]; exact hgd
        have en47 : C 114 (14 + (6 * n4)) = nI n47 := by rw [hC, nI_clamp (by omega), pk_un (by omega)]; exact en47
        refine g_aload_n X dX8_readRoad_177 rfl (j := 4) rfl ?_
        refine i_get X F 100 rfl rfl fk_X8_31 dX8_readRoad_178 rfl ?_
        refine g_iload_n X dX8_readRoad_181 rfl (j := 1) rfl ?_
        refine g_dup2 X dX8_readRoad_182 rfl rfl ?_
        refine i_iald X F 114 rfl rfl dX8_readRoad_183 (vp_in_nI (by omega) (by decide)) (v := nI n47) (by rw [nI_clamp (by omega)]; exact en47) ?_
        refine g_iconst X dX8_readRoad_184 (v := 1) (by decide) ?_
        refine g_iadd X dX8_readRoad_185 ?_
        refine Go.top (v := .int (nI (n47 + 1))) (congrArg Value.int (nI_add n47 1)) ?_
        refine i_iast X F I 114 rfl (fun _ => rfl) dX8_readRoad_186 (vp_in_nI (by omega) (by decide)) (by rw [nI_clamp (by omega)]; show okw (14 + (6 * n4)) (nI (n47 + 1)); exact ⟨fun h => by exfalso; omega, fun h => by exfalso; omega, fun h => by exfalso; omega, fun h => by exfalso; omega, fun h => by exfalso; omega, fun h => by exfalso; omega, fun _ _ _ => (rg_of (n := (n47 + 1)) (by omega) (by omega) (by omega)), fun a1 a2 a3 => by exfalso; omega, fun a1 a2 a3 a4 => by exfalso; omega, fun a1 a2 a3 => by exfalso; omega, fun a1 a2 => by exfalso; omega⟩) (fun M C F I K1 hC => ?_)
        have K := K.step K1 (by decide)
        have hm : C 100 12 = 0 → C0 100 12 = 0 := fun z => hm ((congrFun (K1 100 (by decide)).1 12).symm.trans z)
        have ham : (C0 100 8).toInt ≤ (C 100 8).toInt := by rw [(K1 100 (by decide)).1]; exact ham
        have hgd : C 100 12 = 0 := by rw [(K1 100 (by decide)).1]; exact hgd
        refine g_aload_n X dX8_readRoad_187 rfl (j := 4) rfl ?_
        refine i_get X F 100 rfl rfl fk_X8_31 dX8_readRoad_188 rfl ?_
        refine g_iconst X dX8_readRoad_191 (v := 5) (by decide) ?_
        refine g_dup2 X dX8_readRoad_192 rfl rfl ?_
        refine i_iald X F 114 rfl rfl dX8_readRoad_193 (vp_in_iff.mpr (by decide)) rfl ?_
        refine Go.gen (fun o48 => ?_)
        refine g_iconst X dX8_readRoad_194 (v := 1) (by decide) ?_
        refine g_iadd X dX8_readRoad_195 ?_
        refine Go.gen (fun o49 => ?_)
        refine i_iast X F I 114 rfl (fun _ => rfl) dX8_readRoad_196 (vp_in_iff.mpr (by decide)) (by show okw (5) (o49); exact ⟨fun h => by exfalso; omega, fun h => by exfalso; omega, fun h => by exfalso; omega, fun h => by exfalso; omega, fun h => by exfalso; omega, fun h => by exfalso; omega, fun a1 a2 a3 => by exfalso; omega, fun a1 a2 a3 => by exfalso; omega, fun a1 a2 a3 a4 => by exfalso; omega, fun a1 a2 a3 => by exfalso; omega, fun a1 a2 => by exfalso; omega⟩) (fun M C F I K1 hC => ?_)
        have K := K.step K1 (by decide)
        have hm : C 100 12 = 0 → C0 100 12 = 0 := fun z => hm ((congrFun (K1 100 (by decide)).1 12).symm.trans z)
        have ham : (C0 100 8).toInt ≤ (C 100 8).toInt := by rw [(K1 100 (by decide)).1]; exact ham
        have hgd : C 100 12 = 0 := by rw [(K1 100 (by decide)).1]; exact hgd
        exact g_vret X hrt dX8_readRoad_197 (by decide) (by decide) ⟨C, D, F, I, K, ham⟩
  · skip
    have hgd := hg2
    have hmy := hm hgd
    refine g_if_eq X dX8_readRoad_4 (tgt := 40) (by decide) (fun q => absurd q (by decide)) (fun _ => ?_)
    refine g_aload_n X dX8_readRoad_7 rfl (j := 0) rfl ?_
    obtain ⟨o50, eo50⟩ : ∃ z, C 100 10 = z := ⟨_, rfl⟩
    refine i_get X F 100 rfl rfl fk_X8_137 dX8_readRoad_8 (v := .int o50) (congrArg (fun z => some (Value.int z)) eo50) ?_
    refine g_iconst X dX8_readRoad_11 (v := 2) (by decide) ?_
    refine g_icmp_ne X dX8_readRoad_12 (tgt := 40) (by decide) (fun q51 => ?_) (fun q51 => ?_)
    · skip
      refine g_iconst X dX8_readRoad_40 (v := 0) (by decide) ?_
      refine g_istore_n X dX8_readRoad_41 rfl (by decide) (lv2 := [(1, .int 0), (0, .ref (a 100))]) rfl ?_
      refine g_iload_n X dX8_readRoad_42 rfl (j := 0) rfl ?_
      refine g_if_eq X dX8_readRoad_43 (tgt := 70) (by decide) (fun _ => ?_) (fun q => absurd (by decide) q)
      refine g_aload_n X dX8_readRoad_70 rfl (j := 1) rfl ?_
      refine g_callVI X (s_X8_readPost l G F I  ) lk_X8_205 (F.1 100 rfl).2 (F.1 100 rfl).1 rfl rfl dX8_readRoad_71 (Nat.le_of_ble_eq_true rfl) ⟨by decide, by decide⟩ ⟨by decide, by decide⟩ (fun r52 L M hp => ?_)
      obtain ⟨C, D, F, I, K1, hr⟩ := hp
      have K := K.step K1 (by decide)
      obtain ⟨hrat, hrp, ⟨n53, hn53, en53⟩⟩ := hr
      subst en53
      have hm : C 100 12 = 0 → C0 100 12 = 0 := fun z => hm (hrp z).1
      have ham : (C0 100 8).toInt ≤ (C 100 8).toInt := Int.le_trans ham hrat
      have hro : C 100 12 = 0 → (C 114 (14 + 6 * n53)).toInt ≤ 3 := fun z => absurd (eo50.symm.trans (hrp z).2.1) q51
      refine g_istore_n X dX8_readRoad_74 rfl (by decide) (lv2 := [(2, .int (nI n53)), (1, .int 0), (0, .ref (a 100))]) rfl ?_
      refine g_bipush X dX8_readRoad_75 (v := 14) (by decide) ?_
      refine g_bipush X dX8_readRoad_77 (v := 6) (by decide) ?_
      refine g_iload_n X dX8_readRoad_79 rfl (j := 0) rfl ?_
      refine g_imul X dX8_readRoad_80 ?_
      refine Go.top (v := .int (nI (6 * n53))) (congrArg Value.int (pk_mul 6 n53)) ?_
      refine g_iadd X dX8_readRoad_81 ?_
      refine Go.top (v := .int (nI (14 + (6 * n53)))) (congrArg Value.int (nI_add 14 (6 * n53))) ?_
      refine g_istore_n X dX8_readRoad_82 rfl (by decide) (lv2 := [(3, .int (nI (14 + (6 * n53)))), (2, .int (nI n53)), (1, .int 0), (0, .ref (a 100))]) rfl ?_
      refine g_iconst X dX8_readRoad_83 (v := 0) (by decide) ?_
      refine g_istore X dX8_readRoad_84 (by decide) (lv2 := [(4, .int 0), (3, .int (nI (14 + (6 * n53)))), (2, .int (nI n53)), (1, .int 0), (0, .ref (a 100))]) rfl ?_
      refine g_aload_n X dX8_readRoad_86 rfl (j := 4) rfl ?_
      refine g_ldcS X (tx := "to") (i := 17) (by decide) dX8_readRoad_87 ?_
      refine g_callVI X (s_X8_takes l G F I 17 (by decide) ) lk_X8_180 (F.1 100 rfl).2 (F.1 100 rfl).1 rfl rfl dX8_readRoad_89 (Nat.le_of_ble_eq_true rfl) ⟨by decide, by decide⟩ ⟨by decide, by decide⟩ (fun r54 L M hp => ?_)
      obtain ⟨C, D, F, I, K1, hr⟩ := hp
      have K := K.step K1 (by decide)
      obtain ⟨hrat, hrm, hr⟩ := hr
      have hm : C 100 12 = 0 → C0 100 12 = 0 := fun z => hm (hrm z)
      have hro : C 100 12 = 0 → (C 114 (14 + 6 * n53)).toInt ≤ 3 := fun z => by rw [(K1 114 (by decide)).1]; exact hro (hrm z)
      have ham : (C0 100 8).toInt ≤ (C 100 8).toInt := Int.le_trans ham hrat
      rcases hr with ⟨rfl, ht55⟩ | ⟨rfl, ht55, ht55E⟩
      · skip
        refine g_if_eq X dX8_readRoad_92 (tgt := 132) (by decide) (fun q => absurd q (by decide)) (fun _ => ?_)
        refine g_aload_n X dX8_readRoad_95 rfl (j := 4) rfl ?_
        refine g_callVI X (s_X8_good l G F I  ) lk_X8_161 (F.1 100 rfl).2 (F.1 100 rfl).1 rfl rfl dX8_readRoad_96 (Nat.le_of_ble_eq_true rfl) ⟨by decide, by decide⟩ ⟨by decide, by decide⟩ (fun r56 L M hp => ?_)
        obtain ⟨C, D, F, I, K1, hr⟩ := hp
        have K := K.step K1 (by decide)
        have hm : C 100 12 = 0 → C0 100 12 = 0 := fun z => hm ((congrFun (K1 100 (by decide)).1 12).symm.trans z)
        have hro : C 100 12 = 0 → (C 114 (14 + 6 * n53)).toInt ≤ 3 := fun z => by rw [(K1 114 (by decide)).1]; exact hro ((congrFun (K1 100 (by decide)).1 12).symm.trans z)
        have ham : (C0 100 8).toInt ≤ (C 100 8).toInt := by rw [(K1 100 (by decide)).1]; exact ham
        rcases hr with ⟨rfl, hg57⟩ | ⟨rfl, hg57⟩
        · skip
          have hgd := hg57
          refine g_if_eq X dX8_readRoad_99 (tgt := 123) (by decide) (fun _ => ?_) (fun q => absurd (by decide) q)
          refine g_aload_n X dX8_readRoad_123 rfl (j := 4) rfl ?_
          refine g_callVI X (s_X8_readPost l G F I  ) lk_X8_205 (F.1 100 rfl).2 (F.1 100 rfl).1 rfl rfl dX8_readRoad_124 (Nat.le_of_ble_eq_true rfl) ⟨by decide, by decide⟩ ⟨by decide, by decide⟩ (fun r58 L M hp => ?_)
          obtain ⟨C, D, F, I, K1, hr⟩ := hp
          have K := K.step K1 (by decide)
          obtain ⟨hrat, hrp, ⟨n59, hn59, en59⟩⟩ := hr
          subst en59
          have hm : C 100 12 = 0 → C0 100 12 = 0 := fun z => hm (hrp z).1
          have hro : C 100 12 = 0 → (C 114 (14 + 6 * n53)).toInt ≤ 3 := fun z => by rw [(K1 114 (by decide)).1]; exact hro (hrp z).1
          have ham : (C0 100 8).toInt ≤ (C 100 8).toInt := Int.le_trans ham hrat
          refine g_istore X dX8_readRoad_127 (by decide) (lv2 := [(4, .int (nI n59)), (3, .int (nI (14 + (6 * n53)))), (2, .int (nI n53)), (1, .int 0), (0, .ref (a 100))]) rfl ?_
          refine g_goto X dX8_readRoad_129 (tgt := 152) (by decide) ?_
          refine g_aload_n X dX8_readRoad_152 rfl (j := 4) rfl ?_
          refine g_callVI X (s_X8_good l G F I  ) lk_X8_161 (F.1 100 rfl).2 (F.1 100 rfl).1 rfl rfl dX8_readRoad_153 (Nat.le_of_ble_eq_true rfl) ⟨by decide, by decide⟩ ⟨by decide, by decide⟩ (fun r60 L M hp => ?_)
          obtain ⟨C, D, F, I, K1, hr⟩ := hp
          have K := K.step K1 (by decide)
          have hm : C 100 12 = 0 → C0 100 12 = 0 := fun z => hm ((congrFun (K1 100 (by decide)).1 12).symm.trans z)
          have hro : C 100 12 = 0 → (C 114 (14 + 6 * n53)).toInt ≤ 3 := fun z => by rw [(K1 114 (by decide)).1]; exact hro ((congrFun (K1 100 (by decide)).1 12).symm.trans z)
          have ham : (C0 100 8).toInt ≤ (C 100 8).toInt := by rw [(K1 100 (by decide)).1]; exact ham
          rcases hr with ⟨rfl, hg61⟩ | ⟨rfl, hg61⟩
          · skip
            have hgd := hg61
            refine g_if_ne X dX8_readRoad_156 (tgt := 160) (by decide) (fun q => absurd (by decide) q) (fun _ => ?_)
            exact g_vret X hrt dX8_readRoad_159 (by decide) (by decide) ⟨C, D, F, I, K, ham⟩
          · skip
            have hgd := hg61
            have hmy := hm hgd
            have hroy := hro hgd
            refine g_if_ne X dX8_readRoad_156 (tgt := 160) (by decide) (fun _ => ?_) (fun q => absurd q (by decide))
            refine g_aload_n X dX8_readRoad_160 rfl (j := 4) rfl ?_
            refine i_get X F 100 rfl rfl fk_X8_31 dX8_readRoad_161 rfl ?_
            refine g_iload_n X dX8_readRoad_164 rfl (j := 1) rfl ?_
            refine g_iconst X dX8_readRoad_165 (v := 1) (by decide) ?_
            refine g_iadd X dX8_readRoad_166 ?_
            refine Go.top (v := .int (nI ((14 + (6 * n53)) + 1))) (congrArg Value.int (nI_add (14 + (6 * n53)) 1)) ?_
            refine g_aload_n X dX8_readRoad_167 rfl (j := 4) rfl ?_
            refine i_get X F 100 rfl rfl fk_X8_31 dX8_readRoad_168 rfl ?_
            refine g_iload_n X dX8_readRoad_171 rfl (j := 1) rfl ?_
            obtain ⟨n62, hn62, en62⟩ := rg_nat ((show okw (14 + (6 * n53)) (C 114 (14 + (6 * n53))) from I 114 (14 + (6 * n53))).2.2.2.2.2.2.1 (by omega) (by omega) (by omega)) (by decide)
            refine i_iald X F 114 rfl rfl dX8_readRoad_172 (vp_in_nI (by omega) (by decide)) (v := nI n62) (by rw [nI_clamp (by omega)]; exact en62) ?_
            have hlen62 : n62 ≤ 3 := by have z := hroy; rw [en62, nI_toInt (by omega)] at z; omega
            refine g_iadd X dX8_readRoad_173 ?_
            refine Go.top (v := .int (nI (((14 + (6 * n53)) + 1) + n62))) (congrArg Value.int (nI_add ((14 + (6 * n53)) + 1) n62)) ?_
            refine g_iload X dX8_readRoad_174 (j := 0) rfl ?_
            refine i_iast X F I 114 rfl (fun _ => rfl) dX8_readRoad_176 (vp_in_nI (by omega) (by decide)) (by rw [nI_clamp (by omega)]; show okw (((14 + (6 * n53)) + 1) + n62) (nI n59); exact ⟨fun h => by exfalso; omega, fun h => by exfalso; omega, fun h => by exfalso; omega, fun h => by exfalso; omega, fun h => by exfalso; omega, fun h => by exfalso; omega, fun a1 a2 a3 => by exfalso; omega, fun a1 a2 a3 => by exfalso; omega, fun _ _ _ _ => (gl_of (n := n59) (by omega)), fun a1 a2 a3 => by exfalso; omega, fun a1 a2 => by exfalso; omega⟩) (fun M C F I K1 hC => ?_)
            have K := K.step K1 (by decide)
            have hm : C 100 12 = 0 → C0 100 12 = 0 := fun z => hm ((congrFun (K1 100 (by decide)).1 12).symm.trans z)
            have ham : (C0 100 8).toInt ≤ (C 100 8).toInt := by rw [(K1 100 (by decide)).1]; exact ham
            have hgd : C 100 12 = 0 := by rw [(K1 100 (by decide)).1]; exact hgd
            have en62 : C 114 (14 + (6 * n53)) = nI n62 := by rw [hC, nI_clamp (by omega), pk_un (by omega)]; exact en62
            refine g_aload_n X dX8_readRoad_177 rfl (j := 4) rfl ?_
            refine i_get X F 100 rfl rfl fk_X8_31 dX8_readRoad_178 rfl ?_
            refine g_iload_n X dX8_readRoad_181 rfl (j := 1) rfl ?_
            refine g_dup2 X dX8_readRoad_182 rfl rfl ?_
            refine i_iald X F 114 rfl rfl dX8_readRoad_183 (vp_in_nI (by omega) (by decide)) (v := nI n62) (by rw [nI_clamp (by omega)]; exact en62) ?_
            refine g_iconst X dX8_readRoad_184 (v := 1) (by decide) ?_
            refine g_iadd X dX8_readRoad_185 ?_
            refine Go.top (v := .int (nI (n62 + 1))) (congrArg Value.int (nI_add n62 1)) ?_
            refine i_iast X F I 114 rfl (fun _ => rfl) dX8_readRoad_186 (vp_in_nI (by omega) (by decide)) (by rw [nI_clamp (by omega)]; show okw (14 + (6 * n53)) (nI (n62 + 1)); exact ⟨fun h => by exfalso; omega, fun h => by exfalso; omega, fun h => by exfalso; omega, fun h => by exfalso; omega, fun h => by exfalso; omega, fun h => by exfalso; omega, fun _ _ _ => (rg_of (n := (n62 + 1)) (by omega) (by omega) (by omega)), fun a1 a2 a3 => by exfalso; omega, fun a1 a2 a3 a4 => by exfalso; omega, fun a1 a2 a3 => by exfalso; omega, fun a1 a2 => by exfalso; omega⟩) (fun M C F I K1 hC => ?_)
            have K := K.step K1 (by decide)
            have hm : C 100 12 = 0 → C0 100 12 = 0 := fun z => hm ((congrFun (K1 100 (by decide)).1 12).symm.trans z)
            have ham : (C0 100 8).toInt ≤ (C 100 8).toInt := by rw [(K1 100 (by decide)).1]; exact ham
            have hgd : C 100 12 = 0 := by rw [(K1 100 (by decide)).1]; exact hgd
            refine g_aload_n X dX8_readRoad_187 rfl (j := 4) rfl ?_
            refine i_get X F 100 rfl rfl fk_X8_31 dX8_readRoad_188 rfl ?_
            refine g_iconst X dX8_readRoad_191 (v := 5) (by decide) ?_
            refine g_dup2 X dX8_readRoad_192 rfl rfl ?_
            refine i_iald X F 114 rfl rfl dX8_readRoad_193 (vp_in_iff.mpr (by decide)) rfl ?_
            refine Go.gen (fun o63 => ?_)
            refine g_iconst X dX8_readRoad_194 (v := 1) (by decide) ?_
            refine g_iadd X dX8_readRoad_195 ?_
            refine Go.gen (fun o64 => ?_)
            refine i_iast X F I 114 rfl (fun _ => rfl) dX8_readRoad_196 (vp_in_iff.mpr (by decide)) (by show okw (5) (o64); exact ⟨fun h => by exfalso; omega, fun h => by exfalso; omega, fun h => by exfalso; omega, fun h => by exfalso; omega, fun h => by exfalso; omega, fun h => by exfalso; omega, fun a1 a2 a3 => by exfalso; omega, fun a1 a2 a3 => by exfalso; omega, fun a1 a2 a3 a4 => by exfalso; omega, fun a1 a2 a3 => by exfalso; omega, fun a1 a2 => by exfalso; omega⟩) (fun M C F I K1 hC => ?_)
            have K := K.step K1 (by decide)
            have hm : C 100 12 = 0 → C0 100 12 = 0 := fun z => hm ((congrFun (K1 100 (by decide)).1 12).symm.trans z)
            have ham : (C0 100 8).toInt ≤ (C 100 8).toInt := by rw [(K1 100 (by decide)).1]; exact ham
            have hgd : C 100 12 = 0 := by rw [(K1 100 (by decide)).1]; exact hgd
            exact g_vret X hrt dX8_readRoad_197 (by decide) (by decide) ⟨C, D, F, I, K, ham⟩
        · skip
          have hgd := hg57
          have hmy := hm hgd
          have hroy := hro hgd
          refine g_if_eq X dX8_readRoad_99 (tgt := 123) (by decide) (fun q => absurd q (by decide)) (fun _ => ?_)
          refine g_aload_n X dX8_readRoad_102 rfl (j := 4) rfl ?_
          obtain ⟨o65, eo65⟩ : ∃ z, C 100 10 = z := ⟨_, rfl⟩
          refine i_get X F 100 rfl rfl fk_X8_137 dX8_readRoad_103 (v := .int o65) (congrArg (fun z => some (Value.int z)) eo65) ?_
          refine g_iconst X dX8_readRoad_106 (v := 2) (by decide) ?_
          refine g_icmp_ne X dX8_readRoad_107 (tgt := 123) (by decide) (fun q66 => ?_) (fun q66 => ?_)
          · skip
            refine g_aload_n X dX8_readRoad_123 rfl (j := 4) rfl ?_
            refine g_callVI X (s_X8_readPost l G F I  ) lk_X8_205 (F.1 100 rfl).2 (F.1 100 rfl).1 rfl rfl dX8_readRoad_124 (Nat.le_of_ble_eq_true rfl) ⟨by decide, by decide⟩ ⟨by decide, by decide⟩ (fun r67 L M hp => ?_)
            obtain ⟨C, D, F, I, K1, hr⟩ := hp
            have K := K.step K1 (by decide)
            obtain ⟨hrat, hrp, ⟨n68, hn68, en68⟩⟩ := hr
            subst en68
            have hm : C 100 12 = 0 → C0 100 12 = 0 := fun z => hm (hrp z).1
            have hro : C 100 12 = 0 → (C 114 (14 + 6 * n53)).toInt ≤ 3 := fun z => by rw [(K1 114 (by decide)).1]; exact hro (hrp z).1
            have ham : (C0 100 8).toInt ≤ (C 100 8).toInt := Int.le_trans ham hrat
            refine g_istore X dX8_readRoad_127 (by decide) (lv2 := [(4, .int (nI n68)), (3, .int (nI (14 + (6 * n53)))), (2, .int (nI n53)), (1, .int 0), (0, .ref (a 100))]) rfl ?_
            refine g_goto X dX8_readRoad_129 (tgt := 152) (by decide) ?_
            refine g_aload_n X dX8_readRoad_152 rfl (j := 4) rfl ?_
            refine g_callVI X (s_X8_good l G F I  ) lk_X8_161 (F.1 100 rfl).2 (F.1 100 rfl).1 rfl rfl dX8_readRoad_153 (Nat.le_of_ble_eq_true rfl) ⟨by decide, by decide⟩ ⟨by decide, by decide⟩ (fun r69 L M hp => ?_)
            obtain ⟨C, D, F, I, K1, hr⟩ := hp
            have K := K.step K1 (by decide)
            have hm : C 100 12 = 0 → C0 100 12 = 0 := fun z => hm ((congrFun (K1 100 (by decide)).1 12).symm.trans z)
            have hro : C 100 12 = 0 → (C 114 (14 + 6 * n53)).toInt ≤ 3 := fun z => by rw [(K1 114 (by decide)).1]; exact hro ((congrFun (K1 100 (by decide)).1 12).symm.trans z)
            have ham : (C0 100 8).toInt ≤ (C 100 8).toInt := by rw [(K1 100 (by decide)).1]; exact ham
            rcases hr with ⟨rfl, hg70⟩ | ⟨rfl, hg70⟩
            · skip
              have hgd := hg70
              refine g_if_ne X dX8_readRoad_156 (tgt := 160) (by decide) (fun q => absurd (by decide) q) (fun _ => ?_)
              exact g_vret X hrt dX8_readRoad_159 (by decide) (by decide) ⟨C, D, F, I, K, ham⟩
            · skip
              have hgd := hg70
              have hmy := hm hgd
              have hroy := hro hgd
              refine g_if_ne X dX8_readRoad_156 (tgt := 160) (by decide) (fun _ => ?_) (fun q => absurd q (by decide))
              refine g_aload_n X dX8_readRoad_160 rfl (j := 4) rfl ?_
              refine i_get X F 100 rfl rfl fk_X8_31 dX8_readRoad_161 rfl ?_
              refine g_iload_n X dX8_readRoad_164 rfl (j := 1) rfl ?_
              refine g_iconst X dX8_readRoad_165 (v := 1) (by decide) ?_
              refine g_iadd X dX8_readRoad_166 ?_
              refine Go.top (v := .int (nI ((14 + (6 * n53)) + 1))) (congrArg Value.int (nI_add (14 + (6 * n53)) 1)) ?_
              refine g_aload_n X dX8_readRoad_167 rfl (j := 4) rfl ?_
              refine i_get X F 100 rfl rfl fk_X8_31 dX8_readRoad_168 rfl ?_
              refine g_iload_n X dX8_readRoad_171 rfl (j := 1) rfl ?_
              obtain ⟨n71, hn71, en71⟩ := rg_nat ((show okw (14 + (6 * n53)) (C 114 (14 + (6 * n53))) from I 114 (14 + (6 * n53))).2.2.2.2.2.2.1 (by omega) (by omega) (by omega)) (by decide)
              refine i_iald X F 114 rfl rfl dX8_readRoad_172 (vp_in_nI (by omega) (by decide)) (v := nI n71) (by rw [nI_clamp (by omega)]; exact en71) ?_
              have hlen71 : n71 ≤ 3 := by have z := hroy; rw [en71, nI_toInt (by omega)] at z; omega
              refine g_iadd X dX8_readRoad_173 ?_
              refine Go.top (v := .int (nI (((14 + (6 * n53)) + 1) + n71))) (congrArg Value.int (nI_add ((14 + (6 * n53)) + 1) n71)) ?_
              refine g_iload X dX8_readRoad_174 (j := 0) rfl ?_
              refine i_iast X F I 114 rfl (fun _ => rfl) dX8_readRoad_176 (vp_in_nI (by omega) (by decide)) (by rw [nI_clamp (by omega)]; show okw (((14 + (6 * n53)) + 1) + n71) (nI n68); exact ⟨fun h => by exfalso; omega, fun h => by exfalso; omega, fun h => by exfalso; omega, fun h => by exfalso; omega, fun h => by exfalso; omega, fun h => by exfalso; omega, fun a1 a2 a3 => by exfalso; omega, fun a1 a2 a3 => by exfalso; omega, fun _ _ _ _ => (gl_of (n := n68) (by omega)), fun a1 a2 a3 => by exfalso; omega, fun a1 a2 => by exfalso; omega⟩) (fun M C F I K1 hC => ?_)
              have K := K.step K1 (by decide)
              have hm : C 100 12 = 0 → C0 100 12 = 0 := fun z => hm ((congrFun (K1 100 (by decide)).1 12).symm.trans z)
              have ham : (C0 100 8).toInt ≤ (C 100 8).toInt := by rw [(K1 100 (by decide)).1]; exact ham
              have hgd : C 100 12 = 0 := by rw [(K1 100 (by decide)).1]; exact hgd
              have en71 : C 114 (14 + (6 * n53)) = nI n71 := by rw [hC, nI_clamp (by omega), pk_un (by omega)]; exact en71
              refine g_aload_n X dX8_readRoad_177 rfl (j := 4) rfl ?_
              refine i_get X F 100 rfl rfl fk_X8_31 dX8_readRoad_178 rfl ?_
              refine g_iload_n X dX8_readRoad_181 rfl (j := 1) rfl ?_
              refine g_dup2 X dX8_readRoad_182 rfl rfl ?_
              refine i_iald X F 114 rfl rfl dX8_readRoad_183 (vp_in_nI (by omega) (by decide)) (v := nI n71) (by rw [nI_clamp (by omega)]; exact en71) ?_
              refine g_iconst X dX8_readRoad_184 (v := 1) (by decide) ?_
              refine g_iadd X dX8_readRoad_185 ?_
              refine Go.top (v := .int (nI (n71 + 1))) (congrArg Value.int (nI_add n71 1)) ?_
              refine i_iast X F I 114 rfl (fun _ => rfl) dX8_readRoad_186 (vp_in_nI (by omega) (by decide)) (by rw [nI_clamp (by omega)]; show okw (14 + (6 * n53)) (nI (n71 + 1)); exact ⟨fun h => by exfalso; omega, fun h => by exfalso; omega, fun h => by exfalso; omega, fun h => by exfalso; omega, fun h => by exfalso; omega, fun h => by exfalso; omega, fun _ _ _ => (rg_of (n := (n71 + 1)) (by omega) (by omega) (by omega)), fun a1 a2 a3 => by exfalso; omega, fun a1 a2 a3 a4 => by exfalso; omega, fun a1 a2 a3 => by exfalso; omega, fun a1 a2 => by exfalso; omega⟩) (fun M C F I K1 hC => ?_)
              have K := K.step K1 (by decide)
              have hm : C 100 12 = 0 → C0 100 12 = 0 := fun z => hm ((congrFun (K1 100 (by decide)).1 12).symm.trans z)
              have ham : (C0 100 8).toInt ≤ (C 100 8).toInt := by rw [(K1 100 (by decide)).1]; exact ham
              have hgd : C 100 12 = 0 := by rw [(K1 100 (by decide)).1]; exact hgd
              refine g_aload_n X dX8_readRoad_187 rfl (j := 4) rfl ?_
              refine i_get X F 100 rfl rfl fk_X8_31 dX8_readRoad_188 rfl ?_
              refine g_iconst X dX8_readRoad_191 (v := 5) (by decide) ?_
              refine g_dup2 X dX8_readRoad_192 rfl rfl ?_
              refine i_iald X F 114 rfl rfl dX8_readRoad_193 (vp_in_iff.mpr (by decide)) rfl ?_
              refine Go.gen (fun o72 => ?_)
              refine g_iconst X dX8_readRoad_194 (v := 1) (by decide) ?_
              refine g_iadd X dX8_readRoad_195 ?_
              refine Go.gen (fun o73 => ?_)
              refine i_iast X F I 114 rfl (fun _ => rfl) dX8_readRoad_196 (vp_in_iff.mpr (by decide)) (by show okw (5) (o73); exact ⟨fun h => by exfalso; omega, fun h => by exfalso; omega, fun h => by exfalso; omega, fun h => by exfalso; omega, fun h => by exfalso; omega, fun h => by exfalso; omega, fun a1 a2 a3 => by exfalso; omega, fun a1 a2 a3 => by exfalso; omega, fun a1 a2 a3 a4 => by exfalso; omega, fun a1 a2 a3 => by exfalso; omega, fun a1 a2 => by exfalso; omega⟩) (fun M C F I K1 hC => ?_)
              have K := K.step K1 (by decide)
              have hm : C 100 12 = 0 → C0 100 12 = 0 := fun z => hm ((congrFun (K1 100 (by decide)).1 12).symm.trans z)
              have ham : (C0 100 8).toInt ≤ (C 100 8).toInt := by rw [(K1 100 (by decide)).1]; exact ham
              have hgd : C 100 12 = 0 := by rw [(K1 100 (by decide)).1]; exact hgd
              exact g_vret X hrt dX8_readRoad_197 (by decide) (by decide) ⟨C, D, F, I, K, ham⟩
          · skip
            subst q66
            refine g_aload_n X dX8_readRoad_110 rfl (j := 4) rfl ?_
            obtain ⟨o74, eo74⟩ : ∃ z, C 100 11 = z := ⟨_, rfl⟩
            refine i_get X F 100 rfl rfl fk_X8_148 dX8_readRoad_111 (v := .int o74) (congrArg (fun z => some (Value.int z)) eo74) ?_
            refine g_iload_n X dX8_readRoad_114 rfl (j := 2) rfl ?_
            refine g_icmp_ne X dX8_readRoad_115 (tgt := 123) (by decide) (fun q75 => ?_) (fun q75 => ?_)
            · skip
              refine g_aload_n X dX8_readRoad_123 rfl (j := 4) rfl ?_
              refine g_callVI X (s_X8_readPost l G F I  ) lk_X8_205 (F.1 100 rfl).2 (F.1 100 rfl).1 rfl rfl dX8_readRoad_124 (Nat.le_of_ble_eq_true rfl) ⟨by decide, by decide⟩ ⟨by decide, by decide⟩ (fun r76 L M hp => ?_)
              obtain ⟨C, D, F, I, K1, hr⟩ := hp
              have K := K.step K1 (by decide)
              obtain ⟨hrat, hrp, ⟨n77, hn77, en77⟩⟩ := hr
              subst en77
              have hm : C 100 12 = 0 → C0 100 12 = 0 := fun z => hm (hrp z).1
              have hro : C 100 12 = 0 → (C 114 (14 + 6 * n53)).toInt ≤ 3 := fun z => by rw [(K1 114 (by decide)).1]; exact hro (hrp z).1
              have ham : (C0 100 8).toInt ≤ (C 100 8).toInt := Int.le_trans ham hrat
              refine g_istore X dX8_readRoad_127 (by decide) (lv2 := [(4, .int (nI n77)), (3, .int (nI (14 + (6 * n53)))), (2, .int (nI n53)), (1, .int 0), (0, .ref (a 100))]) rfl ?_
              refine g_goto X dX8_readRoad_129 (tgt := 152) (by decide) ?_
              refine g_aload_n X dX8_readRoad_152 rfl (j := 4) rfl ?_
              refine g_callVI X (s_X8_good l G F I  ) lk_X8_161 (F.1 100 rfl).2 (F.1 100 rfl).1 rfl rfl dX8_readRoad_153 (Nat.le_of_ble_eq_true rfl) ⟨by decide, by decide⟩ ⟨by decide, by decide⟩ (fun r78 L M hp => ?_)
              obtain ⟨C, D, F, I, K1, hr⟩ := hp
              have K := K.step K1 (by decide)
              have hm : C 100 12 = 0 → C0 100 12 = 0 := fun z => hm ((congrFun (K1 100 (by decide)).1 12).symm.trans z)
              have hro : C 100 12 = 0 → (C 114 (14 + 6 * n53)).toInt ≤ 3 := fun z => by rw [(K1 114 (by decide)).1]; exact hro ((congrFun (K1 100 (by decide)).1 12).symm.trans z)
              have ham : (C0 100 8).toInt ≤ (C 100 8).toInt := by rw [(K1 100 (by decide)).1]; exact ham
              rcases hr with ⟨rfl, hg79⟩ | ⟨rfl, hg79⟩
              · skip
                have hgd := hg79
                refine g_if_ne X dX8_readRoad_156 (tgt := 160) (by decide) (fun q => absurd (by decide) q) (fun _ => ?_)
                exact g_vret X hrt dX8_readRoad_159 (by decide) (by decide) ⟨C, D, F, I, K, ham⟩
              · skip
                have hgd := hg79
                have hmy := hm hgd
                have hroy := hro hgd
                refine g_if_ne X dX8_readRoad_156 (tgt := 160) (by decide) (fun _ => ?_) (fun q => absurd q (by decide))
                refine g_aload_n X dX8_readRoad_160 rfl (j := 4) rfl ?_
                refine i_get X F 100 rfl rfl fk_X8_31 dX8_readRoad_161 rfl ?_
                refine g_iload_n X dX8_readRoad_164 rfl (j := 1) rfl ?_
                refine g_iconst X dX8_readRoad_165 (v := 1) (by decide) ?_
                refine g_iadd X dX8_readRoad_166 ?_
                refine Go.top (v := .int (nI ((14 + (6 * n53)) + 1))) (congrArg Value.int (nI_add (14 + (6 * n53)) 1)) ?_
                refine g_aload_n X dX8_readRoad_167 rfl (j := 4) rfl ?_
                refine i_get X F 100 rfl rfl fk_X8_31 dX8_readRoad_168 rfl ?_
                refine g_iload_n X dX8_readRoad_171 rfl (j := 1) rfl ?_
                obtain ⟨n80, hn80, en80⟩ := rg_nat ((show okw (14 + (6 * n53)) (C 114 (14 + (6 * n53))) from I 114 (14 + (6 * n53))).2.2.2.2.2.2.1 (by omega) (by omega) (by omega)) (by decide)
                refine i_iald X F 114 rfl rfl dX8_readRoad_172 (vp_in_nI (by omega) (by decide)) (v := nI n80) (by rw [nI_clamp (by omega)]; exact en80) ?_
                have hlen80 : n80 ≤ 3 := by have z := hroy; rw [en80, nI_toInt (by omega)] at z; omega
                refine g_iadd X dX8_readRoad_173 ?_
                refine Go.top (v := .int (nI (((14 + (6 * n53)) + 1) + n80))) (congrArg Value.int (nI_add ((14 + (6 * n53)) + 1) n80)) ?_
                refine g_iload X dX8_readRoad_174 (j := 0) rfl ?_
                refine i_iast X F I 114 rfl (fun _ => rfl) dX8_readRoad_176 (vp_in_nI (by omega) (by decide)) (by rw [nI_clamp (by omega)]; show okw (((14 + (6 * n53)) + 1) + n80) (nI n77); exact ⟨fun h => by exfalso; omega, fun h => by exfalso; omega, fun h => by exfalso; omega, fun h => by exfalso; omega, fun h => by exfalso; omega, fun h => by exfalso; omega, fun a1 a2 a3 => by exfalso; omega, fun a1 a2 a3 => by exfalso; omega, fun _ _ _ _ => (gl_of (n := n77) (by omega)), fun a1 a2 a3 => by exfalso; omega, fun a1 a2 => by exfalso; omega⟩) (fun M C F I K1 hC => ?_)
                have K := K.step K1 (by decide)
                have hm : C 100 12 = 0 → C0 100 12 = 0 := fun z => hm ((congrFun (K1 100 (by decide)).1 12).symm.trans z)
                have ham : (C0 100 8).toInt ≤ (C 100 8).toInt := by rw [(K1 100 (by decide)).1]; exact ham
                have hgd : C 100 12 = 0 := by rw [(K1 100 (by decide)).1]; exact hgd
                have en80 : C 114 (14 + (6 * n53)) = nI n80 := by rw [hC, nI_clamp (by omega), pk_un (by omega)]; exact en80
                refine g_aload_n X dX8_readRoad_177 rfl (j := 4) rfl ?_
                refine i_get X F 100 rfl rfl fk_X8_31 dX8_readRoad_178 rfl ?_
                refine g_iload_n X dX8_readRoad_181 rfl (j := 1) rfl ?_
                refine g_dup2 X dX8_readRoad_182 rfl rfl ?_
                refine i_iald X F 114 rfl rfl dX8_readRoad_183 (vp_in_nI (by omega) (by decide)) (v := nI n80) (by rw [nI_clamp (by omega)]; exact en80) ?_
                refine g_iconst X dX8_readRoad_184 (v := 1) (by decide) ?_
                refine g_iadd X dX8_readRoad_185 ?_
                refine Go.top (v := .int (nI (n80 + 1))) (congrArg Value.int (nI_add n80 1)) ?_
                refine i_iast X F I 114 rfl (fun _ => rfl) dX8_readRoad_186 (vp_in_nI (by omega) (by decide)) (by rw [nI_clamp (by omega)]; show okw (14 + (6 * n53)) (nI (n80 + 1)); exact ⟨fun h => by exfalso; omega, fun h => by exfalso; omega, fun h => by exfalso; omega, fun h => by exfalso; omega, fun h => by exfalso; omega, fun h => by exfalso; omega, fun _ _ _ => (rg_of (n := (n80 + 1)) (by omega) (by omega) (by omega)), fun a1 a2 a3 => by exfalso; omega, fun a1 a2 a3 a4 => by exfalso; omega, fun a1 a2 a3 => by exfalso; omega, fun a1 a2 => by exfalso; omega⟩) (fun M C F I K1 hC => ?_)
                have K := K.step K1 (by decide)
                have hm : C 100 12 = 0 → C0 100 12 = 0 := fun z => hm ((congrFun (K1 100 (by decide)).1 12).symm.trans z)
                have ham : (C0 100 8).toInt ≤ (C 100 8).toInt := by rw [(K1 100 (by decide)).1]; exact ham
                have hgd : C 100 12 = 0 := by rw [(K1 100 (by decide)).1]; exact hgd
                refine g_aload_n X dX8_readRoad_187 rfl (j := 4) rfl ?_
                refine i_get X F 100 rfl rfl fk_X8_31 dX8_readRoad_188 rfl ?_
                refine g_iconst X dX8_readRoad_191 (v := 5) (by decide) ?_
                refine g_dup2 X dX8_readRoad_192 rfl rfl ?_
                refine i_iald X F 114 rfl rfl dX8_readRoad_193 (vp_in_iff.mpr (by decide)) rfl ?_
                refine Go.gen (fun o81 => ?_)
                refine g_iconst X dX8_readRoad_194 (v := 1) (by decide) ?_
                refine g_iadd X dX8_readRoad_195 ?_
                refine Go.gen (fun o82 => ?_)
                refine i_iast X F I 114 rfl (fun _ => rfl) dX8_readRoad_196 (vp_in_iff.mpr (by decide)) (by show okw (5) (o82); exact ⟨fun h => by exfalso; omega, fun h => by exfalso; omega, fun h => by exfalso; omega, fun h => by exfalso; omega, fun h => by exfalso; omega, fun h => by exfalso; omega, fun a1 a2 a3 => by exfalso; omega, fun a1 a2 a3 => by exfalso; omega, fun a1 a2 a3 a4 => by exfalso; omega, fun a1 a2 a3 => by exfalso; omega, fun a1 a2 => by exfalso; omega⟩) (fun M C F I K1 hC => ?_)
                have K := K.step K1 (by decide)
                have hm : C 100 12 = 0 → C0 100 12 = 0 := fun z => hm ((congrFun (K1 100 (by decide)).1 12).symm.trans z)
                have ham : (C0 100 8).toInt ≤ (C 100 8).toInt := by rw [(K1 100 (by decide)).1]; exact ham
                have hgd : C 100 12 = 0 := by rw [(K1 100 (by decide)).1]; exact hgd
                exact g_vret X hrt dX8_readRoad_197 (by decide) (by decide) ⟨C, D, F, I, K, ham⟩
            · skip
              refine g_aload_n X dX8_readRoad_118 rfl (j := 4) rfl ?_
              refine g_iconst X dX8_readRoad_119 (v := 2) (by decide) ?_
              refine g_callVV X (s_X8_errs l G F I (2 : Int32) (by decide)) lk_X8_183 (F.1 100 rfl).2 (F.1 100 rfl).1 rfl rfl dX8_readRoad_120 (Nat.le_of_ble_eq_true rfl) ⟨by decide, by decide⟩ ⟨by decide, by decide⟩ (fun L M hp => ?_)
              obtain ⟨C, D, F, I, K1, hr⟩ := hp
              have K := K.step K1 (by decide)
              obtain ⟨hr, hr8⟩ := hr
              have hm : C 100 12 = 0 → C0 100 12 = 0 := fun z => absurd z hr
              have hro : C 100 12 = 0 → (C 114 (14 + 6 * n53)).toInt ≤ 3 := fun z => by rw [(K1 114 (by decide)).1]; exact absurd z hr
              have hgd := hr
              have ham : (C0 100 8).toInt ≤ (C 100 8).toInt := Int.le_trans ham (by rw [hr8]; exact Int.le_refl _)
              refine g_aload_n X dX8_readRoad_123 rfl (j := 4) rfl ?_
              refine g_callVI X (s_X8_readPost l G F I  ) lk_X8_205 (F.1 100 rfl).2 (F.1 100 rfl).1 rfl rfl dX8_readRoad_124 (Nat.le_of_ble_eq_true rfl) ⟨by decide, by decide⟩ ⟨by decide, by decide⟩ (fun r83 L M hp => ?_)
              obtain ⟨C, D, F, I, K1, hr⟩ := hp
              have K := K.step K1 (by decide)
              obtain ⟨hrat, hrp, ⟨n84, hn84, en84⟩⟩ := hr
              subst en84
              have hm : C 100 12 = 0 → C0 100 12 = 0 := fun z => hm (hrp z).1
              have hro : C 100 12 = 0 → (C 114 (14 + 6 * n53)).toInt ≤ 3 := fun z => by rw [(K1 114 (by decide)).1]; exact hro (hrp z).1
              have ham : (C0 100 8).toInt ≤ (C 100 8).toInt := Int.le_trans ham hrat
              refine g_istore X dX8_readRoad_127 (by decide) (lv2 := [(4, .int (nI n84)), (3, .int (nI (14 + (6 * n53)))), (2, .int (nI n53)), (1, .int 0), (0, .ref (a 100))]) rfl ?_
              refine g_goto X dX8_readRoad_129 (tgt := 152) (by decide) ?_
              refine g_aload_n X dX8_readRoad_152 rfl (j := 4) rfl ?_
              refine g_callVI X (s_X8_good l G F I  ) lk_X8_161 (F.1 100 rfl).2 (F.1 100 rfl).1 rfl rfl dX8_readRoad_153 (Nat.le_of_ble_eq_true rfl) ⟨by decide, by decide⟩ ⟨by decide, by decide⟩ (fun r85 L M hp => ?_)
              obtain ⟨C, D, F, I, K1, hr⟩ := hp
              have K := K.step K1 (by decide)
              have hm : C 100 12 = 0 → C0 100 12 = 0 := fun z => hm ((congrFun (K1 100 (by decide)).1 12).symm.trans z)
              have hro : C 100 12 = 0 → (C 114 (14 + 6 * n53)).toInt ≤ 3 := fun z => by rw [(K1 114 (by decide)).1]; exact hro ((congrFun (K1 100 (by decide)).1 12).symm.trans z)
              have ham : (C0 100 8).toInt ≤ (C 100 8).toInt := by rw [(K1 100 (by decide)).1]; exact ham
              rcases hr with ⟨rfl, hg86⟩ | ⟨rfl, hg86⟩
              · skip
                have hgd := hg86
                refine g_if_ne X dX8_readRoad_156 (tgt := 160) (by decide) (fun q => absurd (by decide) q) (fun _ => ?_)
                exact g_vret X hrt dX8_readRoad_159 (by decide) (by decide) ⟨C, D, F, I, K, ham⟩
              · skip
                have hgd := hg86
                have hmy := hm hgd
                have hroy := hro hgd
                refine g_if_ne X dX8_readRoad_156 (tgt := 160) (by decide) (fun _ => ?_) (fun q => absurd q (by decide))
                refine g_aload_n X dX8_readRoad_160 rfl (j := 4) rfl ?_
                refine i_get X F 100 rfl rfl fk_X8_31 dX8_readRoad_161 rfl ?_
                refine g_iload_n X dX8_readRoad_164 rfl (j := 1) rfl ?_
                refine g_iconst X dX8_readRoad_165 (v := 1) (by decide) ?_
                refine g_iadd X dX8_readRoad_166 ?_
                refine Go.top (v := .int (nI ((14 + (6 * n53)) + 1))) (congrArg Value.int (nI_add (14 + (6 * n53)) 1)) ?_
                refine g_aload_n X dX8_readRoad_167 rfl (j := 4) rfl ?_
                refine i_get X F 100 rfl rfl fk_X8_31 dX8_readRoad_168 rfl ?_
                refine g_iload_n X dX8_readRoad_171 rfl (j := 1) rfl ?_
                obtain ⟨n87, hn87, en87⟩ := rg_nat ((show okw (14 + (6 * n53)) (C 114 (14 + (6 * n53))) from I 114 (14 + (6 * n53))).2.2.2.2.2.2.1 (by omega) (by omega) (by omega)) (by decide)
                refine i_iald X F 114 rfl rfl dX8_readRoad_172 (vp_in_nI (by omega) (by decide)) (v := nI n87) (by rw [nI_clamp (by omega)]; exact en87) ?_
                have hlen87 : n87 ≤ 3 := by have z := hroy; rw [en87, nI_toInt (by omega)] at z; omega
                refine g_iadd X dX8_readRoad_173 ?_
                refine Go.top (v := .int (nI (((14 + (6 * n53)) + 1) + n87))) (congrArg Value.int (nI_add ((14 + (6 * n53)) + 1) n87)) ?_
                refine g_iload X dX8_readRoad_174 (j := 0) rfl ?_
                refine i_iast X F I 114 rfl (fun _ => rfl) dX8_readRoad_176 (vp_in_nI (by omega) (by decide)) (by rw [nI_clamp (by omega)]; show okw (((14 + (6 * n53)) + 1) + n87) (nI n84); exact ⟨fun h => by exfalso; omega, fun h => by exfalso; omega, fun h => by exfalso; omega, fun h => by exfalso; omega, fun h => by exfalso; omega, fun h => by exfalso; omega, fun a1 a2 a3 => by exfalso; omega, fun a1 a2 a3 => by exfalso; omega, fun _ _ _ _ => (gl_of (n := n84) (by omega)), fun a1 a2 a3 => by exfalso; omega, fun a1 a2 => by exfalso; omega⟩) (fun M C F I K1 hC => ?_)
                have K := K.step K1 (by decide)
                have hm : C 100 12 = 0 → C0 100 12 = 0 := fun z => hm ((congrFun (K1 100 (by decide)).1 12).symm.trans z)
                have ham : (C0 100 8).toInt ≤ (C 100 8).toInt := by rw [(K1 100 (by decide)).1]; exact ham
                have hgd : C 100 12 = 0 := by rw [(K1 100 (by decide)).1]; exact hgd
                have en87 : C 114 (14 + (6 * n53)) = nI n87 := by rw [hC, nI_clamp (by omega), pk_un (by omega)]; exact en87
                refine g_aload_n X dX8_readRoad_177 rfl (j := 4) rfl ?_
                refine i_get X F 100 rfl rfl fk_X8_31 dX8_readRoad_178 rfl ?_
                refine g_iload_n X dX8_readRoad_181 rfl (j := 1) rfl ?_
                refine g_dup2 X dX8_readRoad_182 rfl rfl ?_
                refine i_iald X F 114 rfl rfl dX8_readRoad_183 (vp_in_nI (by omega) (by decide)) (v := nI n87) (by rw [nI_clamp (by omega)]; exact en87) ?_
                refine g_iconst X dX8_readRoad_184 (v := 1) (by decide) ?_
                refine g_iadd X dX8_readRoad_185 ?_
                refine Go.top (v := .int (nI (n87 + 1))) (congrArg Value.int (nI_add n87 1)) ?_
                refine i_iast X F I 114 rfl (fun _ => rfl) dX8_readRoad_186 (vp_in_nI (by omega) (by decide)) (by rw [nI_clamp (by omega)]; show okw (14 + (6 * n53)) (nI (n87 + 1)); exact ⟨fun h => by exfalso; omega, fun h => by exfalso; omega, fun h => by exfalso; omega, fun h => by exfalso; omega, fun h => by exfalso; omega, fun h => by exfalso; omega, fun _ _ _ => (rg_of (n := (n87 + 1)) (by omega) (by omega) (by omega)), fun a1 a2 a3 => by exfalso; omega, fun a1 a2 a3 a4 => by exfalso; omega, fun a1 a2 a3 => by exfalso; omega, fun a1 a2 => by exfalso; omega⟩) (fun M C F I K1 hC => ?_)
                have K := K.step K1 (by decide)
                have hm : C 100 12 = 0 → C0 100 12 = 0 := fun z => hm ((congrFun (K1 100 (by decide)).1 12).symm.trans z)
                have ham : (C0 100 8).toInt ≤ (C 100 8).toInt := by rw [(K1 100 (by decide)).1]; exact ham
                have hgd : C 100 12 = 0 := by rw [(K1 100 (by decide)).1]; exact hgd
                refine g_aload_n X dX8_readRoad_187 rfl (j := 4) rfl ?_
                refine i_get X F 100 rfl rfl fk_X8_31 dX8_readRoad_188 rfl ?_
                refine g_iconst X dX8_readRoad_191 (v := 5) (by decide) ?_
                refine g_dup2 X dX8_readRoad_192 rfl rfl ?_
                refine i_iald X F 114 rfl rfl dX8_readRoad_193 (vp_in_iff.mpr (by decide)) rfl ?_
                refine Go.gen (fun o88 => ?_)
                refine g_iconst X dX8_readRoad_194 (v := 1) (by decide) ?_
                refine g_iadd X dX8_readRoad_195 ?_
                refine Go.gen (fun o89 => ?_)
                refine i_iast X F I 114 rfl (fun _ => rfl) dX8_readRoad_196 (vp_in_iff.mpr (by decide)) (by show okw (5) (o89); exact ⟨fun h => by exfalso; omega, fun h => by exfalso; omega, fun h => by exfalso; omega, fun h => by exfalso; omega, fun h => by exfalso; omega, fun h => by exfalso; omega, fun a1 a2 a3 => by exfalso; omega, fun a1 a2 a3 => by exfalso; omega, fun a1 a2 a3 a4 => by exfalso; omega, fun a1 a2 a3 => by exfalso; omega, fun a1 a2 => by exfalso; omega⟩) (fun M C F I K1 hC => ?_)
                have K := K.step K1 (by decide)
                have hm : C 100 12 = 0 → C0 100 12 = 0 := fun z => hm ((congrFun (K1 100 (by decide)).1 12).symm.trans z)
                have ham : (C0 100 8).toInt ≤ (C 100 8).toInt := by rw [(K1 100 (by decide)).1]; exact ham
                have hgd : C 100 12 = 0 := by rw [(K1 100 (by decide)).1]; exact hgd
                exact g_vret X hrt dX8_readRoad_197 (by decide) (by decide) ⟨C, D, F, I, K, ham⟩
      · skip
        refine g_if_eq X dX8_readRoad_92 (tgt := 132) (by decide) (fun _ => ?_) (fun q => absurd (by decide) q)
        refine g_bipush X dX8_readRoad_132 (v := 10) (by decide) ?_
        refine g_aload_n X dX8_readRoad_134 rfl (j := 4) rfl ?_
        refine g_ldcS X (tx := "in") (i := 18) (by decide) dX8_readRoad_135 ?_
        refine g_iconst X dX8_readRoad_137 (v := 0) (by decide) ?_
        refine g_aload_n X dX8_readRoad_138 rfl (j := 4) rfl ?_
        refine i_get X F 100 rfl rfl fk_X8_31 dX8_readRoad_139 rfl ?_
        refine g_iconst X dX8_readRoad_142 (v := 3) (by decide) ?_
        obtain ⟨n90, hn90, en90⟩ := rg_nat ((show okw (3) (C 114 (3)) from I 114 (3)).2.2.1 rfl) (by decide)
        refine i_iald X F 114 rfl rfl dX8_readRoad_143 (vp_in_iff.mpr (by decide)) (v := nI n90) (by exact en90) ?_
        refine g_iconst X dX8_readRoad_144 (v := 1) (by decide) ?_
        refine g_isub X dX8_readRoad_145 ?_
        have hs91 := nI_m1 (n := n90) (by omega)
        refine g_callVI X (s_X8_toldBy l G F I 18 (by decide) (0 : Int32) ((nI n90 - 1)) ) lk_X8_197 (F.1 100 rfl).2 (F.1 100 rfl).1 rfl rfl dX8_readRoad_146 (Nat.le_of_ble_eq_true rfl) ⟨by decide, by decide⟩ ⟨by decide, by decide⟩ (fun r92 L M hp => ?_)
        obtain ⟨C, D, F, I, K1, hr⟩ := hp
        have K := K.step K1 (by decide)
        obtain ⟨hrat, hrm, hnum⟩ := hr
        have hm : C 100 12 = 0 → C0 100 12 = 0 := fun z => hm (hrm z)
        have hro : C 100 12 = 0 → (C 114 (14 + 6 * n53)).toInt ≤ 3 := fun z => by rw [(K1 114 (by decide)).1]; exact hro (hrm z)
        have ham : (C0 100 8).toInt ≤ (C 100 8).toInt := Int.le_trans ham hrat
        obtain ⟨n93, hn93, en93⟩ := num_nat (B := 3) (by decide) hnum (by omega)
        subst en93
        refine g_iadd X dX8_readRoad_149 ?_
        refine Go.top (v := .int (nI (10 + n93))) (congrArg Value.int (nI_add 10 n93)) ?_
        refine g_istore X dX8_readRoad_150 (by decide) (lv2 := [(4, .int (nI (10 + n93))), (3, .int (nI (14 + (6 * n53)))), (2, .int (nI n53)), (1, .int 0), (0, .ref (a 100))]) rfl ?_
        refine g_aload_n X dX8_readRoad_152 rfl (j := 4) rfl ?_
        refine g_callVI X (s_X8_good l G F I  ) lk_X8_161 (F.1 100 rfl).2 (F.1 100 rfl).1 rfl rfl dX8_readRoad_153 (Nat.le_of_ble_eq_true rfl) ⟨by decide, by decide⟩ ⟨by decide, by decide⟩ (fun r94 L M hp => ?_)
        obtain ⟨C, D, F, I, K1, hr⟩ := hp
        have K := K.step K1 (by decide)
        have hm : C 100 12 = 0 → C0 100 12 = 0 := fun z => hm ((congrFun (K1 100 (by decide)).1 12).symm.trans z)
        have hro : C 100 12 = 0 → (C 114 (14 + 6 * n53)).toInt ≤ 3 := fun z => by rw [(K1 114 (by decide)).1]; exact hro ((congrFun (K1 100 (by decide)).1 12).symm.trans z)
        have ham : (C0 100 8).toInt ≤ (C 100 8).toInt := by rw [(K1 100 (by decide)).1]; exact ham
        rcases hr with ⟨rfl, hg95⟩ | ⟨rfl, hg95⟩
        · skip
          have hgd := hg95
          refine g_if_ne X dX8_readRoad_156 (tgt := 160) (by decide) (fun q => absurd (by decide) q) (fun _ => ?_)
          exact g_vret X hrt dX8_readRoad_159 (by decide) (by decide) ⟨C, D, F, I, K, ham⟩
        · skip
          have hgd := hg95
          have hmy := hm hgd
          have hroy := hro hgd
          refine g_if_ne X dX8_readRoad_156 (tgt := 160) (by decide) (fun _ => ?_) (fun q => absurd q (by decide))
          refine g_aload_n X dX8_readRoad_160 rfl (j := 4) rfl ?_
          refine i_get X F 100 rfl rfl fk_X8_31 dX8_readRoad_161 rfl ?_
          refine g_iload_n X dX8_readRoad_164 rfl (j := 1) rfl ?_
          refine g_iconst X dX8_readRoad_165 (v := 1) (by decide) ?_
          refine g_iadd X dX8_readRoad_166 ?_
          refine Go.top (v := .int (nI ((14 + (6 * n53)) + 1))) (congrArg Value.int (nI_add (14 + (6 * n53)) 1)) ?_
          refine g_aload_n X dX8_readRoad_167 rfl (j := 4) rfl ?_
          refine i_get X F 100 rfl rfl fk_X8_31 dX8_readRoad_168 rfl ?_
          refine g_iload_n X dX8_readRoad_171 rfl (j := 1) rfl ?_
          obtain ⟨n96, hn96, en96⟩ := rg_nat ((show okw (14 + (6 * n53)) (C 114 (14 + (6 * n53))) from I 114 (14 + (6 * n53))).2.2.2.2.2.2.1 (by omega) (by omega) (by omega)) (by decide)
          refine i_iald X F 114 rfl rfl dX8_readRoad_172 (vp_in_nI (by omega) (by decide)) (v := nI n96) (by rw [nI_clamp (by omega)]; exact en96) ?_
          have hlen96 : n96 ≤ 3 := by have z := hroy; rw [en96, nI_toInt (by omega)] at z; omega
          refine g_iadd X dX8_readRoad_173 ?_
          refine Go.top (v := .int (nI (((14 + (6 * n53)) + 1) + n96))) (congrArg Value.int (nI_add ((14 + (6 * n53)) + 1) n96)) ?_
          refine g_iload X dX8_readRoad_174 (j := 0) rfl ?_
          refine i_iast X F I 114 rfl (fun _ => rfl) dX8_readRoad_176 (vp_in_nI (by omega) (by decide)) (by rw [nI_clamp (by omega)]; show okw (((14 + (6 * n53)) + 1) + n96) (nI (10 + n93)); exact ⟨fun h => by exfalso; omega, fun h => by exfalso; omega, fun h => by exfalso; omega, fun h => by exfalso; omega, fun h => by exfalso; omega, fun h => by exfalso; omega, fun a1 a2 a3 => by exfalso; omega, fun a1 a2 a3 => by exfalso; omega, fun _ _ _ _ => (gl_of (n := (10 + n93)) (by omega)), fun a1 a2 a3 => by exfalso; omega, fun a1 a2 => by exfalso; omega⟩) (fun M C F I K1 hC => ?_)
          have K := K.step K1 (by decide)
          have hm : C 100 12 = 0 → C0 100 12 = 0 := fun z => hm ((congrFun (K1 100 (by decide)).1 12).symm.trans z)
          have ham : (C0 100 8).toInt ≤ (C 100 8).toInt := by rw [(K1 100 (by decide)).1]; exact ham
          have hgd : C 100 12 = 0 := by rw [(K1 100 (by decide)).1]; exact hgd
          have en96 : C 114 (14 + (6 * n53)) = nI n96 := by rw [hC, nI_clamp (by omega), pk_un (by omega)]; exact en96
          refine g_aload_n X dX8_readRoad_177 rfl (j := 4) rfl ?_
          refine i_get X F 100 rfl rfl fk_X8_31 dX8_readRoad_178 rfl ?_
          refine g_iload_n X dX8_readRoad_181 rfl (j := 1) rfl ?_
          refine g_dup2 X dX8_readRoad_182 rfl rfl ?_
          refine i_iald X F 114 rfl rfl dX8_readRoad_183 (vp_in_nI (by omega) (by decide)) (v := nI n96) (by rw [nI_clamp (by omega)]; exact en96) ?_
          refine g_iconst X dX8_readRoad_184 (v := 1) (by decide) ?_
          refine g_iadd X dX8_readRoad_185 ?_
          refine Go.top (v := .int (nI (n96 + 1))) (congrArg Value.int (nI_add n96 1)) ?_
          refine i_iast X F I 114 rfl (fun _ => rfl) dX8_readRoad_186 (vp_in_nI (by omega) (by decide)) (by rw [nI_clamp (by omega)]; show okw (14 + (6 * n53)) (nI (n96 + 1)); exact ⟨fun h => by exfalso; omega, fun h => by exfalso; omega, fun h => by exfalso; omega, fun h => by exfalso; omega, fun h => by exfalso; omega, fun h => by exfalso; omega, fun _ _ _ => (rg_of (n := (n96 + 1)) (by omega) (by omega) (by omega)), fun a1 a2 a3 => by exfalso; omega, fun a1 a2 a3 a4 => by exfalso; omega, fun a1 a2 a3 => by exfalso; omega, fun a1 a2 => by exfalso; omega⟩) (fun M C F I K1 hC => ?_)
          have K := K.step K1 (by decide)
          have hm : C 100 12 = 0 → C0 100 12 = 0 := fun z => hm ((congrFun (K1 100 (by decide)).1 12).symm.trans z)
          have ham : (C0 100 8).toInt ≤ (C 100 8).toInt := by rw [(K1 100 (by decide)).1]; exact ham
          have hgd : C 100 12 = 0 := by rw [(K1 100 (by decide)).1]; exact hgd
          refine g_aload_n X dX8_readRoad_187 rfl (j := 4) rfl ?_
          refine i_get X F 100 rfl rfl fk_X8_31 dX8_readRoad_188 rfl ?_
          refine g_iconst X dX8_readRoad_191 (v := 5) (by decide) ?_
          refine g_dup2 X dX8_readRoad_192 rfl rfl ?_
          refine i_iald X F 114 rfl rfl dX8_readRoad_193 (vp_in_iff.mpr (by decide)) rfl ?_
          refine Go.gen (fun o97 => ?_)
          refine g_iconst X dX8_readRoad_194 (v := 1) (by decide) ?_
          refine g_iadd X dX8_readRoad_195 ?_
          refine Go.gen (fun o98 => ?_)
          refine i_iast X F I 114 rfl (fun _ => rfl) dX8_readRoad_196 (vp_in_iff.mpr (by decide)) (by show okw (5) (o98); exact ⟨fun h => by exfalso; omega, fun h => by exfalso; omega, fun h => by exfalso; omega, fun h => by exfalso; omega, fun h => by exfalso; omega, fun h => by exfalso; omega, fun a1 a2 a3 => by exfalso; omega, fun a1 a2 a3 => by exfalso; omega, fun a1 a2 a3 a4 => by exfalso; omega, fun a1 a2 a3 => by exfalso; omega, fun a1 a2 => by exfalso; omega⟩) (fun M C F I K1 hC => ?_)
          have K := K.step K1 (by decide)
          have hm : C 100 12 = 0 → C0 100 12 = 0 := fun z => hm ((congrFun (K1 100 (by decide)).1 12).symm.trans z)
          have ham : (C0 100 8).toInt ≤ (C 100 8).toInt := by rw [(K1 100 (by decide)).1]; exact ham
          have hgd : C 100 12 = 0 := by rw [(K1 100 (by decide)).1]; exact hgd
          exact g_vret X hrt dX8_readRoad_197 (by decide) (by decide) ⟨C, D, F, I, K, ham⟩
    · skip
      subst q51
      refine g_aload_n X dX8_readRoad_15 rfl (j := 0) rfl ?_
      obtain ⟨o99, eo99⟩ : ∃ z, C 100 11 = z := ⟨_, rfl⟩
      refine i_get X F 100 rfl rfl fk_X8_148 dX8_readRoad_16 (v := .int o99) (congrArg (fun z => some (Value.int z)) eo99) ?_
      refine g_i2l X dX8_readRoad_19 rfl ?_
      refine g_lconst X dX8_readRoad_20 (v := 0) (by decide) ?_
      refine g_aload_n X dX8_readRoad_21 rfl (j := 0) rfl ?_
      refine i_get X F 100 rfl rfl fk_X8_31 dX8_readRoad_22 rfl ?_
      refine g_iconst X dX8_readRoad_25 (v := 4) (by decide) ?_
      obtain ⟨n100, hn100, en100⟩ := rg_nat ((show okw (4) (C 114 (4)) from I 114 (4)).2.2.2.1 rfl) (by decide)
      refine i_iald X F 114 rfl rfl dX8_readRoad_26 (vp_in_iff.mpr (by decide)) (v := nI n100) (by exact en100) ?_
      refine g_iconst X dX8_readRoad_27 (v := 1) (by decide) ?_
      refine g_isub X dX8_readRoad_28 ?_
      have hs101 := nI_m1 (n := n100) (by omega)
      refine g_i2l X dX8_readRoad_29 rfl ?_
      refine g_callSI X (s_X8_in l G F I ((Int32.toInt64 o99)) (0 : Int64) ((Int32.toInt64 ((nI n100 - 1)))) ) lk_X8_94 rfl rfl dX8_readRoad_30 (Nat.le_of_ble_eq_true rfl) ⟨by decide, by decide⟩ ⟨by decide, by decide⟩ (fun r102 L M hp => ?_)
      obtain ⟨C, D, F, I, K1, hr⟩ := hp
      have K := K.step K1 (by decide)
      have hm : C 100 12 = 0 → C0 100 12 = 0 := fun z => hm ((congrFun (K1 100 (by decide)).1 12).symm.trans z)
      have ham : (C0 100 8).toInt ≤ (C 100 8).toInt := by rw [(K1 100 (by decide)).1]; exact ham
      have hgd : C 100 12 = 0 := by rw [(K1 100 (by decide)).1]; exact hgd
      have en100 : C 114 (4) = nI n100 := by rw [(K1 114 (by decide)).1]; exact en100
      have eo50 : C 100 10 = 2 := (congrFun (K1 100 (by decide)).1 10).trans eo50
      have eo99 : C 100 11 = o99 := (congrFun (K1 100 (by decide)).1 11).trans eo99
      rcases hr with ⟨rfl, hq103⟩ | ⟨rfl, hq103⟩
      · skip
        have hq103x := Jvm.Kit.i64_of_i32 o99
        have hq103l : (0 : Int64).toInt = 0 := (by decide)
        have hq103h := Jvm.Kit.i64_of_i32 ((nI n100 - 1))
        refine g_if_eq X dX8_readRoad_33 (tgt := 40) (by decide) (fun _ => ?_) (fun q => absurd (by decide) q)
        refine g_iconst X dX8_readRoad_40 (v := 0) (by decide) ?_
        refine g_istore_n X dX8_readRoad_41 rfl (by decide) (lv2 := [(1, .int 0), (0, .ref (a 100))]) rfl ?_
        refine g_iload_n X dX8_readRoad_42 rfl (j := 0) rfl ?_
        refine g_if_eq X dX8_readRoad_43 (tgt := 70) (by decide) (fun _ => ?_) (fun q => absurd (by decide) q)
        refine g_aload_n X dX8_readRoad_70 rfl (j := 1) rfl ?_
        refine g_callVI X (s_X8_readPost l G F I  ) lk_X8_205 (F.1 100 rfl).2 (F.1 100 rfl).1 rfl rfl dX8_readRoad_71 (Nat.le_of_ble_eq_true rfl) ⟨by decide, by decide⟩ ⟨by decide, by decide⟩ (fun r104 L M hp => ?_)
        obtain ⟨C, D, F, I, K1, hr⟩ := hp
        have K := K.step K1 (by decide)
        have en100 : C 114 (4) = nI n100 := by rw [(K1 114 (by decide)).1]; exact en100
        obtain ⟨hrat, hrp, ⟨n105, hn105, en105⟩⟩ := hr
        subst en105
        have hm : C 100 12 = 0 → C0 100 12 = 0 := fun z => hm (hrp z).1
        have ham : (C0 100 8).toInt ≤ (C 100 8).toInt := Int.le_trans ham hrat
        have hro : C 100 12 = 0 → (C 114 (14 + 6 * n105)).toInt ≤ 3 := fun z => by
          exfalso
          have g3 := (hrp z).2.2.1; have g4 := (hrp z).2.2.2
          rw [eo99] at g3
          rw [← (K1 114 (by decide)).1, en100] at g4
          have g5 := nI_toInt (n := n105) (by omega)
          rw [g3] at g4 g5
          omega
        refine g_istore_n X dX8_readRoad_74 rfl (by decide) (lv2 := [(2, .int (nI n105)), (1, .int 0), (0, .ref (a 100))]) rfl ?_
        refine g_bipush X dX8_readRoad_75 (v := 14) (by decide) ?_
        refine g_bipush X dX8_readRoad_77 (v := 6) (by decide) ?_
        refine g_iload_n X dX8_readRoad_79 rfl (j := 0) rfl ?_
        refine g_imul X dX8_readRoad_80 ?_
        refine Go.top (v := .int (nI (6 * n105))) (congrArg Value.int (pk_mul 6 n105)) ?_
        refine g_iadd X dX8_readRoad_81 ?_
        refine Go.top (v := .int (nI (14 + (6 * n105)))) (congrArg Value.int (nI_add 14 (6 * n105))) ?_
        refine g_istore_n X dX8_readRoad_82 rfl (by decide) (lv2 := [(3, .int (nI (14 + (6 * n105)))), (2, .int (nI n105)), (1, .int 0), (0, .ref (a 100))]) rfl ?_
        refine g_iconst X dX8_readRoad_83 (v := 0) (by decide) ?_
        refine g_istore X dX8_readRoad_84 (by decide) (lv2 := [(4, .int 0), (3, .int (nI (14 + (6 * n105)))), (2, .int (nI n105)), (1, .int 0), (0, .ref (a 100))]) rfl ?_
        refine g_aload_n X dX8_readRoad_86 rfl (j := 4) rfl ?_
        refine g_ldcS X (tx := "to") (i := 17) (by decide) dX8_readRoad_87 ?_
        refine g_callVI X (s_X8_takes l G F I 17 (by decide) ) lk_X8_180 (F.1 100 rfl).2 (F.1 100 rfl).1 rfl rfl dX8_readRoad_89 (Nat.le_of_ble_eq_true rfl) ⟨by decide, by decide⟩ ⟨by decide, by decide⟩ (fun r106 L M hp => ?_)
        obtain ⟨C, D, F, I, K1, hr⟩ := hp
        have K := K.step K1 (by decide)
        have en100 : C 114 (4) = nI n100 := by rw [(K1 114 (by decide)).1]; exact en100
        obtain ⟨hrat, hrm, hr⟩ := hr
        have hm : C 100 12 = 0 → C0 100 12 = 0 := fun z => hm (hrm z)
        have hro : C 100 12 = 0 → (C 114 (14 + 6 * n105)).toInt ≤ 3 := fun z => by rw [(K1 114 (by decide)).1]; exact hro (hrm z)
        have ham : (C0 100 8).toInt ≤ (C 100 8).toInt := Int.le_trans ham hrat
        rcases hr with ⟨rfl, ht107⟩ | ⟨rfl, ht107, ht107E⟩
        · skip
          refine g_if_eq X dX8_readRoad_92 (tgt := 132) (by decide) (fun q => absurd q (by decide)) (fun _ => ?_)
          refine g_aload_n X dX8_readRoad_95 rfl (j := 4) rfl ?_
          refine g_callVI X (s_X8_good l G F I  ) lk_X8_161 (F.1 100 rfl).2 (F.1 100 rfl).1 rfl rfl dX8_readRoad_96 (Nat.le_of_ble_eq_true rfl) ⟨by decide, by decide⟩ ⟨by decide, by decide⟩ (fun r108 L M hp => ?_)
          obtain ⟨C, D, F, I, K1, hr⟩ := hp
          have K := K.step K1 (by decide)
          have hm : C 100 12 = 0 → C0 100 12 = 0 := fun z => hm ((congrFun (K1 100 (by decide)).1 12).symm.trans z)
          have hro : C 100 12 = 0 → (C 114 (14 + 6 * n105)).toInt ≤ 3 := fun z => by rw [(K1 114 (by decide)).1]; exact hro ((congrFun (K1 100 (by decide)).1 12).symm.trans z)
          have en100 : C 114 (4) = nI n100 := by rw [(K1 114 (by decide)).1]; exact en100
          have ham : (C0 100 8).toInt ≤ (C 100 8).toInt := by rw [(K1 100 (by decide)).1]; exact ham
          rcases hr with ⟨rfl, hg109⟩ | ⟨rfl, hg109⟩
          · skip
            have hgd := hg109
            refine g_if_eq X dX8_readRoad_99 (tgt := 123) (by decide) (fun _ => ?_) (fun q => absurd (by decide) q)
            refine g_aload_n X dX8_readRoad_123 rfl (j := 4) rfl ?_
            refine g_callVI X (s_X8_readPost l G F I  ) lk_X8_205 (F.1 100 rfl).2 (F.1 100 rfl).1 rfl rfl dX8_readRoad_124 (Nat.le_of_ble_eq_true rfl) ⟨by decide, by decide⟩ ⟨by decide, by decide⟩ (fun r110 L M hp => ?_)
            obtain ⟨C, D, F, I, K1, hr⟩ := hp
            have K := K.step K1 (by decide)
            have en100 : C 114 (4) = nI n100 := by rw [(K1 114 (by decide)).1]; exact en100
            obtain ⟨hrat, hrp, ⟨n111, hn111, en111⟩⟩ := hr
            subst en111
            have hm : C 100 12 = 0 → C0 100 12 = 0 := fun z => hm (hrp z).1
            have hro : C 100 12 = 0 → (C 114 (14 + 6 * n105)).toInt ≤ 3 := fun z => by rw [(K1 114 (by decide)).1]; exact hro (hrp z).1
            have ham : (C0 100 8).toInt ≤ (C 100 8).toInt := Int.le_trans ham hrat
            refine g_istore X dX8_readRoad_127 (by decide) (lv2 := [(4, .int (nI n111)), (3, .int (nI (14 + (6 * n105)))), (2, .int (nI n105)), (1, .int 0), (0, .ref (a 100))]) rfl ?_
            refine g_goto X dX8_readRoad_129 (tgt := 152) (by decide) ?_
            refine g_aload_n X dX8_readRoad_152 rfl (j := 4) rfl ?_
            refine g_callVI X (s_X8_good l G F I  ) lk_X8_161 (F.1 100 rfl).2 (F.1 100 rfl).1 rfl rfl dX8_readRoad_153 (Nat.le_of_ble_eq_true rfl) ⟨by decide, by decide⟩ ⟨by decide, by decide⟩ (fun r112 L M hp => ?_)
            obtain ⟨C, D, F, I, K1, hr⟩ := hp
            have K := K.step K1 (by decide)
            have hm : C 100 12 = 0 → C0 100 12 = 0 := fun z => hm ((congrFun (K1 100 (by decide)).1 12).symm.trans z)
            have hro : C 100 12 = 0 → (C 114 (14 + 6 * n105)).toInt ≤ 3 := fun z => by rw [(K1 114 (by decide)).1]; exact hro ((congrFun (K1 100 (by decide)).1 12).symm.trans z)
            have en100 : C 114 (4) = nI n100 := by rw [(K1 114 (by decide)).1]; exact en100
            have ham : (C0 100 8).toInt ≤ (C 100 8).toInt := by rw [(K1 100 (by decide)).1]; exact ham
            rcases hr with ⟨rfl, hg113⟩ | ⟨rfl, hg113⟩
            · skip
              have hgd := hg113
              refine g_if_ne X dX8_readRoad_156 (tgt := 160) (by decide) (fun q => absurd (by decide) q) (fun _ => ?_)
              exact g_vret X hrt dX8_readRoad_159 (by decide) (by decide) ⟨C, D, F, I, K, ham⟩
            · skip
              have hgd := hg113
              have hmy := hm hgd
              have hroy := hro hgd
              refine g_if_ne X dX8_readRoad_156 (tgt := 160) (by decide) (fun _ => ?_) (fun q => absurd q (by decide))
              refine g_aload_n X dX8_readRoad_160 rfl (j := 4) rfl ?_
              refine i_get X F 100 rfl rfl fk_X8_31 dX8_readRoad_161 rfl ?_
              refine g_iload_n X dX8_readRoad_164 rfl (j := 1) rfl ?_
              refine g_iconst X dX8_readRoad_165 (v := 1) (by decide) ?_
              refine g_iadd X dX8_readRoad_166 ?_
              refine Go.top (v := .int (nI ((14 + (6 * n105)) + 1))) (congrArg Value.int (nI_add (14 + (6 * n105)) 1)) ?_
              refine g_aload_n X dX8_readRoad_167 rfl (j := 4) rfl ?_
              refine i_get X F 100 rfl rfl fk_X8_31 dX8_readRoad_168 rfl ?_
              refine g_iload_n X dX8_readRoad_171 rfl (j := 1) rfl ?_
              obtain ⟨n114, hn114, en114⟩ := rg_nat ((show okw (14 + (6 * n105)) (C 114 (14 + (6 * n105))) from I 114 (14 + (6 * n105))).2.2.2.2.2.2.1 (by omega) (by omega) (by omega)) (by decide)
              refine i_iald X F 114 rfl rfl dX8_readRoad_172 (vp_in_nI (by omega) (by decide)) (v := nI n114) (by rw [nI_clamp (by omega)]; exact en114) ?_
              have hlen114 : n114 ≤ 3 := by have z := hroy; rw [en114, nI_toInt (by omega)] at z; omega
              refine g_iadd X dX8_readRoad_173 ?_
              refine Go.top (v := .int (nI (((14 + (6 * n105)) + 1) + n114))) (congrArg Value.int (nI_add ((14 + (6 * n105)) + 1) n114)) ?_
              refine g_iload X dX8_readRoad_174 (j := 0) rfl ?_
              refine i_iast X F I 114 rfl (fun _ => rfl) dX8_readRoad_176 (vp_in_nI (by omega) (by decide)) (by rw [nI_clamp (by omega)]; show okw (((14 + (6 * n105)) + 1) + n114) (nI n111); exact ⟨fun h => by exfalso; omega, fun h => by exfalso; omega, fun h => by exfalso; omega, fun h => by exfalso; omega, fun h => by exfalso; omega, fun h => by exfalso; omega, fun a1 a2 a3 => by exfalso; omega, fun a1 a2 a3 => by exfalso; omega, fun _ _ _ _ => (gl_of (n := n111) (by omega)), fun a1 a2 a3 => by exfalso; omega, fun a1 a2 => by exfalso; omega⟩) (fun M C F I K1 hC => ?_)
              have K := K.step K1 (by decide)
              have hm : C 100 12 = 0 → C0 100 12 = 0 := fun z => hm ((congrFun (K1 100 (by decide)).1 12).symm.trans z)
              have ham : (C0 100 8).toInt ≤ (C 100 8).toInt := by rw [(K1 100 (by decide)).1]; exact ham
              have hgd : C 100 12 = 0 := by rw [(K1 100 (by decide)).1]; exact hgd
              have en114 : C 114 (14 + (6 * n105)) = nI n114 := by rw [hC, nI_clamp (by omega), pk_un (by omega)]; exact en114
              refine g_aload_n X dX8_readRoad_177 rfl (j := 4) rfl ?_
              refine i_get X F 100 rfl rfl fk_X8_31 dX8_readRoad_178 rfl ?_
              refine g_iload_n X dX8_readRoad_181 rfl (j := 1) rfl ?_
              refine g_dup2 X dX8_readRoad_182 rfl rfl ?_
              refine i_iald X F 114 rfl rfl dX8_readRoad_183 (vp_in_nI (by omega) (by decide)) (v := nI n114) (by rw [nI_clamp (by omega)]; exact en114) ?_
              refine g_iconst X dX8_readRoad_184 (v := 1) (by decide) ?_
              refine g_iadd X dX8_readRoad_185 ?_
              refine Go.top (v := .int (nI (n114 + 1))) (congrArg Value.int (nI_add n114 1)) ?_
              refine i_iast X F I 114 rfl (fun _ => rfl) dX8_readRoad_186 (vp_in_nI (by omega) (by decide)) (by rw [nI_clamp (by omega)]; show okw (14 + (6 * n105)) (nI (n114 + 1)); exact ⟨fun h => by exfalso; omega, fun h => by exfalso; omega, fun h => by exfalso; omega, fun h => by exfalso; omega, fun h => by exfalso; omega, fun h => by exfalso; omega, fun _ _ _ => (rg_of (n := (n114 + 1)) (by omega) (by omega) (by omega)), fun a1 a2 a3 => by exfalso; omega, fun a1 a2 a3 a4 => by exfalso; omega, fun a1 a2 a3 => by exfalso; omega, fun a1 a2 => by exfalso; omega⟩) (fun M C F I K1 hC => ?_)
              have K := K.step K1 (by decide)
              have hm : C 100 12 = 0 → C0 100 12 = 0 := fun z => hm ((congrFun (K1 100 (by decide)).1 12).symm.trans z)
              have ham : (C0 100 8).toInt ≤ (C 100 8).toInt := by rw [(K1 100 (by decide)).1]; exact ham
              have hgd : C 100 12 = 0 := by rw [(K1 100 (by decide)).1]; exact hgd
              refine g_aload_n X dX8_readRoad_187 rfl (j := 4) rfl ?_
              refine i_get X F 100 rfl rfl fk_X8_31 dX8_readRoad_188 rfl ?_
              refine g_iconst X dX8_readRoad_191 (v := 5) (by decide) ?_
              refine g_dup2 X dX8_readRoad_192 rfl rfl ?_
              refine i_iald X F 114 rfl rfl dX8_readRoad_193 (vp_in_iff.mpr (by decide)) rfl ?_
              refine Go.gen (fun o115 => ?_)
              refine g_iconst X dX8_readRoad_194 (v := 1) (by decide) ?_
              refine g_iadd X dX8_readRoad_195 ?_
              refine Go.gen (fun o116 => ?_)
              refine i_iast X F I 114 rfl (fun _ => rfl) dX8_readRoad_196 (vp_in_iff.mpr (by decide)) (by show okw (5) (o116); exact ⟨fun h => by exfalso; omega, fun h => by exfalso; omega, fun h => by exfalso; omega, fun h => by exfalso; omega, fun h => by exfalso; omega, fun h => by exfalso; omega, fun a1 a2 a3 => by exfalso; omega, fun a1 a2 a3 => by exfalso; omega, fun a1 a2 a3 a4 => by exfalso; omega, fun a1 a2 a3 => by exfalso; omega, fun a1 a2 => by exfalso; omega⟩) (fun M C F I K1 hC => ?_)
              have K := K.step K1 (by decide)
              have hm : C 100 12 = 0 → C0 100 12 = 0 := fun z => hm ((congrFun (K1 100 (by decide)).1 12).symm.trans z)
              have ham : (C0 100 8).toInt ≤ (C 100 8).toInt := by rw [(K1 100 (by decide)).1]; exact ham
              have hgd : C 100 12 = 0 := by rw [(K1 100 (by decide)).1]; exact hgd
              exact g_vret X hrt dX8_readRoad_197 (by decide) (by decide) ⟨C, D, F, I, K, ham⟩
          · skip
            have hgd := hg109
            have hmy := hm hgd
            have hroy := hro hgd
            refine g_if_eq X dX8_readRoad_99 (tgt := 123) (by decide) (fun q => absurd q (by decide)) (fun _ => ?_)
            refine g_aload_n X dX8_readRoad_102 rfl (j := 4) rfl ?_
            obtain ⟨o117, eo117⟩ : ∃ z, C 100 10 = z := ⟨_, rfl⟩
            refine i_get X F 100 rfl rfl fk_X8_137 dX8_readRoad_103 (v := .int o117) (congrArg (fun z => some (Value.int z)) eo117) ?_
            refine g_iconst X dX8_readRoad_106 (v := 2) (by decide) ?_
            refine g_icmp_ne X dX8_readRoad_107 (tgt := 123) (by decide) (fun q118 => ?_) (fun q118 => ?_)
            · skip
              refine g_aload_n X dX8_readRoad_123 rfl (j := 4) rfl ?_
              refine g_callVI X (s_X8_readPost l G F I  ) lk_X8_205 (F.1 100 rfl).2 (F.1 100 rfl).1 rfl rfl dX8_readRoad_124 (Nat.le_of_ble_eq_true rfl) ⟨by decide, by decide⟩ ⟨by decide, by decide⟩ (fun r119 L M hp => ?_)
              obtain ⟨C, D, F, I, K1, hr⟩ := hp
              have K := K.step K1 (by decide)
              have en100 : C 114 (4) = nI n100 := by rw [(K1 114 (by decide)).1]; exact en100
              obtain ⟨hrat, hrp, ⟨n120, hn120, en120⟩⟩ := hr
              subst en120
              have hm : C 100 12 = 0 → C0 100 12 = 0 := fun z => hm (hrp z).1
              have hro : C 100 12 = 0 → (C 114 (14 + 6 * n105)).toInt ≤ 3 := fun z => by rw [(K1 114 (by decide)).1]; exact hro (hrp z).1
              have ham : (C0 100 8).toInt ≤ (C 100 8).toInt := Int.le_trans ham hrat
              refine g_istore X dX8_readRoad_127 (by decide) (lv2 := [(4, .int (nI n120)), (3, .int (nI (14 + (6 * n105)))), (2, .int (nI n105)), (1, .int 0), (0, .ref (a 100))]) rfl ?_
              refine g_goto X dX8_readRoad_129 (tgt := 152) (by decide) ?_
              refine g_aload_n X dX8_readRoad_152 rfl (j := 4) rfl ?_
              refine g_callVI X (s_X8_good l G F I  ) lk_X8_161 (F.1 100 rfl).2 (F.1 100 rfl).1 rfl rfl dX8_readRoad_153 (Nat.le_of_ble_eq_true rfl) ⟨by decide, by decide⟩ ⟨by decide, by decide⟩ (fun r121 L M hp => ?_)
              obtain ⟨C, D, F, I, K1, hr⟩ := hp
              have K := K.step K1 (by decide)
              have hm : C 100 12 = 0 → C0 100 12 = 0 := fun z => hm ((congrFun (K1 100 (by decide)).1 12).symm.trans z)
              have hro : C 100 12 = 0 → (C 114 (14 + 6 * n105)).toInt ≤ 3 := fun z => by rw [(K1 114 (by decide)).1]; exact hro ((congrFun (K1 100 (by decide)).1 12).symm.trans z)
              have en100 : C 114 (4) = nI n100 := by rw [(K1 114 (by decide)).1]; exact en100
              have ham : (C0 100 8).toInt ≤ (C 100 8).toInt := by rw [(K1 100 (by decide)).1]; exact ham
              rcases hr with ⟨rfl, hg122⟩ | ⟨rfl, hg122⟩
              · skip
                have hgd := hg122
                refine g_if_ne X dX8_readRoad_156 (tgt := 160) (by decide) (fun q => absurd (by decide) q) (fun _ => ?_)
                exact g_vret X hrt dX8_readRoad_159 (by decide) (by decide) ⟨C, D, F, I, K, ham⟩
              · skip
                have hgd := hg122
                have hmy := hm hgd
                have hroy := hro hgd
                refine g_if_ne X dX8_readRoad_156 (tgt := 160) (by decide) (fun _ => ?_) (fun q => absurd q (by decide))
                refine g_aload_n X dX8_readRoad_160 rfl (j := 4) rfl ?_
                refine i_get X F 100 rfl rfl fk_X8_31 dX8_readRoad_161 rfl ?_
                refine g_iload_n X dX8_readRoad_164 rfl (j := 1) rfl ?_
                refine g_iconst X dX8_readRoad_165 (v := 1) (by decide) ?_
                refine g_iadd X dX8_readRoad_166 ?_
                refine Go.top (v := .int (nI ((14 + (6 * n105)) + 1))) (congrArg Value.int (nI_add (14 + (6 * n105)) 1)) ?_
                refine g_aload_n X dX8_readRoad_167 rfl (j := 4) rfl ?_
                refine i_get X F 100 rfl rfl fk_X8_31 dX8_readRoad_168 rfl ?_
                refine g_iload_n X dX8_readRoad_171 rfl (j := 1) rfl ?_
                obtain ⟨n123, hn123, en123⟩ := rg_nat ((show okw (14 + (6 * n105)) (C 114 (14 + (6 * n105))) from I 114 (14 + (6 * n105))).2.2.2.2.2.2.1 (by omega) (by omega) (by omega)) (by decide)
                refine i_iald X F 114 rfl rfl dX8_readRoad_172 (vp_in_nI (by omega) (by decide)) (v := nI n123) (by rw [nI_clamp (by omega)]; exact en123) ?_
                have hlen123 : n123 ≤ 3 := by have z := hroy; rw [en123, nI_toInt (by omega)] at z; omega
                refine g_iadd X dX8_readRoad_173 ?_
                refine Go.top (v := .int (nI (((14 + (6 * n105)) + 1) + n123))) (congrArg Value.int (nI_add ((14 + (6 * n105)) + 1) n123)) ?_
                refine g_iload X dX8_readRoad_174 (j := 0) rfl ?_
                refine i_iast X F I 114 rfl (fun _ => rfl) dX8_readRoad_176 (vp_in_nI (by omega) (by decide)) (by rw [nI_clamp (by omega)]; show okw (((14 + (6 * n105)) + 1) + n123) (nI n120); exact ⟨fun h => by exfalso; omega, fun h => by exfalso; omega, fun h => by exfalso; omega, fun h => by exfalso; omega, fun h => by exfalso; omega, fun h => by exfalso; omega, fun a1 a2 a3 => by exfalso; omega, fun a1 a2 a3 => by exfalso; omega, fun _ _ _ _ => (gl_of (n := n120) (by omega)), fun a1 a2 a3 => by exfalso; omega, fun a1 a2 => by exfalso; omega⟩) (fun M C F I K1 hC => ?_)
                have K := K.step K1 (by decide)
                have hm : C 100 12 = 0 → C0 100 12 = 0 := fun z => hm ((congrFun (K1 100 (by decide)).1 12).symm.trans z)
                have ham : (C0 100 8).toInt ≤ (C 100 8).toInt := by rw [(K1 100 (by decide)).1]; exact ham
                have hgd : C 100 12 = 0 := by rw [(K1 100 (by decide)).1]; exact hgd
                have en123 : C 114 (14 + (6 * n105)) = nI n123 := by rw [hC, nI_clamp (by omega), pk_un (by omega)]; exact en123
                refine g_aload_n X dX8_readRoad_177 rfl (j := 4) rfl ?_
                refine i_get X F 100 rfl rfl fk_X8_31 dX8_readRoad_178 rfl ?_
                refine g_iload_n X dX8_readRoad_181 rfl (j := 1) rfl ?_
                refine g_dup2 X dX8_readRoad_182 rfl rfl ?_
                refine i_iald X F 114 rfl rfl dX8_readRoad_183 (vp_in_nI (by omega) (by decide)) (v := nI n123) (by rw [nI_clamp (by omega)]; exact en123) ?_
                refine g_iconst X dX8_readRoad_184 (v := 1) (by decide) ?_
                refine g_iadd X dX8_readRoad_185 ?_
                refine Go.top (v := .int (nI (n123 + 1))) (congrArg Value.int (nI_add n123 1)) ?_
                refine i_iast X F I 114 rfl (fun _ => rfl) dX8_readRoad_186 (vp_in_nI (by omega) (by decide)) (by rw [nI_clamp (by omega)]; show okw (14 + (6 * n105)) (nI (n123 + 1)); exact ⟨fun h => by exfalso; omega, fun h => by exfalso; omega, fun h => by exfalso; omega, fun h => by exfalso; omega, fun h => by exfalso; omega, fun h => by exfalso; omega, fun _ _ _ => (rg_of (n := (n123 + 1)) (by omega) (by omega) (by omega)), fun a1 a2 a3 => by exfalso; omega, fun a1 a2 a3 a4 => by exfalso; omega, fun a1 a2 a3 => by exfalso; omega, fun a1 a2 => by exfalso; omega⟩) (fun M C F I K1 hC => ?_)
                have K := K.step K1 (by decide)
                have hm : C 100 12 = 0 → C0 100 12 = 0 := fun z => hm ((congrFun (K1 100 (by decide)).1 12).symm.trans z)
                have ham : (C0 100 8).toInt ≤ (C 100 8).toInt := by rw [(K1 100 (by decide)).1]; exact ham
                have hgd : C 100 12 = 0 := by rw [(K1 100 (by decide)).1]; exact hgd
                refine g_aload_n X dX8_readRoad_187 rfl (j := 4) rfl ?_
                refine i_get X F 100 rfl rfl fk_X8_31 dX8_readRoad_188 rfl ?_
                refine g_iconst X dX8_readRoad_191 (v := 5) (by decide) ?_
                refine g_dup2 X dX8_readRoad_192 rfl rfl ?_
                refine i_iald X F 114 rfl rfl dX8_readRoad_193 (vp_in_iff.mpr (by decide)) rfl ?_
                refine Go.gen (fun o124 => ?_)
                refine g_iconst X dX8_readRoad_194 (v := 1) (by decide) ?_
                refine g_iadd X dX8_readRoad_195 ?_
                refine Go.gen (fun o125 => ?_)
                refine i_iast X F I 114 rfl (fun _ => rfl) dX8_readRoad_196 (vp_in_iff.mpr (by decide)) (by show okw (5) (o125); exact ⟨fun h => by exfalso; omega, fun h => by exfalso; omega, fun h => by exfalso; omega, fun h => by exfalso; omega, fun h => by exfalso; omega, fun h => by exfalso; omega, fun a1 a2 a3 => by exfalso; omega, fun a1 a2 a3 => by exfalso; omega, fun a1 a2 a3 a4 => by exfalso; omega, fun a1 a2 a3 => by exfalso; omega, fun a1 a2 => by exfalso; omega⟩) (fun M C F I K1 hC => ?_)
                have K := K.step K1 (by decide)
                have hm : C 100 12 = 0 → C0 100 12 = 0 := fun z => hm ((congrFun (K1 100 (by decide)).1 12).symm.trans z)
                have ham : (C0 100 8).toInt ≤ (C 100 8).toInt := by rw [(K1 100 (by decide)).1]; exact ham
                have hgd : C 100 12 = 0 := by rw [(K1 100 (by decide)).1]; exact hgd
                exact g_vret X hrt dX8_readRoad_197 (by decide) (by decide) ⟨C, D, F, I, K, ham⟩
            · skip
              subst q118
              refine g_aload_n X dX8_readRoad_110 rfl (j := 4) rfl ?_
              obtain ⟨o126, eo126⟩ : ∃ z, C 100 11 = z := ⟨_, rfl⟩
              refine i_get X F 100 rfl rfl fk_X8_148 dX8_readRoad_111 (v := .int o126) (congrArg (fun z => some (Value.int z)) eo126) ?_
              refine g_iload_n X dX8_readRoad_114 rfl (j := 2) rfl ?_
              refine g_icmp_ne X dX8_readRoad_115 (tgt := 123) (by decide) (fun q127 => ?_) (fun q127 => ?_)
              · skip
                refine g_aload_n X dX8_readRoad_123 rfl (j := 4) rfl ?_
                refine g_callVI X (s_X8_readPost l G F I  ) lk_X8_205 (F.1 100 rfl).2 (F.1 100 rfl).1 rfl rfl dX8_readRoad_124 (Nat.le_of_ble_eq_true rfl) ⟨by decide, by decide⟩ ⟨by decide, by decide⟩ (fun r128 L M hp => ?_)
                obtain ⟨C, D, F, I, K1, hr⟩ := hp
                have K := K.step K1 (by decide)
                have en100 : C 114 (4) = nI n100 := by rw [(K1 114 (by decide)).1]; exact en100
                obtain ⟨hrat, hrp, ⟨n129, hn129, en129⟩⟩ := hr
                subst en129
                have hm : C 100 12 = 0 → C0 100 12 = 0 := fun z => hm (hrp z).1
                have hro : C 100 12 = 0 → (C 114 (14 + 6 * n105)).toInt ≤ 3 := fun z => by rw [(K1 114 (by decide)).1]; exact hro (hrp z).1
                have ham : (C0 100 8).toInt ≤ (C 100 8).toInt := Int.le_trans ham hrat
                refine g_istore X dX8_readRoad_127 (by decide) (lv2 := [(4, .int (nI n129)), (3, .int (nI (14 + (6 * n105)))), (2, .int (nI n105)), (1, .int 0), (0, .ref (a 100))]) rfl ?_
                refine g_goto X dX8_readRoad_129 (tgt := 152) (by decide) ?_
                refine g_aload_n X dX8_readRoad_152 rfl (j := 4) rfl ?_
                refine g_callVI X (s_X8_good l G F I  ) lk_X8_161 (F.1 100 rfl).2 (F.1 100 rfl).1 rfl rfl dX8_readRoad_153 (Nat.le_of_ble_eq_true rfl) ⟨by decide, by decide⟩ ⟨by decide, by decide⟩ (fun r130 L M hp => ?_)
                obtain ⟨C, D, F, I, K1, hr⟩ := hp
                have K := K.step K1 (by decide)
                have hm : C 100 12 = 0 → C0 100 12 = 0 := fun z => hm ((congrFun (K1 100 (by decide)).1 12).symm.trans z)
                have hro : C 100 12 = 0 → (C 114 (14 + 6 * n105)).toInt ≤ 3 := fun z => by rw [(K1 114 (by decide)).1]; exact hro ((congrFun (K1 100 (by decide)).1 12).symm.trans z)
                have en100 : C 114 (4) = nI n100 := by rw [(K1 114 (by decide)).1]; exact en100
                have ham : (C0 100 8).toInt ≤ (C 100 8).toInt := by rw [(K1 100 (by decide)).1]; exact ham
                rcases hr with ⟨rfl, hg131⟩ | ⟨rfl, hg131⟩
                · skip
                  have hgd := hg131
                  refine g_if_ne X dX8_readRoad_156 (tgt := 160) (by decide) (fun q => absurd (by decide) q) (fun _ => ?_)
                  exact g_vret X hrt dX8_readRoad_159 (by decide) (by decide) ⟨C, D, F, I, K, ham⟩
                · skip
                  have hgd := hg131
                  have hmy := hm hgd
                  have hroy := hro hgd
                  refine g_if_ne X dX8_readRoad_156 (tgt := 160) (by decide) (fun _ => ?_) (fun q => absurd q (by decide))
                  refine g_aload_n X dX8_readRoad_160 rfl (j := 4) rfl ?_
                  refine i_get X F 100 rfl rfl fk_X8_31 dX8_readRoad_161 rfl ?_
                  refine g_iload_n X dX8_readRoad_164 rfl (j := 1) rfl ?_
                  refine g_iconst X dX8_readRoad_165 (v := 1) (by decide) ?_
                  refine g_iadd X dX8_readRoad_166 ?_
                  refine Go.top (v := .int (nI ((14 + (6 * n105)) + 1))) (congrArg Value.int (nI_add (14 + (6 * n105)) 1)) ?_
                  refine g_aload_n X dX8_readRoad_167 rfl (j := 4) rfl ?_
                  refine i_get X F 100 rfl rfl fk_X8_31 dX8_readRoad_168 rfl ?_
                  refine g_iload_n X dX8_readRoad_171 rfl (j := 1) rfl ?_
                  obtain ⟨n132, hn132, en132⟩ := rg_nat ((show okw (14 + (6 * n105)) (C 114 (14 + (6 * n105))) from I 114 (14 + (6 * n105))).2.2.2.2.2.2.1 (by omega) (by omega) (by omega)) (by decide)
                  refine i_iald X F 114 rfl rfl dX8_readRoad_172 (vp_in_nI (by omega) (by decide)) (v := nI n132) (by rw [nI_clamp (by omega)]; exact en132) ?_
                  have hlen132 : n132 ≤ 3 := by have z := hroy; rw [en132, nI_toInt (by omega)] at z; omega
                  refine g_iadd X dX8_readRoad_173 ?_
                  refine Go.top (v := .int (nI (((14 + (6 * n105)) + 1) + n132))) (congrArg Value.int (nI_add ((14 + (6 * n105)) + 1) n132)) ?_
                  refine g_iload X dX8_readRoad_174 (j := 0) rfl ?_
                  refine i_iast X F I 114 rfl (fun _ => rfl) dX8_readRoad_176 (vp_in_nI (by omega) (by decide)) (by rw [nI_clamp (by omega)]; show okw (((14 + (6 * n105)) + 1) + n132) (nI n129); exact ⟨fun h => by exfalso; omega, fun h => by exfalso; omega, fun h => by exfalso; omega, fun h => by exfalso; omega, fun h => by exfalso; omega, fun h => by exfalso; omega, fun a1 a2 a3 => by exfalso; omega, fun a1 a2 a3 => by exfalso; omega, fun _ _ _ _ => (gl_of (n := n129) (by omega)), fun a1 a2 a3 => by exfalso; omega, fun a1 a2 => by exfalso; omega⟩) (fun M C F I K1 hC => ?_)
                  have K := K.step K1 (by decide)
                  have hm : C 100 12 = 0 → C0 100 12 = 0 := fun z => hm ((congrFun (K1 100 (by decide)).1 12).symm.trans z)
                  have ham : (C0 100 8).toInt ≤ (C 100 8).toInt := by rw [(K1 100 (by decide)).1]; exact ham
                  have hgd : C 100 12 = 0 := by rw [(K1 100 (by decide)).1]; exact hgd
                  have en132 : C 114 (14 + (6 * n105)) = nI n132 := by rw [hC, nI_clamp (by omega), pk_un (by omega)]; exact en132
                  refine g_aload_n X dX8_readRoad_177 rfl (j := 4) rfl ?_
                  refine i_get X F 100 rfl rfl fk_X8_31 dX8_readRoad_178 rfl ?_
                  refine g_iload_n X dX8_readRoad_181 rfl (j := 1) rfl ?_
                  refine g_dup2 X dX8_readRoad_182 rfl rfl ?_
                  refine i_iald X F 114 rfl rfl dX8_readRoad_183 (vp_in_nI (by omega) (by decide)) (v := nI n132) (by rw [nI_clamp (by omega)]; exact en132) ?_
                  refine g_iconst X dX8_readRoad_184 (v := 1) (by decide) ?_
                  refine g_iadd X dX8_readRoad_185 ?_
                  refine Go.top (v := .int (nI (n132 + 1))) (congrArg Value.int (nI_add n132 1)) ?_
                  refine i_iast X F I 114 rfl (fun _ => rfl) dX8_readRoad_186 (vp_in_nI (by omega) (by decide)) (by rw [nI_clamp (by omega)]; show okw (14 + (6 * n105)) (nI (n132 + 1)); exact ⟨fun h => by exfalso; omega, fun h => by exfalso; omega, fun h => by exfalso; omega, fun h => by exfalso; omega, fun h => by exfalso; omega, fun h => by exfalso; omega, fun _ _ _ => (rg_of (n := (n132 + 1)) (by omega) (by omega) (by omega)), fun a1 a2 a3 => by exfalso; omega, fun a1 a2 a3 a4 => by exfalso; omega, fun a1 a2 a3 => by exfalso; omega, fun a1 a2 => by exfalso; omega⟩) (fun M C F I K1 hC => ?_)
                  have K := K.step K1 (by decide)
                  have hm : C 100 12 = 0 → C0 100 12 = 0 := fun z => hm ((congrFun (K1 100 (by decide)).1 12).symm.trans z)
                  have ham : (C0 100 8).toInt ≤ (C 100 8).toInt := by rw [(K1 100 (by decide)).1]; exact ham
                  have hgd : C 100 12 = 0 := by rw [(K1 100 (by decide)).1]; exact hgd
                  refine g_aload_n X dX8_readRoad_187 rfl (j := 4) rfl ?_
                  refine i_get X F 100 rfl rfl fk_X8_31 dX8_readRoad_188 rfl ?_
                  refine g_iconst X dX8_readRoad_191 (v := 5) (by decide) ?_
                  refine g_dup2 X dX8_readRoad_192 rfl rfl ?_
                  refine i_iald X F 114 rfl rfl dX8_readRoad_193 (vp_in_iff.mpr (by decide)) rfl ?_
                  refine Go.gen (fun o133 => ?_)
                  refine g_iconst X dX8_readRoad_194 (v := 1) (by decide) ?_
                  refine g_iadd X dX8_readRoad_195 ?_
                  refine Go.gen (fun o134 => ?_)
                  refine i_iast X F I 114 rfl (fun _ => rfl) dX8_readRoad_196 (vp_in_iff.mpr (by decide)) (by show okw (5) (o134); exact ⟨fun h => by exfalso; omega, fun h => by exfalso; omega, fun h => by exfalso; omega, fun h => by exfalso; omega, fun h => by exfalso; omega, fun h => by exfalso; omega, fun a1 a2 a3 => by exfalso; omega, fun a1 a2 a3 => by exfalso; omega, fun a1 a2 a3 a4 => by exfalso; omega, fun a1 a2 a3 => by exfalso; omega, fun a1 a2 => by exfalso; omega⟩) (fun M C F I K1 hC => ?_)
                  have K := K.step K1 (by decide)
                  have hm : C 100 12 = 0 → C0 100 12 = 0 := fun z => hm ((congrFun (K1 100 (by decide)).1 12).symm.trans z)
                  have ham : (C0 100 8).toInt ≤ (C 100 8).toInt := by rw [(K1 100 (by decide)).1]; exact ham
                  have hgd : C 100 12 = 0 := by rw [(K1 100 (by decide)).1]; exact hgd
                  exact g_vret X hrt dX8_readRoad_197 (by decide) (by decide) ⟨C, D, F, I, K, ham⟩
              · skip
                refine g_aload_n X dX8_readRoad_118 rfl (j := 4) rfl ?_
                refine g_iconst X dX8_readRoad_119 (v := 2) (by decide) ?_
                refine g_callVV X (s_X8_errs l G F I (2 : Int32) (by decide)) lk_X8_183 (F.1 100 rfl).2 (F.1 100 rfl).1 rfl rfl dX8_readRoad_120 (Nat.le_of_ble_eq_true rfl) ⟨by decide, by decide⟩ ⟨by decide, by decide⟩ (fun L M hp => ?_)
                obtain ⟨C, D, F, I, K1, hr⟩ := hp
                have K := K.step K1 (by decide)
                have en100 : C 114 (4) = nI n100 := by rw [(K1 114 (by decide)).1]; exact en100
                obtain ⟨hr, hr8⟩ := hr
                have hm : C 100 12 = 0 → C0 100 12 = 0 := fun z => absurd z hr
                have hro : C 100 12 = 0 → (C 114 (14 + 6 * n105)).toInt ≤ 3 := fun z => by rw [(K1 114 (by decide)).1]; exact absurd z hr
                have hgd := hr
                have ham : (C0 100 8).toInt ≤ (C 100 8).toInt := Int.le_trans ham (by rw [hr8]; exact Int.le_refl _)
                refine g_aload_n X dX8_readRoad_123 rfl (j := 4) rfl ?_
                refine g_callVI X (s_X8_readPost l G F I  ) lk_X8_205 (F.1 100 rfl).2 (F.1 100 rfl).1 rfl rfl dX8_readRoad_124 (Nat.le_of_ble_eq_true rfl) ⟨by decide, by decide⟩ ⟨by decide, by decide⟩ (fun r135 L M hp => ?_)
                obtain ⟨C, D, F, I, K1, hr⟩ := hp
                have K := K.step K1 (by decide)
                have en100 : C 114 (4) = nI n100 := by rw [(K1 114 (by decide)).1]; exact en100
                obtain ⟨hrat, hrp, ⟨n136, hn136, en136⟩⟩ := hr
                subst en136
                have hm : C 100 12 = 0 → C0 100 12 = 0 := fun z => hm (hrp z).1
                have hro : C 100 12 = 0 → (C 114 (14 + 6 * n105)).toInt ≤ 3 := fun z => by rw [(K1 114 (by decide)).1]; exact hro (hrp z).1
                have ham : (C0 100 8).toInt ≤ (C 100 8).toInt := Int.le_trans ham hrat
                refine g_istore X dX8_readRoad_127 (by decide) (lv2 := [(4, .int (nI n136)), (3, .int (nI (14 + (6 * n105)))), (2, .int (nI n105)), (1, .int 0), (0, .ref (a 100))]) rfl ?_
                refine g_goto X dX8_readRoad_129 (tgt := 152) (by decide) ?_
                refine g_aload_n X dX8_readRoad_152 rfl (j := 4) rfl ?_
                refine g_callVI X (s_X8_good l G F I  ) lk_X8_161 (F.1 100 rfl).2 (F.1 100 rfl).1 rfl rfl dX8_readRoad_153 (Nat.le_of_ble_eq_true rfl) ⟨by decide, by decide⟩ ⟨by decide, by decide⟩ (fun r137 L M hp => ?_)
                obtain ⟨C, D, F, I, K1, hr⟩ := hp
                have K := K.step K1 (by decide)
                have hm : C 100 12 = 0 → C0 100 12 = 0 := fun z => hm ((congrFun (K1 100 (by decide)).1 12).symm.trans z)
                have hro : C 100 12 = 0 → (C 114 (14 + 6 * n105)).toInt ≤ 3 := fun z => by rw [(K1 114 (by decide)).1]; exact hro ((congrFun (K1 100 (by decide)).1 12).symm.trans z)
                have en100 : C 114 (4) = nI n100 := by rw [(K1 114 (by decide)).1]; exact en100
                have ham : (C0 100 8).toInt ≤ (C 100 8).toInt := by rw [(K1 100 (by decide)).1]; exact ham
                rcases hr with ⟨rfl, hg138⟩ | ⟨rfl, hg138⟩
                · skip
                  have hgd := hg138
                  refine g_if_ne X dX8_readRoad_156 (tgt := 160) (by decide) (fun q => absurd (by decide) q) (fun _ => ?_)
                  exact g_vret X hrt dX8_readRoad_159 (by decide) (by decide) ⟨C, D, F, I, K, ham⟩
                · skip
                  have hgd := hg138
                  have hmy := hm hgd
                  have hroy := hro hgd
                  refine g_if_ne X dX8_readRoad_156 (tgt := 160) (by decide) (fun _ => ?_) (fun q => absurd q (by decide))
                  refine g_aload_n X dX8_readRoad_160 rfl (j := 4) rfl ?_
                  refine i_get X F 100 rfl rfl fk_X8_31 dX8_readRoad_161 rfl ?_
                  refine g_iload_n X dX8_readRoad_164 rfl (j := 1) rfl ?_
                  refine g_iconst X dX8_readRoad_165 (v := 1) (by decide) ?_
                  refine g_iadd X dX8_readRoad_166 ?_
                  refine Go.top (v := .int (nI ((14 + (6 * n105)) + 1))) (congrArg Value.int (nI_add (14 + (6 * n105)) 1)) ?_
                  refine g_aload_n X dX8_readRoad_167 rfl (j := 4) rfl ?_
                  refine i_get X F 100 rfl rfl fk_X8_31 dX8_readRoad_168 rfl ?_
                  refine g_iload_n X dX8_readRoad_171 rfl (j := 1) rfl ?_
                  obtain ⟨n139, hn139, en139⟩ := rg_nat ((show okw (14 + (6 * n105)) (C 114 (14 + (6 * n105))) from I 114 (14 + (6 * n105))).2.2.2.2.2.2.1 (by omega) (by omega) (by omega)) (by decide)
                  refine i_iald X F 114 rfl rfl dX8_readRoad_172 (vp_in_nI (by omega) (by decide)) (v := nI n139) (by rw [nI_clamp (by omega)]; exact en139) ?_
                  have hlen139 : n139 ≤ 3 := by have z := hroy; rw [en139, nI_toInt (by omega)] at z; omega
                  refine g_iadd X dX8_readRoad_173 ?_
                  refine Go.top (v := .int (nI (((14 + (6 * n105)) + 1) + n139))) (congrArg Value.int (nI_add ((14 + (6 * n105)) + 1) n139)) ?_
                  refine g_iload X dX8_readRoad_174 (j := 0) rfl ?_
                  refine i_iast X F I 114 rfl (fun _ => rfl) dX8_readRoad_176 (vp_in_nI (by omega) (by decide)) (by rw [nI_clamp (by omega)]; show okw (((14 + (6 * n105)) + 1) + n139) (nI n136); exact ⟨fun h => by exfalso; omega, fun h => by exfalso; omega, fun h => by exfalso; omega, fun h => by exfalso; omega, fun h => by exfalso; omega, fun h => by exfalso; omega, fun a1 a2 a3 => by exfalso; omega, fun a1 a2 a3 => by exfalso; omega, fun _ _ _ _ => (gl_of (n := n136) (by omega)), fun a1 a2 a3 => by exfalso; omega, fun a1 a2 => by exfalso; omega⟩) (fun M C F I K1 hC => ?_)
                  have K := K.step K1 (by decide)
                  have hm : C 100 12 = 0 → C0 100 12 = 0 := fun z => hm ((congrFun (K1 100 (by decide)).1 12).symm.trans z)
                  have ham : (C0 100 8).toInt ≤ (C 100 8).toInt := by rw [(K1 100 (by decide)).1]; exact ham
                  have hgd : C 100 12 = 0 := by rw [(K1 100 (by decide)).1]; exact hgd
                  have en139 : C 114 (14 + (6 * n105)) = nI n139 := by rw [hC, nI_clamp (by omega), pk_un (by omega)]; exact en139
                  refine g_aload_n X dX8_readRoad_177 rfl (j := 4) rfl ?_
                  refine i_get X F 100 rfl rfl fk_X8_31 dX8_readRoad_178 rfl ?_
                  refine g_iload_n X dX8_readRoad_181 rfl (j := 1) rfl ?_
                  refine g_dup2 X dX8_readRoad_182 rfl rfl ?_
                  refine i_iald X F 114 rfl rfl dX8_readRoad_183 (vp_in_nI (by omega) (by decide)) (v := nI n139) (by rw [nI_clamp (by omega)]; exact en139) ?_
                  refine g_iconst X dX8_readRoad_184 (v := 1) (by decide) ?_
                  refine g_iadd X dX8_readRoad_185 ?_
                  refine Go.top (v := .int (nI (n139 + 1))) (congrArg Value.int (nI_add n139 1)) ?_
                  refine i_iast X F I 114 rfl (fun _ => rfl) dX8_readRoad_186 (vp_in_nI (by omega) (by decide)) (by rw [nI_clamp (by omega)]; show okw (14 + (6 * n105)) (nI (n139 + 1)); exact ⟨fun h => by exfalso; omega, fun h => by exfalso; omega, fun h => by exfalso; omega, fun h => by exfalso; omega, fun h => by exfalso; omega, fun h => by exfalso; omega, fun _ _ _ => (rg_of (n := (n139 + 1)) (by omega) (by omega) (by omega)), fun a1 a2 a3 => by exfalso; omega, fun a1 a2 a3 a4 => by exfalso; omega, fun a1 a2 a3 => by exfalso; omega, fun a1 a2 => by exfalso; omega⟩) (fun M C F I K1 hC => ?_)
                  have K := K.step K1 (by decide)
                  have hm : C 100 12 = 0 → C0 100 12 = 0 := fun z => hm ((congrFun (K1 100 (by decide)).1 12).symm.trans z)
                  have ham : (C0 100 8).toInt ≤ (C 100 8).toInt := by rw [(K1 100 (by decide)).1]; exact ham
                  have hgd : C 100 12 = 0 := by rw [(K1 100 (by decide)).1]; exact hgd
                  refine g_aload_n X dX8_readRoad_187 rfl (j := 4) rfl ?_
                  refine i_get X F 100 rfl rfl fk_X8_31 dX8_readRoad_188 rfl ?_
                  refine g_iconst X dX8_readRoad_191 (v := 5) (by decide) ?_
                  refine g_dup2 X dX8_readRoad_192 rfl rfl ?_
                  refine i_iald X F 114 rfl rfl dX8_readRoad_193 (vp_in_iff.mpr (by decide)) rfl ?_
                  refine Go.gen (fun o140 => ?_)
                  refine g_iconst X dX8_readRoad_194 (v := 1) (by decide) ?_
                  refine g_iadd X dX8_readRoad_195 ?_
                  refine Go.gen (fun o141 => ?_)
                  refine i_iast X F I 114 rfl (fun _ => rfl) dX8_readRoad_196 (vp_in_iff.mpr (by decide)) (by show okw (5) (o141); exact ⟨fun h => by exfalso; omega, fun h => by exfalso; omega, fun h => by exfalso; omega, fun h => by exfalso; omega, fun h => by exfalso; omega, fun h => by exfalso; omega, fun a1 a2 a3 => by exfalso; omega, fun a1 a2 a3 => by exfalso; omega, fun a1 a2 a3 a4 => by exfalso; omega, fun a1 a2 a3 => by exfalso; omega, fun a1 a2 => by exfalso; omega⟩) (fun M C F I K1 hC => ?_)
                  have K := K.step K1 (by decide)
                  have hm : C 100 12 = 0 → C0 100 12 = 0 := fun z => hm ((congrFun (K1 100 (by decide)).1 12).symm.trans z)
                  have ham : (C0 100 8).toInt ≤ (C 100 8).toInt := by rw [(K1 100 (by decide)).1]; exact ham
                  have hgd : C 100 12 = 0 := by rw [(K1 100 (by decide)).1]; exact hgd
                  exact g_vret X hrt dX8_readRoad_197 (by decide) (by decide) ⟨C, D, F, I, K, ham⟩
        · skip
          refine g_if_eq X dX8_readRoad_92 (tgt := 132) (by decide) (fun _ => ?_) (fun q => absurd (by decide) q)
          refine g_bipush X dX8_readRoad_132 (v := 10) (by decide) ?_
          refine g_aload_n X dX8_readRoad_134 rfl (j := 4) rfl ?_
          refine g_ldcS X (tx := "in") (i := 18) (by decide) dX8_readRoad_135 ?_
          refine g_iconst X dX8_readRoad_137 (v := 0) (by decide) ?_
          refine g_aload_n X dX8_readRoad_138 rfl (j := 4) rfl ?_
          refine i_get X F 100 rfl rfl fk_X8_31 dX8_readRoad_139 rfl ?_
          refine g_iconst X dX8_readRoad_142 (v := 3) (by decide) ?_
          obtain ⟨n142, hn142, en142⟩ := rg_nat ((show okw (3) (C 114 (3)) from I 114 (3)).2.2.1 rfl) (by decide)
          refine i_iald X F 114 rfl rfl dX8_readRoad_143 (vp_in_iff.mpr (by decide)) (v := nI n142) (by exact en142) ?_
          refine g_iconst X dX8_readRoad_144 (v := 1) (by decide) ?_
          refine g_isub X dX8_readRoad_145 ?_
          have hs143 := nI_m1 (n := n142) (by omega)
          refine g_callVI X (s_X8_toldBy l G F I 18 (by decide) (0 : Int32) ((nI n142 - 1)) ) lk_X8_197 (F.1 100 rfl).2 (F.1 100 rfl).1 rfl rfl dX8_readRoad_146 (Nat.le_of_ble_eq_true rfl) ⟨by decide, by decide⟩ ⟨by decide, by decide⟩ (fun r144 L M hp => ?_)
          obtain ⟨C, D, F, I, K1, hr⟩ := hp
          have K := K.step K1 (by decide)
          have en100 : C 114 (4) = nI n100 := by rw [(K1 114 (by decide)).1]; exact en100
          obtain ⟨hrat, hrm, hnum⟩ := hr
          have hm : C 100 12 = 0 → C0 100 12 = 0 := fun z => hm (hrm z)
          have hro : C 100 12 = 0 → (C 114 (14 + 6 * n105)).toInt ≤ 3 := fun z => by rw [(K1 114 (by decide)).1]; exact hro (hrm z)
          have ham : (C0 100 8).toInt ≤ (C 100 8).toInt := Int.le_trans ham hrat
          obtain ⟨n145, hn145, en145⟩ := num_nat (B := 3) (by decide) hnum (by omega)
          subst en145
          refine g_iadd X dX8_readRoad_149 ?_
          refine Go.top (v := .int (nI (10 + n145))) (congrArg Value.int (nI_add 10 n145)) ?_
          refine g_istore X dX8_readRoad_150 (by decide) (lv2 := [(4, .int (nI (10 + n145))), (3, .int (nI (14 + (6 * n105)))), (2, .int (nI n105)), (1, .int 0), (0, .ref (a 100))]) rfl ?_
          refine g_aload_n X dX8_readRoad_152 rfl (j := 4) rfl ?_
          refine g_callVI X (s_X8_good l G F I  ) lk_X8_161 (F.1 100 rfl).2 (F.1 100 rfl).1 rfl rfl dX8_readRoad_153 (Nat.le_of_ble_eq_true rfl) ⟨by decide, by decide⟩ ⟨by decide, by decide⟩ (fun r146 L M hp => ?_)
          obtain ⟨C, D, F, I, K1, hr⟩ := hp
          have K := K.step K1 (by decide)
          have hm : C 100 12 = 0 → C0 100 12 = 0 := fun z => hm ((congrFun (K1 100 (by decide)).1 12).symm.trans z)
          have hro : C 100 12 = 0 → (C 114 (14 + 6 * n105)).toInt ≤ 3 := fun z => by rw [(K1 114 (by decide)).1]; exact hro ((congrFun (K1 100 (by decide)).1 12).symm.trans z)
          have en100 : C 114 (4) = nI n100 := by rw [(K1 114 (by decide)).1]; exact en100
          have ham : (C0 100 8).toInt ≤ (C 100 8).toInt := by rw [(K1 100 (by decide)).1]; exact ham
          rcases hr with ⟨rfl, hg147⟩ | ⟨rfl, hg147⟩
          · skip
            have hgd := hg147
            refine g_if_ne X dX8_readRoad_156 (tgt := 160) (by decide) (fun q => absurd (by decide) q) (fun _ => ?_)
            exact g_vret X hrt dX8_readRoad_159 (by decide) (by decide) ⟨C, D, F, I, K, ham⟩
          · skip
            have hgd := hg147
            have hmy := hm hgd
            have hroy := hro hgd
            refine g_if_ne X dX8_readRoad_156 (tgt := 160) (by decide) (fun _ => ?_) (fun q => absurd q (by decide))
            refine g_aload_n X dX8_readRoad_160 rfl (j := 4) rfl ?_
            refine i_get X F 100 rfl rfl fk_X8_31 dX8_readRoad_161 rfl ?_
            refine g_iload_n X dX8_readRoad_164 rfl (j := 1) rfl ?_
            refine g_iconst X dX8_readRoad_165 (v := 1) (by decide) ?_
            refine g_iadd X dX8_readRoad_166 ?_
            refine Go.top (v := .int (nI ((14 + (6 * n105)) + 1))) (congrArg Value.int (nI_add (14 + (6 * n105)) 1)) ?_
            refine g_aload_n X dX8_readRoad_167 rfl (j := 4) rfl ?_
            refine i_get X F 100 rfl rfl fk_X8_31 dX8_readRoad_168 rfl ?_
            refine g_iload_n X dX8_readRoad_171 rfl (j := 1) rfl ?_
            obtain ⟨n148, hn148, en148⟩ := rg_nat ((show okw (14 + (6 * n105)) (C 114 (14 + (6 * n105))) from I 114 (14 + (6 * n105))).2.2.2.2.2.2.1 (by omega) (by omega) (by omega)) (by decide)
            refine i_iald X F 114 rfl rfl dX8_readRoad_172 (vp_in_nI (by omega) (by decide)) (v := nI n148) (by rw [nI_clamp (by omega)]; exact en148) ?_
            have hlen148 : n148 ≤ 3 := by have z := hroy; rw [en148, nI_toInt (by omega)] at z; omega
            refine g_iadd X dX8_readRoad_173 ?_
            refine Go.top (v := .int (nI (((14 + (6 * n105)) + 1) + n148))) (congrArg Value.int (nI_add ((14 + (6 * n105)) + 1) n148)) ?_
            refine g_iload X dX8_readRoad_174 (j := 0) rfl ?_
            refine i_iast X F I 114 rfl (fun _ => rfl) dX8_readRoad_176 (vp_in_nI (by omega) (by decide)) (by rw [nI_clamp (by omega)]; show okw (((14 + (6 * n105)) + 1) + n148) (nI (10 + n145)); exact ⟨fun h => by exfalso; omega, fun h => by exfalso; omega, fun h => by exfalso; omega, fun h => by exfalso; omega, fun h => by exfalso; omega, fun h => by exfalso; omega, fun a1 a2 a3 => by exfalso; omega, fun a1 a2 a3 => by exfalso; omega, fun _ _ _ _ => (gl_of (n := (10 + n145)) (by omega)), fun a1 a2 a3 => by exfalso; omega, fun a1 a2 => by exfalso; omega⟩) (fun M C F I K1 hC => ?_)
            have K := K.step K1 (by decide)
            have hm : C 100 12 = 0 → C0 100 12 = 0 := fun z => hm ((congrFun (K1 100 (by decide)).1 12).symm.trans z)
            have ham : (C0 100 8).toInt ≤ (C 100 8).toInt := by rw [(K1 100 (by decide)).1]; exact ham
            have hgd : C 100 12 = 0 := by rw [(K1 100 (by decide)).1]; exact hgd
            have en148 : C 114 (14 + (6 * n105)) = nI n148 := by rw [hC, nI_clamp (by omega), pk_un (by omega)]; exact en148
            refine g_aload_n X dX8_readRoad_177 rfl (j := 4) rfl ?_
            refine i_get X F 100 rfl rfl fk_X8_31 dX8_readRoad_178 rfl ?_
            refine g_iload_n X dX8_readRoad_181 rfl (j := 1) rfl ?_
            refine g_dup2 X dX8_readRoad_182 rfl rfl ?_
            refine i_iald X F 114 rfl rfl dX8_readRoad_183 (vp_in_nI (by omega) (by decide)) (v := nI n148) (by rw [nI_clamp (by omega)]; exact en148) ?_
            refine g_iconst X dX8_readRoad_184 (v := 1) (by decide) ?_
            refine g_iadd X dX8_readRoad_185 ?_
            refine Go.top (v := .int (nI (n148 + 1))) (congrArg Value.int (nI_add n148 1)) ?_
            refine i_iast X F I 114 rfl (fun _ => rfl) dX8_readRoad_186 (vp_in_nI (by omega) (by decide)) (by rw [nI_clamp (by omega)]; show okw (14 + (6 * n105)) (nI (n148 + 1)); exact ⟨fun h => by exfalso; omega, fun h => by exfalso; omega, fun h => by exfalso; omega, fun h => by exfalso; omega, fun h => by exfalso; omega, fun h => by exfalso; omega, fun _ _ _ => (rg_of (n := (n148 + 1)) (by omega) (by omega) (by omega)), fun a1 a2 a3 => by exfalso; omega, fun a1 a2 a3 a4 => by exfalso; omega, fun a1 a2 a3 => by exfalso; omega, fun a1 a2 => by exfalso; omega⟩) (fun M C F I K1 hC => ?_)
            have K := K.step K1 (by decide)
            have hm : C 100 12 = 0 → C0 100 12 = 0 := fun z => hm ((congrFun (K1 100 (by decide)).1 12).symm.trans z)
            have ham : (C0 100 8).toInt ≤ (C 100 8).toInt := by rw [(K1 100 (by decide)).1]; exact ham
            have hgd : C 100 12 = 0 := by rw [(K1 100 (by decide)).1]; exact hgd
            refine g_aload_n X dX8_readRoad_187 rfl (j := 4) rfl ?_
            refine i_get X F 100 rfl rfl fk_X8_31 dX8_readRoad_188 rfl ?_
            refine g_iconst X dX8_readRoad_191 (v := 5) (by decide) ?_
            refine g_dup2 X dX8_readRoad_192 rfl rfl ?_
            refine i_iald X F 114 rfl rfl dX8_readRoad_193 (vp_in_iff.mpr (by decide)) rfl ?_
            refine Go.gen (fun o149 => ?_)
            refine g_iconst X dX8_readRoad_194 (v := 1) (by decide) ?_
            refine g_iadd X dX8_readRoad_195 ?_
            refine Go.gen (fun o150 => ?_)
            refine i_iast X F I 114 rfl (fun _ => rfl) dX8_readRoad_196 (vp_in_iff.mpr (by decide)) (by show okw (5) (o150); exact ⟨fun h => by exfalso; omega, fun h => by exfalso; omega, fun h => by exfalso; omega, fun h => by exfalso; omega, fun h => by exfalso; omega, fun h => by exfalso; omega, fun a1 a2 a3 => by exfalso; omega, fun a1 a2 a3 => by exfalso; omega, fun a1 a2 a3 a4 => by exfalso; omega, fun a1 a2 a3 => by exfalso; omega, fun a1 a2 => by exfalso; omega⟩) (fun M C F I K1 hC => ?_)
            have K := K.step K1 (by decide)
            have hm : C 100 12 = 0 → C0 100 12 = 0 := fun z => hm ((congrFun (K1 100 (by decide)).1 12).symm.trans z)
            have ham : (C0 100 8).toInt ≤ (C 100 8).toInt := by rw [(K1 100 (by decide)).1]; exact ham
            have hgd : C 100 12 = 0 := by rw [(K1 100 (by decide)).1]; exact hgd
            exact g_vret X hrt dX8_readRoad_197 (by decide) (by decide) ⟨C, D, F, I, K, ham⟩
      · skip
        have hq103x := Jvm.Kit.i64_of_i32 o99
        have hq103l : (0 : Int64).toInt = 0 := (by decide)
        have hq103h := Jvm.Kit.i64_of_i32 ((nI n100 - 1))
        obtain ⟨n151, hn151a, hn151b, en151⟩ := nI_ofInt (x := o99) (lo := 0) (hi := 6) (by omega) (by omega) (by decide)
        subst en151
        have tn151 := nI_toInt (n := n151) (by omega)
        refine g_if_eq X dX8_readRoad_33 (tgt := 40) (by decide) (fun q => absurd q (by decide)) (fun _ => ?_)
        refine g_iconst X dX8_readRoad_36 (v := 1) (by decide) ?_
        refine g_goto X dX8_readRoad_37 (tgt := 41) (by decide) ?_
        refine g_istore_n X dX8_readRoad_41 rfl (by decide) (lv2 := [(1, .int 1), (0, .ref (a 100))]) rfl ?_
        refine g_iload_n X dX8_readRoad_42 rfl (j := 0) rfl ?_
        refine g_if_eq X dX8_readRoad_43 (tgt := 70) (by decide) (fun q => absurd q (by decide)) (fun _ => ?_)
        refine g_aload_n X dX8_readRoad_46 rfl (j := 1) rfl ?_
        refine i_get X F 100 rfl rfl fk_X8_31 dX8_readRoad_47 rfl ?_
        refine g_bipush X dX8_readRoad_50 (v := 14) (by decide) ?_
        refine g_bipush X dX8_readRoad_52 (v := 6) (by decide) ?_
        refine g_aload_n X dX8_readRoad_54 rfl (j := 1) rfl ?_
        refine i_get X F 100 rfl rfl fk_X8_148 dX8_readRoad_55 (v := .int (nI n151)) (congrArg (fun z => some (Value.int z)) eo99) ?_
        refine g_imul X dX8_readRoad_58 ?_
        refine Go.top (v := .int (nI (6 * n151))) (congrArg Value.int (pk_mul 6 n151)) ?_
        refine g_iadd X dX8_readRoad_59 ?_
        refine Go.top (v := .int (nI (14 + (6 * n151)))) (congrArg Value.int (nI_add 14 (6 * n151))) ?_
        obtain ⟨n152, hn152, en152⟩ := rg_nat ((show okw (14 + (6 * n151)) (C 114 (14 + (6 * n151))) from I 114 (14 + (6 * n151))).2.2.2.2.2.2.1 (by omega) (by omega) (by omega)) (by decide)
        refine i_iald X F 114 rfl rfl dX8_readRoad_60 (vp_in_nI (by omega) (by decide)) (v := nI n152) (by rw [nI_clamp (by omega)]; exact en152) ?_
        refine g_iconst X dX8_readRoad_61 (v := 4) (by decide) ?_
        refine g_icmp_ne X dX8_readRoad_62 (tgt := 70) (by decide) (fun q153 => ?_) (fun _ => ?_)
        · skip
          have q153 := nI_neI (a := n152) (b := 4) (by omega) (by omega) q153
          refine g_aload_n X dX8_readRoad_70 rfl (j := 1) rfl ?_
          refine g_callVI X (s_X8_readPost l G F I  ) lk_X8_205 (F.1 100 rfl).2 (F.1 100 rfl).1 rfl rfl dX8_readRoad_71 (Nat.le_of_ble_eq_true rfl) ⟨by decide, by decide⟩ ⟨by decide, by decide⟩ (fun r154 L M hp => ?_)
          obtain ⟨C, D, F, I, K1, hr⟩ := hp
          have K := K.step K1 (by decide)
          have en100 : C 114 (4) = nI n100 := by rw [(K1 114 (by decide)).1]; exact en100
          obtain ⟨hrat, hrp, ⟨n155, hn155, en155⟩⟩ := hr
          subst en155
          have hm : C 100 12 = 0 → C0 100 12 = 0 := fun z => hm (hrp z).1
          have ham : (C0 100 8).toInt ≤ (C 100 8).toInt := Int.le_trans ham hrat
          have hro : C 100 12 = 0 → (C 114 (14 + 6 * n155)).toInt ≤ 3 := fun z => by
            have g3 := (hrp z).2.2.1
            rw [eo99] at g3
            have g6 := (nI_eq (by omega) (by omega)).mp g3
            rw [(K1 114 (by decide)).1, g6, en152, nI_toInt (by omega)]; omega
          refine g_istore_n X dX8_readRoad_74 rfl (by decide) (lv2 := [(2, .int (nI n155)), (1, .int 1), (0, .ref (a 100))]) rfl ?_
          refine g_bipush X dX8_readRoad_75 (v := 14) (by decide) ?_
          refine g_bipush X dX8_readRoad_77 (v := 6) (by decide) ?_
          refine g_iload_n X dX8_readRoad_79 rfl (j := 0) rfl ?_
          refine g_imul X dX8_readRoad_80 ?_
          refine Go.top (v := .int (nI (6 * n155))) (congrArg Value.int (pk_mul 6 n155)) ?_
          refine g_iadd X dX8_readRoad_81 ?_
          refine Go.top (v := .int (nI (14 + (6 * n155)))) (congrArg Value.int (nI_add 14 (6 * n155))) ?_
          refine g_istore_n X dX8_readRoad_82 rfl (by decide) (lv2 := [(3, .int (nI (14 + (6 * n155)))), (2, .int (nI n155)), (1, .int 1), (0, .ref (a 100))]) rfl ?_
          refine g_iconst X dX8_readRoad_83 (v := 0) (by decide) ?_
          refine g_istore X dX8_readRoad_84 (by decide) (lv2 := [(4, .int 0), (3, .int (nI (14 + (6 * n155)))), (2, .int (nI n155)), (1, .int 1), (0, .ref (a 100))]) rfl ?_
          refine g_aload_n X dX8_readRoad_86 rfl (j := 4) rfl ?_
          refine g_ldcS X (tx := "to") (i := 17) (by decide) dX8_readRoad_87 ?_
          refine g_callVI X (s_X8_takes l G F I 17 (by decide) ) lk_X8_180 (F.1 100 rfl).2 (F.1 100 rfl).1 rfl rfl dX8_readRoad_89 (Nat.le_of_ble_eq_true rfl) ⟨by decide, by decide⟩ ⟨by decide, by decide⟩ (fun r156 L M hp => ?_)
          obtain ⟨C, D, F, I, K1, hr⟩ := hp
          have K := K.step K1 (by decide)
          have en100 : C 114 (4) = nI n100 := by rw [(K1 114 (by decide)).1]; exact en100
          obtain ⟨hrat, hrm, hr⟩ := hr
          have hm : C 100 12 = 0 → C0 100 12 = 0 := fun z => hm (hrm z)
          have hro : C 100 12 = 0 → (C 114 (14 + 6 * n155)).toInt ≤ 3 := fun z => by rw [(K1 114 (by decide)).1]; exact hro (hrm z)
          have ham : (C0 100 8).toInt ≤ (C 100 8).toInt := Int.le_trans ham hrat
          rcases hr with ⟨rfl, ht157⟩ | ⟨rfl, ht157, ht157E⟩
          · skip
            refine g_if_eq X dX8_readRoad_92 (tgt := 132) (by decide) (fun q => absurd q (by decide)) (fun _ => ?_)
            refine g_aload_n X dX8_readRoad_95 rfl (j := 4) rfl ?_
            refine g_callVI X (s_X8_good l G F I  ) lk_X8_161 (F.1 100 rfl).2 (F.1 100 rfl).1 rfl rfl dX8_readRoad_96 (Nat.le_of_ble_eq_true rfl) ⟨by decide, by decide⟩ ⟨by decide, by decide⟩ (fun r158 L M hp => ?_)
            obtain ⟨C, D, F, I, K1, hr⟩ := hp
            have K := K.step K1 (by decide)
            have hm : C 100 12 = 0 → C0 100 12 = 0 := fun z => hm ((congrFun (K1 100 (by decide)).1 12).symm.trans z)
            have hro : C 100 12 = 0 → (C 114 (14 + 6 * n155)).toInt ≤ 3 := fun z => by rw [(K1 114 (by decide)).1]; exact hro ((congrFun (K1 100 (by decide)).1 12).symm.trans z)
            have en100 : C 114 (4) = nI n100 := by rw [(K1 114 (by decide)).1]; exact en100
            have ham : (C0 100 8).toInt ≤ (C 100 8).toInt := by rw [(K1 100 (by decide)).1]; exact ham
            rcases hr with ⟨rfl, hg159⟩ | ⟨rfl, hg159⟩
            · skip
              have hgd := hg159
              refine g_if_eq X dX8_readRoad_99 (tgt := 123) (by decide) (fun _ => ?_) (fun q => absurd (by decide) q)
              refine g_aload_n X dX8_readRoad_123 rfl (j := 4) rfl ?_
              refine g_callVI X (s_X8_readPost l G F I  ) lk_X8_205 (F.1 100 rfl).2 (F.1 100 rfl).1 rfl rfl dX8_readRoad_124 (Nat.le_of_ble_eq_true rfl) ⟨by decide, by decide⟩ ⟨by decide, by decide⟩ (fun r160 L M hp => ?_)
              obtain ⟨C, D, F, I, K1, hr⟩ := hp
              have K := K.step K1 (by decide)
              have en100 : C 114 (4) = nI n100 := by rw [(K1 114 (by decide)).1]; exact en100
              obtain ⟨hrat, hrp, ⟨n161, hn161, en161⟩⟩ := hr
              subst en161
              have hm : C 100 12 = 0 → C0 100 12 = 0 := fun z => hm (hrp z).1
              have hro : C 100 12 = 0 → (C 114 (14 + 6 * n155)).toInt ≤ 3 := fun z => by rw [(K1 114 (by decide)).1]; exact hro (hrp z).1
              have ham : (C0 100 8).toInt ≤ (C 100 8).toInt := Int.le_trans ham hrat
              refine g_istore X dX8_readRoad_127 (by decide) (lv2 := [(4, .int (nI n161)), (3, .int (nI (14 + (6 * n155)))), (2, .int (nI n155)), (1, .int 1), (0, .ref (a 100))]) rfl ?_
              refine g_goto X dX8_readRoad_129 (tgt := 152) (by decide) ?_
              refine g_aload_n X dX8_readRoad_152 rfl (j := 4) rfl ?_
              refine g_callVI X (s_X8_good l G F I  ) lk_X8_161 (F.1 100 rfl).2 (F.1 100 rfl).1 rfl rfl dX8_readRoad_153 (Nat.le_of_ble_eq_true rfl) ⟨by decide, by decide⟩ ⟨by decide, by decide⟩ (fun r162 L M hp => ?_)
              obtain ⟨C, D, F, I, K1, hr⟩ := hp
              have K := K.step K1 (by decide)
              have hm : C 100 12 = 0 → C0 100 12 = 0 := fun z => hm ((congrFun (K1 100 (by decide)).1 12).symm.trans z)
              have hro : C 100 12 = 0 → (C 114 (14 + 6 * n155)).toInt ≤ 3 := fun z => by rw [(K1 114 (by decide)).1]; exact hro ((congrFun (K1 100 (by decide)).1 12).symm.trans z)
              have en100 : C 114 (4) = nI n100 := by rw [(K1 114 (by decide)).1]; exact en100
              have ham : (C0 100 8).toInt ≤ (C 100 8).toInt := by rw [(K1 100 (by decide)).1]; exact ham
              rcases hr with ⟨rfl, hg163⟩ | ⟨rfl, hg163⟩
              · skip
                have hgd := hg163
                refine g_if_ne X dX8_readRoad_156 (tgt := 160) (by decide) (fun q => absurd (by decide) q) (fun _ => ?_)
                exact g_vret X hrt dX8_readRoad_159 (by decide) (by decide) ⟨C, D, F, I, K, ham⟩
              · skip
                have hgd := hg163
                have hmy := hm hgd
                have hroy := hro hgd
                refine g_if_ne X dX8_readRoad_156 (tgt := 160) (by decide) (fun _ => ?_) (fun q => absurd q (by decide))
                refine g_aload_n X dX8_readRoad_160 rfl (j := 4) rfl ?_
                refine i_get X F 100 rfl rfl fk_X8_31 dX8_readRoad_161 rfl ?_
                refine g_iload_n X dX8_readRoad_164 rfl (j := 1) rfl ?_
                refine g_iconst X dX8_readRoad_165 (v := 1) (by decide) ?_
                refine g_iadd X dX8_readRoad_166 ?_
                refine Go.top (v := .int (nI ((14 + (6 * n155)) + 1))) (congrArg Value.int (nI_add (14 + (6 * n155)) 1)) ?_
                refine g_aload_n X dX8_readRoad_167 rfl (j := 4) rfl ?_
                refine i_get X F 100 rfl rfl fk_X8_31 dX8_readRoad_168 rfl ?_
                refine g_iload_n X dX8_readRoad_171 rfl (j := 1) rfl ?_
                obtain ⟨n164, hn164, en164⟩ := rg_nat ((show okw (14 + (6 * n155)) (C 114 (14 + (6 * n155))) from I 114 (14 + (6 * n155))).2.2.2.2.2.2.1 (by omega) (by omega) (by omega)) (by decide)
                refine i_iald X F 114 rfl rfl dX8_readRoad_172 (vp_in_nI (by omega) (by decide)) (v := nI n164) (by rw [nI_clamp (by omega)]; exact en164) ?_
                have hlen164 : n164 ≤ 3 := by have z := hroy; rw [en164, nI_toInt (by omega)] at z; omega
                refine g_iadd X dX8_readRoad_173 ?_
                refine Go.top (v := .int (nI (((14 + (6 * n155)) + 1) + n164))) (congrArg Value.int (nI_add ((14 + (6 * n155)) + 1) n164)) ?_
                refine g_iload X dX8_readRoad_174 (j := 0) rfl ?_
                refine i_iast X F I 114 rfl (fun _ => rfl) dX8_readRoad_176 (vp_in_nI (by omega) (by decide)) (by rw [nI_clamp (by omega)]; show okw (((14 + (6 * n155)) + 1) + n164) (nI n161); exact ⟨fun h => by exfalso; omega, fun h => by exfalso; omega, fun h => by exfalso; omega, fun h => by exfalso; omega, fun h => by exfalso; omega, fun h => by exfalso; omega, fun a1 a2 a3 => by exfalso; omega, fun a1 a2 a3 => by exfalso; omega, fun _ _ _ _ => (gl_of (n := n161) (by omega)), fun a1 a2 a3 => by exfalso; omega, fun a1 a2 => by exfalso; omega⟩) (fun M C F I K1 hC => ?_)
                have K := K.step K1 (by decide)
                have hm : C 100 12 = 0 → C0 100 12 = 0 := fun z => hm ((congrFun (K1 100 (by decide)).1 12).symm.trans z)
                have ham : (C0 100 8).toInt ≤ (C 100 8).toInt := by rw [(K1 100 (by decide)).1]; exact ham
                have hgd : C 100 12 = 0 := by rw [(K1 100 (by decide)).1]; exact hgd
                have en164 : C 114 (14 + (6 * n155)) = nI n164 := by rw [hC, nI_clamp (by omega), pk_un (by omega)]; exact en164
                refine g_aload_n X dX8_readRoad_177 rfl (j := 4) rfl ?_
                refine i_get X F 100 rfl rfl fk_X8_31 dX8_readRoad_178 rfl ?_
                refine g_iload_n X dX8_readRoad_181 rfl (j := 1) rfl ?_
                refine g_dup2 X dX8_readRoad_182 rfl rfl ?_
                refine i_iald X F 114 rfl rfl dX8_readRoad_183 (vp_in_nI (by omega) (by decide)) (v := nI n164) (by rw [nI_clamp (by omega)]; exact en164) ?_
                refine g_iconst X dX8_readRoad_184 (v := 1) (by decide) ?_
                refine g_iadd X dX8_readRoad_185 ?_
                refine Go.top (v := .int (nI (n164 + 1))) (congrArg Value.int (nI_add n164 1)) ?_
                refine i_iast X F I 114 rfl (fun _ => rfl) dX8_readRoad_186 (vp_in_nI (by omega) (by decide)) (by rw [nI_clamp (by omega)]; show okw (14 + (6 * n155)) (nI (n164 + 1)); exact ⟨fun h => by exfalso; omega, fun h => by exfalso; omega, fun h => by exfalso; omega, fun h => by exfalso; omega, fun h => by exfalso; omega, fun h => by exfalso; omega, fun _ _ _ => (rg_of (n := (n164 + 1)) (by omega) (by omega) (by omega)), fun a1 a2 a3 => by exfalso; omega, fun a1 a2 a3 a4 => by exfalso; omega, fun a1 a2 a3 => by exfalso; omega, fun a1 a2 => by exfalso; omega⟩) (fun M C F I K1 hC => ?_)
                have K := K.step K1 (by decide)
                have hm : C 100 12 = 0 → C0 100 12 = 0 := fun z => hm ((congrFun (K1 100 (by decide)).1 12).symm.trans z)
                have ham : (C0 100 8).toInt ≤ (C 100 8).toInt := by rw [(K1 100 (by decide)).1]; exact ham
                have hgd : C 100 12 = 0 := by rw [(K1 100 (by decide)).1]; exact hgd
                refine g_aload_n X dX8_readRoad_187 rfl (j := 4) rfl ?_
                refine i_get X F 100 rfl rfl fk_X8_31 dX8_readRoad_188 rfl ?_
                refine g_iconst X dX8_readRoad_191 (v := 5) (by decide) ?_
                refine g_dup2 X dX8_readRoad_192 rfl rfl ?_
                refine i_iald X F 114 rfl rfl dX8_readRoad_193 (vp_in_iff.mpr (by decide)) rfl ?_
                refine Go.gen (fun o165 => ?_)
                refine g_iconst X dX8_readRoad_194 (v := 1) (by decide) ?_
                refine g_iadd X dX8_readRoad_195 ?_
                refine Go.gen (fun o166 => ?_)
                refine i_iast X F I 114 rfl (fun _ => rfl) dX8_readRoad_196 (vp_in_iff.mpr (by decide)) (by show okw (5) (o166); exact ⟨fun h => by exfalso; omega, fun h => by exfalso; omega, fun h => by exfalso; omega, fun h => by exfalso; omega, fun h => by exfalso; omega, fun h => by exfalso; omega, fun a1 a2 a3 => by exfalso; omega, fun a1 a2 a3 => by exfalso; omega, fun a1 a2 a3 a4 => by exfalso; omega, fun a1 a2 a3 => by exfalso; omega, fun a1 a2 => by exfalso; omega⟩) (fun M C F I K1 hC => ?_)
                have K := K.step K1 (by decide)
                have hm : C 100 12 = 0 → C0 100 12 = 0 := fun z => hm ((congrFun (K1 100 (by decide)).1 12).symm.trans z)
                have ham : (C0 100 8).toInt ≤ (C 100 8).toInt := by rw [(K1 100 (by decide)).1]; exact ham
                have hgd : C 100 12 = 0 := by rw [(K1 100 (by decide)).1]; exact hgd
                exact g_vret X hrt dX8_readRoad_197 (by decide) (by decide) ⟨C, D, F, I, K, ham⟩
            · skip
              have hgd := hg159
              have hmy := hm hgd
              have hroy := hro hgd
              refine g_if_eq X dX8_readRoad_99 (tgt := 123) (by decide) (fun q => absurd q (by decide)) (fun _ => ?_)
              refine g_aload_n X dX8_readRoad_102 rfl (j := 4) rfl ?_
              obtain ⟨o167, eo167⟩ : ∃ z, C 100 10 = z := ⟨_, rfl⟩
              refine i_get X F 100 rfl rfl fk_X8_137 dX8_readRoad_103 (v := .int o167) (congrArg (fun z => some (Value.int z)) eo167) ?_
              refine g_iconst X dX8_readRoad_106 (v := 2) (by decide) ?_
              refine g_icmp_ne X dX8_readRoad_107 (tgt := 123) (by decide) (fun q168 => ?_) (fun q168 => ?_)
              · skip
                refine g_aload_n X dX8_readRoad_123 rfl (j := 4) rfl ?_
                refine g_callVI X (s_X8_readPost l G F I  ) lk_X8_205 (F.1 100 rfl).2 (F.1 100 rfl).1 rfl rfl dX8_readRoad_124 (Nat.le_of_ble_eq_true rfl) ⟨by decide, by decide⟩ ⟨by decide, by decide⟩ (fun r169 L M hp => ?_)
                obtain ⟨C, D, F, I, K1, hr⟩ := hp
                have K := K.step K1 (by decide)
                have en100 : C 114 (4) = nI n100 := by rw [(K1 114 (by decide)).1]; exact en100
                obtain ⟨hrat, hrp, ⟨n170, hn170, en170⟩⟩ := hr
                subst en170
                have hm : C 100 12 = 0 → C0 100 12 = 0 := fun z => hm (hrp z).1
                have hro : C 100 12 = 0 → (C 114 (14 + 6 * n155)).toInt ≤ 3 := fun z => by rw [(K1 114 (by decide)).1]; exact hro (hrp z).1
                have ham : (C0 100 8).toInt ≤ (C 100 8).toInt := Int.le_trans ham hrat
                refine g_istore X dX8_readRoad_127 (by decide) (lv2 := [(4, .int (nI n170)), (3, .int (nI (14 + (6 * n155)))), (2, .int (nI n155)), (1, .int 1), (0, .ref (a 100))]) rfl ?_
                refine g_goto X dX8_readRoad_129 (tgt := 152) (by decide) ?_
                refine g_aload_n X dX8_readRoad_152 rfl (j := 4) rfl ?_
                refine g_callVI X (s_X8_good l G F I  ) lk_X8_161 (F.1 100 rfl).2 (F.1 100 rfl).1 rfl rfl dX8_readRoad_153 (Nat.le_of_ble_eq_true rfl) ⟨by decide, by decide⟩ ⟨by decide, by decide⟩ (fun r171 L M hp => ?_)
                obtain ⟨C, D, F, I, K1, hr⟩ := hp
                have K := K.step K1 (by decide)
                have hm : C 100 12 = 0 → C0 100 12 = 0 := fun z => hm ((congrFun (K1 100 (by decide)).1 12).symm.trans z)
                have hro : C 100 12 = 0 → (C 114 (14 + 6 * n155)).toInt ≤ 3 := fun z => by rw [(K1 114 (by decide)).1]; exact hro ((congrFun (K1 100 (by decide)).1 12).symm.trans z)
                have en100 : C 114 (4) = nI n100 := by rw [(K1 114 (by decide)).1]; exact en100
                have ham : (C0 100 8).toInt ≤ (C 100 8).toInt := by rw [(K1 100 (by decide)).1]; exact ham
                rcases hr with ⟨rfl, hg172⟩ | ⟨rfl, hg172⟩
                · skip
                  have hgd := hg172
                  refine g_if_ne X dX8_readRoad_156 (tgt := 160) (by decide) (fun q => absurd (by decide) q) (fun _ => ?_)
                  exact g_vret X hrt dX8_readRoad_159 (by decide) (by decide) ⟨C, D, F, I, K, ham⟩
                · skip
                  have hgd := hg172
                  have hmy := hm hgd
                  have hroy := hro hgd
                  refine g_if_ne X dX8_readRoad_156 (tgt := 160) (by decide) (fun _ => ?_) (fun q => absurd q (by decide))
                  refine g_aload_n X dX8_readRoad_160 rfl (j := 4) rfl ?_
                  refine i_get X F 100 rfl rfl fk_X8_31 dX8_readRoad_161 rfl ?_
                  refine g_iload_n X dX8_readRoad_164 rfl (j := 1) rfl ?_
                  refine g_iconst X dX8_readRoad_165 (v := 1) (by decide) ?_
                  refine g_iadd X dX8_readRoad_166 ?_
                  refine Go.top (v := .int (nI ((14 + (6 * n155)) + 1))) (congrArg Value.int (nI_add (14 + (6 * n155)) 1)) ?_
                  refine g_aload_n X dX8_readRoad_167 rfl (j := 4) rfl ?_
                  refine i_get X F 100 rfl rfl fk_X8_31 dX8_readRoad_168 rfl ?_
                  refine g_iload_n X dX8_readRoad_171 rfl (j := 1) rfl ?_
                  obtain ⟨n173, hn173, en173⟩ := rg_nat ((show okw (14 + (6 * n155)) (C 114 (14 + (6 * n155))) from I 114 (14 + (6 * n155))).2.2.2.2.2.2.1 (by omega) (by omega) (by omega)) (by decide)
                  refine i_iald X F 114 rfl rfl dX8_readRoad_172 (vp_in_nI (by omega) (by decide)) (v := nI n173) (by rw [nI_clamp (by omega)]; exact en173) ?_
                  have hlen173 : n173 ≤ 3 := by have z := hroy; rw [en173, nI_toInt (by omega)] at z; omega
                  refine g_iadd X dX8_readRoad_173 ?_
                  refine Go.top (v := .int (nI (((14 + (6 * n155)) + 1) + n173))) (congrArg Value.int (nI_add ((14 + (6 * n155)) + 1) n173)) ?_
                  refine g_iload X dX8_readRoad_174 (j := 0) rfl ?_
                  refine i_iast X F I 114 rfl (fun _ => rfl) dX8_readRoad_176 (vp_in_nI (by omega) (by decide)) (by rw [nI_clamp (by omega)]; show okw (((14 + (6 * n155)) + 1) + n173) (nI n170); exact ⟨fun h => by exfalso; omega, fun h => by exfalso; omega, fun h => by exfalso; omega, fun h => by exfalso; omega, fun h => by exfalso; omega, fun h => by exfalso; omega, fun a1 a2 a3 => by exfalso; omega, fun a1 a2 a3 => by exfalso; omega, fun _ _ _ _ => (gl_of (n := n170) (by omega)), fun a1 a2 a3 => by exfalso; omega, fun a1 a2 => by exfalso; omega⟩) (fun M C F I K1 hC => ?_)
                  have K := K.step K1 (by decide)
                  have hm : C 100 12 = 0 → C0 100 12 = 0 := fun z => hm ((congrFun (K1 100 (by decide)).1 12).symm.trans z)
                  have ham : (C0 100 8).toInt ≤ (C 100 8).toInt := by rw [(K1 100 (by decide)).1]; exact ham
                  have hgd : C 100 12 = 0 := by rw [(K1 100 (by decide)).1]; exact hgd
                  have en173 : C 114 (14 + (6 * n155)) = nI n173 := by rw [hC, nI_clamp (by omega), pk_un (by omega)]; exact en173
                  refine g_aload_n X dX8_readRoad_177 rfl (j := 4) rfl ?_
                  refine i_get X F 100 rfl rfl fk_X8_31 dX8_readRoad_178 rfl ?_
                  refine g_iload_n X dX8_readRoad_181 rfl (j := 1) rfl ?_
                  refine g_dup2 X dX8_readRoad_182 rfl rfl ?_
                  refine i_iald X F 114 rfl rfl dX8_readRoad_183 (vp_in_nI (by omega) (by decide)) (v := nI n173) (by rw [nI_clamp (by omega)]; exact en173) ?_
                  refine g_iconst X dX8_readRoad_184 (v := 1) (by decide) ?_
                  refine g_iadd X dX8_readRoad_185 ?_
                  refine Go.top (v := .int (nI (n173 + 1))) (congrArg Value.int (nI_add n173 1)) ?_
                  refine i_iast X F I 114 rfl (fun _ => rfl) dX8_readRoad_186 (vp_in_nI (by omega) (by decide)) (by rw [nI_clamp (by omega)]; show okw (14 + (6 * n155)) (nI (n173 + 1)); exact ⟨fun h => by exfalso; omega, fun h => by exfalso; omega, fun h => by exfalso; omega, fun h => by exfalso; omega, fun h => by exfalso; omega, fun h => by exfalso; omega, fun _ _ _ => (rg_of (n := (n173 + 1)) (by omega) (by omega) (by omega)), fun a1 a2 a3 => by exfalso; omega, fun a1 a2 a3 a4 => by exfalso; omega, fun a1 a2 a3 => by exfalso; omega, fun a1 a2 => by exfalso; omega⟩) (fun M C F I K1 hC => ?_)
                  have K := K.step K1 (by decide)
                  have hm : C 100 12 = 0 → C0 100 12 = 0 := fun z => hm ((congrFun (K1 100 (by decide)).1 12).symm.trans z)
                  have ham : (C0 100 8).toInt ≤ (C 100 8).toInt := by rw [(K1 100 (by decide)).1]; exact ham
                  have hgd : C 100 12 = 0 := by rw [(K1 100 (by decide)).1]; exact hgd
                  refine g_aload_n X dX8_readRoad_187 rfl (j := 4) rfl ?_
                  refine i_get X F 100 rfl rfl fk_X8_31 dX8_readRoad_188 rfl ?_
                  refine g_iconst X dX8_readRoad_191 (v := 5) (by decide) ?_
                  refine g_dup2 X dX8_readRoad_192 rfl rfl ?_
                  refine i_iald X F 114 rfl rfl dX8_readRoad_193 (vp_in_iff.mpr (by decide)) rfl ?_
                  refine Go.gen (fun o174 => ?_)
                  refine g_iconst X dX8_readRoad_194 (v := 1) (by decide) ?_
                  refine g_iadd X dX8_readRoad_195 ?_
                  refine Go.gen (fun o175 => ?_)
                  refine i_iast X F I 114 rfl (fun _ => rfl) dX8_readRoad_196 (vp_in_iff.mpr (by decide)) (by show okw (5) (o175); exact ⟨fun h => by exfalso; omega, fun h => by exfalso; omega, fun h => by exfalso; omega, fun h => by exfalso; omega, fun h => by exfalso; omega, fun h => by exfalso; omega, fun a1 a2 a3 => by exfalso; omega, fun a1 a2 a3 => by exfalso; omega, fun a1 a2 a3 a4 => by exfalso; omega, fun a1 a2 a3 => by exfalso; omega, fun a1 a2 => by exfalso; omega⟩) (fun M C F I K1 hC => ?_)
                  have K := K.step K1 (by decide)
                  have hm : C 100 12 = 0 → C0 100 12 = 0 := fun z => hm ((congrFun (K1 100 (by decide)).1 12).symm.trans z)
                  have ham : (C0 100 8).toInt ≤ (C 100 8).toInt := by rw [(K1 100 (by decide)).1]; exact ham
                  have hgd : C 100 12 = 0 := by rw [(K1 100 (by decide)).1]; exact hgd
                  exact g_vret X hrt dX8_readRoad_197 (by decide) (by decide) ⟨C, D, F, I, K, ham⟩
              · skip
                subst q168
                refine g_aload_n X dX8_readRoad_110 rfl (j := 4) rfl ?_
                obtain ⟨o176, eo176⟩ : ∃ z, C 100 11 = z := ⟨_, rfl⟩
                refine i_get X F 100 rfl rfl fk_X8_148 dX8_readRoad_111 (v := .int o176) (congrArg (fun z => some (Value.int z)) eo176) ?_
                refine g_iload_n X dX8_readRoad_114 rfl (j := 2) rfl ?_
                refine g_icmp_ne X dX8_readRoad_115 (tgt := 123) (by decide) (fun q177 => ?_) (fun q177 => ?_)
                · skip
                  refine g_aload_n X dX8_readRoad_123 rfl (j := 4) rfl ?_
                  refine g_callVI X (s_X8_readPost l G F I  ) lk_X8_205 (F.1 100 rfl).2 (F.1 100 rfl).1 rfl rfl dX8_readRoad_124 (Nat.le_of_ble_eq_true rfl) ⟨by decide, by decide⟩ ⟨by decide, by decide⟩ (fun r178 L M hp => ?_)
                  obtain ⟨C, D, F, I, K1, hr⟩ := hp
                  have K := K.step K1 (by decide)
                  have en100 : C 114 (4) = nI n100 := by rw [(K1 114 (by decide)).1]; exact en100
                  obtain ⟨hrat, hrp, ⟨n179, hn179, en179⟩⟩ := hr
                  subst en179
                  have hm : C 100 12 = 0 → C0 100 12 = 0 := fun z => hm (hrp z).1
                  have hro : C 100 12 = 0 → (C 114 (14 + 6 * n155)).toInt ≤ 3 := fun z => by rw [(K1 114 (by decide)).1]; exact hro (hrp z).1
                  have ham : (C0 100 8).toInt ≤ (C 100 8).toInt := Int.le_trans ham hrat
                  refine g_istore X dX8_readRoad_127 (by decide) (lv2 := [(4, .int (nI n179)), (3, .int (nI (14 + (6 * n155)))), (2, .int (nI n155)), (1, .int 1), (0, .ref (a 100))]) rfl ?_
                  refine g_goto X dX8_readRoad_129 (tgt := 152) (by decide) ?_
                  refine g_aload_n X dX8_readRoad_152 rfl (j := 4) rfl ?_
                  refine g_callVI X (s_X8_good l G F I  ) lk_X8_161 (F.1 100 rfl).2 (F.1 100 rfl).1 rfl rfl dX8_readRoad_153 (Nat.le_of_ble_eq_true rfl) ⟨by decide, by decide⟩ ⟨by decide, by decide⟩ (fun r180 L M hp => ?_)
                  obtain ⟨C, D, F, I, K1, hr⟩ := hp
                  have K := K.step K1 (by decide)
                  have hm : C 100 12 = 0 → C0 100 12 = 0 := fun z => hm ((congrFun (K1 100 (by decide)).1 12).symm.trans z)
                  have hro : C 100 12 = 0 → (C 114 (14 + 6 * n155)).toInt ≤ 3 := fun z => by rw [(K1 114 (by decide)).1]; exact hro ((congrFun (K1 100 (by decide)).1 12).symm.trans z)
                  have en100 : C 114 (4) = nI n100 := by rw [(K1 114 (by decide)).1]; exact en100
                  have ham : (C0 100 8).toInt ≤ (C 100 8).toInt := by rw [(K1 100 (by decide)).1]; exact ham
                  rcases hr with ⟨rfl, hg181⟩ | ⟨rfl, hg181⟩
                  · skip
                    have hgd := hg181
                    refine g_if_ne X dX8_readRoad_156 (tgt := 160) (by decide) (fun q => absurd (by decide) q) (fun _ => ?_)
                    exact g_vret X hrt dX8_readRoad_159 (by decide) (by decide) ⟨C, D, F, I, K, ham⟩
                  · skip
                    have hgd := hg181
                    have hmy := hm hgd
                    have hroy := hro hgd
                    refine g_if_ne X dX8_readRoad_156 (tgt := 160) (by decide) (fun _ => ?_) (fun q => absurd q (by decide))
                    refine g_aload_n X dX8_readRoad_160 rfl (j := 4) rfl ?_
                    refine i_get X F 100 rfl rfl fk_X8_31 dX8_readRoad_161 rfl ?_
                    refine g_iload_n X dX8_readRoad_164 rfl (j := 1) rfl ?_
                    refine g_iconst X dX8_readRoad_165 (v := 1) (by decide) ?_
                    refine g_iadd X dX8_readRoad_166 ?_
                    refine Go.top (v := .int (nI ((14 + (6 * n155)) + 1))) (congrArg Value.int (nI_add (14 + (6 * n155)) 1)) ?_
                    refine g_aload_n X dX8_readRoad_167 rfl (j := 4) rfl ?_
                    refine i_get X F 100 rfl rfl fk_X8_31 dX8_readRoad_168 rfl ?_
                    refine g_iload_n X dX8_readRoad_171 rfl (j := 1) rfl ?_
                    obtain ⟨n182, hn182, en182⟩ := rg_nat ((show okw (14 + (6 * n155)) (C 114 (14 + (6 * n155))) from I 114 (14 + (6 * n155))).2.2.2.2.2.2.1 (by omega) (by omega) (by omega)) (by decide)
                    refine i_iald X F 114 rfl rfl dX8_readRoad_172 (vp_in_nI (by omega) (by decide)) (v := nI n182) (by rw [nI_clamp (by omega)]; exact en182) ?_
                    have hlen182 : n182 ≤ 3 := by have z := hroy; rw [en182, nI_toInt (by omega)] at z; omega
                    refine g_iadd X dX8_readRoad_173 ?_
                    refine Go.top (v := .int (nI (((14 + (6 * n155)) + 1) + n182))) (congrArg Value.int (nI_add ((14 + (6 * n155)) + 1) n182)) ?_
                    refine g_iload X dX8_readRoad_174 (j := 0) rfl ?_
                    refine i_iast X F I 114 rfl (fun _ => rfl) dX8_readRoad_176 (vp_in_nI (by omega) (by decide)) (by rw [nI_clamp (by omega)]; show okw (((14 + (6 * n155)) + 1) + n182) (nI n179); exact ⟨fun h => by exfalso; omega, fun h => by exfalso; omega, fun h => by exfalso; omega, fun h => by exfalso; omega, fun h => by exfalso; omega, fun h => by exfalso; omega, fun a1 a2 a3 => by exfalso; omega, fun a1 a2 a3 => by exfalso; omega, fun _ _ _ _ => (gl_of (n := n179) (by omega)), fun a1 a2 a3 => by exfalso; omega, fun a1 a2 => by exfalso; omega⟩) (fun M C F I K1 hC => ?_)
                    have K := K.step K1 (by decide)
                    have hm : C 100 12 = 0 → C0 100 12 = 0 := fun z => hm ((congrFun (K1 100 (by decide)).1 12).symm.trans z)
                    have ham : (C0 100 8).toInt ≤ (C 100 8).toInt := by rw [(K1 100 (by decide)).1]; exact ham
                    have hgd : C 100 12 = 0 := by rw [(K1 100 (by decide)).1]; exact hgd
                    have en182 : C 114 (14 + (6 * n155)) = nI n182 := by rw [hC, nI_clamp (by omega), pk_un (by omega)]; exact en182
                    refine g_aload_n X dX8_readRoad_177 rfl (j := 4) rfl ?_
                    refine i_get X F 100 rfl rfl fk_X8_31 dX8_readRoad_178 rfl ?_
                    refine g_iload_n X dX8_readRoad_181 rfl (j := 1) rfl ?_
                    refine g_dup2 X dX8_readRoad_182 rfl rfl ?_
                    refine i_iald X F 114 rfl rfl dX8_readRoad_183 (vp_in_nI (by omega) (by decide)) (v := nI n182) (by rw [nI_clamp (by omega)]; exact en182) ?_
                    refine g_iconst X dX8_readRoad_184 (v := 1) (by decide) ?_
                    refine g_iadd X dX8_readRoad_185 ?_
                    refine Go.top (v := .int (nI (n182 + 1))) (congrArg Value.int (nI_add n182 1)) ?_
                    refine i_iast X F I 114 rfl (fun _ => rfl) dX8_readRoad_186 (vp_in_nI (by omega) (by decide)) (by rw [nI_clamp (by omega)]; show okw (14 + (6 * n155)) (nI (n182 + 1)); exact ⟨fun h => by exfalso; omega, fun h => by exfalso; omega, fun h => by exfalso; omega, fun h => by exfalso; omega, fun h => by exfalso; omega, fun h => by exfalso; omega, fun _ _ _ => (rg_of (n := (n182 + 1)) (by omega) (by omega) (by omega)), fun a1 a2 a3 => by exfalso; omega, fun a1 a2 a3 a4 => by exfalso; omega, fun a1 a2 a3 => by exfalso; omega, fun a1 a2 => by exfalso; omega⟩) (fun M C F I K1 hC => ?_)
                    have K := K.step K1 (by decide)
                    have hm : C 100 12 = 0 → C0 100 12 = 0 := fun z => hm ((congrFun (K1 100 (by decide)).1 12).symm.trans z)
                    have ham : (C0 100 8).toInt ≤ (C 100 8).toInt := by rw [(K1 100 (by decide)).1]; exact ham
                    have hgd : C 100 12 = 0 := by rw [(K1 100 (by decide)).1]; exact hgd
                    refine g_aload_n X dX8_readRoad_187 rfl (j := 4) rfl ?_
                    refine i_get X F 100 rfl rfl fk_X8_31 dX8_readRoad_188 rfl ?_
                    refine g_iconst X dX8_readRoad_191 (v := 5) (by decide) ?_
                    refine g_dup2 X dX8_readRoad_192 rfl rfl ?_
                    refine i_iald X F 114 rfl rfl dX8_readRoad_193 (vp_in_iff.mpr (by decide)) rfl ?_
                    refine Go.gen (fun o183 => ?_)
                    refine g_iconst X dX8_readRoad_194 (v := 1) (by decide) ?_
                    refine g_iadd X dX8_readRoad_195 ?_
                    refine Go.gen (fun o184 => ?_)
                    refine i_iast X F I 114 rfl (fun _ => rfl) dX8_readRoad_196 (vp_in_iff.mpr (by decide)) (by show okw (5) (o184); exact ⟨fun h => by exfalso; omega, fun h => by exfalso; omega, fun h => by exfalso; omega, fun h => by exfalso; omega, fun h => by exfalso; omega, fun h => by exfalso; omega, fun a1 a2 a3 => by exfalso; omega, fun a1 a2 a3 => by exfalso; omega, fun a1 a2 a3 a4 => by exfalso; omega, fun a1 a2 a3 => by exfalso; omega, fun a1 a2 => by exfalso; omega⟩) (fun M C F I K1 hC => ?_)
                    have K := K.step K1 (by decide)
                    have hm : C 100 12 = 0 → C0 100 12 = 0 := fun z => hm ((congrFun (K1 100 (by decide)).1 12).symm.trans z)
                    have ham : (C0 100 8).toInt ≤ (C 100 8).toInt := by rw [(K1 100 (by decide)).1]; exact ham
                    have hgd : C 100 12 = 0 := by rw [(K1 100 (by decide)).1]; exact hgd
                    exact g_vret X hrt dX8_readRoad_197 (by decide) (by decide) ⟨C, D, F, I, K, ham⟩
                · skip
                  refine g_aload_n X dX8_readRoad_118 rfl (j := 4) rfl ?_
                  refine g_iconst X dX8_readRoad_119 (v := 2) (by decide) ?_
                  refine g_callVV X (s_X8_errs l G F I (2 : Int32) (by decide)) lk_X8_183 (F.1 100 rfl).2 (F.1 100 rfl).1 rfl rfl dX8_readRoad_120 (Nat.le_of_ble_eq_true rfl) ⟨by decide, by decide⟩ ⟨by decide, by decide⟩ (fun L M hp => ?_)
                  obtain ⟨C, D, F, I, K1, hr⟩ := hp
                  have K := K.step K1 (by decide)
                  have en100 : C 114 (4) = nI n100 := by rw [(K1 114 (by decide)).1]; exact en100
                  obtain ⟨hr, hr8⟩ := hr
                  have hm : C 100 12 = 0 → C0 100 12 = 0 := fun z => absurd z hr
                  have hro : C 100 12 = 0 → (C 114 (14 + 6 * n155)).toInt ≤ 3 := fun z => by rw [(K1 114 (by decide)).1]; exact absurd z hr
                  have hgd := hr
                  have ham : (C0 100 8).toInt ≤ (C 100 8).toInt := Int.le_trans ham (by rw [hr8]; exact Int.le_refl _)
                  refine g_aload_n X dX8_readRoad_123 rfl (j := 4) rfl ?_
                  refine g_callVI X (s_X8_readPost l G F I  ) lk_X8_205 (F.1 100 rfl).2 (F.1 100 rfl).1 rfl rfl dX8_readRoad_124 (Nat.le_of_ble_eq_true rfl) ⟨by decide, by decide⟩ ⟨by decide, by decide⟩ (fun r185 L M hp => ?_)
                  obtain ⟨C, D, F, I, K1, hr⟩ := hp
                  have K := K.step K1 (by decide)
                  have en100 : C 114 (4) = nI n100 := by rw [(K1 114 (by decide)).1]; exact en100
                  obtain ⟨hrat, hrp, ⟨n186, hn186, en186⟩⟩ := hr
                  subst en186
                  have hm : C 100 12 = 0 → C0 100 12 = 0 := fun z => hm (hrp z).1
                  have hro : C 100 12 = 0 → (C 114 (14 + 6 * n155)).toInt ≤ 3 := fun z => by rw [(K1 114 (by decide)).1]; exact hro (hrp z).1
                  have ham : (C0 100 8).toInt ≤ (C 100 8).toInt := Int.le_trans ham hrat
                  refine g_istore X dX8_readRoad_127 (by decide) (lv2 := [(4, .int (nI n186)), (3, .int (nI (14 + (6 * n155)))), (2, .int (nI n155)), (1, .int 1), (0, .ref (a 100))]) rfl ?_
                  refine g_goto X dX8_readRoad_129 (tgt := 152) (by decide) ?_
                  refine g_aload_n X dX8_readRoad_152 rfl (j := 4) rfl ?_
                  refine g_callVI X (s_X8_good l G F I  ) lk_X8_161 (F.1 100 rfl).2 (F.1 100 rfl).1 rfl rfl dX8_readRoad_153 (Nat.le_of_ble_eq_true rfl) ⟨by decide, by decide⟩ ⟨by decide, by decide⟩ (fun r187 L M hp => ?_)
                  obtain ⟨C, D, F, I, K1, hr⟩ := hp
                  have K := K.step K1 (by decide)
                  have hm : C 100 12 = 0 → C0 100 12 = 0 := fun z => hm ((congrFun (K1 100 (by decide)).1 12).symm.trans z)
                  have hro : C 100 12 = 0 → (C 114 (14 + 6 * n155)).toInt ≤ 3 := fun z => by rw [(K1 114 (by decide)).1]; exact hro ((congrFun (K1 100 (by decide)).1 12).symm.trans z)
                  have en100 : C 114 (4) = nI n100 := by rw [(K1 114 (by decide)).1]; exact en100
                  have ham : (C0 100 8).toInt ≤ (C 100 8).toInt := by rw [(K1 100 (by decide)).1]; exact ham
                  rcases hr with ⟨rfl, hg188⟩ | ⟨rfl, hg188⟩
                  · skip
                    have hgd := hg188
                    refine g_if_ne X dX8_readRoad_156 (tgt := 160) (by decide) (fun q => absurd (by decide) q) (fun _ => ?_)
                    exact g_vret X hrt dX8_readRoad_159 (by decide) (by decide) ⟨C, D, F, I, K, ham⟩
                  · skip
                    have hgd := hg188
                    have hmy := hm hgd
                    have hroy := hro hgd
                    refine g_if_ne X dX8_readRoad_156 (tgt := 160) (by decide) (fun _ => ?_) (fun q => absurd q (by decide))
                    refine g_aload_n X dX8_readRoad_160 rfl (j := 4) rfl ?_
                    refine i_get X F 100 rfl rfl fk_X8_31 dX8_readRoad_161 rfl ?_
                    refine g_iload_n X dX8_readRoad_164 rfl (j := 1) rfl ?_
                    refine g_iconst X dX8_readRoad_165 (v := 1) (by decide) ?_
                    refine g_iadd X dX8_readRoad_166 ?_
                    refine Go.top (v := .int (nI ((14 + (6 * n155)) + 1))) (congrArg Value.int (nI_add (14 + (6 * n155)) 1)) ?_
                    refine g_aload_n X dX8_readRoad_167 rfl (j := 4) rfl ?_
                    refine i_get X F 100 rfl rfl fk_X8_31 dX8_readRoad_168 rfl ?_
                    refine g_iload_n X dX8_readRoad_171 rfl (j := 1) rfl ?_
                    obtain ⟨n189, hn189, en189⟩ := rg_nat ((show okw (14 + (6 * n155)) (C 114 (14 + (6 * n155))) from I 114 (14 + (6 * n155))).2.2.2.2.2.2.1 (by omega) (by omega) (by omega)) (by decide)
                    refine i_iald X F 114 rfl rfl dX8_readRoad_172 (vp_in_nI (by omega) (by decide)) (v := nI n189) (by rw [nI_clamp (by omega)]; exact en189) ?_
                    have hlen189 : n189 ≤ 3 := by have z := hroy; rw [en189, nI_toInt (by omega)] at z; omega
                    refine g_iadd X dX8_readRoad_173 ?_
                    refine Go.top (v := .int (nI (((14 + (6 * n155)) + 1) + n189))) (congrArg Value.int (nI_add ((14 + (6 * n155)) + 1) n189)) ?_
                    refine g_iload X dX8_readRoad_174 (j := 0) rfl ?_
                    refine i_iast X F I 114 rfl (fun _ => rfl) dX8_readRoad_176 (vp_in_nI (by omega) (by decide)) (by rw [nI_clamp (by omega)]; show okw (((14 + (6 * n155)) + 1) + n189) (nI n186); exact ⟨fun h => by exfalso; omega, fun h => by exfalso; omega, fun h => by exfalso; omega, fun h => by exfalso; omega, fun h => by exfalso; omega, fun h => by exfalso; omega, fun a1 a2 a3 => by exfalso; omega, fun a1 a2 a3 => by exfalso; omega, fun _ _ _ _ => (gl_of (n := n186) (by omega)), fun a1 a2 a3 => by exfalso; omega, fun a1 a2 => by exfalso; omega⟩) (fun M C F I K1 hC => ?_)
                    have K := K.step K1 (by decide)
                    have hm : C 100 12 = 0 → C0 100 12 = 0 := fun z => hm ((congrFun (K1 100 (by decide)).1 12).symm.trans z)
                    have ham : (C0 100 8).toInt ≤ (C 100 8).toInt := by rw [(K1 100 (by decide)).1]; exact ham
                    have hgd : C 100 12 = 0 := by rw [(K1 100 (by decide)).1]; exact hgd
                    have en189 : C 114 (14 + (6 * n155)) = nI n189 := by rw [hC, nI_clamp (by omega), pk_un (by omega)]; exact en189
                    refine g_aload_n X dX8_readRoad_177 rfl (j := 4) rfl ?_
                    refine i_get X F 100 rfl rfl fk_X8_31 dX8_readRoad_178 rfl ?_
                    refine g_iload_n X dX8_readRoad_181 rfl (j := 1) rfl ?_
                    refine g_dup2 X dX8_readRoad_182 rfl rfl ?_
                    refine i_iald X F 114 rfl rfl dX8_readRoad_183 (vp_in_nI (by omega) (by decide)) (v := nI n189) (by rw [nI_clamp (by omega)]; exact en189) ?_
                    refine g_iconst X dX8_readRoad_184 (v := 1) (by decide) ?_
                    refine g_iadd X dX8_readRoad_185 ?_
                    refine Go.top (v := .int (nI (n189 + 1))) (congrArg Value.int (nI_add n189 1)) ?_
                    refine i_iast X F I 114 rfl (fun _ => rfl) dX8_readRoad_186 (vp_in_nI (by omega) (by decide)) (by rw [nI_clamp (by omega)]; show okw (14 + (6 * n155)) (nI (n189 + 1)); exact ⟨fun h => by exfalso; omega, fun h => by exfalso; omega, fun h => by exfalso; omega, fun h => by exfalso; omega, fun h => by exfalso; omega, fun h => by exfalso; omega, fun _ _ _ => (rg_of (n := (n189 + 1)) (by omega) (by omega) (by omega)), fun a1 a2 a3 => by exfalso; omega, fun a1 a2 a3 a4 => by exfalso; omega, fun a1 a2 a3 => by exfalso; omega, fun a1 a2 => by exfalso; omega⟩) (fun M C F I K1 hC => ?_)
                    have K := K.step K1 (by decide)
                    have hm : C 100 12 = 0 → C0 100 12 = 0 := fun z => hm ((congrFun (K1 100 (by decide)).1 12).symm.trans z)
                    have ham : (C0 100 8).toInt ≤ (C 100 8).toInt := by rw [(K1 100 (by decide)).1]; exact ham
                    have hgd : C 100 12 = 0 := by rw [(K1 100 (by decide)).1]; exact hgd
                    refine g_aload_n X dX8_readRoad_187 rfl (j := 4) rfl ?_
                    refine i_get X F 100 rfl rfl fk_X8_31 dX8_readRoad_188 rfl ?_
                    refine g_iconst X dX8_readRoad_191 (v := 5) (by decide) ?_
                    refine g_dup2 X dX8_readRoad_192 rfl rfl ?_
                    refine i_iald X F 114 rfl rfl dX8_readRoad_193 (vp_in_iff.mpr (by decide)) rfl ?_
                    refine Go.gen (fun o190 => ?_)
                    refine g_iconst X dX8_readRoad_194 (v := 1) (by decide) ?_
                    refine g_iadd X dX8_readRoad_195 ?_
                    refine Go.gen (fun o191 => ?_)
                    refine i_iast X F I 114 rfl (fun _ => rfl) dX8_readRoad_196 (vp_in_iff.mpr (by decide)) (by show okw (5) (o191); exact ⟨fun h => by exfalso; omega, fun h => by exfalso; omega, fun h => by exfalso; omega, fun h => by exfalso; omega, fun h => by exfalso; omega, fun h => by exfalso; omega, fun a1 a2 a3 => by exfalso; omega, fun a1 a2 a3 => by exfalso; omega, fun a1 a2 a3 a4 => by exfalso; omega, fun a1 a2 a3 => by exfalso; omega, fun a1 a2 => by exfalso; omega⟩) (fun M C F I K1 hC => ?_)
                    have K := K.step K1 (by decide)
                    have hm : C 100 12 = 0 → C0 100 12 = 0 := fun z => hm ((congrFun (K1 100 (by decide)).1 12).symm.trans z)
                    have ham : (C0 100 8).toInt ≤ (C 100 8).toInt := by rw [(K1 100 (by decide)).1]; exact ham
                    have hgd : C 100 12 = 0 := by rw [(K1 100 (by decide)).1]; exact hgd
                    exact g_vret X hrt dX8_readRoad_197 (by decide) (by decide) ⟨C, D, F, I, K, ham⟩
          · skip
            refine g_if_eq X dX8_readRoad_92 (tgt := 132) (by decide) (fun _ => ?_) (fun q => absurd (by decide) q)
            refine g_bipush X dX8_readRoad_132 (v := 10) (by decide) ?_
            refine g_aload_n X dX8_readRoad_134 rfl (j := 4) rfl ?_
            refine g_ldcS X (tx := "in") (i := 18) (by decide) dX8_readRoad_135 ?_
            refine g_iconst X dX8_readRoad_137 (v := 0) (by decide) ?_
            refine g_aload_n X dX8_readRoad_138 rfl (j := 4) rfl ?_
            refine i_get X F 100 rfl rfl fk_X8_31 dX8_readRoad_139 rfl ?_
            refine g_iconst X dX8_readRoad_142 (v := 3) (by decide) ?_
            obtain ⟨n192, hn192, en192⟩ := rg_nat ((show okw (3) (C 114 (3)) from I 114 (3)).2.2.1 rfl) (by decide)
            refine i_iald X F 114 rfl rfl dX8_readRoad_143 (vp_in_iff.mpr (by decide)) (v := nI n192) (by exact en192) ?_
            refine g_iconst X dX8_readRoad_144 (v := 1) (by decide) ?_
            refine g_isub X dX8_readRoad_145 ?_
            have hs193 := nI_m1 (n := n192) (by omega)
            refine g_callVI X (s_X8_toldBy l G F I 18 (by decide) (0 : Int32) ((nI n192 - 1)) ) lk_X8_197 (F.1 100 rfl).2 (F.1 100 rfl).1 rfl rfl dX8_readRoad_146 (Nat.le_of_ble_eq_true rfl) ⟨by decide, by decide⟩ ⟨by decide, by decide⟩ (fun r194 L M hp => ?_)
            obtain ⟨C, D, F, I, K1, hr⟩ := hp
            have K := K.step K1 (by decide)
            have en100 : C 114 (4) = nI n100 := by rw [(K1 114 (by decide)).1]; exact en100
            obtain ⟨hrat, hrm, hnum⟩ := hr
            have hm : C 100 12 = 0 → C0 100 12 = 0 := fun z => hm (hrm z)
            have hro : C 100 12 = 0 → (C 114 (14 + 6 * n155)).toInt ≤ 3 := fun z => by rw [(K1 114 (by decide)).1]; exact hro (hrm z)
            have ham : (C0 100 8).toInt ≤ (C 100 8).toInt := Int.le_trans ham hrat
            obtain ⟨n195, hn195, en195⟩ := num_nat (B := 3) (by decide) hnum (by omega)
            subst en195
            refine g_iadd X dX8_readRoad_149 ?_
            refine Go.top (v := .int (nI (10 + n195))) (congrArg Value.int (nI_add 10 n195)) ?_
            refine g_istore X dX8_readRoad_150 (by decide) (lv2 := [(4, .int (nI (10 + n195))), (3, .int (nI (14 + (6 * n155)))), (2, .int (nI n155)), (1, .int 1), (0, .ref (a 100))]) rfl ?_
            refine g_aload_n X dX8_readRoad_152 rfl (j := 4) rfl ?_
            refine g_callVI X (s_X8_good l G F I  ) lk_X8_161 (F.1 100 rfl).2 (F.1 100 rfl).1 rfl rfl dX8_readRoad_153 (Nat.le_of_ble_eq_true rfl) ⟨by decide, by decide⟩ ⟨by decide, by decide⟩ (fun r196 L M hp => ?_)
            obtain ⟨C, D, F, I, K1, hr⟩ := hp
            have K := K.step K1 (by decide)
            have hm : C 100 12 = 0 → C0 100 12 = 0 := fun z => hm ((congrFun (K1 100 (by decide)).1 12).symm.trans z)
            have hro : C 100 12 = 0 → (C 114 (14 + 6 * n155)).toInt ≤ 3 := fun z => by rw [(K1 114 (by decide)).1]; exact hro ((congrFun (K1 100 (by decide)).1 12).symm.trans z)
            have en100 : C 114 (4) = nI n100 := by rw [(K1 114 (by decide)).1]; exact en100
            have ham : (C0 100 8).toInt ≤ (C 100 8).toInt := by rw [(K1 100 (by decide)).1]; exact ham
            rcases hr with ⟨rfl, hg197⟩ | ⟨rfl, hg197⟩
            · skip
              have hgd := hg197
              refine g_if_ne X dX8_readRoad_156 (tgt := 160) (by decide) (fun q => absurd (by decide) q) (fun _ => ?_)
              exact g_vret X hrt dX8_readRoad_159 (by decide) (by decide) ⟨C, D, F, I, K, ham⟩
            · skip
              have hgd := hg197
              have hmy := hm hgd
              have hroy := hro hgd
              refine g_if_ne X dX8_readRoad_156 (tgt := 160) (by decide) (fun _ => ?_) (fun q => absurd q (by decide))
              refine g_aload_n X dX8_readRoad_160 rfl (j := 4) rfl ?_
              refine i_get X F 100 rfl rfl fk_X8_31 dX8_readRoad_161 rfl ?_
              refine g_iload_n X dX8_readRoad_164 rfl (j := 1) rfl ?_
              refine g_iconst X dX8_readRoad_165 (v := 1) (by decide) ?_
              refine g_iadd X dX8_readRoad_166 ?_
              refine Go.top (v := .int (nI ((14 + (6 * n155)) + 1))) (congrArg Value.int (nI_add (14 + (6 * n155)) 1)) ?_
              refine g_aload_n X dX8_readRoad_167 rfl (j := 4) rfl ?_
              refine i_get X F 100 rfl rfl fk_X8_31 dX8_readRoad_168 rfl ?_
              refine g_iload_n X dX8_readRoad_171 rfl (j := 1) rfl ?_
              obtain ⟨n198, hn198, en198⟩ := rg_nat ((show okw (14 + (6 * n155)) (C 114 (14 + (6 * n155))) from I 114 (14 + (6 * n155))).2.2.2.2.2.2.1 (by omega) (by omega) (by omega)) (by decide)
              refine i_iald X F 114 rfl rfl dX8_readRoad_172 (vp_in_nI (by omega) (by decide)) (v := nI n198) (by rw [nI_clamp (by omega)]; exact en198) ?_
              have hlen198 : n198 ≤ 3 := by have z := hroy; rw [en198, nI_toInt (by omega)] at z; omega
              refine g_iadd X dX8_readRoad_173 ?_
              refine Go.top (v := .int (nI (((14 + (6 * n155)) + 1) + n198))) (congrArg Value.int (nI_add ((14 + (6 * n155)) + 1) n198)) ?_
              refine g_iload X dX8_readRoad_174 (j := 0) rfl ?_
              refine i_iast X F I 114 rfl (fun _ => rfl) dX8_readRoad_176 (vp_in_nI (by omega) (by decide)) (by rw [nI_clamp (by omega)]; show okw (((14 + (6 * n155)) + 1) + n198) (nI (10 + n195)); exact ⟨fun h => by exfalso; omega, fun h => by exfalso; omega, fun h => by exfalso; omega, fun h => by exfalso; omega, fun h => by exfalso; omega, fun h => by exfalso; omega, fun a1 a2 a3 => by exfalso; omega, fun a1 a2 a3 => by exfalso; omega, fun _ _ _ _ => (gl_of (n := (10 + n195)) (by omega)), fun a1 a2 a3 => by exfalso; omega, fun a1 a2 => by exfalso; omega⟩) (fun M C F I K1 hC => ?_)
              have K := K.step K1 (by decide)
              have hm : C 100 12 = 0 → C0 100 12 = 0 := fun z => hm ((congrFun (K1 100 (by decide)).1 12).symm.trans z)
              have ham : (C0 100 8).toInt ≤ (C 100 8).toInt := by rw [(K1 100 (by decide)).1]; exact ham
              have hgd : C 100 12 = 0 := by rw [(K1 100 (by decide)).1]; exact hgd
              have en198 : C 114 (14 + (6 * n155)) = nI n198 := by rw [hC, nI_clamp (by omega), pk_un (by omega)]; exact en198
              refine g_aload_n X dX8_readRoad_177 rfl (j := 4) rfl ?_
              refine i_get X F 100 rfl rfl fk_X8_31 dX8_readRoad_178 rfl ?_
              refine g_iload_n X dX8_readRoad_181 rfl (j := 1) rfl ?_
              refine g_dup2 X dX8_readRoad_182 rfl rfl ?_
              refine i_iald X F 114 rfl rfl dX8_readRoad_183 (vp_in_nI (by omega) (by decide)) (v := nI n198) (by rw [nI_clamp (by omega)]; exact en198) ?_
              refine g_iconst X dX8_readRoad_184 (v := 1) (by decide) ?_
              refine g_iadd X dX8_readRoad_185 ?_
              refine Go.top (v := .int (nI (n198 + 1))) (congrArg Value.int (nI_add n198 1)) ?_
              refine i_iast X F I 114 rfl (fun _ => rfl) dX8_readRoad_186 (vp_in_nI (by omega) (by decide)) (by rw [nI_clamp (by omega)]; show okw (14 + (6 * n155)) (nI (n198 + 1)); exact ⟨fun h => by exfalso; omega, fun h => by exfalso; omega, fun h => by exfalso; omega, fun h => by exfalso; omega, fun h => by exfalso; omega, fun h => by exfalso; omega, fun _ _ _ => (rg_of (n := (n198 + 1)) (by omega) (by omega) (by omega)), fun a1 a2 a3 => by exfalso; omega, fun a1 a2 a3 a4 => by exfalso; omega, fun a1 a2 a3 => by exfalso; omega, fun a1 a2 => by exfalso; omega⟩) (fun M C F I K1 hC => ?_)
              have K := K.step K1 (by decide)
              have hm : C 100 12 = 0 → C0 100 12 = 0 := fun z => hm ((congrFun (K1 100 (by decide)).1 12).symm.trans z)
              have ham : (C0 100 8).toInt ≤ (C 100 8).toInt := by rw [(K1 100 (by decide)).1]; exact ham
              have hgd : C 100 12 = 0 := by rw [(K1 100 (by decide)).1]; exact hgd
              refine g_aload_n X dX8_readRoad_187 rfl (j := 4) rfl ?_
              refine i_get X F 100 rfl rfl fk_X8_31 dX8_readRoad_188 rfl ?_
              refine g_iconst X dX8_readRoad_191 (v := 5) (by decide) ?_
              refine g_dup2 X dX8_readRoad_192 rfl rfl ?_
              refine i_iald X F 114 rfl rfl dX8_readRoad_193 (vp_in_iff.mpr (by decide)) rfl ?_
              refine Go.gen (fun o199 => ?_)
              refine g_iconst X dX8_readRoad_194 (v := 1) (by decide) ?_
              refine g_iadd X dX8_readRoad_195 ?_
              refine Go.gen (fun o200 => ?_)
              refine i_iast X F I 114 rfl (fun _ => rfl) dX8_readRoad_196 (vp_in_iff.mpr (by decide)) (by show okw (5) (o200); exact ⟨fun h => by exfalso; omega, fun h => by exfalso; omega, fun h => by exfalso; omega, fun h => by exfalso; omega, fun h => by exfalso; omega, fun h => by exfalso; omega, fun a1 a2 a3 => by exfalso; omega, fun a1 a2 a3 => by exfalso; omega, fun a1 a2 a3 a4 => by exfalso; omega, fun a1 a2 a3 => by exfalso; omega, fun a1 a2 => by exfalso; omega⟩) (fun M C F I K1 hC => ?_)
              have K := K.step K1 (by decide)
              have hm : C 100 12 = 0 → C0 100 12 = 0 := fun z => hm ((congrFun (K1 100 (by decide)).1 12).symm.trans z)
              have ham : (C0 100 8).toInt ≤ (C 100 8).toInt := by rw [(K1 100 (by decide)).1]; exact ham
              have hgd : C 100 12 = 0 := by rw [(K1 100 (by decide)).1]; exact hgd
              exact g_vret X hrt dX8_readRoad_197 (by decide) (by decide) ⟨C, D, F, I, K, ham⟩
        · skip
          refine g_aload_n X dX8_readRoad_65 rfl (j := 1) rfl ?_
          refine g_iconst X dX8_readRoad_66 (v := 3) (by decide) ?_
          refine g_callVV X (s_X8_errs l G F I (3 : Int32) (by decide)) lk_X8_183 (F.1 100 rfl).2 (F.1 100 rfl).1 rfl rfl dX8_readRoad_67 (Nat.le_of_ble_eq_true rfl) ⟨by decide, by decide⟩ ⟨by decide, by decide⟩ (fun L M hp => ?_)
          obtain ⟨C, D, F, I, K1, hr⟩ := hp
          have K := K.step K1 (by decide)
          have en100 : C 114 (4) = nI n100 := by rw [(K1 114 (by decide)).1]; exact en100
          obtain ⟨hr, hr8⟩ := hr
          have hm : C 100 12 = 0 → C0 100 12 = 0 := fun z => absurd z hr
          have hgd := hr
          have ham : (C0 100 8).toInt ≤ (C 100 8).toInt := Int.le_trans ham (by rw [hr8]; exact Int.le_refl _)
          refine g_aload_n X dX8_readRoad_70 rfl (j := 1) rfl ?_
          refine g_callVI X (s_X8_readPost l G F I  ) lk_X8_205 (F.1 100 rfl).2 (F.1 100 rfl).1 rfl rfl dX8_readRoad_71 (Nat.le_of_ble_eq_true rfl) ⟨by decide, by decide⟩ ⟨by decide, by decide⟩ (fun r201 L M hp => ?_)
          obtain ⟨C, D, F, I, K1, hr⟩ := hp
          have K := K.step K1 (by decide)
          have en100 : C 114 (4) = nI n100 := by rw [(K1 114 (by decide)).1]; exact en100
          obtain ⟨hrat, hrp, ⟨n202, hn202, en202⟩⟩ := hr
          subst en202
          have hm : C 100 12 = 0 → C0 100 12 = 0 := fun z => hm (hrp z).1
          have ham : (C0 100 8).toInt ≤ (C 100 8).toInt := Int.le_trans ham hrat
          have hro : C 100 12 = 0 → (C 114 (14 + 6 * n202)).toInt ≤ 3 := fun z => absurd (hrp z).1 hgd
          refine g_istore_n X dX8_readRoad_74 rfl (by decide) (lv2 := [(2, .int (nI n202)), (1, .int 1), (0, .ref (a 100))]) rfl ?_
          refine g_bipush X dX8_readRoad_75 (v := 14) (by decide) ?_
          refine g_bipush X dX8_readRoad_77 (v := 6) (by decide) ?_
          refine g_iload_n X dX8_readRoad_79 rfl (j := 0) rfl ?_
          refine g_imul X dX8_readRoad_80 ?_
          refine Go.top (v := .int (nI (6 * n202))) (congrArg Value.int (pk_mul 6 n202)) ?_
          refine g_iadd X dX8_readRoad_81 ?_
          refine Go.top (v := .int (nI (14 + (6 * n202)))) (congrArg Value.int (nI_add 14 (6 * n202))) ?_
          refine g_istore_n X dX8_readRoad_82 rfl (by decide) (lv2 := [(3, .int (nI (14 + (6 * n202)))), (2, .int (nI n202)), (1, .int 1), (0, .ref (a 100))]) rfl ?_
          refine g_iconst X dX8_readRoad_83 (v := 0) (by decide) ?_
          refine g_istore X dX8_readRoad_84 (by decide) (lv2 := [(4, .int 0), (3, .int (nI (14 + (6 * n202)))), (2, .int (nI n202)), (1, .int 1), (0, .ref (a 100))]) rfl ?_
          refine g_aload_n X dX8_readRoad_86 rfl (j := 4) rfl ?_
          refine g_ldcS X (tx := "to") (i := 17) (by decide) dX8_readRoad_87 ?_
          refine g_callVI X (s_X8_takes l G F I 17 (by decide) ) lk_X8_180 (F.1 100 rfl).2 (F.1 100 rfl).1 rfl rfl dX8_readRoad_89 (Nat.le_of_ble_eq_true rfl) ⟨by decide, by decide⟩ ⟨by decide, by decide⟩ (fun r203 L M hp => ?_)
          obtain ⟨C, D, F, I, K1, hr⟩ := hp
          have K := K.step K1 (by decide)
          have en100 : C 114 (4) = nI n100 := by rw [(K1 114 (by decide)).1]; exact en100
          obtain ⟨hrat, hrm, hr⟩ := hr
          have hm : C 100 12 = 0 → C0 100 12 = 0 := fun z => hm (hrm z)
          have hro : C 100 12 = 0 → (C 114 (14 + 6 * n202)).toInt ≤ 3 := fun z => by rw [(K1 114 (by decide)).1]; exact hro (hrm z)
          have ham : (C0 100 8).toInt ≤ (C 100 8).toInt := Int.le_trans ham hrat
          rcases hr with ⟨rfl, ht204⟩ | ⟨rfl, ht204, ht204E⟩
          · skip
            refine g_if_eq X dX8_readRoad_92 (tgt := 132) (by decide) (fun q => absurd q (by decide)) (fun _ => ?_)
            refine g_aload_n X dX8_readRoad_95 rfl (j := 4) rfl ?_
            refine g_callVI X (s_X8_good l G F I  ) lk_X8_161 (F.1 100 rfl).2 (F.1 100 rfl).1 rfl rfl dX8_readRoad_96 (Nat.le_of_ble_eq_true rfl) ⟨by decide, by decide⟩ ⟨by decide, by decide⟩ (fun r205 L M hp => ?_)
            obtain ⟨C, D, F, I, K1, hr⟩ := hp
            have K := K.step K1 (by decide)
            have hm : C 100 12 = 0 → C0 100 12 = 0 := fun z => hm ((congrFun (K1 100 (by decide)).1 12).symm.trans z)
            have hro : C 100 12 = 0 → (C 114 (14 + 6 * n202)).toInt ≤ 3 := fun z => by rw [(K1 114 (by decide)).1]; exact hro ((congrFun (K1 100 (by decide)).1 12).symm.trans z)
            have en100 : C 114 (4) = nI n100 := by rw [(K1 114 (by decide)).1]; exact en100
            have ham : (C0 100 8).toInt ≤ (C 100 8).toInt := by rw [(K1 100 (by decide)).1]; exact ham
            rcases hr with ⟨rfl, hg206⟩ | ⟨rfl, hg206⟩
            · skip
              have hgd := hg206
              refine g_if_eq X dX8_readRoad_99 (tgt := 123) (by decide) (fun _ => ?_) (fun q => absurd (by decide) q)
              refine g_aload_n X dX8_readRoad_123 rfl (j := 4) rfl ?_
              refine g_callVI X (s_X8_readPost l G F I  ) lk_X8_205 (F.1 100 rfl).2 (F.1 100 rfl).1 rfl rfl dX8_readRoad_124 (Nat.le_of_ble_eq_true rfl) ⟨by decide, by decide⟩ ⟨by decide, by decide⟩ (fun r207 L M hp => ?_)
              obtain ⟨C, D, F, I, K1, hr⟩ := hp
              have K := K.step K1 (by decide)
              have en100 : C 114 (4) = nI n100 := by rw [(K1 114 (by decide)).1]; exact en100
              obtain ⟨hrat, hrp, ⟨n208, hn208, en208⟩⟩ := hr
              subst en208
              have hm : C 100 12 = 0 → C0 100 12 = 0 := fun z => hm (hrp z).1
              have hro : C 100 12 = 0 → (C 114 (14 + 6 * n202)).toInt ≤ 3 := fun z => by rw [(K1 114 (by decide)).1]; exact hro (hrp z).1
              have ham : (C0 100 8).toInt ≤ (C 100 8).toInt := Int.le_trans ham hrat
              refine g_istore X dX8_readRoad_127 (by decide) (lv2 := [(4, .int (nI n208)), (3, .int (nI (14 + (6 * n202)))), (2, .int (nI n202)), (1, .int 1), (0, .ref (a 100))]) rfl ?_
              refine g_goto X dX8_readRoad_129 (tgt := 152) (by decide) ?_
              refine g_aload_n X dX8_readRoad_152 rfl (j := 4) rfl ?_
              refine g_callVI X (s_X8_good l G F I  ) lk_X8_161 (F.1 100 rfl).2 (F.1 100 rfl).1 rfl rfl dX8_readRoad_153 (Nat.le_of_ble_eq_true rfl) ⟨by decide, by decide⟩ ⟨by decide, by decide⟩ (fun r209 L M hp => ?_)
              obtain ⟨C, D, F, I, K1, hr⟩ := hp
              have K := K.step K1 (by decide)
              have hm : C 100 12 = 0 → C0 100 12 = 0 := fun z => hm ((congrFun (K1 100 (by decide)).1 12).symm.trans z)
              have hro : C 100 12 = 0 → (C 114 (14 + 6 * n202)).toInt ≤ 3 := fun z => by rw [(K1 114 (by decide)).1]; exact hro ((congrFun (K1 100 (by decide)).1 12).symm.trans z)
              have en100 : C 114 (4) = nI n100 := by rw [(K1 114 (by decide)).1]; exact en100
              have ham : (C0 100 8).toInt ≤ (C 100 8).toInt := by rw [(K1 100 (by decide)).1]; exact ham
              rcases hr with ⟨rfl, hg210⟩ | ⟨rfl, hg210⟩
              · skip
                have hgd := hg210
                refine g_if_ne X dX8_readRoad_156 (tgt := 160) (by decide) (fun q => absurd (by decide) q) (fun _ => ?_)
                exact g_vret X hrt dX8_readRoad_159 (by decide) (by decide) ⟨C, D, F, I, K, ham⟩
              · skip
                have hgd := hg210
                have hmy := hm hgd
                have hroy := hro hgd
                refine g_if_ne X dX8_readRoad_156 (tgt := 160) (by decide) (fun _ => ?_) (fun q => absurd q (by decide))
                refine g_aload_n X dX8_readRoad_160 rfl (j := 4) rfl ?_
                refine i_get X F 100 rfl rfl fk_X8_31 dX8_readRoad_161 rfl ?_
                refine g_iload_n X dX8_readRoad_164 rfl (j := 1) rfl ?_
                refine g_iconst X dX8_readRoad_165 (v := 1) (by decide) ?_
                refine g_iadd X dX8_readRoad_166 ?_
                refine Go.top (v := .int (nI ((14 + (6 * n202)) + 1))) (congrArg Value.int (nI_add (14 + (6 * n202)) 1)) ?_
                refine g_aload_n X dX8_readRoad_167 rfl (j := 4) rfl ?_
                refine i_get X F 100 rfl rfl fk_X8_31 dX8_readRoad_168 rfl ?_
                refine g_iload_n X dX8_readRoad_171 rfl (j := 1) rfl ?_
                obtain ⟨n211, hn211, en211⟩ := rg_nat ((show okw (14 + (6 * n202)) (C 114 (14 + (6 * n202))) from I 114 (14 + (6 * n202))).2.2.2.2.2.2.1 (by omega) (by omega) (by omega)) (by decide)
                refine i_iald X F 114 rfl rfl dX8_readRoad_172 (vp_in_nI (by omega) (by decide)) (v := nI n211) (by rw [nI_clamp (by omega)]; exact en211) ?_
                have hlen211 : n211 ≤ 3 := by have z := hroy; rw [en211, nI_toInt (by omega)] at z; omega
                refine g_iadd X dX8_readRoad_173 ?_
                refine Go.top (v := .int (nI (((14 + (6 * n202)) + 1) + n211))) (congrArg Value.int (nI_add ((14 + (6 * n202)) + 1) n211)) ?_
                refine g_iload X dX8_readRoad_174 (j := 0) rfl ?_
                refine i_iast X F I 114 rfl (fun _ => rfl) dX8_readRoad_176 (vp_in_nI (by omega) (by decide)) (by rw [nI_clamp (by omega)]; show okw (((14 + (6 * n202)) + 1) + n211) (nI n208); exact ⟨fun h => by exfalso; omega, fun h => by exfalso; omega, fun h => by exfalso; omega, fun h => by exfalso; omega, fun h => by exfalso; omega, fun h => by exfalso; omega, fun a1 a2 a3 => by exfalso; omega, fun a1 a2 a3 => by exfalso; omega, fun _ _ _ _ => (gl_of (n := n208) (by omega)), fun a1 a2 a3 => by exfalso; omega, fun a1 a2 => by exfalso; omega⟩) (fun M C F I K1 hC => ?_)
                have K := K.step K1 (by decide)
                have hm : C 100 12 = 0 → C0 100 12 = 0 := fun z => hm ((congrFun (K1 100 (by decide)).1 12).symm.trans z)
                have ham : (C0 100 8).toInt ≤ (C 100 8).toInt := by rw [(K1 100 (by decide)).1]; exact ham
                have hgd : C 100 12 = 0 := by rw [(K1 100 (by decide)).1]; exact hgd
                have en211 : C 114 (14 + (6 * n202)) = nI n211 := by rw [hC, nI_clamp (by omega), pk_un (by omega)]; exact en211
                refine g_aload_n X dX8_readRoad_177 rfl (j := 4) rfl ?_
                refine i_get X F 100 rfl rfl fk_X8_31 dX8_readRoad_178 rfl ?_
                refine g_iload_n X dX8_readRoad_181 rfl (j := 1) rfl ?_
                refine g_dup2 X dX8_readRoad_182 rfl rfl ?_
                refine i_iald X F 114 rfl rfl dX8_readRoad_183 (vp_in_nI (by omega) (by decide)) (v := nI n211) (by rw [nI_clamp (by omega)]; exact en211) ?_
                refine g_iconst X dX8_readRoad_184 (v := 1) (by decide) ?_
                refine g_iadd X dX8_readRoad_185 ?_
                refine Go.top (v := .int (nI (n211 + 1))) (congrArg Value.int (nI_add n211 1)) ?_
                refine i_iast X F I 114 rfl (fun _ => rfl) dX8_readRoad_186 (vp_in_nI (by omega) (by decide)) (by rw [nI_clamp (by omega)]; show okw (14 + (6 * n202)) (nI (n211 + 1)); exact ⟨fun h => by exfalso; omega, fun h => by exfalso; omega, fun h => by exfalso; omega, fun h => by exfalso; omega, fun h => by exfalso; omega, fun h => by exfalso; omega, fun _ _ _ => (rg_of (n := (n211 + 1)) (by omega) (by omega) (by omega)), fun a1 a2 a3 => by exfalso; omega, fun a1 a2 a3 a4 => by exfalso; omega, fun a1 a2 a3 => by exfalso; omega, fun a1 a2 => by exfalso; omega⟩) (fun M C F I K1 hC => ?_)
                have K := K.step K1 (by decide)
                have hm : C 100 12 = 0 → C0 100 12 = 0 := fun z => hm ((congrFun (K1 100 (by decide)).1 12).symm.trans z)
                have ham : (C0 100 8).toInt ≤ (C 100 8).toInt := by rw [(K1 100 (by decide)).1]; exact ham
                have hgd : C 100 12 = 0 := by rw [(K1 100 (by decide)).1]; exact hgd
                refine g_aload_n X dX8_readRoad_187 rfl (j := 4) rfl ?_
                refine i_get X F 100 rfl rfl fk_X8_31 dX8_readRoad_188 rfl ?_
                refine g_iconst X dX8_readRoad_191 (v := 5) (by decide) ?_
                refine g_dup2 X dX8_readRoad_192 rfl rfl ?_
                refine i_iald X F 114 rfl rfl dX8_readRoad_193 (vp_in_iff.mpr (by decide)) rfl ?_
                refine Go.gen (fun o212 => ?_)
                refine g_iconst X dX8_readRoad_194 (v := 1) (by decide) ?_
                refine g_iadd X dX8_readRoad_195 ?_
                refine Go.gen (fun o213 => ?_)
                refine i_iast X F I 114 rfl (fun _ => rfl) dX8_readRoad_196 (vp_in_iff.mpr (by decide)) (by show okw (5) (o213); exact ⟨fun h => by exfalso; omega, fun h => by exfalso; omega, fun h => by exfalso; omega, fun h => by exfalso; omega, fun h => by exfalso; omega, fun h => by exfalso; omega, fun a1 a2 a3 => by exfalso; omega, fun a1 a2 a3 => by exfalso; omega, fun a1 a2 a3 a4 => by exfalso; omega, fun a1 a2 a3 => by exfalso; omega, fun a1 a2 => by exfalso; omega⟩) (fun M C F I K1 hC => ?_)
                have K := K.step K1 (by decide)
                have hm : C 100 12 = 0 → C0 100 12 = 0 := fun z => hm ((congrFun (K1 100 (by decide)).1 12).symm.trans z)
                have ham : (C0 100 8).toInt ≤ (C 100 8).toInt := by rw [(K1 100 (by decide)).1]; exact ham
                have hgd : C 100 12 = 0 := by rw [(K1 100 (by decide)).1]; exact hgd
                exact g_vret X hrt dX8_readRoad_197 (by decide) (by decide) ⟨C, D, F, I, K, ham⟩
            · skip
              have hgd := hg206
              have hmy := hm hgd
              have hroy := hro hgd
              refine g_if_eq X dX8_readRoad_99 (tgt := 123) (by decide) (fun q => absurd q (by decide)) (fun _ => ?_)
              refine g_aload_n X dX8_readRoad_102 rfl (j := 4) rfl ?_
              obtain ⟨o214, eo214⟩ : ∃ z, C 100 10 = z := ⟨_, rfl⟩
              refine i_get X F 100 rfl rfl fk_X8_137 dX8_readRoad_103 (v := .int o214) (congrArg (fun z => some (Value.int z)) eo214) ?_
              refine g_iconst X dX8_readRoad_106 (v := 2) (by decide) ?_
              refine g_icmp_ne X dX8_readRoad_107 (tgt := 123) (by decide) (fun q215 => ?_) (fun q215 => ?_)
              · skip
                refine g_aload_n X dX8_readRoad_123 rfl (j := 4) rfl ?_
                refine g_callVI X (s_X8_readPost l G F I  ) lk_X8_205 (F.1 100 rfl).2 (F.1 100 rfl).1 rfl rfl dX8_readRoad_124 (Nat.le_of_ble_eq_true rfl) ⟨by decide, by decide⟩ ⟨by decide, by decide⟩ (fun r216 L M hp => ?_)
                obtain ⟨C, D, F, I, K1, hr⟩ := hp
                have K := K.step K1 (by decide)
                have en100 : C 114 (4) = nI n100 := by rw [(K1 114 (by decide)).1]; exact en100
                obtain ⟨hrat, hrp, ⟨n217, hn217, en217⟩⟩ := hr
                subst en217
                have hm : C 100 12 = 0 → C0 100 12 = 0 := fun z => hm (hrp z).1
                have hro : C 100 12 = 0 → (C 114 (14 + 6 * n202)).toInt ≤ 3 := fun z => by rw [(K1 114 (by decide)).1]; exact hro (hrp z).1
                have ham : (C0 100 8).toInt ≤ (C 100 8).toInt := Int.le_trans ham hrat
                refine g_istore X dX8_readRoad_127 (by decide) (lv2 := [(4, .int (nI n217)), (3, .int (nI (14 + (6 * n202)))), (2, .int (nI n202)), (1, .int 1), (0, .ref (a 100))]) rfl ?_
                refine g_goto X dX8_readRoad_129 (tgt := 152) (by decide) ?_
                refine g_aload_n X dX8_readRoad_152 rfl (j := 4) rfl ?_
                refine g_callVI X (s_X8_good l G F I  ) lk_X8_161 (F.1 100 rfl).2 (F.1 100 rfl).1 rfl rfl dX8_readRoad_153 (Nat.le_of_ble_eq_true rfl) ⟨by decide, by decide⟩ ⟨by decide, by decide⟩ (fun r218 L M hp => ?_)
                obtain ⟨C, D, F, I, K1, hr⟩ := hp
                have K := K.step K1 (by decide)
                have hm : C 100 12 = 0 → C0 100 12 = 0 := fun z => hm ((congrFun (K1 100 (by decide)).1 12).symm.trans z)
                have hro : C 100 12 = 0 → (C 114 (14 + 6 * n202)).toInt ≤ 3 := fun z => by rw [(K1 114 (by decide)).1]; exact hro ((congrFun (K1 100 (by decide)).1 12).symm.trans z)
                have en100 : C 114 (4) = nI n100 := by rw [(K1 114 (by decide)).1]; exact en100
                have ham : (C0 100 8).toInt ≤ (C 100 8).toInt := by rw [(K1 100 (by decide)).1]; exact ham
                rcases hr with ⟨rfl, hg219⟩ | ⟨rfl, hg219⟩
                · skip
                  have hgd := hg219
                  refine g_if_ne X dX8_readRoad_156 (tgt := 160) (by decide) (fun q => absurd (by decide) q) (fun _ => ?_)
                  exact g_vret X hrt dX8_readRoad_159 (by decide) (by decide) ⟨C, D, F, I, K, ham⟩
                · skip
                  have hgd := hg219
                  have hmy := hm hgd
                  have hroy := hro hgd
                  refine g_if_ne X dX8_readRoad_156 (tgt := 160) (by decide) (fun _ => ?_) (fun q => absurd q (by decide))
                  refine g_aload_n X dX8_readRoad_160 rfl (j := 4) rfl ?_
                  refine i_get X F 100 rfl rfl fk_X8_31 dX8_readRoad_161 rfl ?_
                  refine g_iload_n X dX8_readRoad_164 rfl (j := 1) rfl ?_
                  refine g_iconst X dX8_readRoad_165 (v := 1) (by decide) ?_
                  refine g_iadd X dX8_readRoad_166 ?_
                  refine Go.top (v := .int (nI ((14 + (6 * n202)) + 1))) (congrArg Value.int (nI_add (14 + (6 * n202)) 1)) ?_
                  refine g_aload_n X dX8_readRoad_167 rfl (j := 4) rfl ?_
                  refine i_get X F 100 rfl rfl fk_X8_31 dX8_readRoad_168 rfl ?_
                  refine g_iload_n X dX8_readRoad_171 rfl (j := 1) rfl ?_
                  obtain ⟨n220, hn220, en220⟩ := rg_nat ((show okw (14 + (6 * n202)) (C 114 (14 + (6 * n202))) from I 114 (14 + (6 * n202))).2.2.2.2.2.2.1 (by omega) (by omega) (by omega)) (by decide)
                  refine i_iald X F 114 rfl rfl dX8_readRoad_172 (vp_in_nI (by omega) (by decide)) (v := nI n220) (by rw [nI_clamp (by omega)]; exact en220) ?_
                  have hlen220 : n220 ≤ 3 := by have z := hroy; rw [en220, nI_toInt (by omega)] at z; omega
                  refine g_iadd X dX8_readRoad_173 ?_
                  refine Go.top (v := .int (nI (((14 + (6 * n202)) + 1) + n220))) (congrArg Value.int (nI_add ((14 + (6 * n202)) + 1) n220)) ?_
                  refine g_iload X dX8_readRoad_174 (j := 0) rfl ?_
                  refine i_iast X F I 114 rfl (fun _ => rfl) dX8_readRoad_176 (vp_in_nI (by omega) (by decide)) (by rw [nI_clamp (by omega)]; show okw (((14 + (6 * n202)) + 1) + n220) (nI n217); exact ⟨fun h => by exfalso; omega, fun h => by exfalso; omega, fun h => by exfalso; omega, fun h => by exfalso; omega, fun h => by exfalso; omega, fun h => by exfalso; omega, fun a1 a2 a3 => by exfalso; omega, fun a1 a2 a3 => by exfalso; omega, fun _ _ _ _ => (gl_of (n := n217) (by omega)), fun a1 a2 a3 => by exfalso; omega, fun a1 a2 => by exfalso; omega⟩) (fun M C F I K1 hC => ?_)
                  have K := K.step K1 (by decide)
                  have hm : C 100 12 = 0 → C0 100 12 = 0 := fun z => hm ((congrFun (K1 100 (by decide)).1 12).symm.trans z)
                  have ham : (C0 100 8).toInt ≤ (C 100 8).toInt := by rw [(K1 100 (by decide)).1]; exact ham
                  have hgd : C 100 12 = 0 := by rw [(K1 100 (by decide)).1]; exact hgd
                  have en220 : C 114 (14 + (6 * n202)) = nI n220 := by rw [hC, nI_clamp (by omega), pk_un (by omega)]; exact en220
                  refine g_aload_n X dX8_readRoad_177 rfl (j := 4) rfl ?_
                  refine i_get X F 100 rfl rfl fk_X8_31 dX8_readRoad_178 rfl ?_
                  refine g_iload_n X dX8_readRoad_181 rfl (j := 1) rfl ?_
                  refine g_dup2 X dX8_readRoad_182 rfl rfl ?_
                  refine i_iald X F 114 rfl rfl dX8_readRoad_183 (vp_in_nI (by omega) (by decide)) (v := nI n220) (by rw [nI_clamp (by omega)]; exact en220) ?_
                  refine g_iconst X dX8_readRoad_184 (v := 1) (by decide) ?_
                  refine g_iadd X dX8_readRoad_185 ?_
                  refine Go.top (v := .int (nI (n220 + 1))) (congrArg Value.int (nI_add n220 1)) ?_
                  refine i_iast X F I 114 rfl (fun _ => rfl) dX8_readRoad_186 (vp_in_nI (by omega) (by decide)) (by rw [nI_clamp (by omega)]; show okw (14 + (6 * n202)) (nI (n220 + 1)); exact ⟨fun h => by exfalso; omega, fun h => by exfalso; omega, fun h => by exfalso; omega, fun h => by exfalso; omega, fun h => by exfalso; omega, fun h => by exfalso; omega, fun _ _ _ => (rg_of (n := (n220 + 1)) (by omega) (by omega) (by omega)), fun a1 a2 a3 => by exfalso; omega, fun a1 a2 a3 a4 => by exfalso; omega, fun a1 a2 a3 => by exfalso; omega, fun a1 a2 => by exfalso; omega⟩) (fun M C F I K1 hC => ?_)
                  have K := K.step K1 (by decide)
                  have hm : C 100 12 = 0 → C0 100 12 = 0 := fun z => hm ((congrFun (K1 100 (by decide)).1 12).symm.trans z)
                  have ham : (C0 100 8).toInt ≤ (C 100 8).toInt := by rw [(K1 100 (by decide)).1]; exact ham
                  have hgd : C 100 12 = 0 := by rw [(K1 100 (by decide)).1]; exact hgd
                  refine g_aload_n X dX8_readRoad_187 rfl (j := 4) rfl ?_
                  refine i_get X F 100 rfl rfl fk_X8_31 dX8_readRoad_188 rfl ?_
                  refine g_iconst X dX8_readRoad_191 (v := 5) (by decide) ?_
                  refine g_dup2 X dX8_readRoad_192 rfl rfl ?_
                  refine i_iald X F 114 rfl rfl dX8_readRoad_193 (vp_in_iff.mpr (by decide)) rfl ?_
                  refine Go.gen (fun o221 => ?_)
                  refine g_iconst X dX8_readRoad_194 (v := 1) (by decide) ?_
                  refine g_iadd X dX8_readRoad_195 ?_
                  refine Go.gen (fun o222 => ?_)
                  refine i_iast X F I 114 rfl (fun _ => rfl) dX8_readRoad_196 (vp_in_iff.mpr (by decide)) (by show okw (5) (o222); exact ⟨fun h => by exfalso; omega, fun h => by exfalso; omega, fun h => by exfalso; omega, fun h => by exfalso; omega, fun h => by exfalso; omega, fun h => by exfalso; omega, fun a1 a2 a3 => by exfalso; omega, fun a1 a2 a3 => by exfalso; omega, fun a1 a2 a3 a4 => by exfalso; omega, fun a1 a2 a3 => by exfalso; omega, fun a1 a2 => by exfalso; omega⟩) (fun M C F I K1 hC => ?_)
                  have K := K.step K1 (by decide)
                  have hm : C 100 12 = 0 → C0 100 12 = 0 := fun z => hm ((congrFun (K1 100 (by decide)).1 12).symm.trans z)
                  have ham : (C0 100 8).toInt ≤ (C 100 8).toInt := by rw [(K1 100 (by decide)).1]; exact ham
                  have hgd : C 100 12 = 0 := by rw [(K1 100 (by decide)).1]; exact hgd
                  exact g_vret X hrt dX8_readRoad_197 (by decide) (by decide) ⟨C, D, F, I, K, ham⟩
              · skip
                subst q215
                refine g_aload_n X dX8_readRoad_110 rfl (j := 4) rfl ?_
                obtain ⟨o223, eo223⟩ : ∃ z, C 100 11 = z := ⟨_, rfl⟩
                refine i_get X F 100 rfl rfl fk_X8_148 dX8_readRoad_111 (v := .int o223) (congrArg (fun z => some (Value.int z)) eo223) ?_
                refine g_iload_n X dX8_readRoad_114 rfl (j := 2) rfl ?_
                refine g_icmp_ne X dX8_readRoad_115 (tgt := 123) (by decide) (fun q224 => ?_) (fun q224 => ?_)
                · skip
                  refine g_aload_n X dX8_readRoad_123 rfl (j := 4) rfl ?_
                  refine g_callVI X (s_X8_readPost l G F I  ) lk_X8_205 (F.1 100 rfl).2 (F.1 100 rfl).1 rfl rfl dX8_readRoad_124 (Nat.le_of_ble_eq_true rfl) ⟨by decide, by decide⟩ ⟨by decide, by decide⟩ (fun r225 L M hp => ?_)
                  obtain ⟨C, D, F, I, K1, hr⟩ := hp
                  have K := K.step K1 (by decide)
                  have en100 : C 114 (4) = nI n100 := by rw [(K1 114 (by decide)).1]; exact en100
                  obtain ⟨hrat, hrp, ⟨n226, hn226, en226⟩⟩ := hr
                  subst en226
                  have hm : C 100 12 = 0 → C0 100 12 = 0 := fun z => hm (hrp z).1
                  have hro : C 100 12 = 0 → (C 114 (14 + 6 * n202)).toInt ≤ 3 := fun z => by rw [(K1 114 (by decide)).1]; exact hro (hrp z).1
                  have ham : (C0 100 8).toInt ≤ (C 100 8).toInt := Int.le_trans ham hrat
                  refine g_istore X dX8_readRoad_127 (by decide) (lv2 := [(4, .int (nI n226)), (3, .int (nI (14 + (6 * n202)))), (2, .int (nI n202)), (1, .int 1), (0, .ref (a 100))]) rfl ?_
                  refine g_goto X dX8_readRoad_129 (tgt := 152) (by decide) ?_
                  refine g_aload_n X dX8_readRoad_152 rfl (j := 4) rfl ?_
                  refine g_callVI X (s_X8_good l G F I  ) lk_X8_161 (F.1 100 rfl).2 (F.1 100 rfl).1 rfl rfl dX8_readRoad_153 (Nat.le_of_ble_eq_true rfl) ⟨by decide, by decide⟩ ⟨by decide, by decide⟩ (fun r227 L M hp => ?_)
                  obtain ⟨C, D, F, I, K1, hr⟩ := hp
                  have K := K.step K1 (by decide)
                  have hm : C 100 12 = 0 → C0 100 12 = 0 := fun z => hm ((congrFun (K1 100 (by decide)).1 12).symm.trans z)
                  have hro : C 100 12 = 0 → (C 114 (14 + 6 * n202)).toInt ≤ 3 := fun z => by rw [(K1 114 (by decide)).1]; exact hro ((congrFun (K1 100 (by decide)).1 12).symm.trans z)
                  have en100 : C 114 (4) = nI n100 := by rw [(K1 114 (by decide)).1]; exact en100
                  have ham : (C0 100 8).toInt ≤ (C 100 8).toInt := by rw [(K1 100 (by decide)).1]; exact ham
                  rcases hr with ⟨rfl, hg228⟩ | ⟨rfl, hg228⟩
                  · skip
                    have hgd := hg228
                    refine g_if_ne X dX8_readRoad_156 (tgt := 160) (by decide) (fun q => absurd (by decide) q) (fun _ => ?_)
                    exact g_vret X hrt dX8_readRoad_159 (by decide) (by decide) ⟨C, D, F, I, K, ham⟩
                  · skip
                    have hgd := hg228
                    have hmy := hm hgd
                    have hroy := hro hgd
                    refine g_if_ne X dX8_readRoad_156 (tgt := 160) (by decide) (fun _ => ?_) (fun q => absurd q (by decide))
                    refine g_aload_n X dX8_readRoad_160 rfl (j := 4) rfl ?_
                    refine i_get X F 100 rfl rfl fk_X8_31 dX8_readRoad_161 rfl ?_
                    refine g_iload_n X dX8_readRoad_164 rfl (j := 1) rfl ?_
                    refine g_iconst X dX8_readRoad_165 (v := 1) (by decide) ?_
                    refine g_iadd X dX8_readRoad_166 ?_
                    refine Go.top (v := .int (nI ((14 + (6 * n202)) + 1))) (congrArg Value.int (nI_add (14 + (6 * n202)) 1)) ?_
                    refine g_aload_n X dX8_readRoad_167 rfl (j := 4) rfl ?_
                    refine i_get X F 100 rfl rfl fk_X8_31 dX8_readRoad_168 rfl ?_
                    refine g_iload_n X dX8_readRoad_171 rfl (j := 1) rfl ?_
                    obtain ⟨n229, hn229, en229⟩ := rg_nat ((show okw (14 + (6 * n202)) (C 114 (14 + (6 * n202))) from I 114 (14 + (6 * n202))).2.2.2.2.2.2.1 (by omega) (by omega) (by omega)) (by decide)
                    refine i_iald X F 114 rfl rfl dX8_readRoad_172 (vp_in_nI (by omega) (by decide)) (v := nI n229) (by rw [nI_clamp (by omega)]; exact en229) ?_
                    have hlen229 : n229 ≤ 3 := by have z := hroy; rw [en229, nI_toInt (by omega)] at z; omega
                    refine g_iadd X dX8_readRoad_173 ?_
                    refine Go.top (v := .int (nI (((14 + (6 * n202)) + 1) + n229))) (congrArg Value.int (nI_add ((14 + (6 * n202)) + 1) n229)) ?_
                    refine g_iload X dX8_readRoad_174 (j := 0) rfl ?_
                    refine i_iast X F I 114 rfl (fun _ => rfl) dX8_readRoad_176 (vp_in_nI (by omega) (by decide)) (by rw [nI_clamp (by omega)]; show okw (((14 + (6 * n202)) + 1) + n229) (nI n226); exact ⟨fun h => by exfalso; omega, fun h => by exfalso; omega, fun h => by exfalso; omega, fun h => by exfalso; omega, fun h => by exfalso; omega, fun h => by exfalso; omega, fun a1 a2 a3 => by exfalso; omega, fun a1 a2 a3 => by exfalso; omega, fun _ _ _ _ => (gl_of (n := n226) (by omega)), fun a1 a2 a3 => by exfalso; omega, fun a1 a2 => by exfalso; omega⟩) (fun M C F I K1 hC => ?_)
                    have K := K.step K1 (by decide)
                    have hm : C 100 12 = 0 → C0 100 12 = 0 := fun z => hm ((congrFun (K1 100 (by decide)).1 12).symm.trans z)
                    have ham : (C0 100 8).toInt ≤ (C 100 8).toInt := by rw [(K1 100 (by decide)).1]; exact ham
                    have hgd : C 100 12 = 0 := by rw [(K1 100 (by decide)).1]; exact hgd
                    have en229 : C 114 (14 + (6 * n202)) = nI n229 := by rw [hC, nI_clamp (by omega), pk_un (by omega)]; exact en229
                    refine g_aload_n X dX8_readRoad_177 rfl (j := 4) rfl ?_
                    refine i_get X F 100 rfl rfl fk_X8_31 dX8_readRoad_178 rfl ?_
                    refine g_iload_n X dX8_readRoad_181 rfl (j := 1) rfl ?_
                    refine g_dup2 X dX8_readRoad_182 rfl rfl ?_
                    refine i_iald X F 114 rfl rfl dX8_readRoad_183 (vp_in_nI (by omega) (by decide)) (v := nI n229) (by rw [nI_clamp (by omega)]; exact en229) ?_
                    refine g_iconst X dX8_readRoad_184 (v := 1) (by decide) ?_
                    refine g_iadd X dX8_readRoad_185 ?_
                    refine Go.top (v := .int (nI (n229 + 1))) (congrArg Value.int (nI_add n229 1)) ?_
                    refine i_iast X F I 114 rfl (fun _ => rfl) dX8_readRoad_186 (vp_in_nI (by omega) (by decide)) (by rw [nI_clamp (by omega)]; show okw (14 + (6 * n202)) (nI (n229 + 1)); exact ⟨fun h => by exfalso; omega, fun h => by exfalso; omega, fun h => by exfalso; omega, fun h => by exfalso; omega, fun h => by exfalso; omega, fun h => by exfalso; omega, fun _ _ _ => (rg_of (n := (n229 + 1)) (by omega) (by omega) (by omega)), fun a1 a2 a3 => by exfalso; omega, fun a1 a2 a3 a4 => by exfalso; omega, fun a1 a2 a3 => by exfalso; omega, fun a1 a2 => by exfalso; omega⟩) (fun M C F I K1 hC => ?_)
                    have K := K.step K1 (by decide)
                    have hm : C 100 12 = 0 → C0 100 12 = 0 := fun z => hm ((congrFun (K1 100 (by decide)).1 12).symm.trans z)
                    have ham : (C0 100 8).toInt ≤ (C 100 8).toInt := by rw [(K1 100 (by decide)).1]; exact ham
                    have hgd : C 100 12 = 0 := by rw [(K1 100 (by decide)).1]; exact hgd
                    refine g_aload_n X dX8_readRoad_187 rfl (j := 4) rfl ?_
                    refine i_get X F 100 rfl rfl fk_X8_31 dX8_readRoad_188 rfl ?_
                    refine g_iconst X dX8_readRoad_191 (v := 5) (by decide) ?_
                    refine g_dup2 X dX8_readRoad_192 rfl rfl ?_
                    refine i_iald X F 114 rfl rfl dX8_readRoad_193 (vp_in_iff.mpr (by decide)) rfl ?_
                    refine Go.gen (fun o230 => ?_)
                    refine g_iconst X dX8_readRoad_194 (v := 1) (by decide) ?_
                    refine g_iadd X dX8_readRoad_195 ?_
                    refine Go.gen (fun o231 => ?_)
                    refine i_iast X F I 114 rfl (fun _ => rfl) dX8_readRoad_196 (vp_in_iff.mpr (by decide)) (by show okw (5) (o231); exact ⟨fun h => by exfalso; omega, fun h => by exfalso; omega, fun h => by exfalso; omega, fun h => by exfalso; omega, fun h => by exfalso; omega, fun h => by exfalso; omega, fun a1 a2 a3 => by exfalso; omega, fun a1 a2 a3 => by exfalso; omega, fun a1 a2 a3 a4 => by exfalso; omega, fun a1 a2 a3 => by exfalso; omega, fun a1 a2 => by exfalso; omega⟩) (fun M C F I K1 hC => ?_)
                    have K := K.step K1 (by decide)
                    have hm : C 100 12 = 0 → C0 100 12 = 0 := fun z => hm ((congrFun (K1 100 (by decide)).1 12).symm.trans z)
                    have ham : (C0 100 8).toInt ≤ (C 100 8).toInt := by rw [(K1 100 (by decide)).1]; exact ham
                    have hgd : C 100 12 = 0 := by rw [(K1 100 (by decide)).1]; exact hgd
                    exact g_vret X hrt dX8_readRoad_197 (by decide) (by decide) ⟨C, D, F, I, K, ham⟩
                · skip
                  refine g_aload_n X dX8_readRoad_118 rfl (j := 4) rfl ?_
                  refine g_iconst X dX8_readRoad_119 (v := 2) (by decide) ?_
                  refine g_callVV X (s_X8_errs l G F I (2 : Int32) (by decide)) lk_X8_183 (F.1 100 rfl).2 (F.1 100 rfl).1 rfl rfl dX8_readRoad_120 (Nat.le_of_ble_eq_true rfl) ⟨by decide, by decide⟩ ⟨by decide, by decide⟩ (fun L M hp => ?_)
                  obtain ⟨C, D, F, I, K1, hr⟩ := hp
                  have K := K.step K1 (by decide)
                  have en100 : C 114 (4) = nI n100 := by rw [(K1 114 (by decide)).1]; exact en100
                  obtain ⟨hr, hr8⟩ := hr
                  have hm : C 100 12 = 0 → C0 100 12 = 0 := fun z => absurd z hr
                  have hro : C 100 12 = 0 → (C 114 (14 + 6 * n202)).toInt ≤ 3 := fun z => by rw [(K1 114 (by decide)).1]; exact absurd z hr
                  have hgd := hr
                  have ham : (C0 100 8).toInt ≤ (C 100 8).toInt := Int.le_trans ham (by rw [hr8]; exact Int.le_refl _)
                  refine g_aload_n X dX8_readRoad_123 rfl (j := 4) rfl ?_
                  refine g_callVI X (s_X8_readPost l G F I  ) lk_X8_205 (F.1 100 rfl).2 (F.1 100 rfl).1 rfl rfl dX8_readRoad_124 (Nat.le_of_ble_eq_true rfl) ⟨by decide, by decide⟩ ⟨by decide, by decide⟩ (fun r232 L M hp => ?_)
                  obtain ⟨C, D, F, I, K1, hr⟩ := hp
                  have K := K.step K1 (by decide)
                  have en100 : C 114 (4) = nI n100 := by rw [(K1 114 (by decide)).1]; exact en100
                  obtain ⟨hrat, hrp, ⟨n233, hn233, en233⟩⟩ := hr
                  subst en233
                  have hm : C 100 12 = 0 → C0 100 12 = 0 := fun z => hm (hrp z).1
                  have hro : C 100 12 = 0 → (C 114 (14 + 6 * n202)).toInt ≤ 3 := fun z => by rw [(K1 114 (by decide)).1]; exact hro (hrp z).1
                  have ham : (C0 100 8).toInt ≤ (C 100 8).toInt := Int.le_trans ham hrat
                  refine g_istore X dX8_readRoad_127 (by decide) (lv2 := [(4, .int (nI n233)), (3, .int (nI (14 + (6 * n202)))), (2, .int (nI n202)), (1, .int 1), (0, .ref (a 100))]) rfl ?_
                  refine g_goto X dX8_readRoad_129 (tgt := 152) (by decide) ?_
                  refine g_aload_n X dX8_readRoad_152 rfl (j := 4) rfl ?_
                  refine g_callVI X (s_X8_good l G F I  ) lk_X8_161 (F.1 100 rfl).2 (F.1 100 rfl).1 rfl rfl dX8_readRoad_153 (Nat.le_of_ble_eq_true rfl) ⟨by decide, by decide⟩ ⟨by decide, by decide⟩ (fun r234 L M hp => ?_)
                  obtain ⟨C, D, F, I, K1, hr⟩ := hp
                  have K := K.step K1 (by decide)
                  have hm : C 100 12 = 0 → C0 100 12 = 0 := fun z => hm ((congrFun (K1 100 (by decide)).1 12).symm.trans z)
                  have hro : C 100 12 = 0 → (C 114 (14 + 6 * n202)).toInt ≤ 3 := fun z => by rw [(K1 114 (by decide)).1]; exact hro ((congrFun (K1 100 (by decide)).1 12).symm.trans z)
                  have en100 : C 114 (4) = nI n100 := by rw [(K1 114 (by decide)).1]; exact en100
                  have ham : (C0 100 8).toInt ≤ (C 100 8).toInt := by rw [(K1 100 (by decide)).1]; exact ham
                  rcases hr with ⟨rfl, hg235⟩ | ⟨rfl, hg235⟩
                  · skip
                    have hgd := hg235
                    refine g_if_ne X dX8_readRoad_156 (tgt := 160) (by decide) (fun q => absurd (by decide) q) (fun _ => ?_)
                    exact g_vret X hrt dX8_readRoad_159 (by decide) (by decide) ⟨C, D, F, I, K, ham⟩
                  · skip
                    have hgd := hg235
                    have hmy := hm hgd
                    have hroy := hro hgd
                    refine g_if_ne X dX8_readRoad_156 (tgt := 160) (by decide) (fun _ => ?_) (fun q => absurd q (by decide))
                    refine g_aload_n X dX8_readRoad_160 rfl (j := 4) rfl ?_
                    refine i_get X F 100 rfl rfl fk_X8_31 dX8_readRoad_161 rfl ?_
                    refine g_iload_n X dX8_readRoad_164 rfl (j := 1) rfl ?_
                    refine g_iconst X dX8_readRoad_165 (v := 1) (by decide) ?_
                    refine g_iadd X dX8_readRoad_166 ?_
                    refine Go.top (v := .int (nI ((14 + (6 * n202)) + 1))) (congrArg Value.int (nI_add (14 + (6 * n202)) 1)) ?_
                    refine g_aload_n X dX8_readRoad_167 rfl (j := 4) rfl ?_
                    refine i_get X F 100 rfl rfl fk_X8_31 dX8_readRoad_168 rfl ?_
                    refine g_iload_n X dX8_readRoad_171 rfl (j := 1) rfl ?_
                    obtain ⟨n236, hn236, en236⟩ := rg_nat ((show okw (14 + (6 * n202)) (C 114 (14 + (6 * n202))) from I 114 (14 + (6 * n202))).2.2.2.2.2.2.1 (by omega) (by omega) (by omega)) (by decide)
                    refine i_iald X F 114 rfl rfl dX8_readRoad_172 (vp_in_nI (by omega) (by decide)) (v := nI n236) (by rw [nI_clamp (by omega)]; exact en236) ?_
                    have hlen236 : n236 ≤ 3 := by have z := hroy; rw [en236, nI_toInt (by omega)] at z; omega
                    refine g_iadd X dX8_readRoad_173 ?_
                    refine Go.top (v := .int (nI (((14 + (6 * n202)) + 1) + n236))) (congrArg Value.int (nI_add ((14 + (6 * n202)) + 1) n236)) ?_
                    refine g_iload X dX8_readRoad_174 (j := 0) rfl ?_
                    refine i_iast X F I 114 rfl (fun _ => rfl) dX8_readRoad_176 (vp_in_nI (by omega) (by decide)) (by rw [nI_clamp (by omega)]; show okw (((14 + (6 * n202)) + 1) + n236) (nI n233); exact ⟨fun h => by exfalso; omega, fun h => by exfalso; omega, fun h => by exfalso; omega, fun h => by exfalso; omega, fun h => by exfalso; omega, fun h => by exfalso; omega, fun a1 a2 a3 => by exfalso; omega, fun a1 a2 a3 => by exfalso; omega, fun _ _ _ _ => (gl_of (n := n233) (by omega)), fun a1 a2 a3 => by exfalso; omega, fun a1 a2 => by exfalso; omega⟩) (fun M C F I K1 hC => ?_)
                    have K := K.step K1 (by decide)
                    have hm : C 100 12 = 0 → C0 100 12 = 0 := fun z => hm ((congrFun (K1 100 (by decide)).1 12).symm.trans z)
                    have ham : (C0 100 8).toInt ≤ (C 100 8).toInt := by rw [(K1 100 (by decide)).1]; exact ham
                    have hgd : C 100 12 = 0 := by rw [(K1 100 (by decide)).1]; exact hgd
                    have en236 : C 114 (14 + (6 * n202)) = nI n236 := by rw [hC, nI_clamp (by omega), pk_un (by omega)]; exact en236
                    refine g_aload_n X dX8_readRoad_177 rfl (j := 4) rfl ?_
                    refine i_get X F 100 rfl rfl fk_X8_31 dX8_readRoad_178 rfl ?_
                    refine g_iload_n X dX8_readRoad_181 rfl (j := 1) rfl ?_
                    refine g_dup2 X dX8_readRoad_182 rfl rfl ?_
                    refine i_iald X F 114 rfl rfl dX8_readRoad_183 (vp_in_nI (by omega) (by decide)) (v := nI n236) (by rw [nI_clamp (by omega)]; exact en236) ?_
                    refine g_iconst X dX8_readRoad_184 (v := 1) (by decide) ?_
                    refine g_iadd X dX8_readRoad_185 ?_
                    refine Go.top (v := .int (nI (n236 + 1))) (congrArg Value.int (nI_add n236 1)) ?_
                    refine i_iast X F I 114 rfl (fun _ => rfl) dX8_readRoad_186 (vp_in_nI (by omega) (by decide)) (by rw [nI_clamp (by omega)]; show okw (14 + (6 * n202)) (nI (n236 + 1)); exact ⟨fun h => by exfalso; omega, fun h => by exfalso; omega, fun h => by exfalso; omega, fun h => by exfalso; omega, fun h => by exfalso; omega, fun h => by exfalso; omega, fun _ _ _ => (rg_of (n := (n236 + 1)) (by omega) (by omega) (by omega)), fun a1 a2 a3 => by exfalso; omega, fun a1 a2 a3 a4 => by exfalso; omega, fun a1 a2 a3 => by exfalso; omega, fun a1 a2 => by exfalso; omega⟩) (fun M C F I K1 hC => ?_)
                    have K := K.step K1 (by decide)
                    have hm : C 100 12 = 0 → C0 100 12 = 0 := fun z => hm ((congrFun (K1 100 (by decide)).1 12).symm.trans z)
                    have ham : (C0 100 8).toInt ≤ (C 100 8).toInt := by rw [(K1 100 (by decide)).1]; exact ham
                    have hgd : C 100 12 = 0 := by rw [(K1 100 (by decide)).1]; exact hgd
                    refine g_aload_n X dX8_readRoad_187 rfl (j := 4) rfl ?_
                    refine i_get X F 100 rfl rfl fk_X8_31 dX8_readRoad_188 rfl ?_
                    refine g_iconst X dX8_readRoad_191 (v := 5) (by decide) ?_
                    refine g_dup2 X dX8_readRoad_192 rfl rfl ?_
                    refine i_iald X F 114 rfl rfl dX8_readRoad_193 (vp_in_iff.mpr (by decide)) rfl ?_
                    refine Go.gen (fun o237 => ?_)
                    refine g_iconst X dX8_readRoad_194 (v := 1) (by decide) ?_
                    refine g_iadd X dX8_readRoad_195 ?_
                    refine Go.gen (fun o238 => ?_)
                    refine i_iast X F I 114 rfl (fun _ => rfl) dX8_readRoad_196 (vp_in_iff.mpr (by decide)) (by show okw (5) (o238); exact ⟨fun h => by exfalso; omega, fun h => by exfalso; omega, fun h => by exfalso; omega, fun h => by exfalso; omega, fun h => by exfalso; omega, fun h => by exfalso; omega, fun a1 a2 a3 => by exfalso; omega, fun a1 a2 a3 => by exfalso; omega, fun a1 a2 a3 a4 => by exfalso; omega, fun a1 a2 a3 => by exfalso; omega, fun a1 a2 => by exfalso; omega⟩) (fun M C F I K1 hC => ?_)
                    have K := K.step K1 (by decide)
                    have hm : C 100 12 = 0 → C0 100 12 = 0 := fun z => hm ((congrFun (K1 100 (by decide)).1 12).symm.trans z)
                    have ham : (C0 100 8).toInt ≤ (C 100 8).toInt := by rw [(K1 100 (by decide)).1]; exact ham
                    have hgd : C 100 12 = 0 := by rw [(K1 100 (by decide)).1]; exact hgd
                    exact g_vret X hrt dX8_readRoad_197 (by decide) (by decide) ⟨C, D, F, I, K, ham⟩
          · skip
            refine g_if_eq X dX8_readRoad_92 (tgt := 132) (by decide) (fun _ => ?_) (fun q => absurd (by decide) q)
            refine g_bipush X dX8_readRoad_132 (v := 10) (by decide) ?_
            refine g_aload_n X dX8_readRoad_134 rfl (j := 4) rfl ?_
            refine g_ldcS X (tx := "in") (i := 18) (by decide) dX8_readRoad_135 ?_
            refine g_iconst X dX8_readRoad_137 (v := 0) (by decide) ?_
            refine g_aload_n X dX8_readRoad_138 rfl (j := 4) rfl ?_
            refine i_get X F 100 rfl rfl fk_X8_31 dX8_readRoad_139 rfl ?_
            refine g_iconst X dX8_readRoad_142 (v := 3) (by decide) ?_
            obtain ⟨n239, hn239, en239⟩ := rg_nat ((show okw (3) (C 114 (3)) from I 114 (3)).2.2.1 rfl) (by decide)
            refine i_iald X F 114 rfl rfl dX8_readRoad_143 (vp_in_iff.mpr (by decide)) (v := nI n239) (by exact en239) ?_
            refine g_iconst X dX8_readRoad_144 (v := 1) (by decide) ?_
            refine g_isub X dX8_readRoad_145 ?_
            have hs240 := nI_m1 (n := n239) (by omega)
            refine g_callVI X (s_X8_toldBy l G F I 18 (by decide) (0 : Int32) ((nI n239 - 1)) ) lk_X8_197 (F.1 100 rfl).2 (F.1 100 rfl).1 rfl rfl dX8_readRoad_146 (Nat.le_of_ble_eq_true rfl) ⟨by decide, by decide⟩ ⟨by decide, by decide⟩ (fun r241 L M hp => ?_)
            obtain ⟨C, D, F, I, K1, hr⟩ := hp
            have K := K.step K1 (by decide)
            have en100 : C 114 (4) = nI n100 := by rw [(K1 114 (by decide)).1]; exact en100
            obtain ⟨hrat, hrm, hnum⟩ := hr
            have hm : C 100 12 = 0 → C0 100 12 = 0 := fun z => hm (hrm z)
            have hro : C 100 12 = 0 → (C 114 (14 + 6 * n202)).toInt ≤ 3 := fun z => by rw [(K1 114 (by decide)).1]; exact hro (hrm z)
            have ham : (C0 100 8).toInt ≤ (C 100 8).toInt := Int.le_trans ham hrat
            obtain ⟨n242, hn242, en242⟩ := num_nat (B := 3) (by decide) hnum (by omega)
            subst en242
            refine g_iadd X dX8_readRoad_149 ?_
            refine Go.top (v := .int (nI (10 + n242))) (congrArg Value.int (nI_add 10 n242)) ?_
            refine g_istore X dX8_readRoad_150 (by decide) (lv2 := [(4, .int (nI (10 + n242))), (3, .int (nI (14 + (6 * n202)))), (2, .int (nI n202)), (1, .int 1), (0, .ref (a 100))]) rfl ?_
            refine g_aload_n X dX8_readRoad_152 rfl (j := 4) rfl ?_
            refine g_callVI X (s_X8_good l G F I  ) lk_X8_161 (F.1 100 rfl).2 (F.1 100 rfl).1 rfl rfl dX8_readRoad_153 (Nat.le_of_ble_eq_true rfl) ⟨by decide, by decide⟩ ⟨by decide, by decide⟩ (fun r243 L M hp => ?_)
            obtain ⟨C, D, F, I, K1, hr⟩ := hp
            have K := K.step K1 (by decide)
            have hm : C 100 12 = 0 → C0 100 12 = 0 := fun z => hm ((congrFun (K1 100 (by decide)).1 12).symm.trans z)
            have hro : C 100 12 = 0 → (C 114 (14 + 6 * n202)).toInt ≤ 3 := fun z => by rw [(K1 114 (by decide)).1]; exact hro ((congrFun (K1 100 (by decide)).1 12).symm.trans z)
            have en100 : C 114 (4) = nI n100 := by rw [(K1 114 (by decide)).1]; exact en100
            have ham : (C0 100 8).toInt ≤ (C 100 8).toInt := by rw [(K1 100 (by decide)).1]; exact ham
            rcases hr with ⟨rfl, hg244⟩ | ⟨rfl, hg244⟩
            · skip
              have hgd := hg244
              refine g_if_ne X dX8_readRoad_156 (tgt := 160) (by decide) (fun q => absurd (by decide) q) (fun _ => ?_)
              exact g_vret X hrt dX8_readRoad_159 (by decide) (by decide) ⟨C, D, F, I, K, ham⟩
            · skip
              have hgd := hg244
              have hmy := hm hgd
              have hroy := hro hgd
              refine g_if_ne X dX8_readRoad_156 (tgt := 160) (by decide) (fun _ => ?_) (fun q => absurd q (by decide))
              refine g_aload_n X dX8_readRoad_160 rfl (j := 4) rfl ?_
              refine i_get X F 100 rfl rfl fk_X8_31 dX8_readRoad_161 rfl ?_
              refine g_iload_n X dX8_readRoad_164 rfl (j := 1) rfl ?_
              refine g_iconst X dX8_readRoad_165 (v := 1) (by decide) ?_
              refine g_iadd X dX8_readRoad_166 ?_
              refine Go.top (v := .int (nI ((14 + (6 * n202)) + 1))) (congrArg Value.int (nI_add (14 + (6 * n202)) 1)) ?_
              refine g_aload_n X dX8_readRoad_167 rfl (j := 4) rfl ?_
              refine i_get X F 100 rfl rfl fk_X8_31 dX8_readRoad_168 rfl ?_
              refine g_iload_n X dX8_readRoad_171 rfl (j := 1) rfl ?_
              obtain ⟨n245, hn245, en245⟩ := rg_nat ((show okw (14 + (6 * n202)) (C 114 (14 + (6 * n202))) from I 114 (14 + (6 * n202))).2.2.2.2.2.2.1 (by omega) (by omega) (by omega)) (by decide)
              refine i_iald X F 114 rfl rfl dX8_readRoad_172 (vp_in_nI (by omega) (by decide)) (v := nI n245) (by rw [nI_clamp (by omega)]; exact en245) ?_
              have hlen245 : n245 ≤ 3 := by have z := hroy; rw [en245, nI_toInt (by omega)] at z; omega
              refine g_iadd X dX8_readRoad_173 ?_
              refine Go.top (v := .int (nI (((14 + (6 * n202)) + 1) + n245))) (congrArg Value.int (nI_add ((14 + (6 * n202)) + 1) n245)) ?_
              refine g_iload X dX8_readRoad_174 (j := 0) rfl ?_
              refine i_iast X F I 114 rfl (fun _ => rfl) dX8_readRoad_176 (vp_in_nI (by omega) (by decide)) (by rw [nI_clamp (by omega)]; show okw (((14 + (6 * n202)) + 1) + n245) (nI (10 + n242)); exact ⟨fun h => by exfalso; omega, fun h => by exfalso; omega, fun h => by exfalso; omega, fun h => by exfalso; omega, fun h => by exfalso; omega, fun h => by exfalso; omega, fun a1 a2 a3 => by exfalso; omega, fun a1 a2 a3 => by exfalso; omega, fun _ _ _ _ => (gl_of (n := (10 + n242)) (by omega)), fun a1 a2 a3 => by exfalso; omega, fun a1 a2 => by exfalso; omega⟩) (fun M C F I K1 hC => ?_)
              have K := K.step K1 (by decide)
              have hm : C 100 12 = 0 → C0 100 12 = 0 := fun z => hm ((congrFun (K1 100 (by decide)).1 12).symm.trans z)
              have ham : (C0 100 8).toInt ≤ (C 100 8).toInt := by rw [(K1 100 (by decide)).1]; exact ham
              have hgd : C 100 12 = 0 := by rw [(K1 100 (by decide)).1]; exact hgd
              have en245 : C 114 (14 + (6 * n202)) = nI n245 := by rw [hC, nI_clamp (by omega), pk_un (by omega)]; exact en245
              refine g_aload_n X dX8_readRoad_177 rfl (j := 4) rfl ?_
              refine i_get X F 100 rfl rfl fk_X8_31 dX8_readRoad_178 rfl ?_
              refine g_iload_n X dX8_readRoad_181 rfl (j := 1) rfl ?_
              refine g_dup2 X dX8_readRoad_182 rfl rfl ?_
              refine i_iald X F 114 rfl rfl dX8_readRoad_183 (vp_in_nI (by omega) (by decide)) (v := nI n245) (by rw [nI_clamp (by omega)]; exact en245) ?_
              refine g_iconst X dX8_readRoad_184 (v := 1) (by decide) ?_
              refine g_iadd X dX8_readRoad_185 ?_
              refine Go.top (v := .int (nI (n245 + 1))) (congrArg Value.int (nI_add n245 1)) ?_
              refine i_iast X F I 114 rfl (fun _ => rfl) dX8_readRoad_186 (vp_in_nI (by omega) (by decide)) (by rw [nI_clamp (by omega)]; show okw (14 + (6 * n202)) (nI (n245 + 1)); exact ⟨fun h => by exfalso; omega, fun h => by exfalso; omega, fun h => by exfalso; omega, fun h => by exfalso; omega, fun h => by exfalso; omega, fun h => by exfalso; omega, fun _ _ _ => (rg_of (n := (n245 + 1)) (by omega) (by omega) (by omega)), fun a1 a2 a3 => by exfalso; omega, fun a1 a2 a3 a4 => by exfalso; omega, fun a1 a2 a3 => by exfalso; omega, fun a1 a2 => by exfalso; omega⟩) (fun M C F I K1 hC => ?_)
              have K := K.step K1 (by decide)
              have hm : C 100 12 = 0 → C0 100 12 = 0 := fun z => hm ((congrFun (K1 100 (by decide)).1 12).symm.trans z)
              have ham : (C0 100 8).toInt ≤ (C 100 8).toInt := by rw [(K1 100 (by decide)).1]; exact ham
              have hgd : C 100 12 = 0 := by rw [(K1 100 (by decide)).1]; exact hgd
              refine g_aload_n X dX8_readRoad_187 rfl (j := 4) rfl ?_
              refine i_get X F 100 rfl rfl fk_X8_31 dX8_readRoad_188 rfl ?_
              refine g_iconst X dX8_readRoad_191 (v := 5) (by decide) ?_
              refine g_dup2 X dX8_readRoad_192 rfl rfl ?_
              refine i_iald X F 114 rfl rfl dX8_readRoad_193 (vp_in_iff.mpr (by decide)) rfl ?_
              refine Go.gen (fun o246 => ?_)
              refine g_iconst X dX8_readRoad_194 (v := 1) (by decide) ?_
              refine g_iadd X dX8_readRoad_195 ?_
              refine Go.gen (fun o247 => ?_)
              refine i_iast X F I 114 rfl (fun _ => rfl) dX8_readRoad_196 (vp_in_iff.mpr (by decide)) (by show okw (5) (o247); exact ⟨fun h => by exfalso; omega, fun h => by exfalso; omega, fun h => by exfalso; omega, fun h => by exfalso; omega, fun h => by exfalso; omega, fun h => by exfalso; omega, fun a1 a2 a3 => by exfalso; omega, fun a1 a2 a3 => by exfalso; omega, fun a1 a2 a3 a4 => by exfalso; omega, fun a1 a2 a3 => by exfalso; omega, fun a1 a2 => by exfalso; omega⟩) (fun M C F I K1 hC => ?_)
              have K := K.step K1 (by decide)
              have hm : C 100 12 = 0 → C0 100 12 = 0 := fun z => hm ((congrFun (K1 100 (by decide)).1 12).symm.trans z)
              have ham : (C0 100 8).toInt ≤ (C 100 8).toInt := by rw [(K1 100 (by decide)).1]; exact ham
              have hgd : C 100 12 = 0 := by rw [(K1 100 (by decide)).1]; exact hgd
              exact g_vret X hrt dX8_readRoad_197 (by decide) (by decide) ⟨C, D, F, I, K, ham⟩
set_option maxHeartbeats 4000000 in
set_option maxRecDepth 100000 in
theorem s_X8_readArm (l : Launch) (G : va_G) {cy : Nat → ClassId} {L : List Nat} {M : Nat → va_E} {a : Nat → Nat} {act : Nat → Bool} {C0 : Nat → Nat → Int32} {D0 : Nat → Nat → Int64} {R : Nat → Nat → Option Nat} (F : WI L M a act (ent cy a C0 D0 R)) (I : Inv C0)   : MV l G cy yX8_readArm cX8_readArm 3 none 4 0 0 [.ref (a 100)] L M (fun L2 M2 => ∃ C2 D2, WI L2 M2 a act (ent cy a C2 D2 R) ∧ Inv C2 ∧ Kp [100, 114] C0 D0 C2 D2 ∧ (C0 100 8).toInt ≤ (C2 100 8).toInt) := by
  refine MV.of (own := RX8) rfl (by decide) (Nat.le_of_ble_eq_true rfl) ?_
  intro p e s m below meth c A X hrt hnm
  obtain ⟨C, D, hC0, hD0, F, I, K⟩ : ∃ C D, C = C0 ∧ D = D0 ∧ WI L M a act (ent cy a C D R) ∧ Inv C ∧ Kp [100, 114] C0 D0 C D := ⟨C0, D0, rfl, rfl, F, I, Kp.rf⟩
  have ham : (C0 100 8).toInt ≤ (C 100 8).toInt := by rw [hC0]; exact Int.le_refl _
  have hm : C 100 12 = 0 → C0 100 12 = 0 := fun z => by rw [hC0] at z; exact z
  refine g_bipush X dX8_readArm_0 (v := 14) (by decide) ?_
  refine g_bipush X dX8_readArm_2 (v := 6) (by decide) ?_
  refine g_aload_n X dX8_readArm_4 rfl (j := 0) rfl ?_
  refine g_callVI X (s_X8_readPost l G F I  ) lk_X8_205 (F.1 100 rfl).2 (F.1 100 rfl).1 rfl rfl dX8_readArm_5 (Nat.le_of_ble_eq_true rfl) ⟨by decide, by decide⟩ ⟨by decide, by decide⟩ (fun r1 L M hp => ?_)
  obtain ⟨C, D, F, I, K1, hr⟩ := hp
  have K := K.step K1 (by decide)
  obtain ⟨hrat, hrp, ⟨n2, hn2, en2⟩⟩ := hr
  subst en2
  have hm : C 100 12 = 0 → C0 100 12 = 0 := fun z => hm (hrp z).1
  have ham : (C0 100 8).toInt ≤ (C 100 8).toInt := Int.le_trans ham hrat
  refine g_imul X dX8_readArm_8 ?_
  refine Go.top (v := .int (nI (6 * n2))) (congrArg Value.int (pk_mul 6 n2)) ?_
  refine g_iadd X dX8_readArm_9 ?_
  refine Go.top (v := .int (nI (14 + (6 * n2)))) (congrArg Value.int (nI_add 14 (6 * n2))) ?_
  refine g_istore_n X dX8_readArm_10 rfl (by decide) (lv2 := [(1, .int (nI (14 + (6 * n2)))), (0, .ref (a 100))]) rfl ?_
  refine g_aload_n X dX8_readArm_11 rfl (j := 1) rfl ?_
  refine g_iconst X dX8_readArm_12 (v := 0) (by decide) ?_
  refine g_aload_n X dX8_readArm_13 rfl (j := 1) rfl ?_
  refine g_callVI X (s_X8_good l G F I  ) lk_X8_161 (F.1 100 rfl).2 (F.1 100 rfl).1 rfl rfl dX8_readArm_14 (Nat.le_of_ble_eq_true rfl) ⟨by decide, by decide⟩ ⟨by decide, by decide⟩ (fun r3 L M hp => ?_)
  obtain ⟨C, D, F, I, K1, hr⟩ := hp
  have K := K.step K1 (by decide)
  have hm : C 100 12 = 0 → C0 100 12 = 0 := fun z => hm ((congrFun (K1 100 (by decide)).1 12).symm.trans z)
  have ham : (C0 100 8).toInt ≤ (C 100 8).toInt := by rw [(K1 100 (by decide)).1]; exact ham
  rcases hr with ⟨rfl, hg4⟩ | ⟨rfl, hg4⟩
  · skip
    have hgd := hg4
    refine g_if_eq X dX8_readArm_17 (tgt := 31) (by decide) (fun _ => ?_) (fun q => absurd (by decide) q)
    refine g_iconst X dX8_readArm_31 (v := 0) (by decide) ?_
    refine g_callVI X (s_X8_number l G F I (0 : Int32) (0 : Int32) ) lk_X8_191 (F.1 100 rfl).2 (F.1 100 rfl).1 rfl rfl dX8_readArm_32 (Nat.le_of_ble_eq_true rfl) ⟨by decide, by decide⟩ ⟨by decide, by decide⟩ (fun r5 L M hp => ?_)
    obtain ⟨C, D, F, I, K1, hr⟩ := hp
    have K := K.step K1 (by decide)
    obtain ⟨hrat, hng, hnum⟩ := hr
    have hm : C 100 12 = 0 → C0 100 12 = 0 := fun z => hm (hng z).1
    have ham : (C0 100 8).toInt ≤ (C 100 8).toInt := Int.le_trans ham hrat
    obtain ⟨n6, hn6, en6⟩ := num_nat (B := 0) (by decide) hnum (by have kk : (0 : Int32).toInt = 0 := (by decide); omega)
    subst en6
    refine g_istore_n X dX8_readArm_35 rfl (by decide) (lv2 := [(2, .int (nI n6)), (1, .int (nI (14 + (6 * n2)))), (0, .ref (a 100))]) rfl ?_
    refine g_aload_n X dX8_readArm_36 rfl (j := 2) rfl ?_
    refine g_callVI X (s_X8_good l G F I  ) lk_X8_161 (F.1 100 rfl).2 (F.1 100 rfl).1 rfl rfl dX8_readArm_37 (Nat.le_of_ble_eq_true rfl) ⟨by decide, by decide⟩ ⟨by decide, by decide⟩ (fun r7 L M hp => ?_)
    obtain ⟨C, D, F, I, K1, hr⟩ := hp
    have K := K.step K1 (by decide)
    have hm : C 100 12 = 0 → C0 100 12 = 0 := fun z => hm ((congrFun (K1 100 (by decide)).1 12).symm.trans z)
    have ham : (C0 100 8).toInt ≤ (C 100 8).toInt := by rw [(K1 100 (by decide)).1]; exact ham
    rcases hr with ⟨rfl, hg8⟩ | ⟨rfl, hg8⟩
    · skip
      have hgd := hg8
      refine g_if_ne X dX8_readArm_40 (tgt := 44) (by decide) (fun q => absurd (by decide) q) (fun _ => ?_)
      exact g_vret X hrt dX8_readArm_43 (by decide) (by decide) ⟨C, D, F, I, K, ham⟩
    · skip
      have hgd := hg8
      have hmy := hm hgd
      refine g_if_ne X dX8_readArm_40 (tgt := 44) (by decide) (fun _ => ?_) (fun q => absurd q (by decide))
      refine g_aload_n X dX8_readArm_44 rfl (j := 2) rfl ?_
      refine i_get X F 100 rfl rfl fk_X8_31 dX8_readArm_45 rfl ?_
      refine g_iload_n X dX8_readArm_48 rfl (j := 1) rfl ?_
      refine g_iconst X dX8_readArm_49 (v := 1) (by decide) ?_
      refine g_iadd X dX8_readArm_50 ?_
      refine Go.top (v := .int (nI ((14 + (6 * n2)) + 1))) (congrArg Value.int (nI_add (14 + (6 * n2)) 1)) ?_
      refine g_iconst X dX8_readArm_51 (v := 4) (by decide) ?_
      refine g_iadd X dX8_readArm_52 ?_
      refine Go.top (v := .int (nI (((14 + (6 * n2)) + 1) + 4))) (congrArg Value.int (nI_add ((14 + (6 * n2)) + 1) 4)) ?_
      refine g_iload_n X dX8_readArm_53 rfl (j := 0) rfl ?_
      refine i_iast X F I 114 rfl (fun _ => rfl) dX8_readArm_54 (vp_in_nI (by omega) (by decide)) (by rw [nI_clamp (by omega)]; show okw (((14 + (6 * n2)) + 1) + 4) (nI n6); exact ⟨fun h => by exfalso; omega, fun h => by exfalso; omega, fun h => by exfalso; omega, fun h => by exfalso; omega, fun h => by exfalso; omega, fun h => by exfalso; omega, fun a1 a2 a3 => by exfalso; omega, fun _ _ _ => (rg_of (n := n6) (by omega) (by omega) (by omega)), fun a1 a2 a3 a4 => by exfalso; omega, fun a1 a2 a3 => by exfalso; omega, fun a1 a2 => by exfalso; omega⟩) (fun M C F I K1 hC => ?_)
      have K := K.step K1 (by decide)
      have hm : C 100 12 = 0 → C0 100 12 = 0 := fun z => hm ((congrFun (K1 100 (by decide)).1 12).symm.trans z)
      have ham : (C0 100 8).toInt ≤ (C 100 8).toInt := by rw [(K1 100 (by decide)).1]; exact ham
      have hgd : C 100 12 = 0 := by rw [(K1 100 (by decide)).1]; exact hgd
      refine g_aload_n X dX8_readArm_55 rfl (j := 2) rfl ?_
      refine i_get X F 100 rfl rfl fk_X8_31 dX8_readArm_56 rfl ?_
      refine g_bipush X dX8_readArm_59 (v := 6) (by decide) ?_
      refine g_dup2 X dX8_readArm_61 rfl rfl ?_
      refine i_iald X F 114 rfl rfl dX8_readArm_62 (vp_in_iff.mpr (by decide)) rfl ?_
      refine Go.gen (fun o9 => ?_)
      refine g_iconst X dX8_readArm_63 (v := 1) (by decide) ?_
      refine g_iadd X dX8_readArm_64 ?_
      refine Go.gen (fun o10 => ?_)
      refine i_iast X F I 114 rfl (fun _ => rfl) dX8_readArm_65 (vp_in_iff.mpr (by decide)) (by show okw (6) (o10); exact ⟨fun h => by exfalso; omega, fun h => by exfalso; omega, fun h => by exfalso; omega, fun h => by exfalso; omega, fun h => by exfalso; omega, fun h => by exfalso; omega, fun a1 a2 a3 => by exfalso; omega, fun a1 a2 a3 => by exfalso; omega, fun a1 a2 a3 a4 => by exfalso; omega, fun a1 a2 a3 => by exfalso; omega, fun a1 a2 => by exfalso; omega⟩) (fun M C F I K1 hC => ?_)
      have K := K.step K1 (by decide)
      have hm : C 100 12 = 0 → C0 100 12 = 0 := fun z => hm ((congrFun (K1 100 (by decide)).1 12).symm.trans z)
      have ham : (C0 100 8).toInt ≤ (C 100 8).toInt := by rw [(K1 100 (by decide)).1]; exact ham
      have hgd : C 100 12 = 0 := by rw [(K1 100 (by decide)).1]; exact hgd
      exact g_vret X hrt dX8_readArm_66 (by decide) (by decide) ⟨C, D, F, I, K, ham⟩
  · skip
    have hgd := hg4
    have hmy := hm hgd
    refine g_if_eq X dX8_readArm_17 (tgt := 31) (by decide) (fun q => absurd q (by decide)) (fun _ => ?_)
    refine g_aload_n X dX8_readArm_20 rfl (j := 1) rfl ?_
    refine i_get X F 100 rfl rfl fk_X8_31 dX8_readArm_21 rfl ?_
    refine g_iload_n X dX8_readArm_24 rfl (j := 0) rfl ?_
    obtain ⟨n11, hn11, en11⟩ := rg_nat ((show okw (14 + (6 * n2)) (C 114 (14 + (6 * n2))) from I 114 (14 + (6 * n2))).2.2.2.2.2.2.1 (by omega) (by omega) (by omega)) (by decide)
    refine i_iald X F 114 rfl rfl dX8_readArm_25 (vp_in_nI (by omega) (by decide)) (v := nI n11) (by rw [nI_clamp (by omega)]; exact en11) ?_
    refine g_iconst X dX8_readArm_26 (v := 1) (by decide) ?_
    refine g_isub X dX8_readArm_27 ?_
    have hs12 := nI_m1 (n := n11) (by omega)
    refine g_goto X dX8_readArm_28 (tgt := 32) (by decide) ?_
    refine g_callVI X (s_X8_number l G F I (0 : Int32) ((nI n11 - 1)) ) lk_X8_191 (F.1 100 rfl).2 (F.1 100 rfl).1 rfl rfl dX8_readArm_32 (Nat.le_of_ble_eq_true rfl) ⟨by decide, by decide⟩ ⟨by decide, by decide⟩ (fun r13 L M hp => ?_)
    obtain ⟨C, D, F, I, K1, hr⟩ := hp
    have K := K.step K1 (by decide)
    obtain ⟨hrat, hng, hnum⟩ := hr
    have hm : C 100 12 = 0 → C0 100 12 = 0 := fun z => hm (hng z).1
    have ham : (C0 100 8).toInt ≤ (C 100 8).toInt := Int.le_trans ham hrat
    obtain ⟨n14, hn14, en14⟩ := num_nat (B := 3) (by decide) hnum (by omega)
    subst en14
    refine g_istore_n X dX8_readArm_35 rfl (by decide) (lv2 := [(2, .int (nI n14)), (1, .int (nI (14 + (6 * n2)))), (0, .ref (a 100))]) rfl ?_
    refine g_aload_n X dX8_readArm_36 rfl (j := 2) rfl ?_
    refine g_callVI X (s_X8_good l G F I  ) lk_X8_161 (F.1 100 rfl).2 (F.1 100 rfl).1 rfl rfl dX8_readArm_37 (Nat.le_of_ble_eq_true rfl) ⟨by decide, by decide⟩ ⟨by decide, by decide⟩ (fun r15 L M hp => ?_)
    obtain ⟨C, D, F, I, K1, hr⟩ := hp
    have K := K.step K1 (by decide)
    have hm : C 100 12 = 0 → C0 100 12 = 0 := fun z => hm ((congrFun (K1 100 (by decide)).1 12).symm.trans z)
    have ham : (C0 100 8).toInt ≤ (C 100 8).toInt := by rw [(K1 100 (by decide)).1]; exact ham
    rcases hr with ⟨rfl, hg16⟩ | ⟨rfl, hg16⟩
    · skip
      have hgd := hg16
      refine g_if_ne X dX8_readArm_40 (tgt := 44) (by decide) (fun q => absurd (by decide) q) (fun _ => ?_)
      exact g_vret X hrt dX8_readArm_43 (by decide) (by decide) ⟨C, D, F, I, K, ham⟩
    · skip
      have hgd := hg16
      have hmy := hm hgd
      refine g_if_ne X dX8_readArm_40 (tgt := 44) (by decide) (fun _ => ?_) (fun q => absurd q (by decide))
      refine g_aload_n X dX8_readArm_44 rfl (j := 2) rfl ?_
      refine i_get X F 100 rfl rfl fk_X8_31 dX8_readArm_45 rfl ?_
      refine g_iload_n X dX8_readArm_48 rfl (j := 1) rfl ?_
      refine g_iconst X dX8_readArm_49 (v := 1) (by decide) ?_
      refine g_iadd X dX8_readArm_50 ?_
      refine Go.top (v := .int (nI ((14 + (6 * n2)) + 1))) (congrArg Value.int (nI_add (14 + (6 * n2)) 1)) ?_
      refine g_iconst X dX8_readArm_51 (v := 4) (by decide) ?_
      refine g_iadd X dX8_readArm_52 ?_
      refine Go.top (v := .int (nI (((14 + (6 * n2)) + 1) + 4))) (congrArg Value.int (nI_add ((14 + (6 * n2)) + 1) 4)) ?_
      refine g_iload_n X dX8_readArm_53 rfl (j := 0) rfl ?_
      refine i_iast X F I 114 rfl (fun _ => rfl) dX8_readArm_54 (vp_in_nI (by omega) (by decide)) (by rw [nI_clamp (by omega)]; show okw (((14 + (6 * n2)) + 1) + 4) (nI n14); exact ⟨fun h => by exfalso; omega, fun h => by exfalso; omega, fun h => by exfalso; omega, fun h => by exfalso; omega, fun h => by exfalso; omega, fun h => by exfalso; omega, fun a1 a2 a3 => by exfalso; omega, fun _ _ _ => (rg_of (n := n14) (by omega) (by omega) (by omega)), fun a1 a2 a3 a4 => by exfalso; omega, fun a1 a2 a3 => by exfalso; omega, fun a1 a2 => by exfalso; omega⟩) (fun M C F I K1 hC => ?_)
      have K := K.step K1 (by decide)
      have hm : C 100 12 = 0 → C0 100 12 = 0 := fun z => hm ((congrFun (K1 100 (by decide)).1 12).symm.trans z)
      have ham : (C0 100 8).toInt ≤ (C 100 8).toInt := by rw [(K1 100 (by decide)).1]; exact ham
      have hgd : C 100 12 = 0 := by rw [(K1 100 (by decide)).1]; exact hgd
      refine g_aload_n X dX8_readArm_55 rfl (j := 2) rfl ?_
      refine i_get X F 100 rfl rfl fk_X8_31 dX8_readArm_56 rfl ?_
      refine g_bipush X dX8_readArm_59 (v := 6) (by decide) ?_
      refine g_dup2 X dX8_readArm_61 rfl rfl ?_
      refine i_iald X F 114 rfl rfl dX8_readArm_62 (vp_in_iff.mpr (by decide)) rfl ?_
      refine Go.gen (fun o17 => ?_)
      refine g_iconst X dX8_readArm_63 (v := 1) (by decide) ?_
      refine g_iadd X dX8_readArm_64 ?_
      refine Go.gen (fun o18 => ?_)
      refine i_iast X F I 114 rfl (fun _ => rfl) dX8_readArm_65 (vp_in_iff.mpr (by decide)) (by show okw (6) (o18); exact ⟨fun h => by exfalso; omega, fun h => by exfalso; omega, fun h => by exfalso; omega, fun h => by exfalso; omega, fun h => by exfalso; omega, fun h => by exfalso; omega, fun a1 a2 a3 => by exfalso; omega, fun a1 a2 a3 => by exfalso; omega, fun a1 a2 a3 a4 => by exfalso; omega, fun a1 a2 a3 => by exfalso; omega, fun a1 a2 => by exfalso; omega⟩) (fun M C F I K1 hC => ?_)
      have K := K.step K1 (by decide)
      have hm : C 100 12 = 0 → C0 100 12 = 0 := fun z => hm ((congrFun (K1 100 (by decide)).1 12).symm.trans z)
      have ham : (C0 100 8).toInt ≤ (C 100 8).toInt := by rw [(K1 100 (by decide)).1]; exact ham
      have hgd : C 100 12 = 0 := by rw [(K1 100 (by decide)).1]; exact hgd
      exact g_vret X hrt dX8_readArm_66 (by decide) (by decide) ⟨C, D, F, I, K, ham⟩
set_option maxHeartbeats 4000000 in
set_option maxRecDepth 100000 in
theorem s_X8_readWalker (l : Launch) (G : va_G) {cy : Nat → ClassId} {L : List Nat} {M : Nat → va_E} {a : Nat → Nat} {act : Nat → Bool} {C0 : Nat → Nat → Int32} {D0 : Nat → Nat → Int64} {R : Nat → Nat → Option Nat} (F : WI L M a act (ent cy a C0 D0 R)) (I : Inv C0)  (gw : ¬ C0 114 7 = 8) : MV l G cy yX8_readWalker cX8_readWalker 2 none 8 0 0 [.ref (a 100)] L M (fun L2 M2 => ∃ C2 D2, WI L2 M2 a act (ent cy a C2 D2 R) ∧ Inv C2 ∧ Kp [100, 114] C0 D0 C2 D2 ∧ (C0 100 8).toInt ≤ (C2 100 8).toInt) := by
  refine MV.of (own := RX8) rfl (by decide) (Nat.le_of_ble_eq_true rfl) ?_
  intro p e s m below meth c A X hrt hnm
  obtain ⟨C, D, hC0, hD0, F, I, K⟩ : ∃ C D, C = C0 ∧ D = D0 ∧ WI L M a act (ent cy a C D R) ∧ Inv C ∧ Kp [100, 114] C0 D0 C D := ⟨C0, D0, rfl, rfl, F, I, Kp.rf⟩
  have ham : (C0 100 8).toInt ≤ (C 100 8).toInt := by rw [hC0]; exact Int.le_refl _
  have hm : C 100 12 = 0 → C0 100 12 = 0 := fun z => by rw [hC0] at z; exact z
  refine g_bipush X dX8_readWalker_0 (v := 56) (by decide) ?_
  refine g_iconst X dX8_readWalker_2 (v := 2) (by decide) ?_
  refine g_aload_n X dX8_readWalker_3 rfl (j := 0) rfl ?_
  refine i_get X F 100 rfl rfl fk_X8_31 dX8_readWalker_4 rfl ?_
  refine g_bipush X dX8_readWalker_7 (v := 7) (by decide) ?_
  obtain ⟨n1, hn1, en1⟩ := rg_nat ((show okw (7) (C 114 (7)) from I 114 (7)).2.2.2.2.1 rfl) (by decide)
  refine i_iald X F 114 rfl rfl dX8_readWalker_9 (vp_in_iff.mpr (by decide)) (v := nI n1) (by exact en1) ?_
  have hlt8 : n1 ≠ 8 := fun z => gw (by rw [← hC0, en1, z]; rfl)
  refine g_imul X dX8_readWalker_10 ?_
  refine Go.top (v := .int (nI (2 * n1))) (congrArg Value.int (pk_mul 2 n1)) ?_
  refine g_iadd X dX8_readWalker_11 ?_
  refine Go.top (v := .int (nI (56 + (2 * n1)))) (congrArg Value.int (nI_add 56 (2 * n1))) ?_
  refine g_istore_n X dX8_readWalker_12 rfl (by decide) (lv2 := [(1, .int (nI (56 + (2 * n1)))), (0, .ref (a 100))]) rfl ?_
  refine g_aload_n X dX8_readWalker_13 rfl (j := 1) rfl ?_
  refine i_get X F 100 rfl rfl fk_X8_31 dX8_readWalker_14 rfl ?_
  refine g_iload_n X dX8_readWalker_17 rfl (j := 0) rfl ?_
  refine g_aload_n X dX8_readWalker_18 rfl (j := 1) rfl ?_
  refine g_callVI X (s_X8_readPost l G F I  ) lk_X8_205 (F.1 100 rfl).2 (F.1 100 rfl).1 rfl rfl dX8_readWalker_19 (Nat.le_of_ble_eq_true rfl) ⟨by decide, by decide⟩ ⟨by decide, by decide⟩ (fun r2 L M hp => ?_)
  obtain ⟨C, D, F, I, K1, hr⟩ := hp
  have K := K.step K1 (by decide)
  have en1 : C 114 (7) = nI n1 := by rw [(K1 114 (by decide)).1]; exact en1
  obtain ⟨hrat, hrp, ⟨n3, hn3, en3⟩⟩ := hr
  subst en3
  have hm : C 100 12 = 0 → C0 100 12 = 0 := fun z => hm (hrp z).1
  have ham : (C0 100 8).toInt ≤ (C 100 8).toInt := Int.le_trans ham hrat
  refine i_iast X F I 114 rfl (fun _ => rfl) dX8_readWalker_22 (vp_in_nI (by omega) (by decide)) (by rw [nI_clamp (by omega)]; show okw (56 + (2 * n1)) (nI n3); exact ⟨fun h => by exfalso; omega, fun h => by exfalso; omega, fun h => by exfalso; omega, fun h => by exfalso; omega, fun h => by exfalso; omega, fun h => by exfalso; omega, fun a1 a2 a3 => by exfalso; omega, fun a1 a2 a3 => by exfalso; omega, fun a1 a2 a3 a4 => by exfalso; omega, fun _ _ _ => (rg_of (n := n3) (by omega) (by omega) (by omega)), fun a1 a2 => by exfalso; omega⟩) (fun M C F I K1 hC => ?_)
  have K := K.step K1 (by decide)
  have hm : C 100 12 = 0 → C0 100 12 = 0 := fun z => hm ((congrFun (K1 100 (by decide)).1 12).symm.trans z)
  have ham : (C0 100 8).toInt ≤ (C 100 8).toInt := by rw [(K1 100 (by decide)).1]; exact ham
  have en1 : C 114 (7) = nI n1 := by rw [hC, nI_clamp (by omega), pk_un (by omega)]; exact en1
  refine g_aload_n X dX8_readWalker_23 rfl (j := 1) rfl ?_
  refine i_get X F 100 rfl rfl fk_X8_31 dX8_readWalker_24 rfl ?_
  refine g_iload_n X dX8_readWalker_27 rfl (j := 0) rfl ?_
  refine g_iconst X dX8_readWalker_28 (v := 1) (by decide) ?_
  refine g_iadd X dX8_readWalker_29 ?_
  refine Go.top (v := .int (nI ((56 + (2 * n1)) + 1))) (congrArg Value.int (nI_add (56 + (2 * n1)) 1)) ?_
  refine g_aload_n X dX8_readWalker_30 rfl (j := 1) rfl ?_
  refine g_ldcS X (tx := "at") (i := 19) (by decide) dX8_readWalker_31 ?_
  refine g_iconst X dX8_readWalker_33 (v := 0) (by decide) ?_
  refine g_bipush X dX8_readWalker_34 (v := 15) (by decide) ?_
  refine g_callVI X (s_X8_toldBy l G F I 19 (by decide) (0 : Int32) (15 : Int32) ) lk_X8_197 (F.1 100 rfl).2 (F.1 100 rfl).1 rfl rfl dX8_readWalker_36 (Nat.le_of_ble_eq_true rfl) ⟨by decide, by decide⟩ ⟨by decide, by decide⟩ (fun r4 L M hp => ?_)
  obtain ⟨C, D, F, I, K1, hr⟩ := hp
  have K := K.step K1 (by decide)
  have en1 : C 114 (7) = nI n1 := by rw [(K1 114 (by decide)).1]; exact en1
  obtain ⟨hrat, hrm, hnum⟩ := hr
  have hm : C 100 12 = 0 → C0 100 12 = 0 := fun z => hm (hrm z)
  have ham : (C0 100 8).toInt ≤ (C 100 8).toInt := Int.le_trans ham hrat
  obtain ⟨n5, hn5, en5⟩ := num_nat (B := 15) (by decide) hnum (by have kk : (15 : Int32).toInt = 15 := (by decide); omega)
  subst en5
  refine i_iast X F I 114 rfl (fun _ => rfl) dX8_readWalker_39 (vp_in_nI (by omega) (by decide)) (by rw [nI_clamp (by omega)]; show okw ((56 + (2 * n1)) + 1) (nI n5); exact ⟨fun h => by exfalso; omega, fun h => by exfalso; omega, fun h => by exfalso; omega, fun h => by exfalso; omega, fun h => by exfalso; omega, fun h => by exfalso; omega, fun a1 a2 a3 => by exfalso; omega, fun a1 a2 a3 => by exfalso; omega, fun a1 a2 a3 a4 => by exfalso; omega, fun a1 a2 a3 => by exfalso; omega, fun a1 a2 => by exfalso; omega⟩) (fun M C F I K1 hC => ?_)
  have K := K.step K1 (by decide)
  have hm : C 100 12 = 0 → C0 100 12 = 0 := fun z => hm ((congrFun (K1 100 (by decide)).1 12).symm.trans z)
  have ham : (C0 100 8).toInt ≤ (C 100 8).toInt := by rw [(K1 100 (by decide)).1]; exact ham
  have en1 : C 114 (7) = nI n1 := by rw [hC, nI_clamp (by omega), pk_un (by omega)]; exact en1
  refine g_aload_n X dX8_readWalker_40 rfl (j := 1) rfl ?_
  refine i_get X F 100 rfl rfl fk_X8_31 dX8_readWalker_41 rfl ?_
  refine g_bipush X dX8_readWalker_44 (v := 7) (by decide) ?_
  refine g_dup2 X dX8_readWalker_46 rfl rfl ?_
  refine i_iald X F 114 rfl rfl dX8_readWalker_47 (vp_in_iff.mpr (by decide)) (v := nI n1) (by exact en1) ?_
  refine g_iconst X dX8_readWalker_48 (v := 1) (by decide) ?_
  refine g_iadd X dX8_readWalker_49 ?_
  refine Go.top (v := .int (nI (n1 + 1))) (congrArg Value.int (nI_add n1 1)) ?_
  refine i_iast X F I 114 rfl (fun _ => rfl) dX8_readWalker_50 (vp_in_iff.mpr (by decide)) (by show okw (7) (nI (n1 + 1)); exact ⟨fun h => by exfalso; omega, fun h => by exfalso; omega, fun h => by exfalso; omega, fun h => by exfalso; omega, fun _ => (rg_of (n := (n1 + 1)) (by omega) (by omega) (by omega)), fun h => by exfalso; omega, fun a1 a2 a3 => by exfalso; omega, fun a1 a2 a3 => by exfalso; omega, fun a1 a2 a3 a4 => by exfalso; omega, fun a1 a2 a3 => by exfalso; omega, fun a1 a2 => by exfalso; omega⟩) (fun M C F I K1 hC => ?_)
  have K := K.step K1 (by decide)
  have hm : C 100 12 = 0 → C0 100 12 = 0 := fun z => hm ((congrFun (K1 100 (by decide)).1 12).symm.trans z)
  have ham : (C0 100 8).toInt ≤ (C 100 8).toInt := by rw [(K1 100 (by decide)).1]; exact ham
  exact g_vret X hrt dX8_readWalker_51 (by decide) (by decide) ⟨C, D, F, I, K, ham⟩
set_option maxHeartbeats 4000000 in
set_option maxRecDepth 100000 in
theorem s_X8_isFull (l : Launch) (G : va_G) {cy : Nat → ClassId} {L : List Nat} {M : Nat → va_E} {a : Nat → Nat} {act : Nat → Bool} {C0 : Nat → Nat → Int32} {D0 : Nat → Nat → Int64} {R : Nat → Nat → Option Nat} (F : WI L M a act (ent cy a C0 D0 R)) (I : Inv C0)   : MI l G cy yX8_isFull cX8_isFull 1 (some .boolean) 5 0 0 [.ref (a 100)] L M (fun r L2 M2 => ∃ C2 D2, WI L2 M2 a act (ent cy a C2 D2 R) ∧ Inv C2 ∧ Kp [] C0 D0 C2 D2 ∧ (r = 1 ∨ (r = 0 ∧ (IsW 20 (C2 100) (C2 104) → ¬ C2 114 3 = 4) ∧ (IsW 21 (C2 100) (C2 104) → ¬ C2 114 4 = 7) ∧ (IsW 24 (C2 100) (C2 104) → ¬ C2 114 7 = 8)))) := by
  refine MI.of (own := RX8) rfl (by decide) (Nat.le_of_ble_eq_true rfl) ?_
  intro p e s m below meth c A X hrt hnm
  obtain ⟨C, D, hC0, hD0, F, I, K⟩ : ∃ C D, C = C0 ∧ D = D0 ∧ WI L M a act (ent cy a C D R) ∧ Inv C ∧ Kp [] C0 D0 C D := ⟨C0, D0, rfl, rfl, F, I, Kp.rf⟩
  refine g_aload_n X dX8_isFull_0 rfl (j := 0) rfl ?_
  refine g_ldcS X (tx := "inn") (i := 20) (by decide) dX8_isFull_1 ?_
  refine g_callVI X (s_X8_is l G F I 20 (by decide) ) lk_X8_173 (F.1 100 rfl).2 (F.1 100 rfl).1 rfl rfl dX8_isFull_3 (Nat.le_of_ble_eq_true rfl) ⟨by decide, by decide⟩ ⟨by decide, by decide⟩ (fun r1 L M hp => ?_)
  obtain ⟨C, D, F, I, K1, hr⟩ := hp
  have K := K.step K1 (by decide)
  rcases hr with ⟨rfl, hw2⟩ | ⟨rfl, hw2⟩
  · skip
    refine g_if_eq X dX8_isFull_6 (tgt := 19) (by decide) (fun q => absurd q (by decide)) (fun _ => ?_)
    refine g_aload_n X dX8_isFull_9 rfl (j := 0) rfl ?_
    refine i_get X F 100 rfl rfl fk_X8_31 dX8_isFull_10 rfl ?_
    refine g_iconst X dX8_isFull_13 (v := 3) (by decide) ?_
    obtain ⟨n3, hn3, en3⟩ := rg_nat ((show okw (3) (C 114 (3)) from I 114 (3)).2.2.1 rfl) (by decide)
    refine i_iald X F 114 rfl rfl dX8_isFull_14 (vp_in_iff.mpr (by decide)) (v := nI n3) (by exact en3) ?_
    refine g_iconst X dX8_isFull_15 (v := 4) (by decide) ?_
    refine g_icmp_eq X dX8_isFull_16 (tgt := 59) (by decide) (fun q4 => ?_) (fun q4 => ?_)
    · skip
      have q4 : n3 = 4 := (nI_eq (a := n3) (b := 4) (by omega) (by omega)).mp q4
      refine g_iconst X dX8_isFull_59 (v := 1) (by decide) ?_
      exact g_zret X hrt rfl dX8_isFull_60 (by decide) (by decide) ⟨C, D, F, I, K, Or.inl rfl⟩
    · skip
      have q4 : ¬ n3 = 4 := fun z => q4 ((nI_eq (a := n3) (b := 4) (by omega) (by omega)).mpr z)
      refine g_aload_n X dX8_isFull_19 rfl (j := 0) rfl ?_
      refine g_ldcS X (tx := "post") (i := 21) (by decide) dX8_isFull_20 ?_
      refine g_callVI X (s_X8_is l G F I 21 (by decide) ) lk_X8_173 (F.1 100 rfl).2 (F.1 100 rfl).1 rfl rfl dX8_isFull_22 (Nat.le_of_ble_eq_true rfl) ⟨by decide, by decide⟩ ⟨by decide, by decide⟩ (fun r5 L M hp => ?_)
      obtain ⟨C, D, F, I, K1, hr⟩ := hp
      have K := K.step K1 (by decide)
      have hw2 : IsW 20 (C 100) (C 104) := by rw [(K1 100 (by decide)).1, (K1 104 (by decide)).1]; exact hw2
      have en3 : C 114 (3) = nI n3 := by rw [(K1 114 (by decide)).1]; exact en3
      rcases hr with ⟨rfl, hw6⟩ | ⟨rfl, hw6⟩
      · skip
        refine g_if_eq X dX8_isFull_25 (tgt := 39) (by decide) (fun q => absurd q (by decide)) (fun _ => ?_)
        refine g_aload_n X dX8_isFull_28 rfl (j := 0) rfl ?_
        refine i_get X F 100 rfl rfl fk_X8_31 dX8_isFull_29 rfl ?_
        refine g_iconst X dX8_isFull_32 (v := 4) (by decide) ?_
        obtain ⟨n7, hn7, en7⟩ := rg_nat ((show okw (4) (C 114 (4)) from I 114 (4)).2.2.2.1 rfl) (by decide)
        refine i_iald X F 114 rfl rfl dX8_isFull_33 (vp_in_iff.mpr (by decide)) (v := nI n7) (by exact en7) ?_
        refine g_bipush X dX8_isFull_34 (v := 7) (by decide) ?_
        refine g_icmp_eq X dX8_isFull_36 (tgt := 59) (by decide) (fun q8 => ?_) (fun q8 => ?_)
        · skip
          have q8 : n7 = 7 := (nI_eq (a := n7) (b := 7) (by omega) (by omega)).mp q8
          refine g_iconst X dX8_isFull_59 (v := 1) (by decide) ?_
          exact g_zret X hrt rfl dX8_isFull_60 (by decide) (by decide) ⟨C, D, F, I, K, Or.inl rfl⟩
        · skip
          have q8 : ¬ n7 = 7 := fun z => q8 ((nI_eq (a := n7) (b := 7) (by omega) (by omega)).mpr z)
          refine g_aload_n X dX8_isFull_39 rfl (j := 0) rfl ?_
          refine g_ldcS X (tx := "road") (i := 22) (by decide) dX8_isFull_40 ?_
          refine g_callVI X (s_X8_is l G F I 22 (by decide) ) lk_X8_173 (F.1 100 rfl).2 (F.1 100 rfl).1 rfl rfl dX8_isFull_42 (Nat.le_of_ble_eq_true rfl) ⟨by decide, by decide⟩ ⟨by decide, by decide⟩ (fun r9 L M hp => ?_)
          obtain ⟨C, D, F, I, K1, hr⟩ := hp
          have K := K.step K1 (by decide)
          have hw2 : IsW 20 (C 100) (C 104) := by rw [(K1 100 (by decide)).1, (K1 104 (by decide)).1]; exact hw2
          have en3 : C 114 (3) = nI n3 := by rw [(K1 114 (by decide)).1]; exact en3
          have hw6 : IsW 21 (C 100) (C 104) := by rw [(K1 100 (by decide)).1, (K1 104 (by decide)).1]; exact hw6
          have en7 : C 114 (4) = nI n7 := by rw [(K1 114 (by decide)).1]; exact en7
          rcases hr with ⟨rfl, hw10⟩ | ⟨rfl, hw10⟩
          · skip
            refine g_if_eq X dX8_isFull_45 (tgt := 61) (by decide) (fun q => absurd q (by decide)) (fun _ => ?_)
            refine g_aload_n X dX8_isFull_48 rfl (j := 0) rfl ?_
            refine i_get X F 100 rfl rfl fk_X8_31 dX8_isFull_49 rfl ?_
            refine g_iconst X dX8_isFull_52 (v := 5) (by decide) ?_
            refine i_iald X F 114 rfl rfl dX8_isFull_53 (vp_in_iff.mpr (by decide)) rfl ?_
            refine Go.gen (fun o11 => ?_)
            refine g_bipush X dX8_isFull_54 (v := 16) (by decide) ?_
            refine g_icmp_ne X dX8_isFull_56 (tgt := 61) (by decide) (fun q12 => ?_) (fun q12 => ?_)
            · skip
              refine g_aload_n X dX8_isFull_61 rfl (j := 0) rfl ?_
              refine g_ldcS X (tx := "arm") (i := 23) (by decide) dX8_isFull_62 ?_
              refine g_callVI X (s_X8_is l G F I 23 (by decide) ) lk_X8_173 (F.1 100 rfl).2 (F.1 100 rfl).1 rfl rfl dX8_isFull_64 (Nat.le_of_ble_eq_true rfl) ⟨by decide, by decide⟩ ⟨by decide, by decide⟩ (fun r13 L M hp => ?_)
              obtain ⟨C, D, F, I, K1, hr⟩ := hp
              have K := K.step K1 (by decide)
              have hw2 : IsW 20 (C 100) (C 104) := by rw [(K1 100 (by decide)).1, (K1 104 (by decide)).1]; exact hw2
              have en3 : C 114 (3) = nI n3 := by rw [(K1 114 (by decide)).1]; exact en3
              have hw6 : IsW 21 (C 100) (C 104) := by rw [(K1 100 (by decide)).1, (K1 104 (by decide)).1]; exact hw6
              have en7 : C 114 (4) = nI n7 := by rw [(K1 114 (by decide)).1]; exact en7
              have hw10 : IsW 22 (C 100) (C 104) := by rw [(K1 100 (by decide)).1, (K1 104 (by decide)).1]; exact hw10
              rcases hr with ⟨rfl, hw14⟩ | ⟨rfl, hw14⟩
              · skip
                refine g_if_eq X dX8_isFull_67 (tgt := 82) (by decide) (fun q => absurd q (by decide)) (fun _ => ?_)
                refine g_aload_n X dX8_isFull_70 rfl (j := 0) rfl ?_
                refine i_get X F 100 rfl rfl fk_X8_31 dX8_isFull_71 rfl ?_
                refine g_bipush X dX8_isFull_74 (v := 6) (by decide) ?_
                refine i_iald X F 114 rfl rfl dX8_isFull_76 (vp_in_iff.mpr (by decide)) rfl ?_
                refine Go.gen (fun o15 => ?_)
                refine g_bipush X dX8_isFull_77 (v := 8) (by decide) ?_
                refine g_icmp_eq X dX8_isFull_79 (tgt := 103) (by decide) (fun q16 => ?_) (fun q16 => ?_)
                · skip
                  subst q16
                  refine g_iconst X dX8_isFull_103 (v := 1) (by decide) ?_
                  refine g_goto X dX8_isFull_104 (tgt := 108) (by decide) ?_
                  exact g_zret X hrt rfl dX8_isFull_108 (by decide) (by decide) ⟨C, D, F, I, K, Or.inl rfl⟩
                · skip
                  refine g_aload_n X dX8_isFull_82 rfl (j := 0) rfl ?_
                  refine g_ldcS X (tx := "walker") (i := 24) (by decide) dX8_isFull_83 ?_
                  refine g_callVI X (s_X8_is l G F I 24 (by decide) ) lk_X8_173 (F.1 100 rfl).2 (F.1 100 rfl).1 rfl rfl dX8_isFull_85 (Nat.le_of_ble_eq_true rfl) ⟨by decide, by decide⟩ ⟨by decide, by decide⟩ (fun r17 L M hp => ?_)
                  obtain ⟨C, D, F, I, K1, hr⟩ := hp
                  have K := K.step K1 (by decide)
                  have hw2 : IsW 20 (C 100) (C 104) := by rw [(K1 100 (by decide)).1, (K1 104 (by decide)).1]; exact hw2
                  have en3 : C 114 (3) = nI n3 := by rw [(K1 114 (by decide)).1]; exact en3
                  have hw6 : IsW 21 (C 100) (C 104) := by rw [(K1 100 (by decide)).1, (K1 104 (by decide)).1]; exact hw6
                  have en7 : C 114 (4) = nI n7 := by rw [(K1 114 (by decide)).1]; exact en7
                  have hw10 : IsW 22 (C 100) (C 104) := by rw [(K1 100 (by decide)).1, (K1 104 (by decide)).1]; exact hw10
                  have hw14 : IsW 23 (C 100) (C 104) := by rw [(K1 100 (by decide)).1, (K1 104 (by decide)).1]; exact hw14
                  rcases hr with ⟨rfl, hw18⟩ | ⟨rfl, hw18⟩
                  · skip
                    refine g_if_eq X dX8_isFull_88 (tgt := 107) (by decide) (fun q => absurd q (by decide)) (fun _ => ?_)
                    refine g_aload_n X dX8_isFull_91 rfl (j := 0) rfl ?_
                    refine i_get X F 100 rfl rfl fk_X8_31 dX8_isFull_92 rfl ?_
                    refine g_bipush X dX8_isFull_95 (v := 7) (by decide) ?_
                    obtain ⟨n19, hn19, en19⟩ := rg_nat ((show okw (7) (C 114 (7)) from I 114 (7)).2.2.2.2.1 rfl) (by decide)
                    refine i_iald X F 114 rfl rfl dX8_isFull_97 (vp_in_iff.mpr (by decide)) (v := nI n19) (by exact en19) ?_
                    refine g_bipush X dX8_isFull_98 (v := 8) (by decide) ?_
                    refine g_icmp_ne X dX8_isFull_100 (tgt := 107) (by decide) (fun q20 => ?_) (fun q20 => ?_)
                    · skip
                      have q20 : ¬ n19 = 8 := fun z => q20 ((nI_eq (a := n19) (b := 8) (by omega) (by omega)).mpr z)
                      refine g_iconst X dX8_isFull_107 (v := 0) (by decide) ?_
                      exact g_zret X hrt rfl dX8_isFull_108 (by decide) (by decide) ⟨C, D, F, I, K, Or.inr ⟨rfl, (fun _ z => absurd ((nI_eq (a := n3) (b := 4) (by omega) (by omega)).mp (en3.symm.trans z)) (by omega)), (fun _ z => absurd ((nI_eq (a := n7) (b := 7) (by omega) (by omega)).mp (en7.symm.trans z)) (by omega)), (fun _ z => absurd ((nI_eq (a := n19) (b := 8) (by omega) (by omega)).mp (en19.symm.trans z)) (by omega))⟩⟩
                    · skip
                      have q20 : n19 = 8 := (nI_eq (a := n19) (b := 8) (by omega) (by omega)).mp q20
                      refine g_iconst X dX8_isFull_103 (v := 1) (by decide) ?_
                      refine g_goto X dX8_isFull_104 (tgt := 108) (by decide) ?_
                      exact g_zret X hrt rfl dX8_isFull_108 (by decide) (by decide) ⟨C, D, F, I, K, Or.inl rfl⟩
                  · skip
                    refine g_if_eq X dX8_isFull_88 (tgt := 107) (by decide) (fun _ => ?_) (fun q => absurd (by decide) q)
                    refine g_iconst X dX8_isFull_107 (v := 0) (by decide) ?_
                    exact g_zret X hrt rfl dX8_isFull_108 (by decide) (by decide) ⟨C, D, F, I, K, Or.inr ⟨rfl, (fun _ z => absurd ((nI_eq (a := n3) (b := 4) (by omega) (by omega)).mp (en3.symm.trans z)) (by omega)), (fun _ z => absurd ((nI_eq (a := n7) (b := 7) (by omega) (by omega)).mp (en7.symm.trans z)) (by omega)), (fun w => absurd w (by have z := hw18; exact z))⟩⟩
              · skip
                refine g_if_eq X dX8_isFull_67 (tgt := 82) (by decide) (fun _ => ?_) (fun q => absurd (by decide) q)
                refine g_aload_n X dX8_isFull_82 rfl (j := 0) rfl ?_
                refine g_ldcS X (tx := "walker") (i := 24) (by decide) dX8_isFull_83 ?_
                refine g_callVI X (s_X8_is l G F I 24 (by decide) ) lk_X8_173 (F.1 100 rfl).2 (F.1 100 rfl).1 rfl rfl dX8_isFull_85 (Nat.le_of_ble_eq_true rfl) ⟨by decide, by decide⟩ ⟨by decide, by decide⟩ (fun r21 L M hp => ?_)
                obtain ⟨C, D, F, I, K1, hr⟩ := hp
                have K := K.step K1 (by decide)
                have hw2 : IsW 20 (C 100) (C 104) := by rw [(K1 100 (by decide)).1, (K1 104 (by decide)).1]; exact hw2
                have en3 : C 114 (3) = nI n3 := by rw [(K1 114 (by decide)).1]; exact en3
                have hw6 : IsW 21 (C 100) (C 104) := by rw [(K1 100 (by decide)).1, (K1 104 (by decide)).1]; exact hw6
                have en7 : C 114 (4) = nI n7 := by rw [(K1 114 (by decide)).1]; exact en7
                have hw10 : IsW 22 (C 100) (C 104) := by rw [(K1 100 (by decide)).1, (K1 104 (by decide)).1]; exact hw10
                have hw14 : ¬ IsW 23 (C 100) (C 104) := by rw [(K1 100 (by decide)).1, (K1 104 (by decide)).1]; exact hw14
                rcases hr with ⟨rfl, hw22⟩ | ⟨rfl, hw22⟩
                · skip
                  refine g_if_eq X dX8_isFull_88 (tgt := 107) (by decide) (fun q => absurd q (by decide)) (fun _ => ?_)
                  refine g_aload_n X dX8_isFull_91 rfl (j := 0) rfl ?_
                  refine i_get X F 100 rfl rfl fk_X8_31 dX8_isFull_92 rfl ?_
                  refine g_bipush X dX8_isFull_95 (v := 7) (by decide) ?_
                  obtain ⟨n23, hn23, en23⟩ := rg_nat ((show okw (7) (C 114 (7)) from I 114 (7)).2.2.2.2.1 rfl) (by decide)
                  refine i_iald X F 114 rfl rfl dX8_isFull_97 (vp_in_iff.mpr (by decide)) (v := nI n23) (by exact en23) ?_
                  refine g_bipush X dX8_isFull_98 (v := 8) (by decide) ?_
                  refine g_icmp_ne X dX8_isFull_100 (tgt := 107) (by decide) (fun q24 => ?_) (fun q24 => ?_)
                  · skip
                    have q24 : ¬ n23 = 8 := fun z => q24 ((nI_eq (a := n23) (b := 8) (by omega) (by omega)).mpr z)
                    refine g_iconst X dX8_isFull_107 (v := 0) (by decide) ?_
                    exact g_zret X hrt rfl dX8_isFull_108 (by decide) (by decide) ⟨C, D, F, I, K, Or.inr ⟨rfl, (fun _ z => absurd ((nI_eq (a := n3) (b := 4) (by omega) (by omega)).mp (en3.symm.trans z)) (by omega)), (fun _ z => absurd ((nI_eq (a := n7) (b := 7) (by omega) (by omega)).mp (en7.symm.trans z)) (by omega)), (fun _ z => absurd ((nI_eq (a := n23) (b := 8) (by omega) (by omega)).mp (en23.symm.trans z)) (by omega))⟩⟩
                  · skip
                    have q24 : n23 = 8 := (nI_eq (a := n23) (b := 8) (by omega) (by omega)).mp q24
                    refine g_iconst X dX8_isFull_103 (v := 1) (by decide) ?_
                    refine g_goto X dX8_isFull_104 (tgt := 108) (by decide) ?_
                    exact g_zret X hrt rfl dX8_isFull_108 (by decide) (by decide) ⟨C, D, F, I, K, Or.inl rfl⟩
                · skip
                  refine g_if_eq X dX8_isFull_88 (tgt := 107) (by decide) (fun _ => ?_) (fun q => absurd (by decide) q)
                  refine g_iconst X dX8_isFull_107 (v := 0) (by decide) ?_
                  exact g_zret X hrt rfl dX8_isFull_108 (by decide) (by decide) ⟨C, D, F, I, K, Or.inr ⟨rfl, (fun _ z => absurd ((nI_eq (a := n3) (b := 4) (by omega) (by omega)).mp (en3.symm.trans z)) (by omega)), (fun _ z => absurd ((nI_eq (a := n7) (b := 7) (by omega) (by omega)).mp (en7.symm.trans z)) (by omega)), (fun w => absurd w (by have z := hw22; exact z))⟩⟩
            · skip
              subst q12
              refine g_iconst X dX8_isFull_59 (v := 1) (by decide) ?_
              exact g_zret X hrt rfl dX8_isFull_60 (by decide) (by decide) ⟨C, D, F, I, K, Or.inl rfl⟩
          · skip
            refine g_if_eq X dX8_isFull_45 (tgt := 61) (by decide) (fun _ => ?_) (fun q => absurd (by decide) q)
            refine g_aload_n X dX8_isFull_61 rfl (j := 0) rfl ?_
            refine g_ldcS X (tx := "arm") (i := 23) (by decide) dX8_isFull_62 ?_
            refine g_callVI X (s_X8_is l G F I 23 (by decide) ) lk_X8_173 (F.1 100 rfl).2 (F.1 100 rfl).1 rfl rfl dX8_isFull_64 (Nat.le_of_ble_eq_true rfl) ⟨by decide, by decide⟩ ⟨by decide, by decide⟩ (fun r25 L M hp => ?_)
            obtain ⟨C, D, F, I, K1, hr⟩ := hp
            have K := K.step K1 (by decide)
            have hw2 : IsW 20 (C 100) (C 104) := by rw [(K1 100 (by decide)).1, (K1 104 (by decide)).1]; exact hw2
            have en3 : C 114 (3) = nI n3 := by rw [(K1 114 (by decide)).1]; exact en3
            have hw6 : IsW 21 (C 100) (C 104) := by rw [(K1 100 (by decide)).1, (K1 104 (by decide)).1]; exact hw6
            have en7 : C 114 (4) = nI n7 := by rw [(K1 114 (by decide)).1]; exact en7
            have hw10 : ¬ IsW 22 (C 100) (C 104) := by rw [(K1 100 (by decide)).1, (K1 104 (by decide)).1]; exact hw10
            rcases hr with ⟨rfl, hw26⟩ | ⟨rfl, hw26⟩
            · skip
              refine g_if_eq X dX8_isFull_67 (tgt := 82) (by decide) (fun q => absurd q (by decide)) (fun _ => ?_)
              refine g_aload_n X dX8_isFull_70 rfl (j := 0) rfl ?_
              refine i_get X F 100 rfl rfl fk_X8_31 dX8_isFull_71 rfl ?_
              refine g_bipush X dX8_isFull_74 (v := 6) (by decide) ?_
              refine i_iald X F 114 rfl rfl dX8_isFull_76 (vp_in_iff.mpr (by decide)) rfl ?_
              refine Go.gen (fun o27 => ?_)
              refine g_bipush X dX8_isFull_77 (v := 8) (by decide) ?_
              refine g_icmp_eq X dX8_isFull_79 (tgt := 103) (by decide) (fun q28 => ?_) (fun q28 => ?_)
              · skip
                subst q28
                refine g_iconst X dX8_isFull_103 (v := 1) (by decide) ?_
                refine g_goto X dX8_isFull_104 (tgt := 108) (by decide) ?_
                exact g_zret X hrt rfl dX8_isFull_108 (by decide) (by decide) ⟨C, D, F, I, K, Or.inl rfl⟩
              · skip
                refine g_aload_n X dX8_isFull_82 rfl (j := 0) rfl ?_
                refine g_ldcS X (tx := "walker") (i := 24) (by decide) dX8_isFull_83 ?_
                refine g_callVI X (s_X8_is l G F I 24 (by decide) ) lk_X8_173 (F.1 100 rfl).2 (F.1 100 rfl).1 rfl rfl dX8_isFull_85 (Nat.le_of_ble_eq_true rfl) ⟨by decide, by decide⟩ ⟨by decide, by decide⟩ (fun r29 L M hp => ?_)
                obtain ⟨C, D, F, I, K1, hr⟩ := hp
                have K := K.step K1 (by decide)
                have hw2 : IsW 20 (C 100) (C 104) := by rw [(K1 100 (by decide)).1, (K1 104 (by decide)).1]; exact hw2
                have en3 : C 114 (3) = nI n3 := by rw [(K1 114 (by decide)).1]; exact en3
                have hw6 : IsW 21 (C 100) (C 104) := by rw [(K1 100 (by decide)).1, (K1 104 (by decide)).1]; exact hw6
                have en7 : C 114 (4) = nI n7 := by rw [(K1 114 (by decide)).1]; exact en7
                have hw10 : ¬ IsW 22 (C 100) (C 104) := by rw [(K1 100 (by decide)).1, (K1 104 (by decide)).1]; exact hw10
                have hw26 : IsW 23 (C 100) (C 104) := by rw [(K1 100 (by decide)).1, (K1 104 (by decide)).1]; exact hw26
                rcases hr with ⟨rfl, hw30⟩ | ⟨rfl, hw30⟩
                · skip
                  refine g_if_eq X dX8_isFull_88 (tgt := 107) (by decide) (fun q => absurd q (by decide)) (fun _ => ?_)
                  refine g_aload_n X dX8_isFull_91 rfl (j := 0) rfl ?_
                  refine i_get X F 100 rfl rfl fk_X8_31 dX8_isFull_92 rfl ?_
                  refine g_bipush X dX8_isFull_95 (v := 7) (by decide) ?_
                  obtain ⟨n31, hn31, en31⟩ := rg_nat ((show okw (7) (C 114 (7)) from I 114 (7)).2.2.2.2.1 rfl) (by decide)
                  refine i_iald X F 114 rfl rfl dX8_isFull_97 (vp_in_iff.mpr (by decide)) (v := nI n31) (by exact en31) ?_
                  refine g_bipush X dX8_isFull_98 (v := 8) (by decide) ?_
                  refine g_icmp_ne X dX8_isFull_100 (tgt := 107) (by decide) (fun q32 => ?_) (fun q32 => ?_)
                  · skip
                    have q32 : ¬ n31 = 8 := fun z => q32 ((nI_eq (a := n31) (b := 8) (by omega) (by omega)).mpr z)
                    refine g_iconst X dX8_isFull_107 (v := 0) (by decide) ?_
                    exact g_zret X hrt rfl dX8_isFull_108 (by decide) (by decide) ⟨C, D, F, I, K, Or.inr ⟨rfl, (fun _ z => absurd ((nI_eq (a := n3) (b := 4) (by omega) (by omega)).mp (en3.symm.trans z)) (by omega)), (fun _ z => absurd ((nI_eq (a := n7) (b := 7) (by omega) (by omega)).mp (en7.symm.trans z)) (by omega)), (fun _ z => absurd ((nI_eq (a := n31) (b := 8) (by omega) (by omega)).mp (en31.symm.trans z)) (by omega))⟩⟩
                  · skip
                    have q32 : n31 = 8 := (nI_eq (a := n31) (b := 8) (by omega) (by omega)).mp q32
                    refine g_iconst X dX8_isFull_103 (v := 1) (by decide) ?_
                    refine g_goto X dX8_isFull_104 (tgt := 108) (by decide) ?_
                    exact g_zret X hrt rfl dX8_isFull_108 (by decide) (by decide) ⟨C, D, F, I, K, Or.inl rfl⟩
                · skip
                  refine g_if_eq X dX8_isFull_88 (tgt := 107) (by decide) (fun _ => ?_) (fun q => absurd (by decide) q)
                  refine g_iconst X dX8_isFull_107 (v := 0) (by decide) ?_
                  exact g_zret X hrt rfl dX8_isFull_108 (by decide) (by decide) ⟨C, D, F, I, K, Or.inr ⟨rfl, (fun _ z => absurd ((nI_eq (a := n3) (b := 4) (by omega) (by omega)).mp (en3.symm.trans z)) (by omega)), (fun _ z => absurd ((nI_eq (a := n7) (b := 7) (by omega) (by omega)).mp (en7.symm.trans z)) (by omega)), (fun w => absurd w (by have z := hw30; exact z))⟩⟩
            · skip
              refine g_if_eq X dX8_isFull_67 (tgt := 82) (by decide) (fun _ => ?_) (fun q => absurd (by decide) q)
              refine g_aload_n X dX8_isFull_82 rfl (j := 0) rfl ?_
              refine g_ldcS X (tx := "walker") (i := 24) (by decide) dX8_isFull_83 ?_
              refine g_callVI X (s_X8_is l G F I 24 (by decide) ) lk_X8_173 (F.1 100 rfl).2 (F.1 100 rfl).1 rfl rfl dX8_isFull_85 (Nat.le_of_ble_eq_true rfl) ⟨by decide, by decide⟩ ⟨by decide, by decide⟩ (fun r33 L M hp => ?_)
              obtain ⟨C, D, F, I, K1, hr⟩ := hp
              have K := K.step K1 (by decide)
              have hw2 : IsW 20 (C 100) (C 104) := by rw [(K1 100 (by decide)).1, (K1 104 (by decide)).1]; exact hw2
              have en3 : C 114 (3) = nI n3 := by rw [(K1 114 (by decide)).1]; exact en3
              have hw6 : IsW 21 (C 100) (C 104) := by rw [(K1 100 (by decide)).1, (K1 104 (by decide)).1]; exact hw6
              have en7 : C 114 (4) = nI n7 := by rw [(K1 114 (by decide)).1]; exact en7
              have hw10 : ¬ IsW 22 (C 100) (C 104) := by rw [(K1 100 (by decide)).1, (K1 104 (by decide)).1]; exact hw10
              have hw26 : ¬ IsW 23 (C 100) (C 104) := by rw [(K1 100 (by decide)).1, (K1 104 (by decide)).1]; exact hw26
              rcases hr with ⟨rfl, hw34⟩ | ⟨rfl, hw34⟩
              · skip
                refine g_if_eq X dX8_isFull_88 (tgt := 107) (by decide) (fun q => absurd q (by decide)) (fun _ => ?_)
                refine g_aload_n X dX8_isFull_91 rfl (j := 0) rfl ?_
                refine i_get X F 100 rfl rfl fk_X8_31 dX8_isFull_92 rfl ?_
                refine g_bipush X dX8_isFull_95 (v := 7) (by decide) ?_
                obtain ⟨n35, hn35, en35⟩ := rg_nat ((show okw (7) (C 114 (7)) from I 114 (7)).2.2.2.2.1 rfl) (by decide)
                refine i_iald X F 114 rfl rfl dX8_isFull_97 (vp_in_iff.mpr (by decide)) (v := nI n35) (by exact en35) ?_
                refine g_bipush X dX8_isFull_98 (v := 8) (by decide) ?_
                refine g_icmp_ne X dX8_isFull_100 (tgt := 107) (by decide) (fun q36 => ?_) (fun q36 => ?_)
                · skip
                  have q36 : ¬ n35 = 8 := fun z => q36 ((nI_eq (a := n35) (b := 8) (by omega) (by omega)).mpr z)
                  refine g_iconst X dX8_isFull_107 (v := 0) (by decide) ?_
                  exact g_zret X hrt rfl dX8_isFull_108 (by decide) (by decide) ⟨C, D, F, I, K, Or.inr ⟨rfl, (fun _ z => absurd ((nI_eq (a := n3) (b := 4) (by omega) (by omega)).mp (en3.symm.trans z)) (by omega)), (fun _ z => absurd ((nI_eq (a := n7) (b := 7) (by omega) (by omega)).mp (en7.symm.trans z)) (by omega)), (fun _ z => absurd ((nI_eq (a := n35) (b := 8) (by omega) (by omega)).mp (en35.symm.trans z)) (by omega))⟩⟩
                · skip
                  have q36 : n35 = 8 := (nI_eq (a := n35) (b := 8) (by omega) (by omega)).mp q36
                  refine g_iconst X dX8_isFull_103 (v := 1) (by decide) ?_
                  refine g_goto X dX8_isFull_104 (tgt := 108) (by decide) ?_
                  exact g_zret X hrt rfl dX8_isFull_108 (by decide) (by decide) ⟨C, D, F, I, K, Or.inl rfl⟩
              · skip
                refine g_if_eq X dX8_isFull_88 (tgt := 107) (by decide) (fun _ => ?_) (fun q => absurd (by decide) q)
                refine g_iconst X dX8_isFull_107 (v := 0) (by decide) ?_
                exact g_zret X hrt rfl dX8_isFull_108 (by decide) (by decide) ⟨C, D, F, I, K, Or.inr ⟨rfl, (fun _ z => absurd ((nI_eq (a := n3) (b := 4) (by omega) (by omega)).mp (en3.symm.trans z)) (by omega)), (fun _ z => absurd ((nI_eq (a := n7) (b := 7) (by omega) (by omega)).mp (en7.symm.trans z)) (by omega)), (fun w => absurd w (by have z := hw34; exact z))⟩⟩
      · skip
        refine g_if_eq X dX8_isFull_25 (tgt := 39) (by decide) (fun _ => ?_) (fun q => absurd (by decide) q)
        refine g_aload_n X dX8_isFull_39 rfl (j := 0) rfl ?_
        refine g_ldcS X (tx := "road") (i := 22) (by decide) dX8_isFull_40 ?_
        refine g_callVI X (s_X8_is l G F I 22 (by decide) ) lk_X8_173 (F.1 100 rfl).2 (F.1 100 rfl).1 rfl rfl dX8_isFull_42 (Nat.le_of_ble_eq_true rfl) ⟨by decide, by decide⟩ ⟨by decide, by decide⟩ (fun r37 L M hp => ?_)
        obtain ⟨C, D, F, I, K1, hr⟩ := hp
        have K := K.step K1 (by decide)
        have hw2 : IsW 20 (C 100) (C 104) := by rw [(K1 100 (by decide)).1, (K1 104 (by decide)).1]; exact hw2
        have en3 : C 114 (3) = nI n3 := by rw [(K1 114 (by decide)).1]; exact en3
        have hw6 : ¬ IsW 21 (C 100) (C 104) := by rw [(K1 100 (by decide)).1, (K1 104 (by decide)).1]; exact hw6
        rcases hr with ⟨rfl, hw38⟩ | ⟨rfl, hw38⟩
        · skip
          refine g_if_eq X dX8_isFull_45 (tgt := 61) (by decide) (fun q => absurd q (by decide)) (fun _ => ?_)
          refine g_aload_n X dX8_isFull_48 rfl (j := 0) rfl ?_
          refine i_get X F 100 rfl rfl fk_X8_31 dX8_isFull_49 rfl ?_
          refine g_iconst X dX8_isFull_52 (v := 5) (by decide) ?_
          refine i_iald X F 114 rfl rfl dX8_isFull_53 (vp_in_iff.mpr (by decide)) rfl ?_
          refine Go.gen (fun o39 => ?_)
          refine g_bipush X dX8_isFull_54 (v := 16) (by decide) ?_
          refine g_icmp_ne X dX8_isFull_56 (tgt := 61) (by decide) (fun q40 => ?_) (fun q40 => ?_)
          · skip
            refine g_aload_n X dX8_isFull_61 rfl (j := 0) rfl ?_
            refine g_ldcS X (tx := "arm") (i := 23) (by decide) dX8_isFull_62 ?_
            refine g_callVI X (s_X8_is l G F I 23 (by decide) ) lk_X8_173 (F.1 100 rfl).2 (F.1 100 rfl).1 rfl rfl dX8_isFull_64 (Nat.le_of_ble_eq_true rfl) ⟨by decide, by decide⟩ ⟨by decide, by decide⟩ (fun r41 L M hp => ?_)
            obtain ⟨C, D, F, I, K1, hr⟩ := hp
            have K := K.step K1 (by decide)
            have hw2 : IsW 20 (C 100) (C 104) := by rw [(K1 100 (by decide)).1, (K1 104 (by decide)).1]; exact hw2
            have en3 : C 114 (3) = nI n3 := by rw [(K1 114 (by decide)).1]; exact en3
            have hw6 : ¬ IsW 21 (C 100) (C 104) := by rw [(K1 100 (by decide)).1, (K1 104 (by decide)).1]; exact hw6
            have hw38 : IsW 22 (C 100) (C 104) := by rw [(K1 100 (by decide)).1, (K1 104 (by decide)).1]; exact hw38
            rcases hr with ⟨rfl, hw42⟩ | ⟨rfl, hw42⟩
            · skip
              refine g_if_eq X dX8_isFull_67 (tgt := 82) (by decide) (fun q => absurd q (by decide)) (fun _ => ?_)
              refine g_aload_n X dX8_isFull_70 rfl (j := 0) rfl ?_
              refine i_get X F 100 rfl rfl fk_X8_31 dX8_isFull_71 rfl ?_
              refine g_bipush X dX8_isFull_74 (v := 6) (by decide) ?_
              refine i_iald X F 114 rfl rfl dX8_isFull_76 (vp_in_iff.mpr (by decide)) rfl ?_
              refine Go.gen (fun o43 => ?_)
              refine g_bipush X dX8_isFull_77 (v := 8) (by decide) ?_
              refine g_icmp_eq X dX8_isFull_79 (tgt := 103) (by decide) (fun q44 => ?_) (fun q44 => ?_)
              · skip
                subst q44
                refine g_iconst X dX8_isFull_103 (v := 1) (by decide) ?_
                refine g_goto X dX8_isFull_104 (tgt := 108) (by decide) ?_
                exact g_zret X hrt rfl dX8_isFull_108 (by decide) (by decide) ⟨C, D, F, I, K, Or.inl rfl⟩
              · skip
                refine g_aload_n X dX8_isFull_82 rfl (j := 0) rfl ?_
                refine g_ldcS X (tx := "walker") (i := 24) (by decide) dX8_isFull_83 ?_
                refine g_callVI X (s_X8_is l G F I 24 (by decide) ) lk_X8_173 (F.1 100 rfl).2 (F.1 100 rfl).1 rfl rfl dX8_isFull_85 (Nat.le_of_ble_eq_true rfl) ⟨by decide, by decide⟩ ⟨by decide, by decide⟩ (fun r45 L M hp => ?_)
                obtain ⟨C, D, F, I, K1, hr⟩ := hp
                have K := K.step K1 (by decide)
                have hw2 : IsW 20 (C 100) (C 104) := by rw [(K1 100 (by decide)).1, (K1 104 (by decide)).1]; exact hw2
                have en3 : C 114 (3) = nI n3 := by rw [(K1 114 (by decide)).1]; exact en3
                have hw6 : ¬ IsW 21 (C 100) (C 104) := by rw [(K1 100 (by decide)).1, (K1 104 (by decide)).1]; exact hw6
                have hw38 : IsW 22 (C 100) (C 104) := by rw [(K1 100 (by decide)).1, (K1 104 (by decide)).1]; exact hw38
                have hw42 : IsW 23 (C 100) (C 104) := by rw [(K1 100 (by decide)).1, (K1 104 (by decide)).1]; exact hw42
                rcases hr with ⟨rfl, hw46⟩ | ⟨rfl, hw46⟩
                · skip
                  refine g_if_eq X dX8_isFull_88 (tgt := 107) (by decide) (fun q => absurd q (by decide)) (fun _ => ?_)
                  refine g_aload_n X dX8_isFull_91 rfl (j := 0) rfl ?_
                  refine i_get X F 100 rfl rfl fk_X8_31 dX8_isFull_92 rfl ?_
                  refine g_bipush X dX8_isFull_95 (v := 7) (by decide) ?_
                  obtain ⟨n47, hn47, en47⟩ := rg_nat ((show okw (7) (C 114 (7)) from I 114 (7)).2.2.2.2.1 rfl) (by decide)
                  refine i_iald X F 114 rfl rfl dX8_isFull_97 (vp_in_iff.mpr (by decide)) (v := nI n47) (by exact en47) ?_
                  refine g_bipush X dX8_isFull_98 (v := 8) (by decide) ?_
                  refine g_icmp_ne X dX8_isFull_100 (tgt := 107) (by decide) (fun q48 => ?_) (fun q48 => ?_)
                  · skip
                    have q48 : ¬ n47 = 8 := fun z => q48 ((nI_eq (a := n47) (b := 8) (by omega) (by omega)).mpr z)
                    refine g_iconst X dX8_isFull_107 (v := 0) (by decide) ?_
                    exact g_zret X hrt rfl dX8_isFull_108 (by decide) (by decide) ⟨C, D, F, I, K, Or.inr ⟨rfl, (fun _ z => absurd ((nI_eq (a := n3) (b := 4) (by omega) (by omega)).mp (en3.symm.trans z)) (by omega)), (fun w => absurd w (by have z := hw6; exact z)), (fun _ z => absurd ((nI_eq (a := n47) (b := 8) (by omega) (by omega)).mp (en47.symm.trans z)) (by omega))⟩⟩
                  · skip
                    have q48 : n47 = 8 := (nI_eq (a := n47) (b := 8) (by omega) (by omega)).mp q48
                    refine g_iconst X dX8_isFull_103 (v := 1) (by decide) ?_
                    refine g_goto X dX8_isFull_104 (tgt := 108) (by decide) ?_
                    exact g_zret X hrt rfl dX8_isFull_108 (by decide) (by decide) ⟨C, D, F, I, K, Or.inl rfl⟩
                · skip
                  refine g_if_eq X dX8_isFull_88 (tgt := 107) (by decide) (fun _ => ?_) (fun q => absurd (by decide) q)
                  refine g_iconst X dX8_isFull_107 (v := 0) (by decide) ?_
                  exact g_zret X hrt rfl dX8_isFull_108 (by decide) (by decide) ⟨C, D, F, I, K, Or.inr ⟨rfl, (fun _ z => absurd ((nI_eq (a := n3) (b := 4) (by omega) (by omega)).mp (en3.symm.trans z)) (by omega)), (fun w => absurd w (by have z := hw6; exact z)), (fun w => absurd w (by have z := hw46; exact z))⟩⟩
            · skip
              refine g_if_eq X dX8_isFull_67 (tgt := 82) (by decide) (fun _ => ?_) (fun q => absurd (by decide) q)
              refine g_aload_n X dX8_isFull_82 rfl (j := 0) rfl ?_
              refine g_ldcS X (tx := "walker") (i := 24) (by decide) dX8_isFull_83 ?_
              refine g_callVI X (s_X8_is l G F I 24 (by decide) ) lk_X8_173 (F.1 100 rfl).2 (F.1 100 rfl).1 rfl rfl dX8_isFull_85 (Nat.le_of_ble_eq_true rfl) ⟨by decide, by decide⟩ ⟨by decide, by decide⟩ (fun r49 L M hp => ?_)
              obtain ⟨C, D, F, I, K1, hr⟩ := hp
              have K := K.step K1 (by decide)
              have hw2 : IsW 20 (C 100) (C 104) := by rw [(K1 100 (by decide)).1, (K1 104 (by decide)).1]; exact hw2
              have en3 : C 114 (3) = nI n3 := by rw [(K1 114 (by decide)).1]; exact en3
              have hw6 : ¬ IsW 21 (C 100) (C 104) := by rw [(K1 100 (by decide)).1, (K1 104 (by decide)).1]; exact hw6
              have hw38 : IsW 22 (C 100) (C 104) := by rw [(K1 100 (by decide)).1, (K1 104 (by decide)).1]; exact hw38
              have hw42 : ¬ IsW 23 (C 100) (C 104) := by rw [(K1 100 (by decide)).1, (K1 104 (by decide)).1]; exact hw42
              rcases hr with ⟨rfl, hw50⟩ | ⟨rfl, hw50⟩
              · skip
                refine g_if_eq X dX8_isFull_88 (tgt := 107) (by decide) (fun q => absurd q (by decide)) (fun _ => ?_)
                refine g_aload_n X dX8_isFull_91 rfl (j := 0) rfl ?_
                refine i_get X F 100 rfl rfl fk_X8_31 dX8_isFull_92 rfl ?_
                refine g_bipush X dX8_isFull_95 (v := 7) (by decide) ?_
                obtain ⟨n51, hn51, en51⟩ := rg_nat ((show okw (7) (C 114 (7)) from I 114 (7)).2.2.2.2.1 rfl) (by decide)
                refine i_iald X F 114 rfl rfl dX8_isFull_97 (vp_in_iff.mpr (by decide)) (v := nI n51) (by exact en51) ?_
                refine g_bipush X dX8_isFull_98 (v := 8) (by decide) ?_
                refine g_icmp_ne X dX8_isFull_100 (tgt := 107) (by decide) (fun q52 => ?_) (fun q52 => ?_)
                · skip
                  have q52 : ¬ n51 = 8 := fun z => q52 ((nI_eq (a := n51) (b := 8) (by omega) (by omega)).mpr z)
                  refine g_iconst X dX8_isFull_107 (v := 0) (by decide) ?_
                  exact g_zret X hrt rfl dX8_isFull_108 (by decide) (by decide) ⟨C, D, F, I, K, Or.inr ⟨rfl, (fun _ z => absurd ((nI_eq (a := n3) (b := 4) (by omega) (by omega)).mp (en3.symm.trans z)) (by omega)), (fun w => absurd w (by have z := hw6; exact z)), (fun _ z => absurd ((nI_eq (a := n51) (b := 8) (by omega) (by omega)).mp (en51.symm.trans z)) (by omega))⟩⟩
                · skip
                  have q52 : n51 = 8 := (nI_eq (a := n51) (b := 8) (by omega) (by omega)).mp q52
                  refine g_iconst X dX8_isFull_103 (v := 1) (by decide) ?_
                  refine g_goto X dX8_isFull_104 (tgt := 108) (by decide) ?_
                  exact g_zret X hrt rfl dX8_isFull_108 (by decide) (by decide) ⟨C, D, F, I, K, Or.inl rfl⟩
              · skip
                refine g_if_eq X dX8_isFull_88 (tgt := 107) (by decide) (fun _ => ?_) (fun q => absurd (by decide) q)
                refine g_iconst X dX8_isFull_107 (v := 0) (by decide) ?_
                exact g_zret X hrt rfl dX8_isFull_108 (by decide) (by decide) ⟨C, D, F, I, K, Or.inr ⟨rfl, (fun _ z => absurd ((nI_eq (a := n3) (b := 4) (by omega) (by omega)).mp (en3.symm.trans z)) (by omega)), (fun w => absurd w (by have z := hw6; exact z)), (fun w => absurd w (by have z := hw50; exact z))⟩⟩
          · skip
            subst q40
            refine g_iconst X dX8_isFull_59 (v := 1) (by decide) ?_
            exact g_zret X hrt rfl dX8_isFull_60 (by decide) (by decide) ⟨C, D, F, I, K, Or.inl rfl⟩
        · skip
          refine g_if_eq X dX8_isFull_45 (tgt := 61) (by decide) (fun _ => ?_) (fun q => absurd (by decide) q)
          refine g_aload_n X dX8_isFull_61 rfl (j := 0) rfl ?_
          refine g_ldcS X (tx := "arm") (i := 23) (by decide) dX8_isFull_62 ?_
          refine g_callVI X (s_X8_is l G F I 23 (by decide) ) lk_X8_173 (F.1 100 rfl).2 (F.1 100 rfl).1 rfl rfl dX8_isFull_64 (Nat.le_of_ble_eq_true rfl) ⟨by decide, by decide⟩ ⟨by decide, by decide⟩ (fun r53 L M hp => ?_)
          obtain ⟨C, D, F, I, K1, hr⟩ := hp
          have K := K.step K1 (by decide)
          have hw2 : IsW 20 (C 100) (C 104) := by rw [(K1 100 (by decide)).1, (K1 104 (by decide)).1]; exact hw2
          have en3 : C 114 (3) = nI n3 := by rw [(K1 114 (by decide)).1]; exact en3
          have hw6 : ¬ IsW 21 (C 100) (C 104) := by rw [(K1 100 (by decide)).1, (K1 104 (by decide)).1]; exact hw6
          have hw38 : ¬ IsW 22 (C 100) (C 104) := by rw [(K1 100 (by decide)).1, (K1 104 (by decide)).1]; exact hw38
          rcases hr with ⟨rfl, hw54⟩ | ⟨rfl, hw54⟩
          · skip
            refine g_if_eq X dX8_isFull_67 (tgt := 82) (by decide) (fun q => absurd q (by decide)) (fun _ => ?_)
            refine g_aload_n X dX8_isFull_70 rfl (j := 0) rfl ?_
            refine i_get X F 100 rfl rfl fk_X8_31 dX8_isFull_71 rfl ?_
            refine g_bipush X dX8_isFull_74 (v := 6) (by decide) ?_
            refine i_iald X F 114 rfl rfl dX8_isFull_76 (vp_in_iff.mpr (by decide)) rfl ?_
            refine Go.gen (fun o55 => ?_)
            refine g_bipush X dX8_isFull_77 (v := 8) (by decide) ?_
            refine g_icmp_eq X dX8_isFull_79 (tgt := 103) (by decide) (fun q56 => ?_) (fun q56 => ?_)
            · skip
              subst q56
              refine g_iconst X dX8_isFull_103 (v := 1) (by decide) ?_
              refine g_goto X dX8_isFull_104 (tgt := 108) (by decide) ?_
              exact g_zret X hrt rfl dX8_isFull_108 (by decide) (by decide) ⟨C, D, F, I, K, Or.inl rfl⟩
            · skip
              refine g_aload_n X dX8_isFull_82 rfl (j := 0) rfl ?_
              refine g_ldcS X (tx := "walker") (i := 24) (by decide) dX8_isFull_83 ?_
              refine g_callVI X (s_X8_is l G F I 24 (by decide) ) lk_X8_173 (F.1 100 rfl).2 (F.1 100 rfl).1 rfl rfl dX8_isFull_85 (Nat.le_of_ble_eq_true rfl) ⟨by decide, by decide⟩ ⟨by decide, by decide⟩ (fun r57 L M hp => ?_)
              obtain ⟨C, D, F, I, K1, hr⟩ := hp
              have K := K.step K1 (by decide)
              have hw2 : IsW 20 (C 100) (C 104) := by rw [(K1 100 (by decide)).1, (K1 104 (by decide)).1]; exact hw2
              have en3 : C 114 (3) = nI n3 := by rw [(K1 114 (by decide)).1]; exact en3
              have hw6 : ¬ IsW 21 (C 100) (C 104) := by rw [(K1 100 (by decide)).1, (K1 104 (by decide)).1]; exact hw6
              have hw38 : ¬ IsW 22 (C 100) (C 104) := by rw [(K1 100 (by decide)).1, (K1 104 (by decide)).1]; exact hw38
              have hw54 : IsW 23 (C 100) (C 104) := by rw [(K1 100 (by decide)).1, (K1 104 (by decide)).1]; exact hw54
              rcases hr with ⟨rfl, hw58⟩ | ⟨rfl, hw58⟩
              · skip
                refine g_if_eq X dX8_isFull_88 (tgt := 107) (by decide) (fun q => absurd q (by decide)) (fun _ => ?_)
                refine g_aload_n X dX8_isFull_91 rfl (j := 0) rfl ?_
                refine i_get X F 100 rfl rfl fk_X8_31 dX8_isFull_92 rfl ?_
                refine g_bipush X dX8_isFull_95 (v := 7) (by decide) ?_
                obtain ⟨n59, hn59, en59⟩ := rg_nat ((show okw (7) (C 114 (7)) from I 114 (7)).2.2.2.2.1 rfl) (by decide)
                refine i_iald X F 114 rfl rfl dX8_isFull_97 (vp_in_iff.mpr (by decide)) (v := nI n59) (by exact en59) ?_
                refine g_bipush X dX8_isFull_98 (v := 8) (by decide) ?_
                refine g_icmp_ne X dX8_isFull_100 (tgt := 107) (by decide) (fun q60 => ?_) (fun q60 => ?_)
                · skip
                  have q60 : ¬ n59 = 8 := fun z => q60 ((nI_eq (a := n59) (b := 8) (by omega) (by omega)).mpr z)
                  refine g_iconst X dX8_isFull_107 (v := 0) (by decide) ?_
                  exact g_zret X hrt rfl dX8_isFull_108 (by decide) (by decide) ⟨C, D, F, I, K, Or.inr ⟨rfl, (fun _ z => absurd ((nI_eq (a := n3) (b := 4) (by omega) (by omega)).mp (en3.symm.trans z)) (by omega)), (fun w => absurd w (by have z := hw6; exact z)), (fun _ z => absurd ((nI_eq (a := n59) (b := 8) (by omega) (by omega)).mp (en59.symm.trans z)) (by omega))⟩⟩
                · skip
                  have q60 : n59 = 8 := (nI_eq (a := n59) (b := 8) (by omega) (by omega)).mp q60
                  refine g_iconst X dX8_isFull_103 (v := 1) (by decide) ?_
                  refine g_goto X dX8_isFull_104 (tgt := 108) (by decide) ?_
                  exact g_zret X hrt rfl dX8_isFull_108 (by decide) (by decide) ⟨C, D, F, I, K, Or.inl rfl⟩
              · skip
                refine g_if_eq X dX8_isFull_88 (tgt := 107) (by decide) (fun _ => ?_) (fun q => absurd (by decide) q)
                refine g_iconst X dX8_isFull_107 (v := 0) (by decide) ?_
                exact g_zret X hrt rfl dX8_isFull_108 (by decide) (by decide) ⟨C, D, F, I, K, Or.inr ⟨rfl, (fun _ z => absurd ((nI_eq (a := n3) (b := 4) (by omega) (by omega)).mp (en3.symm.trans z)) (by omega)), (fun w => absurd w (by have z := hw6; exact z)), (fun w => absurd w (by have z := hw58; exact z))⟩⟩
          · skip
            refine g_if_eq X dX8_isFull_67 (tgt := 82) (by decide) (fun _ => ?_) (fun q => absurd (by decide) q)
            refine g_aload_n X dX8_isFull_82 rfl (j := 0) rfl ?_
            refine g_ldcS X (tx := "walker") (i := 24) (by decide) dX8_isFull_83 ?_
            refine g_callVI X (s_X8_is l G F I 24 (by decide) ) lk_X8_173 (F.1 100 rfl).2 (F.1 100 rfl).1 rfl rfl dX8_isFull_85 (Nat.le_of_ble_eq_true rfl) ⟨by decide, by decide⟩ ⟨by decide, by decide⟩ (fun r61 L M hp => ?_)
            obtain ⟨C, D, F, I, K1, hr⟩ := hp
            have K := K.step K1 (by decide)
            have hw2 : IsW 20 (C 100) (C 104) := by rw [(K1 100 (by decide)).1, (K1 104 (by decide)).1]; exact hw2
            have en3 : C 114 (3) = nI n3 := by rw [(K1 114 (by decide)).1]; exact en3
            have hw6 : ¬ IsW 21 (C 100) (C 104) := by rw [(K1 100 (by decide)).1, (K1 104 (by decide)).1]; exact hw6
            have hw38 : ¬ IsW 22 (C 100) (C 104) := by rw [(K1 100 (by decide)).1, (K1 104 (by decide)).1]; exact hw38
            have hw54 : ¬ IsW 23 (C 100) (C 104) := by rw [(K1 100 (by decide)).1, (K1 104 (by decide)).1]; exact hw54
            rcases hr with ⟨rfl, hw62⟩ | ⟨rfl, hw62⟩
            · skip
              refine g_if_eq X dX8_isFull_88 (tgt := 107) (by decide) (fun q => absurd q (by decide)) (fun _ => ?_)
              refine g_aload_n X dX8_isFull_91 rfl (j := 0) rfl ?_
              refine i_get X F 100 rfl rfl fk_X8_31 dX8_isFull_92 rfl ?_
              refine g_bipush X dX8_isFull_95 (v := 7) (by decide) ?_
              obtain ⟨n63, hn63, en63⟩ := rg_nat ((show okw (7) (C 114 (7)) from I 114 (7)).2.2.2.2.1 rfl) (by decide)
              refine i_iald X F 114 rfl rfl dX8_isFull_97 (vp_in_iff.mpr (by decide)) (v := nI n63) (by exact en63) ?_
              refine g_bipush X dX8_isFull_98 (v := 8) (by decide) ?_
              refine g_icmp_ne X dX8_isFull_100 (tgt := 107) (by decide) (fun q64 => ?_) (fun q64 => ?_)
              · skip
                have q64 : ¬ n63 = 8 := fun z => q64 ((nI_eq (a := n63) (b := 8) (by omega) (by omega)).mpr z)
                refine g_iconst X dX8_isFull_107 (v := 0) (by decide) ?_
                exact g_zret X hrt rfl dX8_isFull_108 (by decide) (by decide) ⟨C, D, F, I, K, Or.inr ⟨rfl, (fun _ z => absurd ((nI_eq (a := n3) (b := 4) (by omega) (by omega)).mp (en3.symm.trans z)) (by omega)), (fun w => absurd w (by have z := hw6; exact z)), (fun _ z => absurd ((nI_eq (a := n63) (b := 8) (by omega) (by omega)).mp (en63.symm.trans z)) (by omega))⟩⟩
              · skip
                have q64 : n63 = 8 := (nI_eq (a := n63) (b := 8) (by omega) (by omega)).mp q64
                refine g_iconst X dX8_isFull_103 (v := 1) (by decide) ?_
                refine g_goto X dX8_isFull_104 (tgt := 108) (by decide) ?_
                exact g_zret X hrt rfl dX8_isFull_108 (by decide) (by decide) ⟨C, D, F, I, K, Or.inl rfl⟩
            · skip
              refine g_if_eq X dX8_isFull_88 (tgt := 107) (by decide) (fun _ => ?_) (fun q => absurd (by decide) q)
              refine g_iconst X dX8_isFull_107 (v := 0) (by decide) ?_
              exact g_zret X hrt rfl dX8_isFull_108 (by decide) (by decide) ⟨C, D, F, I, K, Or.inr ⟨rfl, (fun _ z => absurd ((nI_eq (a := n3) (b := 4) (by omega) (by omega)).mp (en3.symm.trans z)) (by omega)), (fun w => absurd w (by have z := hw6; exact z)), (fun w => absurd w (by have z := hw62; exact z))⟩⟩
  · skip
    refine g_if_eq X dX8_isFull_6 (tgt := 19) (by decide) (fun _ => ?_) (fun q => absurd (by decide) q)
    refine g_aload_n X dX8_isFull_19 rfl (j := 0) rfl ?_
    refine g_ldcS X (tx := "post") (i := 21) (by decide) dX8_isFull_20 ?_
    refine g_callVI X (s_X8_is l G F I 21 (by decide) ) lk_X8_173 (F.1 100 rfl).2 (F.1 100 rfl).1 rfl rfl dX8_isFull_22 (Nat.le_of_ble_eq_true rfl) ⟨by decide, by decide⟩ ⟨by decide, by decide⟩ (fun r65 L M hp => ?_)
    obtain ⟨C, D, F, I, K1, hr⟩ := hp
    have K := K.step K1 (by decide)
    have hw2 : ¬ IsW 20 (C 100) (C 104) := by rw [(K1 100 (by decide)).1, (K1 104 (by decide)).1]; exact hw2
    rcases hr with ⟨rfl, hw66⟩ | ⟨rfl, hw66⟩
    · skip
      refine g_if_eq X dX8_isFull_25 (tgt := 39) (by decide) (fun q => absurd q (by decide)) (fun _ => ?_)
      refine g_aload_n X dX8_isFull_28 rfl (j := 0) rfl ?_
      refine i_get X F 100 rfl rfl fk_X8_31 dX8_isFull_29 rfl ?_
      refine g_iconst X dX8_isFull_32 (v := 4) (by decide) ?_
      obtain ⟨n67, hn67, en67⟩ := rg_nat ((show okw (4) (C 114 (4)) from I 114 (4)).2.2.2.1 rfl) (by decide)
      refine i_iald X F 114 rfl rfl dX8_isFull_33 (vp_in_iff.mpr (by decide)) (v := nI n67) (by exact en67) ?_
      refine g_bipush X dX8_isFull_34 (v := 7) (by decide) ?_
      refine g_icmp_eq X dX8_isFull_36 (tgt := 59) (by decide) (fun q68 => ?_) (fun q68 => ?_)
      · skip
        have q68 : n67 = 7 := (nI_eq (a := n67) (b := 7) (by omega) (by omega)).mp q68
        refine g_iconst X dX8_isFull_59 (v := 1) (by decide) ?_
        exact g_zret X hrt rfl dX8_isFull_60 (by decide) (by decide) ⟨C, D, F, I, K, Or.inl rfl⟩
      · skip
        have q68 : ¬ n67 = 7 := fun z => q68 ((nI_eq (a := n67) (b := 7) (by omega) (by omega)).mpr z)
        refine g_aload_n X dX8_isFull_39 rfl (j := 0) rfl ?_
        refine g_ldcS X (tx := "road") (i := 22) (by decide) dX8_isFull_40 ?_
        refine g_callVI X (s_X8_is l G F I 22 (by decide) ) lk_X8_173 (F.1 100 rfl).2 (F.1 100 rfl).1 rfl rfl dX8_isFull_42 (Nat.le_of_ble_eq_true rfl) ⟨by decide, by decide⟩ ⟨by decide, by decide⟩ (fun r69 L M hp => ?_)
        obtain ⟨C, D, F, I, K1, hr⟩ := hp
        have K := K.step K1 (by decide)
        have hw2 : ¬ IsW 20 (C 100) (C 104) := by rw [(K1 100 (by decide)).1, (K1 104 (by decide)).1]; exact hw2
        have hw66 : IsW 21 (C 100) (C 104) := by rw [(K1 100 (by decide)).1, (K1 104 (by decide)).1]; exact hw66
        have en67 : C 114 (4) = nI n67 := by rw [(K1 114 (by decide)).1]; exact en67
        rcases hr with ⟨rfl, hw70⟩ | ⟨rfl, hw70⟩
        · skip
          refine g_if_eq X dX8_isFull_45 (tgt := 61) (by decide) (fun q => absurd q (by decide)) (fun _ => ?_)
          refine g_aload_n X dX8_isFull_48 rfl (j := 0) rfl ?_
          refine i_get X F 100 rfl rfl fk_X8_31 dX8_isFull_49 rfl ?_
          refine g_iconst X dX8_isFull_52 (v := 5) (by decide) ?_
          refine i_iald X F 114 rfl rfl dX8_isFull_53 (vp_in_iff.mpr (by decide)) rfl ?_
          refine Go.gen (fun o71 => ?_)
          refine g_bipush X dX8_isFull_54 (v := 16) (by decide) ?_
          refine g_icmp_ne X dX8_isFull_56 (tgt := 61) (by decide) (fun q72 => ?_) (fun q72 => ?_)
          · skip
            refine g_aload_n X dX8_isFull_61 rfl (j := 0) rfl ?_
            refine g_ldcS X (tx := "arm") (i := 23) (by decide) dX8_isFull_62 ?_
            refine g_callVI X (s_X8_is l G F I 23 (by decide) ) lk_X8_173 (F.1 100 rfl).2 (F.1 100 rfl).1 rfl rfl dX8_isFull_64 (Nat.le_of_ble_eq_true rfl) ⟨by decide, by decide⟩ ⟨by decide, by decide⟩ (fun r73 L M hp => ?_)
            obtain ⟨C, D, F, I, K1, hr⟩ := hp
            have K := K.step K1 (by decide)
            have hw2 : ¬ IsW 20 (C 100) (C 104) := by rw [(K1 100 (by decide)).1, (K1 104 (by decide)).1]; exact hw2
            have hw66 : IsW 21 (C 100) (C 104) := by rw [(K1 100 (by decide)).1, (K1 104 (by decide)).1]; exact hw66
            have en67 : C 114 (4) = nI n67 := by rw [(K1 114 (by decide)).1]; exact en67
            have hw70 : IsW 22 (C 100) (C 104) := by rw [(K1 100 (by decide)).1, (K1 104 (by decide)).1]; exact hw70
            rcases hr with ⟨rfl, hw74⟩ | ⟨rfl, hw74⟩
            · skip
              refine g_if_eq X dX8_isFull_67 (tgt := 82) (by decide) (fun q => absurd q (by decide)) (fun _ => ?_)
              refine g_aload_n X dX8_isFull_70 rfl (j := 0) rfl ?_
              refine i_get X F 100 rfl rfl fk_X8_31 dX8_isFull_71 rfl ?_
              refine g_bipush X dX8_isFull_74 (v := 6) (by decide) ?_
              refine i_iald X F 114 rfl rfl dX8_isFull_76 (vp_in_iff.mpr (by decide)) rfl ?_
              refine Go.gen (fun o75 => ?_)
              refine g_bipush X dX8_isFull_77 (v := 8) (by decide) ?_
              refine g_icmp_eq X dX8_isFull_79 (tgt := 103) (by decide) (fun q76 => ?_) (fun q76 => ?_)
              · skip
                subst q76
                refine g_iconst X dX8_isFull_103 (v := 1) (by decide) ?_
                refine g_goto X dX8_isFull_104 (tgt := 108) (by decide) ?_
                exact g_zret X hrt rfl dX8_isFull_108 (by decide) (by decide) ⟨C, D, F, I, K, Or.inl rfl⟩
              · skip
                refine g_aload_n X dX8_isFull_82 rfl (j := 0) rfl ?_
                refine g_ldcS X (tx := "walker") (i := 24) (by decide) dX8_isFull_83 ?_
                refine g_callVI X (s_X8_is l G F I 24 (by decide) ) lk_X8_173 (F.1 100 rfl).2 (F.1 100 rfl).1 rfl rfl dX8_isFull_85 (Nat.le_of_ble_eq_true rfl) ⟨by decide, by decide⟩ ⟨by decide, by decide⟩ (fun r77 L M hp => ?_)
                obtain ⟨C, D, F, I, K1, hr⟩ := hp
                have K := K.step K1 (by decide)
                have hw2 : ¬ IsW 20 (C 100) (C 104) := by rw [(K1 100 (by decide)).1, (K1 104 (by decide)).1]; exact hw2
                have hw66 : IsW 21 (C 100) (C 104) := by rw [(K1 100 (by decide)).1, (K1 104 (by decide)).1]; exact hw66
                have en67 : C 114 (4) = nI n67 := by rw [(K1 114 (by decide)).1]; exact en67
                have hw70 : IsW 22 (C 100) (C 104) := by rw [(K1 100 (by decide)).1, (K1 104 (by decide)).1]; exact hw70
                have hw74 : IsW 23 (C 100) (C 104) := by rw [(K1 100 (by decide)).1, (K1 104 (by decide)).1]; exact hw74
                rcases hr with ⟨rfl, hw78⟩ | ⟨rfl, hw78⟩
                · skip
                  refine g_if_eq X dX8_isFull_88 (tgt := 107) (by decide) (fun q => absurd q (by decide)) (fun _ => ?_)
                  refine g_aload_n X dX8_isFull_91 rfl (j := 0) rfl ?_
                  refine i_get X F 100 rfl rfl fk_X8_31 dX8_isFull_92 rfl ?_
                  refine g_bipush X dX8_isFull_95 (v := 7) (by decide) ?_
                  obtain ⟨n79, hn79, en79⟩ := rg_nat ((show okw (7) (C 114 (7)) from I 114 (7)).2.2.2.2.1 rfl) (by decide)
                  refine i_iald X F 114 rfl rfl dX8_isFull_97 (vp_in_iff.mpr (by decide)) (v := nI n79) (by exact en79) ?_
                  refine g_bipush X dX8_isFull_98 (v := 8) (by decide) ?_
                  refine g_icmp_ne X dX8_isFull_100 (tgt := 107) (by decide) (fun q80 => ?_) (fun q80 => ?_)
                  · skip
                    have q80 : ¬ n79 = 8 := fun z => q80 ((nI_eq (a := n79) (b := 8) (by omega) (by omega)).mpr z)
                    refine g_iconst X dX8_isFull_107 (v := 0) (by decide) ?_
                    exact g_zret X hrt rfl dX8_isFull_108 (by decide) (by decide) ⟨C, D, F, I, K, Or.inr ⟨rfl, (fun w => absurd w (by have z := hw2; exact z)), (fun _ z => absurd ((nI_eq (a := n67) (b := 7) (by omega) (by omega)).mp (en67.symm.trans z)) (by omega)), (fun _ z => absurd ((nI_eq (a := n79) (b := 8) (by omega) (by omega)).mp (en79.symm.trans z)) (by omega))⟩⟩
                  · skip
                    have q80 : n79 = 8 := (nI_eq (a := n79) (b := 8) (by omega) (by omega)).mp q80
                    refine g_iconst X dX8_isFull_103 (v := 1) (by decide) ?_
                    refine g_goto X dX8_isFull_104 (tgt := 108) (by decide) ?_
                    exact g_zret X hrt rfl dX8_isFull_108 (by decide) (by decide) ⟨C, D, F, I, K, Or.inl rfl⟩
                · skip
                  refine g_if_eq X dX8_isFull_88 (tgt := 107) (by decide) (fun _ => ?_) (fun q => absurd (by decide) q)
                  refine g_iconst X dX8_isFull_107 (v := 0) (by decide) ?_
                  exact g_zret X hrt rfl dX8_isFull_108 (by decide) (by decide) ⟨C, D, F, I, K, Or.inr ⟨rfl, (fun w => absurd w (by have z := hw2; exact z)), (fun _ z => absurd ((nI_eq (a := n67) (b := 7) (by omega) (by omega)).mp (en67.symm.trans z)) (by omega)), (fun w => absurd w (by have z := hw78; exact z))⟩⟩
            · skip
              refine g_if_eq X dX8_isFull_67 (tgt := 82) (by decide) (fun _ => ?_) (fun q => absurd (by decide) q)
              refine g_aload_n X dX8_isFull_82 rfl (j := 0) rfl ?_
              refine g_ldcS X (tx := "walker") (i := 24) (by decide) dX8_isFull_83 ?_
              refine g_callVI X (s_X8_is l G F I 24 (by decide) ) lk_X8_173 (F.1 100 rfl).2 (F.1 100 rfl).1 rfl rfl dX8_isFull_85 (Nat.le_of_ble_eq_true rfl) ⟨by decide, by decide⟩ ⟨by decide, by decide⟩ (fun r81 L M hp => ?_)
              obtain ⟨C, D, F, I, K1, hr⟩ := hp
              have K := K.step K1 (by decide)
              have hw2 : ¬ IsW 20 (C 100) (C 104) := by rw [(K1 100 (by decide)).1, (K1 104 (by decide)).1]; exact hw2
              have hw66 : IsW 21 (C 100) (C 104) := by rw [(K1 100 (by decide)).1, (K1 104 (by decide)).1]; exact hw66
              have en67 : C 114 (4) = nI n67 := by rw [(K1 114 (by decide)).1]; exact en67
              have hw70 : IsW 22 (C 100) (C 104) := by rw [(K1 100 (by decide)).1, (K1 104 (by decide)).1]; exact hw70
              have hw74 : ¬ IsW 23 (C 100) (C 104) := by rw [(K1 100 (by decide)).1, (K1 104 (by decide)).1]; exact hw74
              rcases hr with ⟨rfl, hw82⟩ | ⟨rfl, hw82⟩
              · skip
                refine g_if_eq X dX8_isFull_88 (tgt := 107) (by decide) (fun q => absurd q (by decide)) (fun _ => ?_)
                refine g_aload_n X dX8_isFull_91 rfl (j := 0) rfl ?_
                refine i_get X F 100 rfl rfl fk_X8_31 dX8_isFull_92 rfl ?_
                refine g_bipush X dX8_isFull_95 (v := 7) (by decide) ?_
                obtain ⟨n83, hn83, en83⟩ := rg_nat ((show okw (7) (C 114 (7)) from I 114 (7)).2.2.2.2.1 rfl) (by decide)
                refine i_iald X F 114 rfl rfl dX8_isFull_97 (vp_in_iff.mpr (by decide)) (v := nI n83) (by exact en83) ?_
                refine g_bipush X dX8_isFull_98 (v := 8) (by decide) ?_
                refine g_icmp_ne X dX8_isFull_100 (tgt := 107) (by decide) (fun q84 => ?_) (fun q84 => ?_)
                · skip
                  have q84 : ¬ n83 = 8 := fun z => q84 ((nI_eq (a := n83) (b := 8) (by omega) (by omega)).mpr z)
                  refine g_iconst X dX8_isFull_107 (v := 0) (by decide) ?_
                  exact g_zret X hrt rfl dX8_isFull_108 (by decide) (by decide) ⟨C, D, F, I, K, Or.inr ⟨rfl, (fun w => absurd w (by have z := hw2; exact z)), (fun _ z => absurd ((nI_eq (a := n67) (b := 7) (by omega) (by omega)).mp (en67.symm.trans z)) (by omega)), (fun _ z => absurd ((nI_eq (a := n83) (b := 8) (by omega) (by omega)).mp (en83.symm.trans z)) (by omega))⟩⟩
                · skip
                  have q84 : n83 = 8 := (nI_eq (a := n83) (b := 8) (by omega) (by omega)).mp q84
                  refine g_iconst X dX8_isFull_103 (v := 1) (by decide) ?_
                  refine g_goto X dX8_isFull_104 (tgt := 108) (by decide) ?_
                  exact g_zret X hrt rfl dX8_isFull_108 (by decide) (by decide) ⟨C, D, F, I, K, Or.inl rfl⟩
              · skip
                refine g_if_eq X dX8_isFull_88 (tgt := 107) (by decide) (fun _ => ?_) (fun q => absurd (by decide) q)
                refine g_iconst X dX8_isFull_107 (v := 0) (by decide) ?_
                exact g_zret X hrt rfl dX8_isFull_108 (by decide) (by decide) ⟨C, D, F, I, K, Or.inr ⟨rfl, (fun w => absurd w (by have z := hw2; exact z)), (fun _ z => absurd ((nI_eq (a := n67) (b := 7) (by omega) (by omega)).mp (en67.symm.trans z)) (by omega)), (fun w => absurd w (by have z := hw82; exact z))⟩⟩
          · skip
            subst q72
            refine g_iconst X dX8_isFull_59 (v := 1) (by decide) ?_
            exact g_zret X hrt rfl dX8_isFull_60 (by decide) (by decide) ⟨C, D, F, I, K, Or.inl rfl⟩
        · skip
          refine g_if_eq X dX8_isFull_45 (tgt := 61) (by decide) (fun _ => ?_) (fun q => absurd (by decide) q)
          refine g_aload_n X dX8_isFull_61 rfl (j := 0) rfl ?_
          refine g_ldcS X (tx := "arm") (i := 23) (by decide) dX8_isFull_62 ?_
          refine g_callVI X (s_X8_is l G F I 23 (by decide) ) lk_X8_173 (F.1 100 rfl).2 (F.1 100 rfl).1 rfl rfl dX8_isFull_64 (Nat.le_of_ble_eq_true rfl) ⟨by decide, by decide⟩ ⟨by decide, by decide⟩ (fun r85 L M hp => ?_)
          obtain ⟨C, D, F, I, K1, hr⟩ := hp
          have K := K.step K1 (by decide)
          have hw2 : ¬ IsW 20 (C 100) (C 104) := by rw [(K1 100 (by decide)).1, (K1 104 (by decide)).1]; exact hw2
          have hw66 : IsW 21 (C 100) (C 104) := by rw [(K1 100 (by decide)).1, (K1 104 (by decide)).1]; exact hw66
          have en67 : C 114 (4) = nI n67 := by rw [(K1 114 (by decide)).1]; exact en67
          have hw70 : ¬ IsW 22 (C 100) (C 104) := by rw [(K1 100 (by decide)).1, (K1 104 (by decide)).1]; exact hw70
          rcases hr with ⟨rfl, hw86⟩ | ⟨rfl, hw86⟩
          · skip
            refine g_if_eq X dX8_isFull_67 (tgt := 82) (by decide) (fun q => absurd q (by decide)) (fun _ => ?_)
            refine g_aload_n X dX8_isFull_70 rfl (j := 0) rfl ?_
            refine i_get X F 100 rfl rfl fk_X8_31 dX8_isFull_71 rfl ?_
            refine g_bipush X dX8_isFull_74 (v := 6) (by decide) ?_
            refine i_iald X F 114 rfl rfl dX8_isFull_76 (vp_in_iff.mpr (by decide)) rfl ?_
            refine Go.gen (fun o87 => ?_)
            refine g_bipush X dX8_isFull_77 (v := 8) (by decide) ?_
            refine g_icmp_eq X dX8_isFull_79 (tgt := 103) (by decide) (fun q88 => ?_) (fun q88 => ?_)
            · skip
              subst q88
              refine g_iconst X dX8_isFull_103 (v := 1) (by decide) ?_
              refine g_goto X dX8_isFull_104 (tgt := 108) (by decide) ?_
              exact g_zret X hrt rfl dX8_isFull_108 (by decide) (by decide) ⟨C, D, F, I, K, Or.inl rfl⟩
            · skip
              refine g_aload_n X dX8_isFull_82 rfl (j := 0) rfl ?_
              refine g_ldcS X (tx := "walker") (i := 24) (by decide) dX8_isFull_83 ?_
              refine g_callVI X (s_X8_is l G F I 24 (by decide) ) lk_X8_173 (F.1 100 rfl).2 (F.1 100 rfl).1 rfl rfl dX8_isFull_85 (Nat.le_of_ble_eq_true rfl) ⟨by decide, by decide⟩ ⟨by decide, by decide⟩ (fun r89 L M hp => ?_)
              obtain ⟨C, D, F, I, K1, hr⟩ := hp
              have K := K.step K1 (by decide)
              have hw2 : ¬ IsW 20 (C 100) (C 104) := by rw [(K1 100 (by decide)).1, (K1 104 (by decide)).1]; exact hw2
              have hw66 : IsW 21 (C 100) (C 104) := by rw [(K1 100 (by decide)).1, (K1 104 (by decide)).1]; exact hw66
              have en67 : C 114 (4) = nI n67 := by rw [(K1 114 (by decide)).1]; exact en67
              have hw70 : ¬ IsW 22 (C 100) (C 104) := by rw [(K1 100 (by decide)).1, (K1 104 (by decide)).1]; exact hw70
              have hw86 : IsW 23 (C 100) (C 104) := by rw [(K1 100 (by decide)).1, (K1 104 (by decide)).1]; exact hw86
              rcases hr with ⟨rfl, hw90⟩ | ⟨rfl, hw90⟩
              · skip
                refine g_if_eq X dX8_isFull_88 (tgt := 107) (by decide) (fun q => absurd q (by decide)) (fun _ => ?_)
                refine g_aload_n X dX8_isFull_91 rfl (j := 0) rfl ?_
                refine i_get X F 100 rfl rfl fk_X8_31 dX8_isFull_92 rfl ?_
                refine g_bipush X dX8_isFull_95 (v := 7) (by decide) ?_
                obtain ⟨n91, hn91, en91⟩ := rg_nat ((show okw (7) (C 114 (7)) from I 114 (7)).2.2.2.2.1 rfl) (by decide)
                refine i_iald X F 114 rfl rfl dX8_isFull_97 (vp_in_iff.mpr (by decide)) (v := nI n91) (by exact en91) ?_
                refine g_bipush X dX8_isFull_98 (v := 8) (by decide) ?_
                refine g_icmp_ne X dX8_isFull_100 (tgt := 107) (by decide) (fun q92 => ?_) (fun q92 => ?_)
                · skip
                  have q92 : ¬ n91 = 8 := fun z => q92 ((nI_eq (a := n91) (b := 8) (by omega) (by omega)).mpr z)
                  refine g_iconst X dX8_isFull_107 (v := 0) (by decide) ?_
                  exact g_zret X hrt rfl dX8_isFull_108 (by decide) (by decide) ⟨C, D, F, I, K, Or.inr ⟨rfl, (fun w => absurd w (by have z := hw2; exact z)), (fun _ z => absurd ((nI_eq (a := n67) (b := 7) (by omega) (by omega)).mp (en67.symm.trans z)) (by omega)), (fun _ z => absurd ((nI_eq (a := n91) (b := 8) (by omega) (by omega)).mp (en91.symm.trans z)) (by omega))⟩⟩
                · skip
                  have q92 : n91 = 8 := (nI_eq (a := n91) (b := 8) (by omega) (by omega)).mp q92
                  refine g_iconst X dX8_isFull_103 (v := 1) (by decide) ?_
                  refine g_goto X dX8_isFull_104 (tgt := 108) (by decide) ?_
                  exact g_zret X hrt rfl dX8_isFull_108 (by decide) (by decide) ⟨C, D, F, I, K, Or.inl rfl⟩
              · skip
                refine g_if_eq X dX8_isFull_88 (tgt := 107) (by decide) (fun _ => ?_) (fun q => absurd (by decide) q)
                refine g_iconst X dX8_isFull_107 (v := 0) (by decide) ?_
                exact g_zret X hrt rfl dX8_isFull_108 (by decide) (by decide) ⟨C, D, F, I, K, Or.inr ⟨rfl, (fun w => absurd w (by have z := hw2; exact z)), (fun _ z => absurd ((nI_eq (a := n67) (b := 7) (by omega) (by omega)).mp (en67.symm.trans z)) (by omega)), (fun w => absurd w (by have z := hw90; exact z))⟩⟩
          · skip
            refine g_if_eq X dX8_isFull_67 (tgt := 82) (by decide) (fun _ => ?_) (fun q => absurd (by decide) q)
            refine g_aload_n X dX8_isFull_82 rfl (j := 0) rfl ?_
            refine g_ldcS X (tx := "walker") (i := 24) (by decide) dX8_isFull_83 ?_
            refine g_callVI X (s_X8_is l G F I 24 (by decide) ) lk_X8_173 (F.1 100 rfl).2 (F.1 100 rfl).1 rfl rfl dX8_isFull_85 (Nat.le_of_ble_eq_true rfl) ⟨by decide, by decide⟩ ⟨by decide, by decide⟩ (fun r93 L M hp => ?_)
            obtain ⟨C, D, F, I, K1, hr⟩ := hp
            have K := K.step K1 (by decide)
            have hw2 : ¬ IsW 20 (C 100) (C 104) := by rw [(K1 100 (by decide)).1, (K1 104 (by decide)).1]; exact hw2
            have hw66 : IsW 21 (C 100) (C 104) := by rw [(K1 100 (by decide)).1, (K1 104 (by decide)).1]; exact hw66
            have en67 : C 114 (4) = nI n67 := by rw [(K1 114 (by decide)).1]; exact en67
            have hw70 : ¬ IsW 22 (C 100) (C 104) := by rw [(K1 100 (by decide)).1, (K1 104 (by decide)).1]; exact hw70
            have hw86 : ¬ IsW 23 (C 100) (C 104) := by rw [(K1 100 (by decide)).1, (K1 104 (by decide)).1]; exact hw86
            rcases hr with ⟨rfl, hw94⟩ | ⟨rfl, hw94⟩
            · skip
              refine g_if_eq X dX8_isFull_88 (tgt := 107) (by decide) (fun q => absurd q (by decide)) (fun _ => ?_)
              refine g_aload_n X dX8_isFull_91 rfl (j := 0) rfl ?_
              refine i_get X F 100 rfl rfl fk_X8_31 dX8_isFull_92 rfl ?_
              refine g_bipush X dX8_isFull_95 (v := 7) (by decide) ?_
              obtain ⟨n95, hn95, en95⟩ := rg_nat ((show okw (7) (C 114 (7)) from I 114 (7)).2.2.2.2.1 rfl) (by decide)
              refine i_iald X F 114 rfl rfl dX8_isFull_97 (vp_in_iff.mpr (by decide)) (v := nI n95) (by exact en95) ?_
              refine g_bipush X dX8_isFull_98 (v := 8) (by decide) ?_
              refine g_icmp_ne X dX8_isFull_100 (tgt := 107) (by decide) (fun q96 => ?_) (fun q96 => ?_)
              · skip
                have q96 : ¬ n95 = 8 := fun z => q96 ((nI_eq (a := n95) (b := 8) (by omega) (by omega)).mpr z)
                refine g_iconst X dX8_isFull_107 (v := 0) (by decide) ?_
                exact g_zret X hrt rfl dX8_isFull_108 (by decide) (by decide) ⟨C, D, F, I, K, Or.inr ⟨rfl, (fun w => absurd w (by have z := hw2; exact z)), (fun _ z => absurd ((nI_eq (a := n67) (b := 7) (by omega) (by omega)).mp (en67.symm.trans z)) (by omega)), (fun _ z => absurd ((nI_eq (a := n95) (b := 8) (by omega) (by omega)).mp (en95.symm.trans z)) (by omega))⟩⟩
              · skip
                have q96 : n95 = 8 := (nI_eq (a := n95) (b := 8) (by omega) (by omega)).mp q96
                refine g_iconst X dX8_isFull_103 (v := 1) (by decide) ?_
                refine g_goto X dX8_isFull_104 (tgt := 108) (by decide) ?_
                exact g_zret X hrt rfl dX8_isFull_108 (by decide) (by decide) ⟨C, D, F, I, K, Or.inl rfl⟩
            · skip
              refine g_if_eq X dX8_isFull_88 (tgt := 107) (by decide) (fun _ => ?_) (fun q => absurd (by decide) q)
              refine g_iconst X dX8_isFull_107 (v := 0) (by decide) ?_
              exact g_zret X hrt rfl dX8_isFull_108 (by decide) (by decide) ⟨C, D, F, I, K, Or.inr ⟨rfl, (fun w => absurd w (by have z := hw2; exact z)), (fun _ z => absurd ((nI_eq (a := n67) (b := 7) (by omega) (by omega)).mp (en67.symm.trans z)) (by omega)), (fun w => absurd w (by have z := hw94; exact z))⟩⟩
    · skip
      refine g_if_eq X dX8_isFull_25 (tgt := 39) (by decide) (fun _ => ?_) (fun q => absurd (by decide) q)
      refine g_aload_n X dX8_isFull_39 rfl (j := 0) rfl ?_
      refine g_ldcS X (tx := "road") (i := 22) (by decide) dX8_isFull_40 ?_
      refine g_callVI X (s_X8_is l G F I 22 (by decide) ) lk_X8_173 (F.1 100 rfl).2 (F.1 100 rfl).1 rfl rfl dX8_isFull_42 (Nat.le_of_ble_eq_true rfl) ⟨by decide, by decide⟩ ⟨by decide, by decide⟩ (fun r97 L M hp => ?_)
      obtain ⟨C, D, F, I, K1, hr⟩ := hp
      have K := K.step K1 (by decide)
      have hw2 : ¬ IsW 20 (C 100) (C 104) := by rw [(K1 100 (by decide)).1, (K1 104 (by decide)).1]; exact hw2
      have hw66 : ¬ IsW 21 (C 100) (C 104) := by rw [(K1 100 (by decide)).1, (K1 104 (by decide)).1]; exact hw66
      rcases hr with ⟨rfl, hw98⟩ | ⟨rfl, hw98⟩
      · skip
        refine g_if_eq X dX8_isFull_45 (tgt := 61) (by decide) (fun q => absurd q (by decide)) (fun _ => ?_)
        refine g_aload_n X dX8_isFull_48 rfl (j := 0) rfl ?_
        refine i_get X F 100 rfl rfl fk_X8_31 dX8_isFull_49 rfl ?_
        refine g_iconst X dX8_isFull_52 (v := 5) (by decide) ?_
        refine i_iald X F 114 rfl rfl dX8_isFull_53 (vp_in_iff.mpr (by decide)) rfl ?_
        refine Go.gen (fun o99 => ?_)
        refine g_bipush X dX8_isFull_54 (v := 16) (by decide) ?_
        refine g_icmp_ne X dX8_isFull_56 (tgt := 61) (by decide) (fun q100 => ?_) (fun q100 => ?_)
        · skip
          refine g_aload_n X dX8_isFull_61 rfl (j := 0) rfl ?_
          refine g_ldcS X (tx := "arm") (i := 23) (by decide) dX8_isFull_62 ?_
          refine g_callVI X (s_X8_is l G F I 23 (by decide) ) lk_X8_173 (F.1 100 rfl).2 (F.1 100 rfl).1 rfl rfl dX8_isFull_64 (Nat.le_of_ble_eq_true rfl) ⟨by decide, by decide⟩ ⟨by decide, by decide⟩ (fun r101 L M hp => ?_)
          obtain ⟨C, D, F, I, K1, hr⟩ := hp
          have K := K.step K1 (by decide)
          have hw2 : ¬ IsW 20 (C 100) (C 104) := by rw [(K1 100 (by decide)).1, (K1 104 (by decide)).1]; exact hw2
          have hw66 : ¬ IsW 21 (C 100) (C 104) := by rw [(K1 100 (by decide)).1, (K1 104 (by decide)).1]; exact hw66
          have hw98 : IsW 22 (C 100) (C 104) := by rw [(K1 100 (by decide)).1, (K1 104 (by decide)).1]; exact hw98
          rcases hr with ⟨rfl, hw102⟩ | ⟨rfl, hw102⟩
          · skip
            refine g_if_eq X dX8_isFull_67 (tgt := 82) (by decide) (fun q => absurd q (by decide)) (fun _ => ?_)
            refine g_aload_n X dX8_isFull_70 rfl (j := 0) rfl ?_
            refine i_get X F 100 rfl rfl fk_X8_31 dX8_isFull_71 rfl ?_
            refine g_bipush X dX8_isFull_74 (v := 6) (by decide) ?_
            refine i_iald X F 114 rfl rfl dX8_isFull_76 (vp_in_iff.mpr (by decide)) rfl ?_
            refine Go.gen (fun o103 => ?_)
            refine g_bipush X dX8_isFull_77 (v := 8) (by decide) ?_
            refine g_icmp_eq X dX8_isFull_79 (tgt := 103) (by decide) (fun q104 => ?_) (fun q104 => ?_)
            · skip
              subst q104
              refine g_iconst X dX8_isFull_103 (v := 1) (by decide) ?_
              refine g_goto X dX8_isFull_104 (tgt := 108) (by decide) ?_
              exact g_zret X hrt rfl dX8_isFull_108 (by decide) (by decide) ⟨C, D, F, I, K, Or.inl rfl⟩
            · skip
              refine g_aload_n X dX8_isFull_82 rfl (j := 0) rfl ?_
              refine g_ldcS X (tx := "walker") (i := 24) (by decide) dX8_isFull_83 ?_
              refine g_callVI X (s_X8_is l G F I 24 (by decide) ) lk_X8_173 (F.1 100 rfl).2 (F.1 100 rfl).1 rfl rfl dX8_isFull_85 (Nat.le_of_ble_eq_true rfl) ⟨by decide, by decide⟩ ⟨by decide, by decide⟩ (fun r105 L M hp => ?_)
              obtain ⟨C, D, F, I, K1, hr⟩ := hp
              have K := K.step K1 (by decide)
              have hw2 : ¬ IsW 20 (C 100) (C 104) := by rw [(K1 100 (by decide)).1, (K1 104 (by decide)).1]; exact hw2
              have hw66 : ¬ IsW 21 (C 100) (C 104) := by rw [(K1 100 (by decide)).1, (K1 104 (by decide)).1]; exact hw66
              have hw98 : IsW 22 (C 100) (C 104) := by rw [(K1 100 (by decide)).1, (K1 104 (by decide)).1]; exact hw98
              have hw102 : IsW 23 (C 100) (C 104) := by rw [(K1 100 (by decide)).1, (K1 104 (by decide)).1]; exact hw102
              rcases hr with ⟨rfl, hw106⟩ | ⟨rfl, hw106⟩
              · skip
                refine g_if_eq X dX8_isFull_88 (tgt := 107) (by decide) (fun q => absurd q (by decide)) (fun _ => ?_)
                refine g_aload_n X dX8_isFull_91 rfl (j := 0) rfl ?_
                refine i_get X F 100 rfl rfl fk_X8_31 dX8_isFull_92 rfl ?_
                refine g_bipush X dX8_isFull_95 (v := 7) (by decide) ?_
                obtain ⟨n107, hn107, en107⟩ := rg_nat ((show okw (7) (C 114 (7)) from I 114 (7)).2.2.2.2.1 rfl) (by decide)
                refine i_iald X F 114 rfl rfl dX8_isFull_97 (vp_in_iff.mpr (by decide)) (v := nI n107) (by exact en107) ?_
                refine g_bipush X dX8_isFull_98 (v := 8) (by decide) ?_
                refine g_icmp_ne X dX8_isFull_100 (tgt := 107) (by decide) (fun q108 => ?_) (fun q108 => ?_)
                · skip
                  have q108 : ¬ n107 = 8 := fun z => q108 ((nI_eq (a := n107) (b := 8) (by omega) (by omega)).mpr z)
                  refine g_iconst X dX8_isFull_107 (v := 0) (by decide) ?_
                  exact g_zret X hrt rfl dX8_isFull_108 (by decide) (by decide) ⟨C, D, F, I, K, Or.inr ⟨rfl, (fun w => absurd w (by have z := hw2; exact z)), (fun w => absurd w (by have z := hw66; exact z)), (fun _ z => absurd ((nI_eq (a := n107) (b := 8) (by omega) (by omega)).mp (en107.symm.trans z)) (by omega))⟩⟩
                · skip
                  have q108 : n107 = 8 := (nI_eq (a := n107) (b := 8) (by omega) (by omega)).mp q108
                  refine g_iconst X dX8_isFull_103 (v := 1) (by decide) ?_
                  refine g_goto X dX8_isFull_104 (tgt := 108) (by decide) ?_
                  exact g_zret X hrt rfl dX8_isFull_108 (by decide) (by decide) ⟨C, D, F, I, K, Or.inl rfl⟩
              · skip
                refine g_if_eq X dX8_isFull_88 (tgt := 107) (by decide) (fun _ => ?_) (fun q => absurd (by decide) q)
                refine g_iconst X dX8_isFull_107 (v := 0) (by decide) ?_
                exact g_zret X hrt rfl dX8_isFull_108 (by decide) (by decide) ⟨C, D, F, I, K, Or.inr ⟨rfl, (fun w => absurd w (by have z := hw2; exact z)), (fun w => absurd w (by have z := hw66; exact z)), (fun w => absurd w (by have z := hw106; exact z))⟩⟩
          · skip
            refine g_if_eq X dX8_isFull_67 (tgt := 82) (by decide) (fun _ => ?_) (fun q => absurd (by decide) q)
            refine g_aload_n X dX8_isFull_82 rfl (j := 0) rfl ?_
            refine g_ldcS X (tx := "walker") (i := 24) (by decide) dX8_isFull_83 ?_
            refine g_callVI X (s_X8_is l G F I 24 (by decide) ) lk_X8_173 (F.1 100 rfl).2 (F.1 100 rfl).1 rfl rfl dX8_isFull_85 (Nat.le_of_ble_eq_true rfl) ⟨by decide, by decide⟩ ⟨by decide, by decide⟩ (fun r109 L M hp => ?_)
            obtain ⟨C, D, F, I, K1, hr⟩ := hp
            have K := K.step K1 (by decide)
            have hw2 : ¬ IsW 20 (C 100) (C 104) := by rw [(K1 100 (by decide)).1, (K1 104 (by decide)).1]; exact hw2
            have hw66 : ¬ IsW 21 (C 100) (C 104) := by rw [(K1 100 (by decide)).1, (K1 104 (by decide)).1]; exact hw66
            have hw98 : IsW 22 (C 100) (C 104) := by rw [(K1 100 (by decide)).1, (K1 104 (by decide)).1]; exact hw98
            have hw102 : ¬ IsW 23 (C 100) (C 104) := by rw [(K1 100 (by decide)).1, (K1 104 (by decide)).1]; exact hw102
            rcases hr with ⟨rfl, hw110⟩ | ⟨rfl, hw110⟩
            · skip
              refine g_if_eq X dX8_isFull_88 (tgt := 107) (by decide) (fun q => absurd q (by decide)) (fun _ => ?_)
              refine g_aload_n X dX8_isFull_91 rfl (j := 0) rfl ?_
              refine i_get X F 100 rfl rfl fk_X8_31 dX8_isFull_92 rfl ?_
              refine g_bipush X dX8_isFull_95 (v := 7) (by decide) ?_
              obtain ⟨n111, hn111, en111⟩ := rg_nat ((show okw (7) (C 114 (7)) from I 114 (7)).2.2.2.2.1 rfl) (by decide)
              refine i_iald X F 114 rfl rfl dX8_isFull_97 (vp_in_iff.mpr (by decide)) (v := nI n111) (by exact en111) ?_
              refine g_bipush X dX8_isFull_98 (v := 8) (by decide) ?_
              refine g_icmp_ne X dX8_isFull_100 (tgt := 107) (by decide) (fun q112 => ?_) (fun q112 => ?_)
              · skip
                have q112 : ¬ n111 = 8 := fun z => q112 ((nI_eq (a := n111) (b := 8) (by omega) (by omega)).mpr z)
                refine g_iconst X dX8_isFull_107 (v := 0) (by decide) ?_
                exact g_zret X hrt rfl dX8_isFull_108 (by decide) (by decide) ⟨C, D, F, I, K, Or.inr ⟨rfl, (fun w => absurd w (by have z := hw2; exact z)), (fun w => absurd w (by have z := hw66; exact z)), (fun _ z => absurd ((nI_eq (a := n111) (b := 8) (by omega) (by omega)).mp (en111.symm.trans z)) (by omega))⟩⟩
              · skip
                have q112 : n111 = 8 := (nI_eq (a := n111) (b := 8) (by omega) (by omega)).mp q112
                refine g_iconst X dX8_isFull_103 (v := 1) (by decide) ?_
                refine g_goto X dX8_isFull_104 (tgt := 108) (by decide) ?_
                exact g_zret X hrt rfl dX8_isFull_108 (by decide) (by decide) ⟨C, D, F, I, K, Or.inl rfl⟩
            · skip
              refine g_if_eq X dX8_isFull_88 (tgt := 107) (by decide) (fun _ => ?_) (fun q => absurd (by decide) q)
              refine g_iconst X dX8_isFull_107 (v := 0) (by decide) ?_
              exact g_zret X hrt rfl dX8_isFull_108 (by decide) (by decide) ⟨C, D, F, I, K, Or.inr ⟨rfl, (fun w => absurd w (by have z := hw2; exact z)), (fun w => absurd w (by have z := hw66; exact z)), (fun w => absurd w (by have z := hw110; exact z))⟩⟩
        · skip
          subst q100
          refine g_iconst X dX8_isFull_59 (v := 1) (by decide) ?_
          exact g_zret X hrt rfl dX8_isFull_60 (by decide) (by decide) ⟨C, D, F, I, K, Or.inl rfl⟩
      · skip
        refine g_if_eq X dX8_isFull_45 (tgt := 61) (by decide) (fun _ => ?_) (fun q => absurd (by decide) q)
        refine g_aload_n X dX8_isFull_61 rfl (j := 0) rfl ?_
        refine g_ldcS X (tx := "arm") (i := 23) (by decide) dX8_isFull_62 ?_
        refine g_callVI X (s_X8_is l G F I 23 (by decide) ) lk_X8_173 (F.1 100 rfl).2 (F.1 100 rfl).1 rfl rfl dX8_isFull_64 (Nat.le_of_ble_eq_true rfl) ⟨by decide, by decide⟩ ⟨by decide, by decide⟩ (fun r113 L M hp => ?_)
        obtain ⟨C, D, F, I, K1, hr⟩ := hp
        have K := K.step K1 (by decide)
        have hw2 : ¬ IsW 20 (C 100) (C 104) := by rw [(K1 100 (by decide)).1, (K1 104 (by decide)).1]; exact hw2
        have hw66 : ¬ IsW 21 (C 100) (C 104) := by rw [(K1 100 (by decide)).1, (K1 104 (by decide)).1]; exact hw66
        have hw98 : ¬ IsW 22 (C 100) (C 104) := by rw [(K1 100 (by decide)).1, (K1 104 (by decide)).1]; exact hw98
        rcases hr with ⟨rfl, hw114⟩ | ⟨rfl, hw114⟩
        · skip
          refine g_if_eq X dX8_isFull_67 (tgt := 82) (by decide) (fun q => absurd q (by decide)) (fun _ => ?_)
          refine g_aload_n X dX8_isFull_70 rfl (j := 0) rfl ?_
          refine i_get X F 100 rfl rfl fk_X8_31 dX8_isFull_71 rfl ?_
          refine g_bipush X dX8_isFull_74 (v := 6) (by decide) ?_
          refine i_iald X F 114 rfl rfl dX8_isFull_76 (vp_in_iff.mpr (by decide)) rfl ?_
          refine Go.gen (fun o115 => ?_)
          refine g_bipush X dX8_isFull_77 (v := 8) (by decide) ?_
          refine g_icmp_eq X dX8_isFull_79 (tgt := 103) (by decide) (fun q116 => ?_) (fun q116 => ?_)
          · skip
            subst q116
            refine g_iconst X dX8_isFull_103 (v := 1) (by decide) ?_
            refine g_goto X dX8_isFull_104 (tgt := 108) (by decide) ?_
            exact g_zret X hrt rfl dX8_isFull_108 (by decide) (by decide) ⟨C, D, F, I, K, Or.inl rfl⟩
          · skip
            refine g_aload_n X dX8_isFull_82 rfl (j := 0) rfl ?_
            refine g_ldcS X (tx := "walker") (i := 24) (by decide) dX8_isFull_83 ?_
            refine g_callVI X (s_X8_is l G F I 24 (by decide) ) lk_X8_173 (F.1 100 rfl).2 (F.1 100 rfl).1 rfl rfl dX8_isFull_85 (Nat.le_of_ble_eq_true rfl) ⟨by decide, by decide⟩ ⟨by decide, by decide⟩ (fun r117 L M hp => ?_)
            obtain ⟨C, D, F, I, K1, hr⟩ := hp
            have K := K.step K1 (by decide)
            have hw2 : ¬ IsW 20 (C 100) (C 104) := by rw [(K1 100 (by decide)).1, (K1 104 (by decide)).1]; exact hw2
            have hw66 : ¬ IsW 21 (C 100) (C 104) := by rw [(K1 100 (by decide)).1, (K1 104 (by decide)).1]; exact hw66
            have hw98 : ¬ IsW 22 (C 100) (C 104) := by rw [(K1 100 (by decide)).1, (K1 104 (by decide)).1]; exact hw98
            have hw114 : IsW 23 (C 100) (C 104) := by rw [(K1 100 (by decide)).1, (K1 104 (by decide)).1]; exact hw114
            rcases hr with ⟨rfl, hw118⟩ | ⟨rfl, hw118⟩
            · skip
              refine g_if_eq X dX8_isFull_88 (tgt := 107) (by decide) (fun q => absurd q (by decide)) (fun _ => ?_)
              refine g_aload_n X dX8_isFull_91 rfl (j := 0) rfl ?_
              refine i_get X F 100 rfl rfl fk_X8_31 dX8_isFull_92 rfl ?_
              refine g_bipush X dX8_isFull_95 (v := 7) (by decide) ?_
              obtain ⟨n119, hn119, en119⟩ := rg_nat ((show okw (7) (C 114 (7)) from I 114 (7)).2.2.2.2.1 rfl) (by decide)
              refine i_iald X F 114 rfl rfl dX8_isFull_97 (vp_in_iff.mpr (by decide)) (v := nI n119) (by exact en119) ?_
              refine g_bipush X dX8_isFull_98 (v := 8) (by decide) ?_
              refine g_icmp_ne X dX8_isFull_100 (tgt := 107) (by decide) (fun q120 => ?_) (fun q120 => ?_)
              · skip
                have q120 : ¬ n119 = 8 := fun z => q120 ((nI_eq (a := n119) (b := 8) (by omega) (by omega)).mpr z)
                refine g_iconst X dX8_isFull_107 (v := 0) (by decide) ?_
                exact g_zret X hrt rfl dX8_isFull_108 (by decide) (by decide) ⟨C, D, F, I, K, Or.inr ⟨rfl, (fun w => absurd w (by have z := hw2; exact z)), (fun w => absurd w (by have z := hw66; exact z)), (fun _ z => absurd ((nI_eq (a := n119) (b := 8) (by omega) (by omega)).mp (en119.symm.trans z)) (by omega))⟩⟩
              · skip
                have q120 : n119 = 8 := (nI_eq (a := n119) (b := 8) (by omega) (by omega)).mp q120
                refine g_iconst X dX8_isFull_103 (v := 1) (by decide) ?_
                refine g_goto X dX8_isFull_104 (tgt := 108) (by decide) ?_
                exact g_zret X hrt rfl dX8_isFull_108 (by decide) (by decide) ⟨C, D, F, I, K, Or.inl rfl⟩
            · skip
              refine g_if_eq X dX8_isFull_88 (tgt := 107) (by decide) (fun _ => ?_) (fun q => absurd (by decide) q)
              refine g_iconst X dX8_isFull_107 (v := 0) (by decide) ?_
              exact g_zret X hrt rfl dX8_isFull_108 (by decide) (by decide) ⟨C, D, F, I, K, Or.inr ⟨rfl, (fun w => absurd w (by have z := hw2; exact z)), (fun w => absurd w (by have z := hw66; exact z)), (fun w => absurd w (by have z := hw118; exact z))⟩⟩
        · skip
          refine g_if_eq X dX8_isFull_67 (tgt := 82) (by decide) (fun _ => ?_) (fun q => absurd (by decide) q)
          refine g_aload_n X dX8_isFull_82 rfl (j := 0) rfl ?_
          refine g_ldcS X (tx := "walker") (i := 24) (by decide) dX8_isFull_83 ?_
          refine g_callVI X (s_X8_is l G F I 24 (by decide) ) lk_X8_173 (F.1 100 rfl).2 (F.1 100 rfl).1 rfl rfl dX8_isFull_85 (Nat.le_of_ble_eq_true rfl) ⟨by decide, by decide⟩ ⟨by decide, by decide⟩ (fun r121 L M hp => ?_)
          obtain ⟨C, D, F, I, K1, hr⟩ := hp
          have K := K.step K1 (by decide)
          have hw2 : ¬ IsW 20 (C 100) (C 104) := by rw [(K1 100 (by decide)).1, (K1 104 (by decide)).1]; exact hw2
          have hw66 : ¬ IsW 21 (C 100) (C 104) := by rw [(K1 100 (by decide)).1, (K1 104 (by decide)).1]; exact hw66
          have hw98 : ¬ IsW 22 (C 100) (C 104) := by rw [(K1 100 (by decide)).1, (K1 104 (by decide)).1]; exact hw98
          have hw114 : ¬ IsW 23 (C 100) (C 104) := by rw [(K1 100 (by decide)).1, (K1 104 (by decide)).1]; exact hw114
          rcases hr with ⟨rfl, hw122⟩ | ⟨rfl, hw122⟩
          · skip
            refine g_if_eq X dX8_isFull_88 (tgt := 107) (by decide) (fun q => absurd q (by decide)) (fun _ => ?_)
            refine g_aload_n X dX8_isFull_91 rfl (j := 0) rfl ?_
            refine i_get X F 100 rfl rfl fk_X8_31 dX8_isFull_92 rfl ?_
            refine g_bipush X dX8_isFull_95 (v := 7) (by decide) ?_
            obtain ⟨n123, hn123, en123⟩ := rg_nat ((show okw (7) (C 114 (7)) from I 114 (7)).2.2.2.2.1 rfl) (by decide)
            refine i_iald X F 114 rfl rfl dX8_isFull_97 (vp_in_iff.mpr (by decide)) (v := nI n123) (by exact en123) ?_
            refine g_bipush X dX8_isFull_98 (v := 8) (by decide) ?_
            refine g_icmp_ne X dX8_isFull_100 (tgt := 107) (by decide) (fun q124 => ?_) (fun q124 => ?_)
            · skip
              have q124 : ¬ n123 = 8 := fun z => q124 ((nI_eq (a := n123) (b := 8) (by omega) (by omega)).mpr z)
              refine g_iconst X dX8_isFull_107 (v := 0) (by decide) ?_
              exact g_zret X hrt rfl dX8_isFull_108 (by decide) (by decide) ⟨C, D, F, I, K, Or.inr ⟨rfl, (fun w => absurd w (by have z := hw2; exact z)), (fun w => absurd w (by have z := hw66; exact z)), (fun _ z => absurd ((nI_eq (a := n123) (b := 8) (by omega) (by omega)).mp (en123.symm.trans z)) (by omega))⟩⟩
            · skip
              have q124 : n123 = 8 := (nI_eq (a := n123) (b := 8) (by omega) (by omega)).mp q124
              refine g_iconst X dX8_isFull_103 (v := 1) (by decide) ?_
              refine g_goto X dX8_isFull_104 (tgt := 108) (by decide) ?_
              exact g_zret X hrt rfl dX8_isFull_108 (by decide) (by decide) ⟨C, D, F, I, K, Or.inl rfl⟩
          · skip
            refine g_if_eq X dX8_isFull_88 (tgt := 107) (by decide) (fun _ => ?_) (fun q => absurd (by decide) q)
            refine g_iconst X dX8_isFull_107 (v := 0) (by decide) ?_
            exact g_zret X hrt rfl dX8_isFull_108 (by decide) (by decide) ⟨C, D, F, I, K, Or.inr ⟨rfl, (fun w => absurd w (by have z := hw2; exact z)), (fun w => absurd w (by have z := hw66; exact z)), (fun w => absurd w (by have z := hw122; exact z))⟩⟩
set_option maxHeartbeats 4000000 in
set_option maxRecDepth 100000 in
theorem s_X8_readNext (l : Launch) (G : va_G) {cy : Nat → ClassId} {L : List Nat} {M : Nat → va_E} {a : Nat → Nat} {act : Nat → Bool} {C0 : Nat → Nat → Int32} {D0 : Nat → Nat → Int64} {R : Nat → Nat → Option Nat} (F : WI L M a act (ent cy a C0 D0 R)) (I : Inv C0)   : MV l G cy yX8_readNext cX8_readNext 2 none 9 0 0 [.ref (a 100)] L M (fun L2 M2 => ∃ C2 D2, WI L2 M2 a act (ent cy a C2 D2 R) ∧ Inv C2 ∧ Kp [100, 114] C0 D0 C2 D2 ∧ (C0 100 8).toInt ≤ (C2 100 8).toInt) := by
  refine MV.of (own := RX8) rfl (by decide) (Nat.le_of_ble_eq_true rfl) ?_
  intro p e s m below meth c A X hrt hnm
  obtain ⟨C, D, hC0, hD0, F, I, K⟩ : ∃ C D, C = C0 ∧ D = D0 ∧ WI L M a act (ent cy a C D R) ∧ Inv C ∧ Kp [100, 114] C0 D0 C D := ⟨C0, D0, rfl, rfl, F, I, Kp.rf⟩
  have ham : (C0 100 8).toInt ≤ (C 100 8).toInt := by rw [hC0]; exact Int.le_refl _
  have hm : C 100 12 = 0 → C0 100 12 = 0 := fun z => by rw [hC0] at z; exact z
  refine g_aload_n X dX8_readNext_0 rfl (j := 0) rfl ?_
  refine g_ldcS X (tx := "inn") (i := 20) (by decide) dX8_readNext_1 ?_
  refine g_callVI X (s_X8_is l G F I 20 (by decide) ) lk_X8_173 (F.1 100 rfl).2 (F.1 100 rfl).1 rfl rfl dX8_readNext_3 (Nat.le_of_ble_eq_true rfl) ⟨by decide, by decide⟩ ⟨by decide, by decide⟩ (fun r1 L M hp => ?_)
  obtain ⟨C, D, F, I, K1, hr⟩ := hp
  have K := K.step K1 (by decide)
  have hm : C 100 12 = 0 → C0 100 12 = 0 := fun z => hm ((congrFun (K1 100 (by decide)).1 12).symm.trans z)
  have ham : (C0 100 8).toInt ≤ (C 100 8).toInt := by rw [(K1 100 (by decide)).1]; exact ham
  rcases hr with ⟨rfl, hw2⟩ | ⟨rfl, hw2⟩
  · skip
    refine g_if_ne X dX8_readNext_6 (tgt := 45) (by decide) (fun _ => ?_) (fun q => absurd q (by decide))
    refine g_iconst X dX8_readNext_45 (v := 1) (by decide) ?_
    refine g_goto X dX8_readNext_46 (tgt := 50) (by decide) ?_
    refine g_istore_n X dX8_readNext_50 rfl (by decide) (lv2 := [(1, .int 1), (0, .ref (a 100))]) rfl ?_
    refine g_iload_n X dX8_readNext_51 rfl (j := 0) rfl ?_
    refine g_if_ne X dX8_readNext_52 (tgt := 60) (by decide) (fun _ => ?_) (fun q => absurd q (by decide))
    refine g_aload_n X dX8_readNext_60 rfl (j := 1) rfl ?_
    refine g_callVI X (s_X8_isFull l G F I  ) lk_X8_222 (F.1 100 rfl).2 (F.1 100 rfl).1 rfl rfl dX8_readNext_61 (Nat.le_of_ble_eq_true rfl) ⟨by decide, by decide⟩ ⟨by decide, by decide⟩ (fun r3 L M hp => ?_)
    obtain ⟨C, D, F, I, K1, hr⟩ := hp
    have K := K.step K1 (by decide)
    have hm : C 100 12 = 0 → C0 100 12 = 0 := fun z => hm ((congrFun (K1 100 (by decide)).1 12).symm.trans z)
    have ham : (C0 100 8).toInt ≤ (C 100 8).toInt := by rw [(K1 100 (by decide)).1]; exact ham
    have hw2 : IsW 20 (C 100) (C 104) := by rw [(K1 100 (by decide)).1, (K1 104 (by decide)).1]; exact hw2
    rcases hr with rfl | ⟨rfl, hF3, hF4, hF7⟩
    · skip
      refine g_if_eq X dX8_readNext_64 (tgt := 72) (by decide) (fun q => absurd q (by decide)) (fun _ => ?_)
      refine g_aload_n X dX8_readNext_67 rfl (j := 1) rfl ?_
      refine g_iconst X dX8_readNext_68 (v := 3) (by decide) ?_
      refine g_callVV X (s_X8_errs l G F I (3 : Int32) (by decide)) lk_X8_183 (F.1 100 rfl).2 (F.1 100 rfl).1 rfl rfl dX8_readNext_69 (Nat.le_of_ble_eq_true rfl) ⟨by decide, by decide⟩ ⟨by decide, by decide⟩ (fun L M hp => ?_)
      obtain ⟨C, D, F, I, K1, hr⟩ := hp
      have K := K.step K1 (by decide)
      obtain ⟨hr, hr8⟩ := hr
      have hm : C 100 12 = 0 → C0 100 12 = 0 := fun z => absurd z hr
      have hgd := hr
      have ham : (C0 100 8).toInt ≤ (C 100 8).toInt := Int.le_trans ham (by rw [hr8]; exact Int.le_refl _)
      refine g_aload_n X dX8_readNext_72 rfl (j := 1) rfl ?_
      refine g_callVI X (s_X8_good l G F I  ) lk_X8_161 (F.1 100 rfl).2 (F.1 100 rfl).1 rfl rfl dX8_readNext_73 (Nat.le_of_ble_eq_true rfl) ⟨by decide, by decide⟩ ⟨by decide, by decide⟩ (fun r4 L M hp => ?_)
      obtain ⟨C, D, F, I, K1, hr⟩ := hp
      have K := K.step K1 (by decide)
      have hm : C 100 12 = 0 → C0 100 12 = 0 := fun z => hm ((congrFun (K1 100 (by decide)).1 12).symm.trans z)
      have hgd : ¬ C 100 12 = 0 := by rw [(K1 100 (by decide)).1]; exact hgd
      have ham : (C0 100 8).toInt ≤ (C 100 8).toInt := by rw [(K1 100 (by decide)).1]; exact ham
      rcases hr with ⟨rfl, hg5⟩ | ⟨rfl, hg5⟩
      · skip
        have hgd := hg5
        refine g_if_ne X dX8_readNext_76 (tgt := 80) (by decide) (fun q => absurd (by decide) q) (fun _ => ?_)
        exact g_vret X hrt dX8_readNext_79 (by decide) (by decide) ⟨C, D, F, I, K, ham⟩
      · skip
        exact absurd hg5 hgd
    · skip
      refine g_if_eq X dX8_readNext_64 (tgt := 72) (by decide) (fun _ => ?_) (fun q => absurd (by decide) q)
      refine g_aload_n X dX8_readNext_72 rfl (j := 1) rfl ?_
      refine g_callVI X (s_X8_good l G F I  ) lk_X8_161 (F.1 100 rfl).2 (F.1 100 rfl).1 rfl rfl dX8_readNext_73 (Nat.le_of_ble_eq_true rfl) ⟨by decide, by decide⟩ ⟨by decide, by decide⟩ (fun r6 L M hp => ?_)
      obtain ⟨C, D, F, I, K1, hr⟩ := hp
      have K := K.step K1 (by decide)
      have hm : C 100 12 = 0 → C0 100 12 = 0 := fun z => hm ((congrFun (K1 100 (by decide)).1 12).symm.trans z)
      have ham : (C0 100 8).toInt ≤ (C 100 8).toInt := by rw [(K1 100 (by decide)).1]; exact ham
      have hw2 : IsW 20 (C 100) (C 104) := by rw [(K1 100 (by decide)).1, (K1 104 (by decide)).1]; exact hw2
      have hF3 : IsW 20 (C 100) (C 104) → ¬ C 114 3 = 4 := by rw [(K1 100 (by decide)).1, (K1 104 (by decide)).1, (K1 114 (by decide)).1]; exact hF3
      have hF4 : IsW 21 (C 100) (C 104) → ¬ C 114 4 = 7 := by rw [(K1 100 (by decide)).1, (K1 104 (by decide)).1, (K1 114 (by decide)).1]; exact hF4
      have hF7 : IsW 24 (C 100) (C 104) → ¬ C 114 7 = 8 := by rw [(K1 100 (by decide)).1, (K1 104 (by decide)).1, (K1 114 (by decide)).1]; exact hF7
      rcases hr with ⟨rfl, hg7⟩ | ⟨rfl, hg7⟩
      · skip
        have hgd := hg7
        refine g_if_ne X dX8_readNext_76 (tgt := 80) (by decide) (fun q => absurd (by decide) q) (fun _ => ?_)
        exact g_vret X hrt dX8_readNext_79 (by decide) (by decide) ⟨C, D, F, I, K, ham⟩
      · skip
        have hgd := hg7
        have hmy := hm hgd
        refine g_if_ne X dX8_readNext_76 (tgt := 80) (by decide) (fun _ => ?_) (fun q => absurd q (by decide))
        refine g_aload_n X dX8_readNext_80 rfl (j := 1) rfl ?_
        refine g_ldcS X (tx := "inn") (i := 20) (by decide) dX8_readNext_81 ?_
        refine g_callVI X (s_X8_takes l G F I 20 (by decide) ) lk_X8_180 (F.1 100 rfl).2 (F.1 100 rfl).1 rfl rfl dX8_readNext_83 (Nat.le_of_ble_eq_true rfl) ⟨by decide, by decide⟩ ⟨by decide, by decide⟩ (fun r8 L M hp => ?_)
        obtain ⟨C, D, F, I, K1, hr⟩ := hp
        have K := K.step K1 (by decide)
        obtain ⟨hrat, hrm, hr⟩ := hr
        have hm : C 100 12 = 0 → C0 100 12 = 0 := fun z => hm (hrm z)
        have ham : (C0 100 8).toInt ≤ (C 100 8).toInt := Int.le_trans ham hrat
        rcases hr with ⟨rfl, ht9⟩ | ⟨rfl, ht9, ht9E⟩
        · skip
          have hT3 : ¬ C 114 3 = 4 := by rw [(K1 114 (by decide)).1]; exact hF3 ht9
          refine g_if_eq X dX8_readNext_86 (tgt := 125) (by decide) (fun q => absurd q (by decide)) (fun _ => ?_)
          refine g_aload_n X dX8_readNext_89 rfl (j := 1) rfl ?_
          refine i_get X F 100 rfl rfl fk_X8_31 dX8_readNext_90 rfl ?_
          refine g_bipush X dX8_readNext_93 (v := 10) (by decide) ?_
          refine g_aload_n X dX8_readNext_95 rfl (j := 1) rfl ?_
          refine i_get X F 100 rfl rfl fk_X8_31 dX8_readNext_96 rfl ?_
          refine g_iconst X dX8_readNext_99 (v := 3) (by decide) ?_
          obtain ⟨n10, hn10, en10⟩ := rg_nat ((show okw (3) (C 114 (3)) from I 114 (3)).2.2.1 rfl) (by decide)
          refine i_iald X F 114 rfl rfl dX8_readNext_100 (vp_in_iff.mpr (by decide)) (v := nI n10) (by exact en10) ?_
          have hnen10 : n10 ≠ 4 := fun z => hT3 (by rw [en10, z]; rfl)
          refine g_iadd X dX8_readNext_101 ?_
          refine Go.top (v := .int (nI (10 + n10))) (congrArg Value.int (nI_add 10 n10)) ?_
          refine g_aload_n X dX8_readNext_102 rfl (j := 1) rfl ?_
          refine g_ldcS X (tx := "room") (i := 25) (by decide) dX8_readNext_103 ?_
          refine g_iconst X dX8_readNext_105 (v := 0) (by decide) ?_
          refine g_bipush X dX8_readNext_106 (v := 9) (by decide) ?_
          refine g_callVI X (s_X8_toldBy l G F I 25 (by decide) (0 : Int32) (9 : Int32) ) lk_X8_197 (F.1 100 rfl).2 (F.1 100 rfl).1 rfl rfl dX8_readNext_108 (Nat.le_of_ble_eq_true rfl) ⟨by decide, by decide⟩ ⟨by decide, by decide⟩ (fun r11 L M hp => ?_)
          obtain ⟨C, D, F, I, K1, hr⟩ := hp
          have K := K.step K1 (by decide)
          have hT3 : ¬ C 114 3 = 4 := by rw [(K1 114 (by decide)).1]; exact hT3
          have en10 : C 114 (3) = nI n10 := by rw [(K1 114 (by decide)).1]; exact en10
          obtain ⟨hrat, hrm, hnum⟩ := hr
          have hm : C 100 12 = 0 → C0 100 12 = 0 := fun z => hm (hrm z)
          have ham : (C0 100 8).toInt ≤ (C 100 8).toInt := Int.le_trans ham hrat
          obtain ⟨n12, hn12, en12⟩ := num_nat (B := 9) (by decide) hnum (by have kk : (9 : Int32).toInt = 9 := (by decide); omega)
          subst en12
          refine i_iast X F I 114 rfl (fun _ => rfl) dX8_readNext_111 (vp_in_nI (by omega) (by decide)) (by rw [nI_clamp (by omega)]; show okw (10 + n10) (nI n12); exact ⟨fun h => by exfalso; omega, fun h => by exfalso; omega, fun h => by exfalso; omega, fun h => by exfalso; omega, fun h => by exfalso; omega, fun h => by exfalso; omega, fun a1 a2 a3 => by exfalso; omega, fun a1 a2 a3 => by exfalso; omega, fun a1 a2 a3 a4 => by exfalso; omega, fun a1 a2 a3 => by exfalso; omega, fun a1 a2 => by exfalso; omega⟩) (fun M C F I K1 hC => ?_)
          have K := K.step K1 (by decide)
          have hm : C 100 12 = 0 → C0 100 12 = 0 := fun z => hm ((congrFun (K1 100 (by decide)).1 12).symm.trans z)
          have ham : (C0 100 8).toInt ≤ (C 100 8).toInt := by rw [(K1 100 (by decide)).1]; exact ham
          have en10 : C 114 (3) = nI n10 := by rw [hC, nI_clamp (by omega), pk_un (by omega)]; exact en10
          refine g_aload_n X dX8_readNext_112 rfl (j := 1) rfl ?_
          refine i_get X F 100 rfl rfl fk_X8_31 dX8_readNext_113 rfl ?_
          refine g_iconst X dX8_readNext_116 (v := 3) (by decide) ?_
          refine g_dup2 X dX8_readNext_117 rfl rfl ?_
          refine i_iald X F 114 rfl rfl dX8_readNext_118 (vp_in_iff.mpr (by decide)) (v := nI n10) (by exact en10) ?_
          refine g_iconst X dX8_readNext_119 (v := 1) (by decide) ?_
          refine g_iadd X dX8_readNext_120 ?_
          refine Go.top (v := .int (nI (n10 + 1))) (congrArg Value.int (nI_add n10 1)) ?_
          refine i_iast X F I 114 rfl (fun _ => rfl) dX8_readNext_121 (vp_in_iff.mpr (by decide)) (by show okw (3) (nI (n10 + 1)); exact ⟨fun h => by exfalso; omega, fun h => by exfalso; omega, fun _ => (rg_of (n := (n10 + 1)) (by omega) (by omega) (by omega)), fun h => by exfalso; omega, fun h => by exfalso; omega, fun h => by exfalso; omega, fun a1 a2 a3 => by exfalso; omega, fun a1 a2 a3 => by exfalso; omega, fun a1 a2 a3 a4 => by exfalso; omega, fun a1 a2 a3 => by exfalso; omega, fun a1 a2 => by exfalso; omega⟩) (fun M C F I K1 hC => ?_)
          have K := K.step K1 (by decide)
          have hm : C 100 12 = 0 → C0 100 12 = 0 := fun z => hm ((congrFun (K1 100 (by decide)).1 12).symm.trans z)
          have ham : (C0 100 8).toInt ≤ (C 100 8).toInt := by rw [(K1 100 (by decide)).1]; exact ham
          refine g_goto X dX8_readNext_122 (tgt := 187) (by decide) ?_
          exact g_vret X hrt dX8_readNext_187 (by decide) (by decide) ⟨C, D, F, I, K, ham⟩
        · skip
          exact absurd hw2 ht9
  · skip
    refine g_if_ne X dX8_readNext_6 (tgt := 45) (by decide) (fun q => absurd (by decide) q) (fun _ => ?_)
    refine g_aload_n X dX8_readNext_9 rfl (j := 0) rfl ?_
    refine g_ldcS X (tx := "post") (i := 21) (by decide) dX8_readNext_10 ?_
    refine g_callVI X (s_X8_is l G F I 21 (by decide) ) lk_X8_173 (F.1 100 rfl).2 (F.1 100 rfl).1 rfl rfl dX8_readNext_12 (Nat.le_of_ble_eq_true rfl) ⟨by decide, by decide⟩ ⟨by decide, by decide⟩ (fun r13 L M hp => ?_)
    obtain ⟨C, D, F, I, K1, hr⟩ := hp
    have K := K.step K1 (by decide)
    have hm : C 100 12 = 0 → C0 100 12 = 0 := fun z => hm ((congrFun (K1 100 (by decide)).1 12).symm.trans z)
    have ham : (C0 100 8).toInt ≤ (C 100 8).toInt := by rw [(K1 100 (by decide)).1]; exact ham
    have hw2 : ¬ IsW 20 (C 100) (C 104) := by rw [(K1 100 (by decide)).1, (K1 104 (by decide)).1]; exact hw2
    rcases hr with ⟨rfl, hw14⟩ | ⟨rfl, hw14⟩
    · skip
      refine g_if_ne X dX8_readNext_15 (tgt := 45) (by decide) (fun _ => ?_) (fun q => absurd q (by decide))
      refine g_iconst X dX8_readNext_45 (v := 1) (by decide) ?_
      refine g_goto X dX8_readNext_46 (tgt := 50) (by decide) ?_
      refine g_istore_n X dX8_readNext_50 rfl (by decide) (lv2 := [(1, .int 1), (0, .ref (a 100))]) rfl ?_
      refine g_iload_n X dX8_readNext_51 rfl (j := 0) rfl ?_
      refine g_if_ne X dX8_readNext_52 (tgt := 60) (by decide) (fun _ => ?_) (fun q => absurd q (by decide))
      refine g_aload_n X dX8_readNext_60 rfl (j := 1) rfl ?_
      refine g_callVI X (s_X8_isFull l G F I  ) lk_X8_222 (F.1 100 rfl).2 (F.1 100 rfl).1 rfl rfl dX8_readNext_61 (Nat.le_of_ble_eq_true rfl) ⟨by decide, by decide⟩ ⟨by decide, by decide⟩ (fun r15 L M hp => ?_)
      obtain ⟨C, D, F, I, K1, hr⟩ := hp
      have K := K.step K1 (by decide)
      have hm : C 100 12 = 0 → C0 100 12 = 0 := fun z => hm ((congrFun (K1 100 (by decide)).1 12).symm.trans z)
      have ham : (C0 100 8).toInt ≤ (C 100 8).toInt := by rw [(K1 100 (by decide)).1]; exact ham
      have hw2 : ¬ IsW 20 (C 100) (C 104) := by rw [(K1 100 (by decide)).1, (K1 104 (by decide)).1]; exact hw2
      have hw14 : IsW 21 (C 100) (C 104) := by rw [(K1 100 (by decide)).1, (K1 104 (by decide)).1]; exact hw14
      rcases hr with rfl | ⟨rfl, hF3, hF4, hF7⟩
      · skip
        refine g_if_eq X dX8_readNext_64 (tgt := 72) (by decide) (fun q => absurd q (by decide)) (fun _ => ?_)
        refine g_aload_n X dX8_readNext_67 rfl (j := 1) rfl ?_
        refine g_iconst X dX8_readNext_68 (v := 3) (by decide) ?_
        refine g_callVV X (s_X8_errs l G F I (3 : Int32) (by decide)) lk_X8_183 (F.1 100 rfl).2 (F.1 100 rfl).1 rfl rfl dX8_readNext_69 (Nat.le_of_ble_eq_true rfl) ⟨by decide, by decide⟩ ⟨by decide, by decide⟩ (fun L M hp => ?_)
        obtain ⟨C, D, F, I, K1, hr⟩ := hp
        have K := K.step K1 (by decide)
        obtain ⟨hr, hr8⟩ := hr
        have hm : C 100 12 = 0 → C0 100 12 = 0 := fun z => absurd z hr
        have hgd := hr
        have ham : (C0 100 8).toInt ≤ (C 100 8).toInt := Int.le_trans ham (by rw [hr8]; exact Int.le_refl _)
        refine g_aload_n X dX8_readNext_72 rfl (j := 1) rfl ?_
        refine g_callVI X (s_X8_good l G F I  ) lk_X8_161 (F.1 100 rfl).2 (F.1 100 rfl).1 rfl rfl dX8_readNext_73 (Nat.le_of_ble_eq_true rfl) ⟨by decide, by decide⟩ ⟨by decide, by decide⟩ (fun r16 L M hp => ?_)
        obtain ⟨C, D, F, I, K1, hr⟩ := hp
        have K := K.step K1 (by decide)
        have hm : C 100 12 = 0 → C0 100 12 = 0 := fun z => hm ((congrFun (K1 100 (by decide)).1 12).symm.trans z)
        have hgd : ¬ C 100 12 = 0 := by rw [(K1 100 (by decide)).1]; exact hgd
        have ham : (C0 100 8).toInt ≤ (C 100 8).toInt := by rw [(K1 100 (by decide)).1]; exact ham
        rcases hr with ⟨rfl, hg17⟩ | ⟨rfl, hg17⟩
        · skip
          have hgd := hg17
          refine g_if_ne X dX8_readNext_76 (tgt := 80) (by decide) (fun q => absurd (by decide) q) (fun _ => ?_)
          exact g_vret X hrt dX8_readNext_79 (by decide) (by decide) ⟨C, D, F, I, K, ham⟩
        · skip
          exact absurd hg17 hgd
      · skip
        refine g_if_eq X dX8_readNext_64 (tgt := 72) (by decide) (fun _ => ?_) (fun q => absurd (by decide) q)
        refine g_aload_n X dX8_readNext_72 rfl (j := 1) rfl ?_
        refine g_callVI X (s_X8_good l G F I  ) lk_X8_161 (F.1 100 rfl).2 (F.1 100 rfl).1 rfl rfl dX8_readNext_73 (Nat.le_of_ble_eq_true rfl) ⟨by decide, by decide⟩ ⟨by decide, by decide⟩ (fun r18 L M hp => ?_)
        obtain ⟨C, D, F, I, K1, hr⟩ := hp
        have K := K.step K1 (by decide)
        have hm : C 100 12 = 0 → C0 100 12 = 0 := fun z => hm ((congrFun (K1 100 (by decide)).1 12).symm.trans z)
        have ham : (C0 100 8).toInt ≤ (C 100 8).toInt := by rw [(K1 100 (by decide)).1]; exact ham
        have hw2 : ¬ IsW 20 (C 100) (C 104) := by rw [(K1 100 (by decide)).1, (K1 104 (by decide)).1]; exact hw2
        have hw14 : IsW 21 (C 100) (C 104) := by rw [(K1 100 (by decide)).1, (K1 104 (by decide)).1]; exact hw14
        have hF3 : IsW 20 (C 100) (C 104) → ¬ C 114 3 = 4 := by rw [(K1 100 (by decide)).1, (K1 104 (by decide)).1, (K1 114 (by decide)).1]; exact hF3
        have hF4 : IsW 21 (C 100) (C 104) → ¬ C 114 4 = 7 := by rw [(K1 100 (by decide)).1, (K1 104 (by decide)).1, (K1 114 (by decide)).1]; exact hF4
        have hF7 : IsW 24 (C 100) (C 104) → ¬ C 114 7 = 8 := by rw [(K1 100 (by decide)).1, (K1 104 (by decide)).1, (K1 114 (by decide)).1]; exact hF7
        rcases hr with ⟨rfl, hg19⟩ | ⟨rfl, hg19⟩
        · skip
          have hgd := hg19
          refine g_if_ne X dX8_readNext_76 (tgt := 80) (by decide) (fun q => absurd (by decide) q) (fun _ => ?_)
          exact g_vret X hrt dX8_readNext_79 (by decide) (by decide) ⟨C, D, F, I, K, ham⟩
        · skip
          have hgd := hg19
          have hmy := hm hgd
          refine g_if_ne X dX8_readNext_76 (tgt := 80) (by decide) (fun _ => ?_) (fun q => absurd q (by decide))
          refine g_aload_n X dX8_readNext_80 rfl (j := 1) rfl ?_
          refine g_ldcS X (tx := "inn") (i := 20) (by decide) dX8_readNext_81 ?_
          refine g_callVI X (s_X8_takes l G F I 20 (by decide) ) lk_X8_180 (F.1 100 rfl).2 (F.1 100 rfl).1 rfl rfl dX8_readNext_83 (Nat.le_of_ble_eq_true rfl) ⟨by decide, by decide⟩ ⟨by decide, by decide⟩ (fun r20 L M hp => ?_)
          obtain ⟨C, D, F, I, K1, hr⟩ := hp
          have K := K.step K1 (by decide)
          obtain ⟨hrat, hrm, hr⟩ := hr
          have hm : C 100 12 = 0 → C0 100 12 = 0 := fun z => hm (hrm z)
          have ham : (C0 100 8).toInt ≤ (C 100 8).toInt := Int.le_trans ham hrat
          rcases hr with ⟨rfl, ht21⟩ | ⟨rfl, ht21, ht21E⟩
          · skip
            have hT3 : ¬ C 114 3 = 4 := by rw [(K1 114 (by decide)).1]; exact hF3 ht21
            refine g_if_eq X dX8_readNext_86 (tgt := 125) (by decide) (fun q => absurd q (by decide)) (fun _ => ?_)
            refine g_aload_n X dX8_readNext_89 rfl (j := 1) rfl ?_
            refine i_get X F 100 rfl rfl fk_X8_31 dX8_readNext_90 rfl ?_
            refine g_bipush X dX8_readNext_93 (v := 10) (by decide) ?_
            refine g_aload_n X dX8_readNext_95 rfl (j := 1) rfl ?_
            refine i_get X F 100 rfl rfl fk_X8_31 dX8_readNext_96 rfl ?_
            refine g_iconst X dX8_readNext_99 (v := 3) (by decide) ?_
            obtain ⟨n22, hn22, en22⟩ := rg_nat ((show okw (3) (C 114 (3)) from I 114 (3)).2.2.1 rfl) (by decide)
            refine i_iald X F 114 rfl rfl dX8_readNext_100 (vp_in_iff.mpr (by decide)) (v := nI n22) (by exact en22) ?_
            have hnen22 : n22 ≠ 4 := fun z => hT3 (by rw [en22, z]; rfl)
            refine g_iadd X dX8_readNext_101 ?_
            refine Go.top (v := .int (nI (10 + n22))) (congrArg Value.int (nI_add 10 n22)) ?_
            refine g_aload_n X dX8_readNext_102 rfl (j := 1) rfl ?_
            refine g_ldcS X (tx := "room") (i := 25) (by decide) dX8_readNext_103 ?_
            refine g_iconst X dX8_readNext_105 (v := 0) (by decide) ?_
            refine g_bipush X dX8_readNext_106 (v := 9) (by decide) ?_
            refine g_callVI X (s_X8_toldBy l G F I 25 (by decide) (0 : Int32) (9 : Int32) ) lk_X8_197 (F.1 100 rfl).2 (F.1 100 rfl).1 rfl rfl dX8_readNext_108 (Nat.le_of_ble_eq_true rfl) ⟨by decide, by decide⟩ ⟨by decide, by decide⟩ (fun r23 L M hp => ?_)
            obtain ⟨C, D, F, I, K1, hr⟩ := hp
            have K := K.step K1 (by decide)
            have hT3 : ¬ C 114 3 = 4 := by rw [(K1 114 (by decide)).1]; exact hT3
            have en22 : C 114 (3) = nI n22 := by rw [(K1 114 (by decide)).1]; exact en22
            obtain ⟨hrat, hrm, hnum⟩ := hr
            have hm : C 100 12 = 0 → C0 100 12 = 0 := fun z => hm (hrm z)
            have ham : (C0 100 8).toInt ≤ (C 100 8).toInt := Int.le_trans ham hrat
            obtain ⟨n24, hn24, en24⟩ := num_nat (B := 9) (by decide) hnum (by have kk : (9 : Int32).toInt = 9 := (by decide); omega)
            subst en24
            refine i_iast X F I 114 rfl (fun _ => rfl) dX8_readNext_111 (vp_in_nI (by omega) (by decide)) (by rw [nI_clamp (by omega)]; show okw (10 + n22) (nI n24); exact ⟨fun h => by exfalso; omega, fun h => by exfalso; omega, fun h => by exfalso; omega, fun h => by exfalso; omega, fun h => by exfalso; omega, fun h => by exfalso; omega, fun a1 a2 a3 => by exfalso; omega, fun a1 a2 a3 => by exfalso; omega, fun a1 a2 a3 a4 => by exfalso; omega, fun a1 a2 a3 => by exfalso; omega, fun a1 a2 => by exfalso; omega⟩) (fun M C F I K1 hC => ?_)
            have K := K.step K1 (by decide)
            have hm : C 100 12 = 0 → C0 100 12 = 0 := fun z => hm ((congrFun (K1 100 (by decide)).1 12).symm.trans z)
            have ham : (C0 100 8).toInt ≤ (C 100 8).toInt := by rw [(K1 100 (by decide)).1]; exact ham
            have en22 : C 114 (3) = nI n22 := by rw [hC, nI_clamp (by omega), pk_un (by omega)]; exact en22
            refine g_aload_n X dX8_readNext_112 rfl (j := 1) rfl ?_
            refine i_get X F 100 rfl rfl fk_X8_31 dX8_readNext_113 rfl ?_
            refine g_iconst X dX8_readNext_116 (v := 3) (by decide) ?_
            refine g_dup2 X dX8_readNext_117 rfl rfl ?_
            refine i_iald X F 114 rfl rfl dX8_readNext_118 (vp_in_iff.mpr (by decide)) (v := nI n22) (by exact en22) ?_
            refine g_iconst X dX8_readNext_119 (v := 1) (by decide) ?_
            refine g_iadd X dX8_readNext_120 ?_
            refine Go.top (v := .int (nI (n22 + 1))) (congrArg Value.int (nI_add n22 1)) ?_
            refine i_iast X F I 114 rfl (fun _ => rfl) dX8_readNext_121 (vp_in_iff.mpr (by decide)) (by show okw (3) (nI (n22 + 1)); exact ⟨fun h => by exfalso; omega, fun h => by exfalso; omega, fun _ => (rg_of (n := (n22 + 1)) (by omega) (by omega) (by omega)), fun h => by exfalso; omega, fun h => by exfalso; omega, fun h => by exfalso; omega, fun a1 a2 a3 => by exfalso; omega, fun a1 a2 a3 => by exfalso; omega, fun a1 a2 a3 a4 => by exfalso; omega, fun a1 a2 a3 => by exfalso; omega, fun a1 a2 => by exfalso; omega⟩) (fun M C F I K1 hC => ?_)
            have K := K.step K1 (by decide)
            have hm : C 100 12 = 0 → C0 100 12 = 0 := fun z => hm ((congrFun (K1 100 (by decide)).1 12).symm.trans z)
            have ham : (C0 100 8).toInt ≤ (C 100 8).toInt := by rw [(K1 100 (by decide)).1]; exact ham
            refine g_goto X dX8_readNext_122 (tgt := 187) (by decide) ?_
            exact g_vret X hrt dX8_readNext_187 (by decide) (by decide) ⟨C, D, F, I, K, ham⟩
          · skip
            have hgd : C 100 12 = 0 := by rw [ht21E]; exact hgd
            have hF4 : IsW 21 (C 100) (C 104) → ¬ C 114 4 = 7 := by rw [ht21E, (K1 104 (by decide)).1, (K1 114 (by decide)).1]; exact hF4
            have hF7 : IsW 24 (C 100) (C 104) → ¬ C 114 7 = 8 := by rw [ht21E, (K1 104 (by decide)).1, (K1 114 (by decide)).1]; exact hF7
            have hw14 : IsW 21 (C 100) (C 104) := by rw [ht21E, (K1 104 (by decide)).1]; exact hw14
            refine g_if_eq X dX8_readNext_86 (tgt := 125) (by decide) (fun _ => ?_) (fun q => absurd (by decide) q)
            refine g_aload_n X dX8_readNext_125 rfl (j := 1) rfl ?_
            refine g_ldcS X (tx := "post") (i := 21) (by decide) dX8_readNext_126 ?_
            refine g_callVI X (s_X8_takes l G F I 21 (by decide) ) lk_X8_180 (F.1 100 rfl).2 (F.1 100 rfl).1 rfl rfl dX8_readNext_128 (Nat.le_of_ble_eq_true rfl) ⟨by decide, by decide⟩ ⟨by decide, by decide⟩ (fun r25 L M hp => ?_)
            obtain ⟨C, D, F, I, K1, hr⟩ := hp
            have K := K.step K1 (by decide)
            obtain ⟨hrat, hrm, hr⟩ := hr
            have hm : C 100 12 = 0 → C0 100 12 = 0 := fun z => hm (hrm z)
            have ham : (C0 100 8).toInt ≤ (C 100 8).toInt := Int.le_trans ham hrat
            rcases hr with ⟨rfl, ht26⟩ | ⟨rfl, ht26, ht26E⟩
            · skip
              have hT4 : ¬ C 114 4 = 7 := by rw [(K1 114 (by decide)).1]; exact hF4 ht26
              refine g_if_eq X dX8_readNext_131 (tgt := 147) (by decide) (fun q => absurd q (by decide)) (fun _ => ?_)
              refine g_aload_n X dX8_readNext_134 rfl (j := 1) rfl ?_
              refine i_get X F 100 rfl rfl fk_X8_31 dX8_readNext_135 rfl ?_
              refine g_iconst X dX8_readNext_138 (v := 4) (by decide) ?_
              refine g_dup2 X dX8_readNext_139 rfl rfl ?_
              obtain ⟨n27, hn27, en27⟩ := rg_nat ((show okw (4) (C 114 (4)) from I 114 (4)).2.2.2.1 rfl) (by decide)
              refine i_iald X F 114 rfl rfl dX8_readNext_140 (vp_in_iff.mpr (by decide)) (v := nI n27) (by exact en27) ?_
              have hnen27 : n27 ≠ 7 := fun z => hT4 (by rw [en27, z]; rfl)
              refine g_iconst X dX8_readNext_141 (v := 1) (by decide) ?_
              refine g_iadd X dX8_readNext_142 ?_
              refine Go.top (v := .int (nI (n27 + 1))) (congrArg Value.int (nI_add n27 1)) ?_
              refine i_iast X F I 114 rfl (fun _ => rfl) dX8_readNext_143 (vp_in_iff.mpr (by decide)) (by show okw (4) (nI (n27 + 1)); exact ⟨fun h => by exfalso; omega, fun h => by exfalso; omega, fun h => by exfalso; omega, fun _ => (rg_of (n := (n27 + 1)) (by omega) (by omega) (by omega)), fun h => by exfalso; omega, fun h => by exfalso; omega, fun a1 a2 a3 => by exfalso; omega, fun a1 a2 a3 => by exfalso; omega, fun a1 a2 a3 a4 => by exfalso; omega, fun a1 a2 a3 => by exfalso; omega, fun a1 a2 => by exfalso; omega⟩) (fun M C F I K1 hC => ?_)
              have K := K.step K1 (by decide)
              have hm : C 100 12 = 0 → C0 100 12 = 0 := fun z => hm ((congrFun (K1 100 (by decide)).1 12).symm.trans z)
              have ham : (C0 100 8).toInt ≤ (C 100 8).toInt := by rw [(K1 100 (by decide)).1]; exact ham
              refine g_goto X dX8_readNext_144 (tgt := 187) (by decide) ?_
              exact g_vret X hrt dX8_readNext_187 (by decide) (by decide) ⟨C, D, F, I, K, ham⟩
            · skip
              exact absurd hw14 ht26
    · skip
      refine g_if_ne X dX8_readNext_15 (tgt := 45) (by decide) (fun q => absurd (by decide) q) (fun _ => ?_)
      refine g_aload_n X dX8_readNext_18 rfl (j := 0) rfl ?_
      refine g_ldcS X (tx := "road") (i := 22) (by decide) dX8_readNext_19 ?_
      refine g_callVI X (s_X8_is l G F I 22 (by decide) ) lk_X8_173 (F.1 100 rfl).2 (F.1 100 rfl).1 rfl rfl dX8_readNext_21 (Nat.le_of_ble_eq_true rfl) ⟨by decide, by decide⟩ ⟨by decide, by decide⟩ (fun r28 L M hp => ?_)
      obtain ⟨C, D, F, I, K1, hr⟩ := hp
      have K := K.step K1 (by decide)
      have hm : C 100 12 = 0 → C0 100 12 = 0 := fun z => hm ((congrFun (K1 100 (by decide)).1 12).symm.trans z)
      have ham : (C0 100 8).toInt ≤ (C 100 8).toInt := by rw [(K1 100 (by decide)).1]; exact ham
      have hw2 : ¬ IsW 20 (C 100) (C 104) := by rw [(K1 100 (by decide)).1, (K1 104 (by decide)).1]; exact hw2
      have hw14 : ¬ IsW 21 (C 100) (C 104) := by rw [(K1 100 (by decide)).1, (K1 104 (by decide)).1]; exact hw14
      rcases hr with ⟨rfl, hw29⟩ | ⟨rfl, hw29⟩
      · skip
        refine g_if_ne X dX8_readNext_24 (tgt := 45) (by decide) (fun _ => ?_) (fun q => absurd q (by decide))
        refine g_iconst X dX8_readNext_45 (v := 1) (by decide) ?_
        refine g_goto X dX8_readNext_46 (tgt := 50) (by decide) ?_
        refine g_istore_n X dX8_readNext_50 rfl (by decide) (lv2 := [(1, .int 1), (0, .ref (a 100))]) rfl ?_
        refine g_iload_n X dX8_readNext_51 rfl (j := 0) rfl ?_
        refine g_if_ne X dX8_readNext_52 (tgt := 60) (by decide) (fun _ => ?_) (fun q => absurd q (by decide))
        refine g_aload_n X dX8_readNext_60 rfl (j := 1) rfl ?_
        refine g_callVI X (s_X8_isFull l G F I  ) lk_X8_222 (F.1 100 rfl).2 (F.1 100 rfl).1 rfl rfl dX8_readNext_61 (Nat.le_of_ble_eq_true rfl) ⟨by decide, by decide⟩ ⟨by decide, by decide⟩ (fun r30 L M hp => ?_)
        obtain ⟨C, D, F, I, K1, hr⟩ := hp
        have K := K.step K1 (by decide)
        have hm : C 100 12 = 0 → C0 100 12 = 0 := fun z => hm ((congrFun (K1 100 (by decide)).1 12).symm.trans z)
        have ham : (C0 100 8).toInt ≤ (C 100 8).toInt := by rw [(K1 100 (by decide)).1]; exact ham
        have hw2 : ¬ IsW 20 (C 100) (C 104) := by rw [(K1 100 (by decide)).1, (K1 104 (by decide)).1]; exact hw2
        have hw14 : ¬ IsW 21 (C 100) (C 104) := by rw [(K1 100 (by decide)).1, (K1 104 (by decide)).1]; exact hw14
        have hw29 : IsW 22 (C 100) (C 104) := by rw [(K1 100 (by decide)).1, (K1 104 (by decide)).1]; exact hw29
        rcases hr with rfl | ⟨rfl, hF3, hF4, hF7⟩
        · skip
          refine g_if_eq X dX8_readNext_64 (tgt := 72) (by decide) (fun q => absurd q (by decide)) (fun _ => ?_)
          refine g_aload_n X dX8_readNext_67 rfl (j := 1) rfl ?_
          refine g_iconst X dX8_readNext_68 (v := 3) (by decide) ?_
          refine g_callVV X (s_X8_errs l G F I (3 : Int32) (by decide)) lk_X8_183 (F.1 100 rfl).2 (F.1 100 rfl).1 rfl rfl dX8_readNext_69 (Nat.le_of_ble_eq_true rfl) ⟨by decide, by decide⟩ ⟨by decide, by decide⟩ (fun L M hp => ?_)
          obtain ⟨C, D, F, I, K1, hr⟩ := hp
          have K := K.step K1 (by decide)
          obtain ⟨hr, hr8⟩ := hr
          have hm : C 100 12 = 0 → C0 100 12 = 0 := fun z => absurd z hr
          have hgd := hr
          have ham : (C0 100 8).toInt ≤ (C 100 8).toInt := Int.le_trans ham (by rw [hr8]; exact Int.le_refl _)
          refine g_aload_n X dX8_readNext_72 rfl (j := 1) rfl ?_
          refine g_callVI X (s_X8_good l G F I  ) lk_X8_161 (F.1 100 rfl).2 (F.1 100 rfl).1 rfl rfl dX8_readNext_73 (Nat.le_of_ble_eq_true rfl) ⟨by decide, by decide⟩ ⟨by decide, by decide⟩ (fun r31 L M hp => ?_)
          obtain ⟨C, D, F, I, K1, hr⟩ := hp
          have K := K.step K1 (by decide)
          have hm : C 100 12 = 0 → C0 100 12 = 0 := fun z => hm ((congrFun (K1 100 (by decide)).1 12).symm.trans z)
          have hgd : ¬ C 100 12 = 0 := by rw [(K1 100 (by decide)).1]; exact hgd
          have ham : (C0 100 8).toInt ≤ (C 100 8).toInt := by rw [(K1 100 (by decide)).1]; exact ham
          rcases hr with ⟨rfl, hg32⟩ | ⟨rfl, hg32⟩
          · skip
            have hgd := hg32
            refine g_if_ne X dX8_readNext_76 (tgt := 80) (by decide) (fun q => absurd (by decide) q) (fun _ => ?_)
            exact g_vret X hrt dX8_readNext_79 (by decide) (by decide) ⟨C, D, F, I, K, ham⟩
          · skip
            exact absurd hg32 hgd
        · skip
          refine g_if_eq X dX8_readNext_64 (tgt := 72) (by decide) (fun _ => ?_) (fun q => absurd (by decide) q)
          refine g_aload_n X dX8_readNext_72 rfl (j := 1) rfl ?_
          refine g_callVI X (s_X8_good l G F I  ) lk_X8_161 (F.1 100 rfl).2 (F.1 100 rfl).1 rfl rfl dX8_readNext_73 (Nat.le_of_ble_eq_true rfl) ⟨by decide, by decide⟩ ⟨by decide, by decide⟩ (fun r33 L M hp => ?_)
          obtain ⟨C, D, F, I, K1, hr⟩ := hp
          have K := K.step K1 (by decide)
          have hm : C 100 12 = 0 → C0 100 12 = 0 := fun z => hm ((congrFun (K1 100 (by decide)).1 12).symm.trans z)
          have ham : (C0 100 8).toInt ≤ (C 100 8).toInt := by rw [(K1 100 (by decide)).1]; exact ham
          have hw2 : ¬ IsW 20 (C 100) (C 104) := by rw [(K1 100 (by decide)).1, (K1 104 (by decide)).1]; exact hw2
          have hw14 : ¬ IsW 21 (C 100) (C 104) := by rw [(K1 100 (by decide)).1, (K1 104 (by decide)).1]; exact hw14
          have hw29 : IsW 22 (C 100) (C 104) := by rw [(K1 100 (by decide)).1, (K1 104 (by decide)).1]; exact hw29
          have hF3 : IsW 20 (C 100) (C 104) → ¬ C 114 3 = 4 := by rw [(K1 100 (by decide)).1, (K1 104 (by decide)).1, (K1 114 (by decide)).1]; exact hF3
          have hF4 : IsW 21 (C 100) (C 104) → ¬ C 114 4 = 7 := by rw [(K1 100 (by decide)).1, (K1 104 (by decide)).1, (K1 114 (by decide)).1]; exact hF4
          have hF7 : IsW 24 (C 100) (C 104) → ¬ C 114 7 = 8 := by rw [(K1 100 (by decide)).1, (K1 104 (by decide)).1, (K1 114 (by decide)).1]; exact hF7
          rcases hr with ⟨rfl, hg34⟩ | ⟨rfl, hg34⟩
          · skip
            have hgd := hg34
            refine g_if_ne X dX8_readNext_76 (tgt := 80) (by decide) (fun q => absurd (by decide) q) (fun _ => ?_)
            exact g_vret X hrt dX8_readNext_79 (by decide) (by decide) ⟨C, D, F, I, K, ham⟩
          · skip
            have hgd := hg34
            have hmy := hm hgd
            refine g_if_ne X dX8_readNext_76 (tgt := 80) (by decide) (fun _ => ?_) (fun q => absurd q (by decide))
            refine g_aload_n X dX8_readNext_80 rfl (j := 1) rfl ?_
            refine g_ldcS X (tx := "inn") (i := 20) (by decide) dX8_readNext_81 ?_
            refine g_callVI X (s_X8_takes l G F I 20 (by decide) ) lk_X8_180 (F.1 100 rfl).2 (F.1 100 rfl).1 rfl rfl dX8_readNext_83 (Nat.le_of_ble_eq_true rfl) ⟨by decide, by decide⟩ ⟨by decide, by decide⟩ (fun r35 L M hp => ?_)
            obtain ⟨C, D, F, I, K1, hr⟩ := hp
            have K := K.step K1 (by decide)
            obtain ⟨hrat, hrm, hr⟩ := hr
            have hm : C 100 12 = 0 → C0 100 12 = 0 := fun z => hm (hrm z)
            have ham : (C0 100 8).toInt ≤ (C 100 8).toInt := Int.le_trans ham hrat
            rcases hr with ⟨rfl, ht36⟩ | ⟨rfl, ht36, ht36E⟩
            · skip
              have hT3 : ¬ C 114 3 = 4 := by rw [(K1 114 (by decide)).1]; exact hF3 ht36
              refine g_if_eq X dX8_readNext_86 (tgt := 125) (by decide) (fun q => absurd q (by decide)) (fun _ => ?_)
              refine g_aload_n X dX8_readNext_89 rfl (j := 1) rfl ?_
              refine i_get X F 100 rfl rfl fk_X8_31 dX8_readNext_90 rfl ?_
              refine g_bipush X dX8_readNext_93 (v := 10) (by decide) ?_
              refine g_aload_n X dX8_readNext_95 rfl (j := 1) rfl ?_
              refine i_get X F 100 rfl rfl fk_X8_31 dX8_readNext_96 rfl ?_
              refine g_iconst X dX8_readNext_99 (v := 3) (by decide) ?_
              obtain ⟨n37, hn37, en37⟩ := rg_nat ((show okw (3) (C 114 (3)) from I 114 (3)).2.2.1 rfl) (by decide)
              refine i_iald X F 114 rfl rfl dX8_readNext_100 (vp_in_iff.mpr (by decide)) (v := nI n37) (by exact en37) ?_
              have hnen37 : n37 ≠ 4 := fun z => hT3 (by rw [en37, z]; rfl)
              refine g_iadd X dX8_readNext_101 ?_
              refine Go.top (v := .int (nI (10 + n37))) (congrArg Value.int (nI_add 10 n37)) ?_
              refine g_aload_n X dX8_readNext_102 rfl (j := 1) rfl ?_
              refine g_ldcS X (tx := "room") (i := 25) (by decide) dX8_readNext_103 ?_
              refine g_iconst X dX8_readNext_105 (v := 0) (by decide) ?_
              refine g_bipush X dX8_readNext_106 (v := 9) (by decide) ?_
              refine g_callVI X (s_X8_toldBy l G F I 25 (by decide) (0 : Int32) (9 : Int32) ) lk_X8_197 (F.1 100 rfl).2 (F.1 100 rfl).1 rfl rfl dX8_readNext_108 (Nat.le_of_ble_eq_true rfl) ⟨by decide, by decide⟩ ⟨by decide, by decide⟩ (fun r38 L M hp => ?_)
              obtain ⟨C, D, F, I, K1, hr⟩ := hp
              have K := K.step K1 (by decide)
              have hT3 : ¬ C 114 3 = 4 := by rw [(K1 114 (by decide)).1]; exact hT3
              have en37 : C 114 (3) = nI n37 := by rw [(K1 114 (by decide)).1]; exact en37
              obtain ⟨hrat, hrm, hnum⟩ := hr
              have hm : C 100 12 = 0 → C0 100 12 = 0 := fun z => hm (hrm z)
              have ham : (C0 100 8).toInt ≤ (C 100 8).toInt := Int.le_trans ham hrat
              obtain ⟨n39, hn39, en39⟩ := num_nat (B := 9) (by decide) hnum (by have kk : (9 : Int32).toInt = 9 := (by decide); omega)
              subst en39
              refine i_iast X F I 114 rfl (fun _ => rfl) dX8_readNext_111 (vp_in_nI (by omega) (by decide)) (by rw [nI_clamp (by omega)]; show okw (10 + n37) (nI n39); exact ⟨fun h => by exfalso; omega, fun h => by exfalso; omega, fun h => by exfalso; omega, fun h => by exfalso; omega, fun h => by exfalso; omega, fun h => by exfalso; omega, fun a1 a2 a3 => by exfalso; omega, fun a1 a2 a3 => by exfalso; omega, fun a1 a2 a3 a4 => by exfalso; omega, fun a1 a2 a3 => by exfalso; omega, fun a1 a2 => by exfalso; omega⟩) (fun M C F I K1 hC => ?_)
              have K := K.step K1 (by decide)
              have hm : C 100 12 = 0 → C0 100 12 = 0 := fun z => hm ((congrFun (K1 100 (by decide)).1 12).symm.trans z)
              have ham : (C0 100 8).toInt ≤ (C 100 8).toInt := by rw [(K1 100 (by decide)).1]; exact ham
              have en37 : C 114 (3) = nI n37 := by rw [hC, nI_clamp (by omega), pk_un (by omega)]; exact en37
              refine g_aload_n X dX8_readNext_112 rfl (j := 1) rfl ?_
              refine i_get X F 100 rfl rfl fk_X8_31 dX8_readNext_113 rfl ?_
              refine g_iconst X dX8_readNext_116 (v := 3) (by decide) ?_
              refine g_dup2 X dX8_readNext_117 rfl rfl ?_
              refine i_iald X F 114 rfl rfl dX8_readNext_118 (vp_in_iff.mpr (by decide)) (v := nI n37) (by exact en37) ?_
              refine g_iconst X dX8_readNext_119 (v := 1) (by decide) ?_
              refine g_iadd X dX8_readNext_120 ?_
              refine Go.top (v := .int (nI (n37 + 1))) (congrArg Value.int (nI_add n37 1)) ?_
              refine i_iast X F I 114 rfl (fun _ => rfl) dX8_readNext_121 (vp_in_iff.mpr (by decide)) (by show okw (3) (nI (n37 + 1)); exact ⟨fun h => by exfalso; omega, fun h => by exfalso; omega, fun _ => (rg_of (n := (n37 + 1)) (by omega) (by omega) (by omega)), fun h => by exfalso; omega, fun h => by exfalso; omega, fun h => by exfalso; omega, fun a1 a2 a3 => by exfalso; omega, fun a1 a2 a3 => by exfalso; omega, fun a1 a2 a3 a4 => by exfalso; omega, fun a1 a2 a3 => by exfalso; omega, fun a1 a2 => by exfalso; omega⟩) (fun M C F I K1 hC => ?_)
              have K := K.step K1 (by decide)
              have hm : C 100 12 = 0 → C0 100 12 = 0 := fun z => hm ((congrFun (K1 100 (by decide)).1 12).symm.trans z)
              have ham : (C0 100 8).toInt ≤ (C 100 8).toInt := by rw [(K1 100 (by decide)).1]; exact ham
              refine g_goto X dX8_readNext_122 (tgt := 187) (by decide) ?_
              exact g_vret X hrt dX8_readNext_187 (by decide) (by decide) ⟨C, D, F, I, K, ham⟩
            · skip
              have hgd : C 100 12 = 0 := by rw [ht36E]; exact hgd
              have hF4 : IsW 21 (C 100) (C 104) → ¬ C 114 4 = 7 := by rw [ht36E, (K1 104 (by decide)).1, (K1 114 (by decide)).1]; exact hF4
              have hF7 : IsW 24 (C 100) (C 104) → ¬ C 114 7 = 8 := by rw [ht36E, (K1 104 (by decide)).1, (K1 114 (by decide)).1]; exact hF7
              have hw29 : IsW 22 (C 100) (C 104) := by rw [ht36E, (K1 104 (by decide)).1]; exact hw29
              refine g_if_eq X dX8_readNext_86 (tgt := 125) (by decide) (fun _ => ?_) (fun q => absurd (by decide) q)
              refine g_aload_n X dX8_readNext_125 rfl (j := 1) rfl ?_
              refine g_ldcS X (tx := "post") (i := 21) (by decide) dX8_readNext_126 ?_
              refine g_callVI X (s_X8_takes l G F I 21 (by decide) ) lk_X8_180 (F.1 100 rfl).2 (F.1 100 rfl).1 rfl rfl dX8_readNext_128 (Nat.le_of_ble_eq_true rfl) ⟨by decide, by decide⟩ ⟨by decide, by decide⟩ (fun r40 L M hp => ?_)
              obtain ⟨C, D, F, I, K1, hr⟩ := hp
              have K := K.step K1 (by decide)
              obtain ⟨hrat, hrm, hr⟩ := hr
              have hm : C 100 12 = 0 → C0 100 12 = 0 := fun z => hm (hrm z)
              have ham : (C0 100 8).toInt ≤ (C 100 8).toInt := Int.le_trans ham hrat
              rcases hr with ⟨rfl, ht41⟩ | ⟨rfl, ht41, ht41E⟩
              · skip
                have hT4 : ¬ C 114 4 = 7 := by rw [(K1 114 (by decide)).1]; exact hF4 ht41
                refine g_if_eq X dX8_readNext_131 (tgt := 147) (by decide) (fun q => absurd q (by decide)) (fun _ => ?_)
                refine g_aload_n X dX8_readNext_134 rfl (j := 1) rfl ?_
                refine i_get X F 100 rfl rfl fk_X8_31 dX8_readNext_135 rfl ?_
                refine g_iconst X dX8_readNext_138 (v := 4) (by decide) ?_
                refine g_dup2 X dX8_readNext_139 rfl rfl ?_
                obtain ⟨n42, hn42, en42⟩ := rg_nat ((show okw (4) (C 114 (4)) from I 114 (4)).2.2.2.1 rfl) (by decide)
                refine i_iald X F 114 rfl rfl dX8_readNext_140 (vp_in_iff.mpr (by decide)) (v := nI n42) (by exact en42) ?_
                have hnen42 : n42 ≠ 7 := fun z => hT4 (by rw [en42, z]; rfl)
                refine g_iconst X dX8_readNext_141 (v := 1) (by decide) ?_
                refine g_iadd X dX8_readNext_142 ?_
                refine Go.top (v := .int (nI (n42 + 1))) (congrArg Value.int (nI_add n42 1)) ?_
                refine i_iast X F I 114 rfl (fun _ => rfl) dX8_readNext_143 (vp_in_iff.mpr (by decide)) (by show okw (4) (nI (n42 + 1)); exact ⟨fun h => by exfalso; omega, fun h => by exfalso; omega, fun h => by exfalso; omega, fun _ => (rg_of (n := (n42 + 1)) (by omega) (by omega) (by omega)), fun h => by exfalso; omega, fun h => by exfalso; omega, fun a1 a2 a3 => by exfalso; omega, fun a1 a2 a3 => by exfalso; omega, fun a1 a2 a3 a4 => by exfalso; omega, fun a1 a2 a3 => by exfalso; omega, fun a1 a2 => by exfalso; omega⟩) (fun M C F I K1 hC => ?_)
                have K := K.step K1 (by decide)
                have hm : C 100 12 = 0 → C0 100 12 = 0 := fun z => hm ((congrFun (K1 100 (by decide)).1 12).symm.trans z)
                have ham : (C0 100 8).toInt ≤ (C 100 8).toInt := by rw [(K1 100 (by decide)).1]; exact ham
                refine g_goto X dX8_readNext_144 (tgt := 187) (by decide) ?_
                exact g_vret X hrt dX8_readNext_187 (by decide) (by decide) ⟨C, D, F, I, K, ham⟩
              · skip
                have hgd : C 100 12 = 0 := by rw [ht41E]; exact hgd
                have hF7 : IsW 24 (C 100) (C 104) → ¬ C 114 7 = 8 := by rw [ht41E, (K1 104 (by decide)).1, (K1 114 (by decide)).1]; exact hF7
                have hw29 : IsW 22 (C 100) (C 104) := by rw [ht41E, (K1 104 (by decide)).1]; exact hw29
                refine g_if_eq X dX8_readNext_131 (tgt := 147) (by decide) (fun _ => ?_) (fun q => absurd (by decide) q)
                refine g_aload_n X dX8_readNext_147 rfl (j := 1) rfl ?_
                refine g_ldcS X (tx := "road") (i := 22) (by decide) dX8_readNext_148 ?_
                refine g_callVI X (s_X8_takes l G F I 22 (by decide) ) lk_X8_180 (F.1 100 rfl).2 (F.1 100 rfl).1 rfl rfl dX8_readNext_150 (Nat.le_of_ble_eq_true rfl) ⟨by decide, by decide⟩ ⟨by decide, by decide⟩ (fun r43 L M hp => ?_)
                obtain ⟨C, D, F, I, K1, hr⟩ := hp
                have K := K.step K1 (by decide)
                obtain ⟨hrat, hrm, hr⟩ := hr
                have hm : C 100 12 = 0 → C0 100 12 = 0 := fun z => hm (hrm z)
                have ham : (C0 100 8).toInt ≤ (C 100 8).toInt := Int.le_trans ham hrat
                rcases hr with ⟨rfl, ht44⟩ | ⟨rfl, ht44, ht44E⟩
                · skip
                  refine g_if_eq X dX8_readNext_153 (tgt := 163) (by decide) (fun q => absurd q (by decide)) (fun _ => ?_)
                  refine g_aload_n X dX8_readNext_156 rfl (j := 1) rfl ?_
                  refine g_callVV X (s_X8_readRoad l G F I  ) lk_X8_227 (F.1 100 rfl).2 (F.1 100 rfl).1 rfl rfl dX8_readNext_157 (Nat.le_of_ble_eq_true rfl) ⟨by decide, by decide⟩ ⟨by decide, by decide⟩ (fun L M hp => ?_)
                  obtain ⟨C, D, F, I, K1, hr⟩ := hp
                  have K := K.step K1 (by decide)
                  have ham : (C0 100 8).toInt ≤ (C 100 8).toInt := Int.le_trans ham hr
                  refine g_goto X dX8_readNext_160 (tgt := 187) (by decide) ?_
                  exact g_vret X hrt dX8_readNext_187 (by decide) (by decide) ⟨C, D, F, I, K, ham⟩
                · skip
                  exact absurd hw29 ht44
      · skip
        refine g_if_ne X dX8_readNext_24 (tgt := 45) (by decide) (fun q => absurd (by decide) q) (fun _ => ?_)
        refine g_aload_n X dX8_readNext_27 rfl (j := 0) rfl ?_
        refine g_ldcS X (tx := "arm") (i := 23) (by decide) dX8_readNext_28 ?_
        refine g_callVI X (s_X8_is l G F I 23 (by decide) ) lk_X8_173 (F.1 100 rfl).2 (F.1 100 rfl).1 rfl rfl dX8_readNext_30 (Nat.le_of_ble_eq_true rfl) ⟨by decide, by decide⟩ ⟨by decide, by decide⟩ (fun r45 L M hp => ?_)
        obtain ⟨C, D, F, I, K1, hr⟩ := hp
        have K := K.step K1 (by decide)
        have hm : C 100 12 = 0 → C0 100 12 = 0 := fun z => hm ((congrFun (K1 100 (by decide)).1 12).symm.trans z)
        have ham : (C0 100 8).toInt ≤ (C 100 8).toInt := by rw [(K1 100 (by decide)).1]; exact ham
        have hw2 : ¬ IsW 20 (C 100) (C 104) := by rw [(K1 100 (by decide)).1, (K1 104 (by decide)).1]; exact hw2
        have hw14 : ¬ IsW 21 (C 100) (C 104) := by rw [(K1 100 (by decide)).1, (K1 104 (by decide)).1]; exact hw14
        have hw29 : ¬ IsW 22 (C 100) (C 104) := by rw [(K1 100 (by decide)).1, (K1 104 (by decide)).1]; exact hw29
        rcases hr with ⟨rfl, hw46⟩ | ⟨rfl, hw46⟩
        · skip
          refine g_if_ne X dX8_readNext_33 (tgt := 45) (by decide) (fun _ => ?_) (fun q => absurd q (by decide))
          refine g_iconst X dX8_readNext_45 (v := 1) (by decide) ?_
          refine g_goto X dX8_readNext_46 (tgt := 50) (by decide) ?_
          refine g_istore_n X dX8_readNext_50 rfl (by decide) (lv2 := [(1, .int 1), (0, .ref (a 100))]) rfl ?_
          refine g_iload_n X dX8_readNext_51 rfl (j := 0) rfl ?_
          refine g_if_ne X dX8_readNext_52 (tgt := 60) (by decide) (fun _ => ?_) (fun q => absurd q (by decide))
          refine g_aload_n X dX8_readNext_60 rfl (j := 1) rfl ?_
          refine g_callVI X (s_X8_isFull l G F I  ) lk_X8_222 (F.1 100 rfl).2 (F.1 100 rfl).1 rfl rfl dX8_readNext_61 (Nat.le_of_ble_eq_true rfl) ⟨by decide, by decide⟩ ⟨by decide, by decide⟩ (fun r47 L M hp => ?_)
          obtain ⟨C, D, F, I, K1, hr⟩ := hp
          have K := K.step K1 (by decide)
          have hm : C 100 12 = 0 → C0 100 12 = 0 := fun z => hm ((congrFun (K1 100 (by decide)).1 12).symm.trans z)
          have ham : (C0 100 8).toInt ≤ (C 100 8).toInt := by rw [(K1 100 (by decide)).1]; exact ham
          have hw2 : ¬ IsW 20 (C 100) (C 104) := by rw [(K1 100 (by decide)).1, (K1 104 (by decide)).1]; exact hw2
          have hw14 : ¬ IsW 21 (C 100) (C 104) := by rw [(K1 100 (by decide)).1, (K1 104 (by decide)).1]; exact hw14
          have hw29 : ¬ IsW 22 (C 100) (C 104) := by rw [(K1 100 (by decide)).1, (K1 104 (by decide)).1]; exact hw29
          have hw46 : IsW 23 (C 100) (C 104) := by rw [(K1 100 (by decide)).1, (K1 104 (by decide)).1]; exact hw46
          rcases hr with rfl | ⟨rfl, hF3, hF4, hF7⟩
          · skip
            refine g_if_eq X dX8_readNext_64 (tgt := 72) (by decide) (fun q => absurd q (by decide)) (fun _ => ?_)
            refine g_aload_n X dX8_readNext_67 rfl (j := 1) rfl ?_
            refine g_iconst X dX8_readNext_68 (v := 3) (by decide) ?_
            refine g_callVV X (s_X8_errs l G F I (3 : Int32) (by decide)) lk_X8_183 (F.1 100 rfl).2 (F.1 100 rfl).1 rfl rfl dX8_readNext_69 (Nat.le_of_ble_eq_true rfl) ⟨by decide, by decide⟩ ⟨by decide, by decide⟩ (fun L M hp => ?_)
            obtain ⟨C, D, F, I, K1, hr⟩ := hp
            have K := K.step K1 (by decide)
            obtain ⟨hr, hr8⟩ := hr
            have hm : C 100 12 = 0 → C0 100 12 = 0 := fun z => absurd z hr
            have hgd := hr
            have ham : (C0 100 8).toInt ≤ (C 100 8).toInt := Int.le_trans ham (by rw [hr8]; exact Int.le_refl _)
            refine g_aload_n X dX8_readNext_72 rfl (j := 1) rfl ?_
            refine g_callVI X (s_X8_good l G F I  ) lk_X8_161 (F.1 100 rfl).2 (F.1 100 rfl).1 rfl rfl dX8_readNext_73 (Nat.le_of_ble_eq_true rfl) ⟨by decide, by decide⟩ ⟨by decide, by decide⟩ (fun r48 L M hp => ?_)
            obtain ⟨C, D, F, I, K1, hr⟩ := hp
            have K := K.step K1 (by decide)
            have hm : C 100 12 = 0 → C0 100 12 = 0 := fun z => hm ((congrFun (K1 100 (by decide)).1 12).symm.trans z)
            have hgd : ¬ C 100 12 = 0 := by rw [(K1 100 (by decide)).1]; exact hgd
            have ham : (C0 100 8).toInt ≤ (C 100 8).toInt := by rw [(K1 100 (by decide)).1]; exact ham
            rcases hr with ⟨rfl, hg49⟩ | ⟨rfl, hg49⟩
            · skip
              have hgd := hg49
              refine g_if_ne X dX8_readNext_76 (tgt := 80) (by decide) (fun q => absurd (by decide) q) (fun _ => ?_)
              exact g_vret X hrt dX8_readNext_79 (by decide) (by decide) ⟨C, D, F, I, K, ham⟩
            · skip
              exact absurd hg49 hgd
          · skip
            refine g_if_eq X dX8_readNext_64 (tgt := 72) (by decide) (fun _ => ?_) (fun q => absurd (by decide) q)
            refine g_aload_n X dX8_readNext_72 rfl (j := 1) rfl ?_
            refine g_callVI X (s_X8_good l G F I  ) lk_X8_161 (F.1 100 rfl).2 (F.1 100 rfl).1 rfl rfl dX8_readNext_73 (Nat.le_of_ble_eq_true rfl) ⟨by decide, by decide⟩ ⟨by decide, by decide⟩ (fun r50 L M hp => ?_)
            obtain ⟨C, D, F, I, K1, hr⟩ := hp
            have K := K.step K1 (by decide)
            have hm : C 100 12 = 0 → C0 100 12 = 0 := fun z => hm ((congrFun (K1 100 (by decide)).1 12).symm.trans z)
            have ham : (C0 100 8).toInt ≤ (C 100 8).toInt := by rw [(K1 100 (by decide)).1]; exact ham
            have hw2 : ¬ IsW 20 (C 100) (C 104) := by rw [(K1 100 (by decide)).1, (K1 104 (by decide)).1]; exact hw2
            have hw14 : ¬ IsW 21 (C 100) (C 104) := by rw [(K1 100 (by decide)).1, (K1 104 (by decide)).1]; exact hw14
            have hw29 : ¬ IsW 22 (C 100) (C 104) := by rw [(K1 100 (by decide)).1, (K1 104 (by decide)).1]; exact hw29
            have hw46 : IsW 23 (C 100) (C 104) := by rw [(K1 100 (by decide)).1, (K1 104 (by decide)).1]; exact hw46
            have hF3 : IsW 20 (C 100) (C 104) → ¬ C 114 3 = 4 := by rw [(K1 100 (by decide)).1, (K1 104 (by decide)).1, (K1 114 (by decide)).1]; exact hF3
            have hF4 : IsW 21 (C 100) (C 104) → ¬ C 114 4 = 7 := by rw [(K1 100 (by decide)).1, (K1 104 (by decide)).1, (K1 114 (by decide)).1]; exact hF4
            have hF7 : IsW 24 (C 100) (C 104) → ¬ C 114 7 = 8 := by rw [(K1 100 (by decide)).1, (K1 104 (by decide)).1, (K1 114 (by decide)).1]; exact hF7
            rcases hr with ⟨rfl, hg51⟩ | ⟨rfl, hg51⟩
            · skip
              have hgd := hg51
              refine g_if_ne X dX8_readNext_76 (tgt := 80) (by decide) (fun q => absurd (by decide) q) (fun _ => ?_)
              exact g_vret X hrt dX8_readNext_79 (by decide) (by decide) ⟨C, D, F, I, K, ham⟩
            · skip
              have hgd := hg51
              have hmy := hm hgd
              refine g_if_ne X dX8_readNext_76 (tgt := 80) (by decide) (fun _ => ?_) (fun q => absurd q (by decide))
              refine g_aload_n X dX8_readNext_80 rfl (j := 1) rfl ?_
              refine g_ldcS X (tx := "inn") (i := 20) (by decide) dX8_readNext_81 ?_
              refine g_callVI X (s_X8_takes l G F I 20 (by decide) ) lk_X8_180 (F.1 100 rfl).2 (F.1 100 rfl).1 rfl rfl dX8_readNext_83 (Nat.le_of_ble_eq_true rfl) ⟨by decide, by decide⟩ ⟨by decide, by decide⟩ (fun r52 L M hp => ?_)
              obtain ⟨C, D, F, I, K1, hr⟩ := hp
              have K := K.step K1 (by decide)
              obtain ⟨hrat, hrm, hr⟩ := hr
              have hm : C 100 12 = 0 → C0 100 12 = 0 := fun z => hm (hrm z)
              have ham : (C0 100 8).toInt ≤ (C 100 8).toInt := Int.le_trans ham hrat
              rcases hr with ⟨rfl, ht53⟩ | ⟨rfl, ht53, ht53E⟩
              · skip
                have hT3 : ¬ C 114 3 = 4 := by rw [(K1 114 (by decide)).1]; exact hF3 ht53
                refine g_if_eq X dX8_readNext_86 (tgt := 125) (by decide) (fun q => absurd q (by decide)) (fun _ => ?_)
                refine g_aload_n X dX8_readNext_89 rfl (j := 1) rfl ?_
                refine i_get X F 100 rfl rfl fk_X8_31 dX8_readNext_90 rfl ?_
                refine g_bipush X dX8_readNext_93 (v := 10) (by decide) ?_
                refine g_aload_n X dX8_readNext_95 rfl (j := 1) rfl ?_
                refine i_get X F 100 rfl rfl fk_X8_31 dX8_readNext_96 rfl ?_
                refine g_iconst X dX8_readNext_99 (v := 3) (by decide) ?_
                obtain ⟨n54, hn54, en54⟩ := rg_nat ((show okw (3) (C 114 (3)) from I 114 (3)).2.2.1 rfl) (by decide)
                refine i_iald X F 114 rfl rfl dX8_readNext_100 (vp_in_iff.mpr (by decide)) (v := nI n54) (by exact en54) ?_
                have hnen54 : n54 ≠ 4 := fun z => hT3 (by rw [en54, z]; rfl)
                refine g_iadd X dX8_readNext_101 ?_
                refine Go.top (v := .int (nI (10 + n54))) (congrArg Value.int (nI_add 10 n54)) ?_
                refine g_aload_n X dX8_readNext_102 rfl (j := 1) rfl ?_
                refine g_ldcS X (tx := "room") (i := 25) (by decide) dX8_readNext_103 ?_
                refine g_iconst X dX8_readNext_105 (v := 0) (by decide) ?_
                refine g_bipush X dX8_readNext_106 (v := 9) (by decide) ?_
                refine g_callVI X (s_X8_toldBy l G F I 25 (by decide) (0 : Int32) (9 : Int32) ) lk_X8_197 (F.1 100 rfl).2 (F.1 100 rfl).1 rfl rfl dX8_readNext_108 (Nat.le_of_ble_eq_true rfl) ⟨by decide, by decide⟩ ⟨by decide, by decide⟩ (fun r55 L M hp => ?_)
                obtain ⟨C, D, F, I, K1, hr⟩ := hp
                have K := K.step K1 (by decide)
                have hT3 : ¬ C 114 3 = 4 := by rw [(K1 114 (by decide)).1]; exact hT3
                have en54 : C 114 (3) = nI n54 := by rw [(K1 114 (by decide)).1]; exact en54
                obtain ⟨hrat, hrm, hnum⟩ := hr
                have hm : C 100 12 = 0 → C0 100 12 = 0 := fun z => hm (hrm z)
                have ham : (C0 100 8).toInt ≤ (C 100 8).toInt := Int.le_trans ham hrat
                obtain ⟨n56, hn56, en56⟩ := num_nat (B := 9) (by decide) hnum (by have kk : (9 : Int32).toInt = 9 := (by decide); omega)
                subst en56
                refine i_iast X F I 114 rfl (fun _ => rfl) dX8_readNext_111 (vp_in_nI (by omega) (by decide)) (by rw [nI_clamp (by omega)]; show okw (10 + n54) (nI n56); exact ⟨fun h => by exfalso; omega, fun h => by exfalso; omega, fun h => by exfalso; omega, fun h => by exfalso; omega, fun h => by exfalso; omega, fun h => by exfalso; omega, fun a1 a2 a3 => by exfalso; omega, fun a1 a2 a3 => by exfalso; omega, fun a1 a2 a3 a4 => by exfalso; omega, fun a1 a2 a3 => by exfalso; omega, fun a1 a2 => by exfalso; omega⟩) (fun M C F I K1 hC => ?_)
                have K := K.step K1 (by decide)
                have hm : C 100 12 = 0 → C0 100 12 = 0 := fun z => hm ((congrFun (K1 100 (by decide)).1 12).symm.trans z)
                have ham : (C0 100 8).toInt ≤ (C 100 8).toInt := by rw [(K1 100 (by decide)).1]; exact ham
                have en54 : C 114 (3) = nI n54 := by rw [hC, nI_clamp (by omega), pk_un (by omega)]; exact en54
                refine g_aload_n X dX8_readNext_112 rfl (j := 1) rfl ?_
                refine i_get X F 100 rfl rfl fk_X8_31 dX8_readNext_113 rfl ?_
                refine g_iconst X dX8_readNext_116 (v := 3) (by decide) ?_
                refine g_dup2 X dX8_readNext_117 rfl rfl ?_
                refine i_iald X F 114 rfl rfl dX8_readNext_118 (vp_in_iff.mpr (by decide)) (v := nI n54) (by exact en54) ?_
                refine g_iconst X dX8_readNext_119 (v := 1) (by decide) ?_
                refine g_iadd X dX8_readNext_120 ?_
                refine Go.top (v := .int (nI (n54 + 1))) (congrArg Value.int (nI_add n54 1)) ?_
                refine i_iast X F I 114 rfl (fun _ => rfl) dX8_readNext_121 (vp_in_iff.mpr (by decide)) (by show okw (3) (nI (n54 + 1)); exact ⟨fun h => by exfalso; omega, fun h => by exfalso; omega, fun _ => (rg_of (n := (n54 + 1)) (by omega) (by omega) (by omega)), fun h => by exfalso; omega, fun h => by exfalso; omega, fun h => by exfalso; omega, fun a1 a2 a3 => by exfalso; omega, fun a1 a2 a3 => by exfalso; omega, fun a1 a2 a3 a4 => by exfalso; omega, fun a1 a2 a3 => by exfalso; omega, fun a1 a2 => by exfalso; omega⟩) (fun M C F I K1 hC => ?_)
                have K := K.step K1 (by decide)
                have hm : C 100 12 = 0 → C0 100 12 = 0 := fun z => hm ((congrFun (K1 100 (by decide)).1 12).symm.trans z)
                have ham : (C0 100 8).toInt ≤ (C 100 8).toInt := by rw [(K1 100 (by decide)).1]; exact ham
                refine g_goto X dX8_readNext_122 (tgt := 187) (by decide) ?_
                exact g_vret X hrt dX8_readNext_187 (by decide) (by decide) ⟨C, D, F, I, K, ham⟩
              · skip
                have hgd : C 100 12 = 0 := by rw [ht53E]; exact hgd
                have hF4 : IsW 21 (C 100) (C 104) → ¬ C 114 4 = 7 := by rw [ht53E, (K1 104 (by decide)).1, (K1 114 (by decide)).1]; exact hF4
                have hF7 : IsW 24 (C 100) (C 104) → ¬ C 114 7 = 8 := by rw [ht53E, (K1 104 (by decide)).1, (K1 114 (by decide)).1]; exact hF7
                have hw46 : IsW 23 (C 100) (C 104) := by rw [ht53E, (K1 104 (by decide)).1]; exact hw46
                refine g_if_eq X dX8_readNext_86 (tgt := 125) (by decide) (fun _ => ?_) (fun q => absurd (by decide) q)
                refine g_aload_n X dX8_readNext_125 rfl (j := 1) rfl ?_
                refine g_ldcS X (tx := "post") (i := 21) (by decide) dX8_readNext_126 ?_
                refine g_callVI X (s_X8_takes l G F I 21 (by decide) ) lk_X8_180 (F.1 100 rfl).2 (F.1 100 rfl).1 rfl rfl dX8_readNext_128 (Nat.le_of_ble_eq_true rfl) ⟨by decide, by decide⟩ ⟨by decide, by decide⟩ (fun r57 L M hp => ?_)
                obtain ⟨C, D, F, I, K1, hr⟩ := hp
                have K := K.step K1 (by decide)
                obtain ⟨hrat, hrm, hr⟩ := hr
                have hm : C 100 12 = 0 → C0 100 12 = 0 := fun z => hm (hrm z)
                have ham : (C0 100 8).toInt ≤ (C 100 8).toInt := Int.le_trans ham hrat
                rcases hr with ⟨rfl, ht58⟩ | ⟨rfl, ht58, ht58E⟩
                · skip
                  have hT4 : ¬ C 114 4 = 7 := by rw [(K1 114 (by decide)).1]; exact hF4 ht58
                  refine g_if_eq X dX8_readNext_131 (tgt := 147) (by decide) (fun q => absurd q (by decide)) (fun _ => ?_)
                  refine g_aload_n X dX8_readNext_134 rfl (j := 1) rfl ?_
                  refine i_get X F 100 rfl rfl fk_X8_31 dX8_readNext_135 rfl ?_
                  refine g_iconst X dX8_readNext_138 (v := 4) (by decide) ?_
                  refine g_dup2 X dX8_readNext_139 rfl rfl ?_
                  obtain ⟨n59, hn59, en59⟩ := rg_nat ((show okw (4) (C 114 (4)) from I 114 (4)).2.2.2.1 rfl) (by decide)
                  refine i_iald X F 114 rfl rfl dX8_readNext_140 (vp_in_iff.mpr (by decide)) (v := nI n59) (by exact en59) ?_
                  have hnen59 : n59 ≠ 7 := fun z => hT4 (by rw [en59, z]; rfl)
                  refine g_iconst X dX8_readNext_141 (v := 1) (by decide) ?_
                  refine g_iadd X dX8_readNext_142 ?_
                  refine Go.top (v := .int (nI (n59 + 1))) (congrArg Value.int (nI_add n59 1)) ?_
                  refine i_iast X F I 114 rfl (fun _ => rfl) dX8_readNext_143 (vp_in_iff.mpr (by decide)) (by show okw (4) (nI (n59 + 1)); exact ⟨fun h => by exfalso; omega, fun h => by exfalso; omega, fun h => by exfalso; omega, fun _ => (rg_of (n := (n59 + 1)) (by omega) (by omega) (by omega)), fun h => by exfalso; omega, fun h => by exfalso; omega, fun a1 a2 a3 => by exfalso; omega, fun a1 a2 a3 => by exfalso; omega, fun a1 a2 a3 a4 => by exfalso; omega, fun a1 a2 a3 => by exfalso; omega, fun a1 a2 => by exfalso; omega⟩) (fun M C F I K1 hC => ?_)
                  have K := K.step K1 (by decide)
                  have hm : C 100 12 = 0 → C0 100 12 = 0 := fun z => hm ((congrFun (K1 100 (by decide)).1 12).symm.trans z)
                  have ham : (C0 100 8).toInt ≤ (C 100 8).toInt := by rw [(K1 100 (by decide)).1]; exact ham
                  refine g_goto X dX8_readNext_144 (tgt := 187) (by decide) ?_
                  exact g_vret X hrt dX8_readNext_187 (by decide) (by decide) ⟨C, D, F, I, K, ham⟩
                · skip
                  have hgd : C 100 12 = 0 := by rw [ht58E]; exact hgd
                  have hF7 : IsW 24 (C 100) (C 104) → ¬ C 114 7 = 8 := by rw [ht58E, (K1 104 (by decide)).1, (K1 114 (by decide)).1]; exact hF7
                  have hw46 : IsW 23 (C 100) (C 104) := by rw [ht58E, (K1 104 (by decide)).1]; exact hw46
                  refine g_if_eq X dX8_readNext_131 (tgt := 147) (by decide) (fun _ => ?_) (fun q => absurd (by decide) q)
                  refine g_aload_n X dX8_readNext_147 rfl (j := 1) rfl ?_
                  refine g_ldcS X (tx := "road") (i := 22) (by decide) dX8_readNext_148 ?_
                  refine g_callVI X (s_X8_takes l G F I 22 (by decide) ) lk_X8_180 (F.1 100 rfl).2 (F.1 100 rfl).1 rfl rfl dX8_readNext_150 (Nat.le_of_ble_eq_true rfl) ⟨by decide, by decide⟩ ⟨by decide, by decide⟩ (fun r60 L M hp => ?_)
                  obtain ⟨C, D, F, I, K1, hr⟩ := hp
                  have K := K.step K1 (by decide)
                  obtain ⟨hrat, hrm, hr⟩ := hr
                  have hm : C 100 12 = 0 → C0 100 12 = 0 := fun z => hm (hrm z)
                  have ham : (C0 100 8).toInt ≤ (C 100 8).toInt := Int.le_trans ham hrat
                  rcases hr with ⟨rfl, ht61⟩ | ⟨rfl, ht61, ht61E⟩
                  · skip
                    refine g_if_eq X dX8_readNext_153 (tgt := 163) (by decide) (fun q => absurd q (by decide)) (fun _ => ?_)
                    refine g_aload_n X dX8_readNext_156 rfl (j := 1) rfl ?_
                    refine g_callVV X (s_X8_readRoad l G F I  ) lk_X8_227 (F.1 100 rfl).2 (F.1 100 rfl).1 rfl rfl dX8_readNext_157 (Nat.le_of_ble_eq_true rfl) ⟨by decide, by decide⟩ ⟨by decide, by decide⟩ (fun L M hp => ?_)
                    obtain ⟨C, D, F, I, K1, hr⟩ := hp
                    have K := K.step K1 (by decide)
                    have ham : (C0 100 8).toInt ≤ (C 100 8).toInt := Int.le_trans ham hr
                    refine g_goto X dX8_readNext_160 (tgt := 187) (by decide) ?_
                    exact g_vret X hrt dX8_readNext_187 (by decide) (by decide) ⟨C, D, F, I, K, ham⟩
                  · skip
                    have hgd : C 100 12 = 0 := by rw [ht61E]; exact hgd
                    have hF7 : IsW 24 (C 100) (C 104) → ¬ C 114 7 = 8 := by rw [ht61E, (K1 104 (by decide)).1, (K1 114 (by decide)).1]; exact hF7
                    have hw46 : IsW 23 (C 100) (C 104) := by rw [ht61E, (K1 104 (by decide)).1]; exact hw46
                    refine g_if_eq X dX8_readNext_153 (tgt := 163) (by decide) (fun _ => ?_) (fun q => absurd (by decide) q)
                    refine g_aload_n X dX8_readNext_163 rfl (j := 1) rfl ?_
                    refine g_ldcS X (tx := "arm") (i := 23) (by decide) dX8_readNext_164 ?_
                    refine g_callVI X (s_X8_takes l G F I 23 (by decide) ) lk_X8_180 (F.1 100 rfl).2 (F.1 100 rfl).1 rfl rfl dX8_readNext_166 (Nat.le_of_ble_eq_true rfl) ⟨by decide, by decide⟩ ⟨by decide, by decide⟩ (fun r62 L M hp => ?_)
                    obtain ⟨C, D, F, I, K1, hr⟩ := hp
                    have K := K.step K1 (by decide)
                    obtain ⟨hrat, hrm, hr⟩ := hr
                    have hm : C 100 12 = 0 → C0 100 12 = 0 := fun z => hm (hrm z)
                    have ham : (C0 100 8).toInt ≤ (C 100 8).toInt := Int.le_trans ham hrat
                    rcases hr with ⟨rfl, ht63⟩ | ⟨rfl, ht63, ht63E⟩
                    · skip
                      refine g_if_eq X dX8_readNext_169 (tgt := 179) (by decide) (fun q => absurd q (by decide)) (fun _ => ?_)
                      refine g_aload_n X dX8_readNext_172 rfl (j := 1) rfl ?_
                      refine g_callVV X (s_X8_readArm l G F I  ) lk_X8_230 (F.1 100 rfl).2 (F.1 100 rfl).1 rfl rfl dX8_readNext_173 (Nat.le_of_ble_eq_true rfl) ⟨by decide, by decide⟩ ⟨by decide, by decide⟩ (fun L M hp => ?_)
                      obtain ⟨C, D, F, I, K1, hr⟩ := hp
                      have K := K.step K1 (by decide)
                      have ham : (C0 100 8).toInt ≤ (C 100 8).toInt := Int.le_trans ham hr
                      refine g_goto X dX8_readNext_176 (tgt := 187) (by decide) ?_
                      exact g_vret X hrt dX8_readNext_187 (by decide) (by decide) ⟨C, D, F, I, K, ham⟩
                    · skip
                      exact absurd hw46 ht63
        · skip
          refine g_if_ne X dX8_readNext_33 (tgt := 45) (by decide) (fun q => absurd (by decide) q) (fun _ => ?_)
          refine g_aload_n X dX8_readNext_36 rfl (j := 0) rfl ?_
          refine g_ldcS X (tx := "walker") (i := 24) (by decide) dX8_readNext_37 ?_
          refine g_callVI X (s_X8_is l G F I 24 (by decide) ) lk_X8_173 (F.1 100 rfl).2 (F.1 100 rfl).1 rfl rfl dX8_readNext_39 (Nat.le_of_ble_eq_true rfl) ⟨by decide, by decide⟩ ⟨by decide, by decide⟩ (fun r64 L M hp => ?_)
          obtain ⟨C, D, F, I, K1, hr⟩ := hp
          have K := K.step K1 (by decide)
          have hm : C 100 12 = 0 → C0 100 12 = 0 := fun z => hm ((congrFun (K1 100 (by decide)).1 12).symm.trans z)
          have ham : (C0 100 8).toInt ≤ (C 100 8).toInt := by rw [(K1 100 (by decide)).1]; exact ham
          have hw2 : ¬ IsW 20 (C 100) (C 104) := by rw [(K1 100 (by decide)).1, (K1 104 (by decide)).1]; exact hw2
          have hw14 : ¬ IsW 21 (C 100) (C 104) := by rw [(K1 100 (by decide)).1, (K1 104 (by decide)).1]; exact hw14
          have hw29 : ¬ IsW 22 (C 100) (C 104) := by rw [(K1 100 (by decide)).1, (K1 104 (by decide)).1]; exact hw29
          have hw46 : ¬ IsW 23 (C 100) (C 104) := by rw [(K1 100 (by decide)).1, (K1 104 (by decide)).1]; exact hw46
          rcases hr with ⟨rfl, hw65⟩ | ⟨rfl, hw65⟩
          · skip
            refine g_if_eq X dX8_readNext_42 (tgt := 49) (by decide) (fun q => absurd q (by decide)) (fun _ => ?_)
            refine g_iconst X dX8_readNext_45 (v := 1) (by decide) ?_
            refine g_goto X dX8_readNext_46 (tgt := 50) (by decide) ?_
            refine g_istore_n X dX8_readNext_50 rfl (by decide) (lv2 := [(1, .int 1), (0, .ref (a 100))]) rfl ?_
            refine g_iload_n X dX8_readNext_51 rfl (j := 0) rfl ?_
            refine g_if_ne X dX8_readNext_52 (tgt := 60) (by decide) (fun _ => ?_) (fun q => absurd q (by decide))
            refine g_aload_n X dX8_readNext_60 rfl (j := 1) rfl ?_
            refine g_callVI X (s_X8_isFull l G F I  ) lk_X8_222 (F.1 100 rfl).2 (F.1 100 rfl).1 rfl rfl dX8_readNext_61 (Nat.le_of_ble_eq_true rfl) ⟨by decide, by decide⟩ ⟨by decide, by decide⟩ (fun r66 L M hp => ?_)
            obtain ⟨C, D, F, I, K1, hr⟩ := hp
            have K := K.step K1 (by decide)
            have hm : C 100 12 = 0 → C0 100 12 = 0 := fun z => hm ((congrFun (K1 100 (by decide)).1 12).symm.trans z)
            have ham : (C0 100 8).toInt ≤ (C 100 8).toInt := by rw [(K1 100 (by decide)).1]; exact ham
            have hw2 : ¬ IsW 20 (C 100) (C 104) := by rw [(K1 100 (by decide)).1, (K1 104 (by decide)).1]; exact hw2
            have hw14 : ¬ IsW 21 (C 100) (C 104) := by rw [(K1 100 (by decide)).1, (K1 104 (by decide)).1]; exact hw14
            have hw29 : ¬ IsW 22 (C 100) (C 104) := by rw [(K1 100 (by decide)).1, (K1 104 (by decide)).1]; exact hw29
            have hw46 : ¬ IsW 23 (C 100) (C 104) := by rw [(K1 100 (by decide)).1, (K1 104 (by decide)).1]; exact hw46
            have hw65 : IsW 24 (C 100) (C 104) := by rw [(K1 100 (by decide)).1, (K1 104 (by decide)).1]; exact hw65
            rcases hr with rfl | ⟨rfl, hF3, hF4, hF7⟩
            · skip
              refine g_if_eq X dX8_readNext_64 (tgt := 72) (by decide) (fun q => absurd q (by decide)) (fun _ => ?_)
              refine g_aload_n X dX8_readNext_67 rfl (j := 1) rfl ?_
              refine g_iconst X dX8_readNext_68 (v := 3) (by decide) ?_
              refine g_callVV X (s_X8_errs l G F I (3 : Int32) (by decide)) lk_X8_183 (F.1 100 rfl).2 (F.1 100 rfl).1 rfl rfl dX8_readNext_69 (Nat.le_of_ble_eq_true rfl) ⟨by decide, by decide⟩ ⟨by decide, by decide⟩ (fun L M hp => ?_)
              obtain ⟨C, D, F, I, K1, hr⟩ := hp
              have K := K.step K1 (by decide)
              obtain ⟨hr, hr8⟩ := hr
              have hm : C 100 12 = 0 → C0 100 12 = 0 := fun z => absurd z hr
              have hgd := hr
              have ham : (C0 100 8).toInt ≤ (C 100 8).toInt := Int.le_trans ham (by rw [hr8]; exact Int.le_refl _)
              refine g_aload_n X dX8_readNext_72 rfl (j := 1) rfl ?_
              refine g_callVI X (s_X8_good l G F I  ) lk_X8_161 (F.1 100 rfl).2 (F.1 100 rfl).1 rfl rfl dX8_readNext_73 (Nat.le_of_ble_eq_true rfl) ⟨by decide, by decide⟩ ⟨by decide, by decide⟩ (fun r67 L M hp => ?_)
              obtain ⟨C, D, F, I, K1, hr⟩ := hp
              have K := K.step K1 (by decide)
              have hm : C 100 12 = 0 → C0 100 12 = 0 := fun z => hm ((congrFun (K1 100 (by decide)).1 12).symm.trans z)
              have hgd : ¬ C 100 12 = 0 := by rw [(K1 100 (by decide)).1]; exact hgd
              have ham : (C0 100 8).toInt ≤ (C 100 8).toInt := by rw [(K1 100 (by decide)).1]; exact ham
              rcases hr with ⟨rfl, hg68⟩ | ⟨rfl, hg68⟩
              · skip
                have hgd := hg68
                refine g_if_ne X dX8_readNext_76 (tgt := 80) (by decide) (fun q => absurd (by decide) q) (fun _ => ?_)
                exact g_vret X hrt dX8_readNext_79 (by decide) (by decide) ⟨C, D, F, I, K, ham⟩
              · skip
                exact absurd hg68 hgd
            · skip
              refine g_if_eq X dX8_readNext_64 (tgt := 72) (by decide) (fun _ => ?_) (fun q => absurd (by decide) q)
              refine g_aload_n X dX8_readNext_72 rfl (j := 1) rfl ?_
              refine g_callVI X (s_X8_good l G F I  ) lk_X8_161 (F.1 100 rfl).2 (F.1 100 rfl).1 rfl rfl dX8_readNext_73 (Nat.le_of_ble_eq_true rfl) ⟨by decide, by decide⟩ ⟨by decide, by decide⟩ (fun r69 L M hp => ?_)
              obtain ⟨C, D, F, I, K1, hr⟩ := hp
              have K := K.step K1 (by decide)
              have hm : C 100 12 = 0 → C0 100 12 = 0 := fun z => hm ((congrFun (K1 100 (by decide)).1 12).symm.trans z)
              have ham : (C0 100 8).toInt ≤ (C 100 8).toInt := by rw [(K1 100 (by decide)).1]; exact ham
              have hw2 : ¬ IsW 20 (C 100) (C 104) := by rw [(K1 100 (by decide)).1, (K1 104 (by decide)).1]; exact hw2
              have hw14 : ¬ IsW 21 (C 100) (C 104) := by rw [(K1 100 (by decide)).1, (K1 104 (by decide)).1]; exact hw14
              have hw29 : ¬ IsW 22 (C 100) (C 104) := by rw [(K1 100 (by decide)).1, (K1 104 (by decide)).1]; exact hw29
              have hw46 : ¬ IsW 23 (C 100) (C 104) := by rw [(K1 100 (by decide)).1, (K1 104 (by decide)).1]; exact hw46
              have hw65 : IsW 24 (C 100) (C 104) := by rw [(K1 100 (by decide)).1, (K1 104 (by decide)).1]; exact hw65
              have hF3 : IsW 20 (C 100) (C 104) → ¬ C 114 3 = 4 := by rw [(K1 100 (by decide)).1, (K1 104 (by decide)).1, (K1 114 (by decide)).1]; exact hF3
              have hF4 : IsW 21 (C 100) (C 104) → ¬ C 114 4 = 7 := by rw [(K1 100 (by decide)).1, (K1 104 (by decide)).1, (K1 114 (by decide)).1]; exact hF4
              have hF7 : IsW 24 (C 100) (C 104) → ¬ C 114 7 = 8 := by rw [(K1 100 (by decide)).1, (K1 104 (by decide)).1, (K1 114 (by decide)).1]; exact hF7
              rcases hr with ⟨rfl, hg70⟩ | ⟨rfl, hg70⟩
              · skip
                have hgd := hg70
                refine g_if_ne X dX8_readNext_76 (tgt := 80) (by decide) (fun q => absurd (by decide) q) (fun _ => ?_)
                exact g_vret X hrt dX8_readNext_79 (by decide) (by decide) ⟨C, D, F, I, K, ham⟩
              · skip
                have hgd := hg70
                have hmy := hm hgd
                refine g_if_ne X dX8_readNext_76 (tgt := 80) (by decide) (fun _ => ?_) (fun q => absurd q (by decide))
                refine g_aload_n X dX8_readNext_80 rfl (j := 1) rfl ?_
                refine g_ldcS X (tx := "inn") (i := 20) (by decide) dX8_readNext_81 ?_
                refine g_callVI X (s_X8_takes l G F I 20 (by decide) ) lk_X8_180 (F.1 100 rfl).2 (F.1 100 rfl).1 rfl rfl dX8_readNext_83 (Nat.le_of_ble_eq_true rfl) ⟨by decide, by decide⟩ ⟨by decide, by decide⟩ (fun r71 L M hp => ?_)
                obtain ⟨C, D, F, I, K1, hr⟩ := hp
                have K := K.step K1 (by decide)
                obtain ⟨hrat, hrm, hr⟩ := hr
                have hm : C 100 12 = 0 → C0 100 12 = 0 := fun z => hm (hrm z)
                have ham : (C0 100 8).toInt ≤ (C 100 8).toInt := Int.le_trans ham hrat
                rcases hr with ⟨rfl, ht72⟩ | ⟨rfl, ht72, ht72E⟩
                · skip
                  have hT3 : ¬ C 114 3 = 4 := by rw [(K1 114 (by decide)).1]; exact hF3 ht72
                  refine g_if_eq X dX8_readNext_86 (tgt := 125) (by decide) (fun q => absurd q (by decide)) (fun _ => ?_)
                  refine g_aload_n X dX8_readNext_89 rfl (j := 1) rfl ?_
                  refine i_get X F 100 rfl rfl fk_X8_31 dX8_readNext_90 rfl ?_
                  refine g_bipush X dX8_readNext_93 (v := 10) (by decide) ?_
                  refine g_aload_n X dX8_readNext_95 rfl (j := 1) rfl ?_
                  refine i_get X F 100 rfl rfl fk_X8_31 dX8_readNext_96 rfl ?_
                  refine g_iconst X dX8_readNext_99 (v := 3) (by decide) ?_
                  obtain ⟨n73, hn73, en73⟩ := rg_nat ((show okw (3) (C 114 (3)) from I 114 (3)).2.2.1 rfl) (by decide)
                  refine i_iald X F 114 rfl rfl dX8_readNext_100 (vp_in_iff.mpr (by decide)) (v := nI n73) (by exact en73) ?_
                  have hnen73 : n73 ≠ 4 := fun z => hT3 (by rw [en73, z]; rfl)
                  refine g_iadd X dX8_readNext_101 ?_
                  refine Go.top (v := .int (nI (10 + n73))) (congrArg Value.int (nI_add 10 n73)) ?_
                  refine g_aload_n X dX8_readNext_102 rfl (j := 1) rfl ?_
                  refine g_ldcS X (tx := "room") (i := 25) (by decide) dX8_readNext_103 ?_
                  refine g_iconst X dX8_readNext_105 (v := 0) (by decide) ?_
                  refine g_bipush X dX8_readNext_106 (v := 9) (by decide) ?_
                  refine g_callVI X (s_X8_toldBy l G F I 25 (by decide) (0 : Int32) (9 : Int32) ) lk_X8_197 (F.1 100 rfl).2 (F.1 100 rfl).1 rfl rfl dX8_readNext_108 (Nat.le_of_ble_eq_true rfl) ⟨by decide, by decide⟩ ⟨by decide, by decide⟩ (fun r74 L M hp => ?_)
                  obtain ⟨C, D, F, I, K1, hr⟩ := hp
                  have K := K.step K1 (by decide)
                  have hT3 : ¬ C 114 3 = 4 := by rw [(K1 114 (by decide)).1]; exact hT3
                  have en73 : C 114 (3) = nI n73 := by rw [(K1 114 (by decide)).1]; exact en73
                  obtain ⟨hrat, hrm, hnum⟩ := hr
                  have hm : C 100 12 = 0 → C0 100 12 = 0 := fun z => hm (hrm z)
                  have ham : (C0 100 8).toInt ≤ (C 100 8).toInt := Int.le_trans ham hrat
                  obtain ⟨n75, hn75, en75⟩ := num_nat (B := 9) (by decide) hnum (by have kk : (9 : Int32).toInt = 9 := (by decide); omega)
                  subst en75
                  refine i_iast X F I 114 rfl (fun _ => rfl) dX8_readNext_111 (vp_in_nI (by omega) (by decide)) (by rw [nI_clamp (by omega)]; show okw (10 + n73) (nI n75); exact ⟨fun h => by exfalso; omega, fun h => by exfalso; omega, fun h => by exfalso; omega, fun h => by exfalso; omega, fun h => by exfalso; omega, fun h => by exfalso; omega, fun a1 a2 a3 => by exfalso; omega, fun a1 a2 a3 => by exfalso; omega, fun a1 a2 a3 a4 => by exfalso; omega, fun a1 a2 a3 => by exfalso; omega, fun a1 a2 => by exfalso; omega⟩) (fun M C F I K1 hC => ?_)
                  have K := K.step K1 (by decide)
                  have hm : C 100 12 = 0 → C0 100 12 = 0 := fun z => hm ((congrFun (K1 100 (by decide)).1 12).symm.trans z)
                  have ham : (C0 100 8).toInt ≤ (C 100 8).toInt := by rw [(K1 100 (by decide)).1]; exact ham
                  have en73 : C 114 (3) = nI n73 := by rw [hC, nI_clamp (by omega), pk_un (by omega)]; exact en73
                  refine g_aload_n X dX8_readNext_112 rfl (j := 1) rfl ?_
                  refine i_get X F 100 rfl rfl fk_X8_31 dX8_readNext_113 rfl ?_
                  refine g_iconst X dX8_readNext_116 (v := 3) (by decide) ?_
                  refine g_dup2 X dX8_readNext_117 rfl rfl ?_
                  refine i_iald X F 114 rfl rfl dX8_readNext_118 (vp_in_iff.mpr (by decide)) (v := nI n73) (by exact en73) ?_
                  refine g_iconst X dX8_readNext_119 (v := 1) (by decide) ?_
                  refine g_iadd X dX8_readNext_120 ?_
                  refine Go.top (v := .int (nI (n73 + 1))) (congrArg Value.int (nI_add n73 1)) ?_
                  refine i_iast X F I 114 rfl (fun _ => rfl) dX8_readNext_121 (vp_in_iff.mpr (by decide)) (by show okw (3) (nI (n73 + 1)); exact ⟨fun h => by exfalso; omega, fun h => by exfalso; omega, fun _ => (rg_of (n := (n73 + 1)) (by omega) (by omega) (by omega)), fun h => by exfalso; omega, fun h => by exfalso; omega, fun h => by exfalso; omega, fun a1 a2 a3 => by exfalso; omega, fun a1 a2 a3 => by exfalso; omega, fun a1 a2 a3 a4 => by exfalso; omega, fun a1 a2 a3 => by exfalso; omega, fun a1 a2 => by exfalso; omega⟩) (fun M C F I K1 hC => ?_)
                  have K := K.step K1 (by decide)
                  have hm : C 100 12 = 0 → C0 100 12 = 0 := fun z => hm ((congrFun (K1 100 (by decide)).1 12).symm.trans z)
                  have ham : (C0 100 8).toInt ≤ (C 100 8).toInt := by rw [(K1 100 (by decide)).1]; exact ham
                  refine g_goto X dX8_readNext_122 (tgt := 187) (by decide) ?_
                  exact g_vret X hrt dX8_readNext_187 (by decide) (by decide) ⟨C, D, F, I, K, ham⟩
                · skip
                  have hgd : C 100 12 = 0 := by rw [ht72E]; exact hgd
                  have hF4 : IsW 21 (C 100) (C 104) → ¬ C 114 4 = 7 := by rw [ht72E, (K1 104 (by decide)).1, (K1 114 (by decide)).1]; exact hF4
                  have hF7 : IsW 24 (C 100) (C 104) → ¬ C 114 7 = 8 := by rw [ht72E, (K1 104 (by decide)).1, (K1 114 (by decide)).1]; exact hF7
                  have hw65 : IsW 24 (C 100) (C 104) := by rw [ht72E, (K1 104 (by decide)).1]; exact hw65
                  refine g_if_eq X dX8_readNext_86 (tgt := 125) (by decide) (fun _ => ?_) (fun q => absurd (by decide) q)
                  refine g_aload_n X dX8_readNext_125 rfl (j := 1) rfl ?_
                  refine g_ldcS X (tx := "post") (i := 21) (by decide) dX8_readNext_126 ?_
                  refine g_callVI X (s_X8_takes l G F I 21 (by decide) ) lk_X8_180 (F.1 100 rfl).2 (F.1 100 rfl).1 rfl rfl dX8_readNext_128 (Nat.le_of_ble_eq_true rfl) ⟨by decide, by decide⟩ ⟨by decide, by decide⟩ (fun r76 L M hp => ?_)
                  obtain ⟨C, D, F, I, K1, hr⟩ := hp
                  have K := K.step K1 (by decide)
                  obtain ⟨hrat, hrm, hr⟩ := hr
                  have hm : C 100 12 = 0 → C0 100 12 = 0 := fun z => hm (hrm z)
                  have ham : (C0 100 8).toInt ≤ (C 100 8).toInt := Int.le_trans ham hrat
                  rcases hr with ⟨rfl, ht77⟩ | ⟨rfl, ht77, ht77E⟩
                  · skip
                    have hT4 : ¬ C 114 4 = 7 := by rw [(K1 114 (by decide)).1]; exact hF4 ht77
                    refine g_if_eq X dX8_readNext_131 (tgt := 147) (by decide) (fun q => absurd q (by decide)) (fun _ => ?_)
                    refine g_aload_n X dX8_readNext_134 rfl (j := 1) rfl ?_
                    refine i_get X F 100 rfl rfl fk_X8_31 dX8_readNext_135 rfl ?_
                    refine g_iconst X dX8_readNext_138 (v := 4) (by decide) ?_
                    refine g_dup2 X dX8_readNext_139 rfl rfl ?_
                    obtain ⟨n78, hn78, en78⟩ := rg_nat ((show okw (4) (C 114 (4)) from I 114 (4)).2.2.2.1 rfl) (by decide)
                    refine i_iald X F 114 rfl rfl dX8_readNext_140 (vp_in_iff.mpr (by decide)) (v := nI n78) (by exact en78) ?_
                    have hnen78 : n78 ≠ 7 := fun z => hT4 (by rw [en78, z]; rfl)
                    refine g_iconst X dX8_readNext_141 (v := 1) (by decide) ?_
                    refine g_iadd X dX8_readNext_142 ?_
                    refine Go.top (v := .int (nI (n78 + 1))) (congrArg Value.int (nI_add n78 1)) ?_
                    refine i_iast X F I 114 rfl (fun _ => rfl) dX8_readNext_143 (vp_in_iff.mpr (by decide)) (by show okw (4) (nI (n78 + 1)); exact ⟨fun h => by exfalso; omega, fun h => by exfalso; omega, fun h => by exfalso; omega, fun _ => (rg_of (n := (n78 + 1)) (by omega) (by omega) (by omega)), fun h => by exfalso; omega, fun h => by exfalso; omega, fun a1 a2 a3 => by exfalso; omega, fun a1 a2 a3 => by exfalso; omega, fun a1 a2 a3 a4 => by exfalso; omega, fun a1 a2 a3 => by exfalso; omega, fun a1 a2 => by exfalso; omega⟩) (fun M C F I K1 hC => ?_)
                    have K := K.step K1 (by decide)
                    have hm : C 100 12 = 0 → C0 100 12 = 0 := fun z => hm ((congrFun (K1 100 (by decide)).1 12).symm.trans z)
                    have ham : (C0 100 8).toInt ≤ (C 100 8).toInt := by rw [(K1 100 (by decide)).1]; exact ham
                    refine g_goto X dX8_readNext_144 (tgt := 187) (by decide) ?_
                    exact g_vret X hrt dX8_readNext_187 (by decide) (by decide) ⟨C, D, F, I, K, ham⟩
                  · skip
                    have hgd : C 100 12 = 0 := by rw [ht77E]; exact hgd
                    have hF7 : IsW 24 (C 100) (C 104) → ¬ C 114 7 = 8 := by rw [ht77E, (K1 104 (by decide)).1, (K1 114 (by decide)).1]; exact hF7
                    have hw65 : IsW 24 (C 100) (C 104) := by rw [ht77E, (K1 104 (by decide)).1]; exact hw65
                    refine g_if_eq X dX8_readNext_131 (tgt := 147) (by decide) (fun _ => ?_) (fun q => absurd (by decide) q)
                    refine g_aload_n X dX8_readNext_147 rfl (j := 1) rfl ?_
                    refine g_ldcS X (tx := "road") (i := 22) (by decide) dX8_readNext_148 ?_
                    refine g_callVI X (s_X8_takes l G F I 22 (by decide) ) lk_X8_180 (F.1 100 rfl).2 (F.1 100 rfl).1 rfl rfl dX8_readNext_150 (Nat.le_of_ble_eq_true rfl) ⟨by decide, by decide⟩ ⟨by decide, by decide⟩ (fun r79 L M hp => ?_)
                    obtain ⟨C, D, F, I, K1, hr⟩ := hp
                    have K := K.step K1 (by decide)
                    obtain ⟨hrat, hrm, hr⟩ := hr
                    have hm : C 100 12 = 0 → C0 100 12 = 0 := fun z => hm (hrm z)
                    have ham : (C0 100 8).toInt ≤ (C 100 8).toInt := Int.le_trans ham hrat
                    rcases hr with ⟨rfl, ht80⟩ | ⟨rfl, ht80, ht80E⟩
                    · skip
                      refine g_if_eq X dX8_readNext_153 (tgt := 163) (by decide) (fun q => absurd q (by decide)) (fun _ => ?_)
                      refine g_aload_n X dX8_readNext_156 rfl (j := 1) rfl ?_
                      refine g_callVV X (s_X8_readRoad l G F I  ) lk_X8_227 (F.1 100 rfl).2 (F.1 100 rfl).1 rfl rfl dX8_readNext_157 (Nat.le_of_ble_eq_true rfl) ⟨by decide, by decide⟩ ⟨by decide, by decide⟩ (fun L M hp => ?_)
                      obtain ⟨C, D, F, I, K1, hr⟩ := hp
                      have K := K.step K1 (by decide)
                      have ham : (C0 100 8).toInt ≤ (C 100 8).toInt := Int.le_trans ham hr
                      refine g_goto X dX8_readNext_160 (tgt := 187) (by decide) ?_
                      exact g_vret X hrt dX8_readNext_187 (by decide) (by decide) ⟨C, D, F, I, K, ham⟩
                    · skip
                      have hgd : C 100 12 = 0 := by rw [ht80E]; exact hgd
                      have hF7 : IsW 24 (C 100) (C 104) → ¬ C 114 7 = 8 := by rw [ht80E, (K1 104 (by decide)).1, (K1 114 (by decide)).1]; exact hF7
                      have hw65 : IsW 24 (C 100) (C 104) := by rw [ht80E, (K1 104 (by decide)).1]; exact hw65
                      refine g_if_eq X dX8_readNext_153 (tgt := 163) (by decide) (fun _ => ?_) (fun q => absurd (by decide) q)
                      refine g_aload_n X dX8_readNext_163 rfl (j := 1) rfl ?_
                      refine g_ldcS X (tx := "arm") (i := 23) (by decide) dX8_readNext_164 ?_
                      refine g_callVI X (s_X8_takes l G F I 23 (by decide) ) lk_X8_180 (F.1 100 rfl).2 (F.1 100 rfl).1 rfl rfl dX8_readNext_166 (Nat.le_of_ble_eq_true rfl) ⟨by decide, by decide⟩ ⟨by decide, by decide⟩ (fun r81 L M hp => ?_)
                      obtain ⟨C, D, F, I, K1, hr⟩ := hp
                      have K := K.step K1 (by decide)
                      obtain ⟨hrat, hrm, hr⟩ := hr
                      have hm : C 100 12 = 0 → C0 100 12 = 0 := fun z => hm (hrm z)
                      have ham : (C0 100 8).toInt ≤ (C 100 8).toInt := Int.le_trans ham hrat
                      rcases hr with ⟨rfl, ht82⟩ | ⟨rfl, ht82, ht82E⟩
                      · skip
                        refine g_if_eq X dX8_readNext_169 (tgt := 179) (by decide) (fun q => absurd q (by decide)) (fun _ => ?_)
                        refine g_aload_n X dX8_readNext_172 rfl (j := 1) rfl ?_
                        refine g_callVV X (s_X8_readArm l G F I  ) lk_X8_230 (F.1 100 rfl).2 (F.1 100 rfl).1 rfl rfl dX8_readNext_173 (Nat.le_of_ble_eq_true rfl) ⟨by decide, by decide⟩ ⟨by decide, by decide⟩ (fun L M hp => ?_)
                        obtain ⟨C, D, F, I, K1, hr⟩ := hp
                        have K := K.step K1 (by decide)
                        have ham : (C0 100 8).toInt ≤ (C 100 8).toInt := Int.le_trans ham hr
                        refine g_goto X dX8_readNext_176 (tgt := 187) (by decide) ?_
                        exact g_vret X hrt dX8_readNext_187 (by decide) (by decide) ⟨C, D, F, I, K, ham⟩
                      · skip
                        have hgd : C 100 12 = 0 := by rw [ht82E]; exact hgd
                        have hF7 : IsW 24 (C 100) (C 104) → ¬ C 114 7 = 8 := by rw [ht82E, (K1 104 (by decide)).1, (K1 114 (by decide)).1]; exact hF7
                        have hw65 : IsW 24 (C 100) (C 104) := by rw [ht82E, (K1 104 (by decide)).1]; exact hw65
                        refine g_if_eq X dX8_readNext_169 (tgt := 179) (by decide) (fun _ => ?_) (fun q => absurd (by decide) q)
                        have hT7 : ¬ C 114 7 = 8 := hF7 hw65
                        refine g_aload_n X dX8_readNext_179 rfl (j := 1) rfl ?_
                        refine g_callVV X (s_X8_advance l G F I  ) lk_X8_177 (F.1 100 rfl).2 (F.1 100 rfl).1 rfl rfl dX8_readNext_180 (Nat.le_of_ble_eq_true rfl) ⟨by decide, by decide⟩ ⟨by decide, by decide⟩ (fun L M hp => ?_)
                        obtain ⟨C, D, F, I, K1, hr⟩ := hp
                        have K := K.step K1 (by decide)
                        have hT7 : ¬ C 114 7 = 8 := by rw [(K1 114 (by decide)).1]; exact hT7
                        obtain ⟨hr, hr7, hrat, hrtk⟩ := hr
                        have hm : C 100 12 = 0 → C0 100 12 = 0 := fun z => hm (hr.symm.trans z)
                        have ham : (C0 100 8).toInt ≤ (C 100 8).toInt := Int.le_trans ham hrat
                        have hgd : C 100 12 = 0 := hr.trans hgd
                        refine g_aload_n X dX8_readNext_183 rfl (j := 1) rfl ?_
                        refine g_callVV X (s_X8_readWalker l G F I  hT7) lk_X8_233 (F.1 100 rfl).2 (F.1 100 rfl).1 rfl rfl dX8_readNext_184 (Nat.le_of_ble_eq_true rfl) ⟨by decide, by decide⟩ ⟨by decide, by decide⟩ (fun L M hp => ?_)
                        obtain ⟨C, D, F, I, K1, hr⟩ := hp
                        have K := K.step K1 (by decide)
                        have ham : (C0 100 8).toInt ≤ (C 100 8).toInt := Int.le_trans ham hr
                        exact g_vret X hrt dX8_readNext_187 (by decide) (by decide) ⟨C, D, F, I, K, ham⟩
          · skip
            refine g_if_eq X dX8_readNext_42 (tgt := 49) (by decide) (fun _ => ?_) (fun q => absurd (by decide) q)
            refine g_iconst X dX8_readNext_49 (v := 0) (by decide) ?_
            refine g_istore_n X dX8_readNext_50 rfl (by decide) (lv2 := [(1, .int 0), (0, .ref (a 100))]) rfl ?_
            refine g_iload_n X dX8_readNext_51 rfl (j := 0) rfl ?_
            refine g_if_ne X dX8_readNext_52 (tgt := 60) (by decide) (fun q => absurd (by decide) q) (fun _ => ?_)
            refine g_aload_n X dX8_readNext_55 rfl (j := 1) rfl ?_
            refine g_iconst X dX8_readNext_56 (v := 1) (by decide) ?_
            refine g_callVV X (s_X8_errs l G F I (1 : Int32) (by decide)) lk_X8_183 (F.1 100 rfl).2 (F.1 100 rfl).1 rfl rfl dX8_readNext_57 (Nat.le_of_ble_eq_true rfl) ⟨by decide, by decide⟩ ⟨by decide, by decide⟩ (fun L M hp => ?_)
            obtain ⟨C, D, F, I, K1, hr⟩ := hp
            have K := K.step K1 (by decide)
            obtain ⟨hr, hr8⟩ := hr
            have hm : C 100 12 = 0 → C0 100 12 = 0 := fun z => absurd z hr
            have hgd := hr
            have ham : (C0 100 8).toInt ≤ (C 100 8).toInt := Int.le_trans ham (by rw [hr8]; exact Int.le_refl _)
            refine g_aload_n X dX8_readNext_60 rfl (j := 1) rfl ?_
            refine g_callVI X (s_X8_isFull l G F I  ) lk_X8_222 (F.1 100 rfl).2 (F.1 100 rfl).1 rfl rfl dX8_readNext_61 (Nat.le_of_ble_eq_true rfl) ⟨by decide, by decide⟩ ⟨by decide, by decide⟩ (fun r83 L M hp => ?_)
            obtain ⟨C, D, F, I, K1, hr⟩ := hp
            have K := K.step K1 (by decide)
            have hm : C 100 12 = 0 → C0 100 12 = 0 := fun z => hm ((congrFun (K1 100 (by decide)).1 12).symm.trans z)
            have hgd : ¬ C 100 12 = 0 := by rw [(K1 100 (by decide)).1]; exact hgd
            have ham : (C0 100 8).toInt ≤ (C 100 8).toInt := by rw [(K1 100 (by decide)).1]; exact ham
            rcases hr with rfl | ⟨rfl, hF3, hF4, hF7⟩
            · skip
              refine g_if_eq X dX8_readNext_64 (tgt := 72) (by decide) (fun q => absurd q (by decide)) (fun _ => ?_)
              refine g_aload_n X dX8_readNext_67 rfl (j := 1) rfl ?_
              refine g_iconst X dX8_readNext_68 (v := 3) (by decide) ?_
              refine g_callVV X (s_X8_errs l G F I (3 : Int32) (by decide)) lk_X8_183 (F.1 100 rfl).2 (F.1 100 rfl).1 rfl rfl dX8_readNext_69 (Nat.le_of_ble_eq_true rfl) ⟨by decide, by decide⟩ ⟨by decide, by decide⟩ (fun L M hp => ?_)
              obtain ⟨C, D, F, I, K1, hr⟩ := hp
              have K := K.step K1 (by decide)
              obtain ⟨hr, hr8⟩ := hr
              have hm : C 100 12 = 0 → C0 100 12 = 0 := fun z => absurd z hr
              have hgd := hr
              have ham : (C0 100 8).toInt ≤ (C 100 8).toInt := Int.le_trans ham (by rw [hr8]; exact Int.le_refl _)
              refine g_aload_n X dX8_readNext_72 rfl (j := 1) rfl ?_
              refine g_callVI X (s_X8_good l G F I  ) lk_X8_161 (F.1 100 rfl).2 (F.1 100 rfl).1 rfl rfl dX8_readNext_73 (Nat.le_of_ble_eq_true rfl) ⟨by decide, by decide⟩ ⟨by decide, by decide⟩ (fun r84 L M hp => ?_)
              obtain ⟨C, D, F, I, K1, hr⟩ := hp
              have K := K.step K1 (by decide)
              have hm : C 100 12 = 0 → C0 100 12 = 0 := fun z => hm ((congrFun (K1 100 (by decide)).1 12).symm.trans z)
              have hgd : ¬ C 100 12 = 0 := by rw [(K1 100 (by decide)).1]; exact hgd
              have ham : (C0 100 8).toInt ≤ (C 100 8).toInt := by rw [(K1 100 (by decide)).1]; exact ham
              rcases hr with ⟨rfl, hg85⟩ | ⟨rfl, hg85⟩
              · skip
                have hgd := hg85
                refine g_if_ne X dX8_readNext_76 (tgt := 80) (by decide) (fun q => absurd (by decide) q) (fun _ => ?_)
                exact g_vret X hrt dX8_readNext_79 (by decide) (by decide) ⟨C, D, F, I, K, ham⟩
              · skip
                exact absurd hg85 hgd
            · skip
              refine g_if_eq X dX8_readNext_64 (tgt := 72) (by decide) (fun _ => ?_) (fun q => absurd (by decide) q)
              refine g_aload_n X dX8_readNext_72 rfl (j := 1) rfl ?_
              refine g_callVI X (s_X8_good l G F I  ) lk_X8_161 (F.1 100 rfl).2 (F.1 100 rfl).1 rfl rfl dX8_readNext_73 (Nat.le_of_ble_eq_true rfl) ⟨by decide, by decide⟩ ⟨by decide, by decide⟩ (fun r86 L M hp => ?_)
              obtain ⟨C, D, F, I, K1, hr⟩ := hp
              have K := K.step K1 (by decide)
              have hm : C 100 12 = 0 → C0 100 12 = 0 := fun z => hm ((congrFun (K1 100 (by decide)).1 12).symm.trans z)
              have hgd : ¬ C 100 12 = 0 := by rw [(K1 100 (by decide)).1]; exact hgd
              have ham : (C0 100 8).toInt ≤ (C 100 8).toInt := by rw [(K1 100 (by decide)).1]; exact ham
              have hF3 : IsW 20 (C 100) (C 104) → ¬ C 114 3 = 4 := by rw [(K1 100 (by decide)).1, (K1 104 (by decide)).1, (K1 114 (by decide)).1]; exact hF3
              have hF4 : IsW 21 (C 100) (C 104) → ¬ C 114 4 = 7 := by rw [(K1 100 (by decide)).1, (K1 104 (by decide)).1, (K1 114 (by decide)).1]; exact hF4
              have hF7 : IsW 24 (C 100) (C 104) → ¬ C 114 7 = 8 := by rw [(K1 100 (by decide)).1, (K1 104 (by decide)).1, (K1 114 (by decide)).1]; exact hF7
              rcases hr with ⟨rfl, hg87⟩ | ⟨rfl, hg87⟩
              · skip
                have hgd := hg87
                refine g_if_ne X dX8_readNext_76 (tgt := 80) (by decide) (fun q => absurd (by decide) q) (fun _ => ?_)
                exact g_vret X hrt dX8_readNext_79 (by decide) (by decide) ⟨C, D, F, I, K, ham⟩
              · skip
                exact absurd hg87 hgd
set_option maxHeartbeats 4000000 in
set_option maxRecDepth 100000 in
theorem s_X8_readLine (l : Launch) (G : va_G) {cy : Nat → ClassId} {L : List Nat} {M : Nat → va_E} {a : Nat → Nat} {act : Nat → Bool} {C0 : Nat → Nat → Int32} {D0 : Nat → Nat → Int64} {R : Nat → Nat → Option Nat} (F : WI L M a act (ent cy a C0 D0 R)) (I : Inv C0)   : MV l G cy yX8_readLine cX8_readLine 1 none 10 0 0 [.ref (a 100)] L M (fun L2 M2 => ∃ C2 D2, WI L2 M2 a act (ent cy a C2 D2 R) ∧ Inv C2 ∧ Kp [100, 114] C0 D0 C2 D2 ∧ (C0 100 8).toInt ≤ (C2 100 8).toInt ∧ (C2 100 12 = 0 → ¬ C2 100 10 = 0 → (C0 100 8).toInt < (C2 100 8).toInt)) := by
  refine MV.of (own := RX8) rfl (by decide) (Nat.le_of_ble_eq_true rfl) ?_
  intro p e s m below meth c A X hrt hnm
  obtain ⟨C, D, hC0, hD0, F, I, K⟩ : ∃ C D, C = C0 ∧ D = D0 ∧ WI L M a act (ent cy a C D R) ∧ Inv C ∧ Kp [100, 114] C0 D0 C D := ⟨C0, D0, rfl, rfl, F, I, Kp.rf⟩
  have ham : (C0 100 8).toInt ≤ (C 100 8).toInt := by rw [hC0]; exact Int.le_refl _
  have hm : C 100 12 = 0 → C0 100 12 = 0 := fun z => by rw [hC0] at z; exact z
  refine g_aload_n X dX8_readLine_0 rfl (j := 0) rfl ?_
  refine i_get X F 100 rfl rfl fk_X8_31 dX8_readLine_1 rfl ?_
  refine g_bipush X dX8_readLine_4 (v := 9) (by decide) ?_
  refine i_iald X F 114 rfl rfl dX8_readLine_6 (vp_in_iff.mpr (by decide)) rfl ?_
  refine Go.gen (fun o1 => ?_)
  refine g_if_ne X dX8_readLine_7 (tgt := 17) (by decide) (fun q2 => ?_) (fun q2 => ?_)
  · skip
    refine g_aload_n X dX8_readLine_17 rfl (j := 0) rfl ?_
    refine g_callVV X (s_X8_readNext l G F I  ) lk_X8_239 (F.1 100 rfl).2 (F.1 100 rfl).1 rfl rfl dX8_readLine_18 (Nat.le_of_ble_eq_true rfl) ⟨by decide, by decide⟩ ⟨by decide, by decide⟩ (fun L M hp => ?_)
    obtain ⟨C, D, F, I, K1, hr⟩ := hp
    have K := K.step K1 (by decide)
    have ham : (C0 100 8).toInt ≤ (C 100 8).toInt := Int.le_trans ham hr
    refine g_aload_n X dX8_readLine_21 rfl (j := 0) rfl ?_
    refine g_callVI X (s_X8_good l G F I  ) lk_X8_161 (F.1 100 rfl).2 (F.1 100 rfl).1 rfl rfl dX8_readLine_22 (Nat.le_of_ble_eq_true rfl) ⟨by decide, by decide⟩ ⟨by decide, by decide⟩ (fun r3 L M hp => ?_)
    obtain ⟨C, D, F, I, K1, hr⟩ := hp
    have K := K.step K1 (by decide)
    have ham : (C0 100 8).toInt ≤ (C 100 8).toInt := by rw [(K1 100 (by decide)).1]; exact ham
    rcases hr with ⟨rfl, hg4⟩ | ⟨rfl, hg4⟩
    · skip
      have hgd := hg4
      refine g_if_eq X dX8_readLine_25 (tgt := 41) (by decide) (fun _ => ?_) (fun q => absurd (by decide) q)
      refine g_aload_n X dX8_readLine_41 rfl (j := 0) rfl ?_
      refine g_callVI X (s_X8_good l G F I  ) lk_X8_161 (F.1 100 rfl).2 (F.1 100 rfl).1 rfl rfl dX8_readLine_42 (Nat.le_of_ble_eq_true rfl) ⟨by decide, by decide⟩ ⟨by decide, by decide⟩ (fun r5 L M hp => ?_)
      obtain ⟨C, D, F, I, K1, hr⟩ := hp
      have K := K.step K1 (by decide)
      have ham : (C0 100 8).toInt ≤ (C 100 8).toInt := by rw [(K1 100 (by decide)).1]; exact ham
      have hgd : ¬ C 100 12 = 0 := by rw [(K1 100 (by decide)).1]; exact hgd
      rcases hr with ⟨rfl, hg6⟩ | ⟨rfl, hg6⟩
      · skip
        have hgd := hg6
        refine g_if_eq X dX8_readLine_45 (tgt := 52) (by decide) (fun _ => ?_) (fun q => absurd (by decide) q)
        refine g_aload_n X dX8_readLine_52 rfl (j := 0) rfl ?_
        refine i_get X F 100 rfl rfl fk_X8_31 dX8_readLine_53 rfl ?_
        refine g_bipush X dX8_readLine_56 (v := 9) (by decide) ?_
        refine g_dup2 X dX8_readLine_58 rfl rfl ?_
        refine i_iald X F 114 rfl rfl dX8_readLine_59 (vp_in_iff.mpr (by decide)) rfl ?_
        refine Go.gen (fun o7 => ?_)
        refine g_iconst X dX8_readLine_60 (v := 1) (by decide) ?_
        refine g_iadd X dX8_readLine_61 ?_
        refine Go.gen (fun o8 => ?_)
        refine i_iast X F I 114 rfl (fun _ => rfl) dX8_readLine_62 (vp_in_iff.mpr (by decide)) (by show okw (9) (o8); exact ⟨fun h => by exfalso; omega, fun h => by exfalso; omega, fun h => by exfalso; omega, fun h => by exfalso; omega, fun h => by exfalso; omega, fun h => by exfalso; omega, fun a1 a2 a3 => by exfalso; omega, fun a1 a2 a3 => by exfalso; omega, fun a1 a2 a3 a4 => by exfalso; omega, fun a1 a2 a3 => by exfalso; omega, fun a1 a2 => by exfalso; omega⟩) (fun M C F I K1 hC => ?_)
        have K := K.step K1 (by decide)
        have ham : (C0 100 8).toInt ≤ (C 100 8).toInt := by rw [(K1 100 (by decide)).1]; exact ham
        have hgd : ¬ C 100 12 = 0 := by rw [(K1 100 (by decide)).1]; exact hgd
        exact g_vret X hrt dX8_readLine_63 (by decide) (by decide) ⟨C, D, F, I, K, ham, (fun z => absurd z hgd)⟩
      · skip
        exact absurd hg6 hgd
    · skip
      have hgd := hg4
      refine g_if_eq X dX8_readLine_25 (tgt := 41) (by decide) (fun q => absurd q (by decide)) (fun _ => ?_)
      refine g_aload_n X dX8_readLine_28 rfl (j := 0) rfl ?_
      refine i_get X F 100 rfl rfl fk_X8_137 dX8_readLine_29 rfl ?_
      refine Go.gen (fun o9 => ?_)
      refine g_iconst X dX8_readLine_32 (v := 3) (by decide) ?_
      refine g_icmp_eq X dX8_readLine_33 (tgt := 41) (by decide) (fun q10 => ?_) (fun q10 => ?_)
      · skip
        subst q10
        refine g_aload_n X dX8_readLine_41 rfl (j := 0) rfl ?_
        refine g_callVI X (s_X8_good l G F I  ) lk_X8_161 (F.1 100 rfl).2 (F.1 100 rfl).1 rfl rfl dX8_readLine_42 (Nat.le_of_ble_eq_true rfl) ⟨by decide, by decide⟩ ⟨by decide, by decide⟩ (fun r11 L M hp => ?_)
        obtain ⟨C, D, F, I, K1, hr⟩ := hp
        have K := K.step K1 (by decide)
        have ham : (C0 100 8).toInt ≤ (C 100 8).toInt := by rw [(K1 100 (by decide)).1]; exact ham
        have hgd : C 100 12 = 0 := by rw [(K1 100 (by decide)).1]; exact hgd
        rcases hr with ⟨rfl, hg12⟩ | ⟨rfl, hg12⟩
        · skip
          exact absurd hgd hg12
        · skip
          have hgd := hg12
          refine g_if_eq X dX8_readLine_45 (tgt := 52) (by decide) (fun q => absurd q (by decide)) (fun _ => ?_)
          have hamx := ham
          refine g_aload_n X dX8_readLine_48 rfl (j := 0) rfl ?_
          refine g_callVV X (s_X8_advance l G F I  ) lk_X8_177 (F.1 100 rfl).2 (F.1 100 rfl).1 rfl rfl dX8_readLine_49 (Nat.le_of_ble_eq_true rfl) ⟨by decide, by decide⟩ ⟨by decide, by decide⟩ (fun L M hp => ?_)
          obtain ⟨C, D, F, I, K1, hr⟩ := hp
          have K := K.step K1 (by decide)
          obtain ⟨hr, hr7, hrat, hrtk⟩ := hr
          have ham : (C0 100 8).toInt ≤ (C 100 8).toInt := Int.le_trans ham hrat
          have hgd : C 100 12 = 0 := hr.trans hgd
          have hgo : ¬ C 100 10 = 0 → (C0 100 8).toInt < (C 100 8).toInt := fun z => Int.lt_of_le_of_lt hamx (hrtk z)
          refine g_aload_n X dX8_readLine_52 rfl (j := 0) rfl ?_
          refine i_get X F 100 rfl rfl fk_X8_31 dX8_readLine_53 rfl ?_
          refine g_bipush X dX8_readLine_56 (v := 9) (by decide) ?_
          refine g_dup2 X dX8_readLine_58 rfl rfl ?_
          refine i_iald X F 114 rfl rfl dX8_readLine_59 (vp_in_iff.mpr (by decide)) rfl ?_
          refine Go.gen (fun o13 => ?_)
          refine g_iconst X dX8_readLine_60 (v := 1) (by decide) ?_
          refine g_iadd X dX8_readLine_61 ?_
          refine Go.gen (fun o14 => ?_)
          refine i_iast X F I 114 rfl (fun _ => rfl) dX8_readLine_62 (vp_in_iff.mpr (by decide)) (by show okw (9) (o14); exact ⟨fun h => by exfalso; omega, fun h => by exfalso; omega, fun h => by exfalso; omega, fun h => by exfalso; omega, fun h => by exfalso; omega, fun h => by exfalso; omega, fun a1 a2 a3 => by exfalso; omega, fun a1 a2 a3 => by exfalso; omega, fun a1 a2 a3 a4 => by exfalso; omega, fun a1 a2 a3 => by exfalso; omega, fun a1 a2 => by exfalso; omega⟩) (fun M C F I K1 hC => ?_)
          have K := K.step K1 (by decide)
          have ham : (C0 100 8).toInt ≤ (C 100 8).toInt := by rw [(K1 100 (by decide)).1]; exact ham
          have hgd : C 100 12 = 0 := by rw [(K1 100 (by decide)).1]; exact hgd
          have hgo : ¬ C 100 10 = 0 → (C0 100 8).toInt < (C 100 8).toInt := by rw [(K1 100 (by decide)).1]; exact hgo
          exact g_vret X hrt dX8_readLine_63 (by decide) (by decide) ⟨C, D, F, I, K, ham, (fun _ => hgo)⟩
      · skip
        refine g_aload_n X dX8_readLine_36 rfl (j := 0) rfl ?_
        refine g_iconst X dX8_readLine_37 (v := 1) (by decide) ?_
        refine g_callVV X (s_X8_errs l G F I (1 : Int32) (by decide)) lk_X8_183 (F.1 100 rfl).2 (F.1 100 rfl).1 rfl rfl dX8_readLine_38 (Nat.le_of_ble_eq_true rfl) ⟨by decide, by decide⟩ ⟨by decide, by decide⟩ (fun L M hp => ?_)
        obtain ⟨C, D, F, I, K1, hr⟩ := hp
        have K := K.step K1 (by decide)
        obtain ⟨hr, hr8⟩ := hr
        have hgd := hr
        have ham : (C0 100 8).toInt ≤ (C 100 8).toInt := Int.le_trans ham (by rw [hr8]; exact Int.le_refl _)
        refine g_aload_n X dX8_readLine_41 rfl (j := 0) rfl ?_
        refine g_callVI X (s_X8_good l G F I  ) lk_X8_161 (F.1 100 rfl).2 (F.1 100 rfl).1 rfl rfl dX8_readLine_42 (Nat.le_of_ble_eq_true rfl) ⟨by decide, by decide⟩ ⟨by decide, by decide⟩ (fun r15 L M hp => ?_)
        obtain ⟨C, D, F, I, K1, hr⟩ := hp
        have K := K.step K1 (by decide)
        have hgd : ¬ C 100 12 = 0 := by rw [(K1 100 (by decide)).1]; exact hgd
        have ham : (C0 100 8).toInt ≤ (C 100 8).toInt := by rw [(K1 100 (by decide)).1]; exact ham
        rcases hr with ⟨rfl, hg16⟩ | ⟨rfl, hg16⟩
        · skip
          have hgd := hg16
          refine g_if_eq X dX8_readLine_45 (tgt := 52) (by decide) (fun _ => ?_) (fun q => absurd (by decide) q)
          refine g_aload_n X dX8_readLine_52 rfl (j := 0) rfl ?_
          refine i_get X F 100 rfl rfl fk_X8_31 dX8_readLine_53 rfl ?_
          refine g_bipush X dX8_readLine_56 (v := 9) (by decide) ?_
          refine g_dup2 X dX8_readLine_58 rfl rfl ?_
          refine i_iald X F 114 rfl rfl dX8_readLine_59 (vp_in_iff.mpr (by decide)) rfl ?_
          refine Go.gen (fun o17 => ?_)
          refine g_iconst X dX8_readLine_60 (v := 1) (by decide) ?_
          refine g_iadd X dX8_readLine_61 ?_
          refine Go.gen (fun o18 => ?_)
          refine i_iast X F I 114 rfl (fun _ => rfl) dX8_readLine_62 (vp_in_iff.mpr (by decide)) (by show okw (9) (o18); exact ⟨fun h => by exfalso; omega, fun h => by exfalso; omega, fun h => by exfalso; omega, fun h => by exfalso; omega, fun h => by exfalso; omega, fun h => by exfalso; omega, fun a1 a2 a3 => by exfalso; omega, fun a1 a2 a3 => by exfalso; omega, fun a1 a2 a3 a4 => by exfalso; omega, fun a1 a2 a3 => by exfalso; omega, fun a1 a2 => by exfalso; omega⟩) (fun M C F I K1 hC => ?_)
          have K := K.step K1 (by decide)
          have hgd : ¬ C 100 12 = 0 := by rw [(K1 100 (by decide)).1]; exact hgd
          have ham : (C0 100 8).toInt ≤ (C 100 8).toInt := by rw [(K1 100 (by decide)).1]; exact ham
          exact g_vret X hrt dX8_readLine_63 (by decide) (by decide) ⟨C, D, F, I, K, ham, (fun z => absurd z hgd)⟩
        · skip
          exact absurd hg16 hgd
  · skip
    subst q2
    refine g_aload_n X dX8_readLine_10 rfl (j := 0) rfl ?_
    refine g_callVV X (s_X8_readFirst l G F I  ) lk_X8_236 (F.1 100 rfl).2 (F.1 100 rfl).1 rfl rfl dX8_readLine_11 (Nat.le_of_ble_eq_true rfl) ⟨by decide, by decide⟩ ⟨by decide, by decide⟩ (fun L M hp => ?_)
    obtain ⟨C, D, F, I, K1, hr⟩ := hp
    have K := K.step K1 (by decide)
    have ham : (C0 100 8).toInt ≤ (C 100 8).toInt := Int.le_trans ham hr
    refine g_goto X dX8_readLine_14 (tgt := 21) (by decide) ?_
    refine g_aload_n X dX8_readLine_21 rfl (j := 0) rfl ?_
    refine g_callVI X (s_X8_good l G F I  ) lk_X8_161 (F.1 100 rfl).2 (F.1 100 rfl).1 rfl rfl dX8_readLine_22 (Nat.le_of_ble_eq_true rfl) ⟨by decide, by decide⟩ ⟨by decide, by decide⟩ (fun r19 L M hp => ?_)
    obtain ⟨C, D, F, I, K1, hr⟩ := hp
    have K := K.step K1 (by decide)
    have ham : (C0 100 8).toInt ≤ (C 100 8).toInt := by rw [(K1 100 (by decide)).1]; exact ham
    rcases hr with ⟨rfl, hg20⟩ | ⟨rfl, hg20⟩
    · skip
      have hgd := hg20
      refine g_if_eq X dX8_readLine_25 (tgt := 41) (by decide) (fun _ => ?_) (fun q => absurd (by decide) q)
      refine g_aload_n X dX8_readLine_41 rfl (j := 0) rfl ?_
      refine g_callVI X (s_X8_good l G F I  ) lk_X8_161 (F.1 100 rfl).2 (F.1 100 rfl).1 rfl rfl dX8_readLine_42 (Nat.le_of_ble_eq_true rfl) ⟨by decide, by decide⟩ ⟨by decide, by decide⟩ (fun r21 L M hp => ?_)
      obtain ⟨C, D, F, I, K1, hr⟩ := hp
      have K := K.step K1 (by decide)
      have ham : (C0 100 8).toInt ≤ (C 100 8).toInt := by rw [(K1 100 (by decide)).1]; exact ham
      have hgd : ¬ C 100 12 = 0 := by rw [(K1 100 (by decide)).1]; exact hgd
      rcases hr with ⟨rfl, hg22⟩ | ⟨rfl, hg22⟩
      · skip
        have hgd := hg22
        refine g_if_eq X dX8_readLine_45 (tgt := 52) (by decide) (fun _ => ?_) (fun q => absurd (by decide) q)
        refine g_aload_n X dX8_readLine_52 rfl (j := 0) rfl ?_
        refine i_get X F 100 rfl rfl fk_X8_31 dX8_readLine_53 rfl ?_
        refine g_bipush X dX8_readLine_56 (v := 9) (by decide) ?_
        refine g_dup2 X dX8_readLine_58 rfl rfl ?_
        refine i_iald X F 114 rfl rfl dX8_readLine_59 (vp_in_iff.mpr (by decide)) rfl ?_
        refine Go.gen (fun o23 => ?_)
        refine g_iconst X dX8_readLine_60 (v := 1) (by decide) ?_
        refine g_iadd X dX8_readLine_61 ?_
        refine Go.gen (fun o24 => ?_)
        refine i_iast X F I 114 rfl (fun _ => rfl) dX8_readLine_62 (vp_in_iff.mpr (by decide)) (by show okw (9) (o24); exact ⟨fun h => by exfalso; omega, fun h => by exfalso; omega, fun h => by exfalso; omega, fun h => by exfalso; omega, fun h => by exfalso; omega, fun h => by exfalso; omega, fun a1 a2 a3 => by exfalso; omega, fun a1 a2 a3 => by exfalso; omega, fun a1 a2 a3 a4 => by exfalso; omega, fun a1 a2 a3 => by exfalso; omega, fun a1 a2 => by exfalso; omega⟩) (fun M C F I K1 hC => ?_)
        have K := K.step K1 (by decide)
        have ham : (C0 100 8).toInt ≤ (C 100 8).toInt := by rw [(K1 100 (by decide)).1]; exact ham
        have hgd : ¬ C 100 12 = 0 := by rw [(K1 100 (by decide)).1]; exact hgd
        exact g_vret X hrt dX8_readLine_63 (by decide) (by decide) ⟨C, D, F, I, K, ham, (fun z => absurd z hgd)⟩
      · skip
        exact absurd hg22 hgd
    · skip
      have hgd := hg20
      refine g_if_eq X dX8_readLine_25 (tgt := 41) (by decide) (fun q => absurd q (by decide)) (fun _ => ?_)
      refine g_aload_n X dX8_readLine_28 rfl (j := 0) rfl ?_
      refine i_get X F 100 rfl rfl fk_X8_137 dX8_readLine_29 rfl ?_
      refine Go.gen (fun o25 => ?_)
      refine g_iconst X dX8_readLine_32 (v := 3) (by decide) ?_
      refine g_icmp_eq X dX8_readLine_33 (tgt := 41) (by decide) (fun q26 => ?_) (fun q26 => ?_)
      · skip
        subst q26
        refine g_aload_n X dX8_readLine_41 rfl (j := 0) rfl ?_
        refine g_callVI X (s_X8_good l G F I  ) lk_X8_161 (F.1 100 rfl).2 (F.1 100 rfl).1 rfl rfl dX8_readLine_42 (Nat.le_of_ble_eq_true rfl) ⟨by decide, by decide⟩ ⟨by decide, by decide⟩ (fun r27 L M hp => ?_)
        obtain ⟨C, D, F, I, K1, hr⟩ := hp
        have K := K.step K1 (by decide)
        have ham : (C0 100 8).toInt ≤ (C 100 8).toInt := by rw [(K1 100 (by decide)).1]; exact ham
        have hgd : C 100 12 = 0 := by rw [(K1 100 (by decide)).1]; exact hgd
        rcases hr with ⟨rfl, hg28⟩ | ⟨rfl, hg28⟩
        · skip
          exact absurd hgd hg28
        · skip
          have hgd := hg28
          refine g_if_eq X dX8_readLine_45 (tgt := 52) (by decide) (fun q => absurd q (by decide)) (fun _ => ?_)
          have hamx := ham
          refine g_aload_n X dX8_readLine_48 rfl (j := 0) rfl ?_
          refine g_callVV X (s_X8_advance l G F I  ) lk_X8_177 (F.1 100 rfl).2 (F.1 100 rfl).1 rfl rfl dX8_readLine_49 (Nat.le_of_ble_eq_true rfl) ⟨by decide, by decide⟩ ⟨by decide, by decide⟩ (fun L M hp => ?_)
          obtain ⟨C, D, F, I, K1, hr⟩ := hp
          have K := K.step K1 (by decide)
          obtain ⟨hr, hr7, hrat, hrtk⟩ := hr
          have ham : (C0 100 8).toInt ≤ (C 100 8).toInt := Int.le_trans ham hrat
          have hgd : C 100 12 = 0 := hr.trans hgd
          have hgo : ¬ C 100 10 = 0 → (C0 100 8).toInt < (C 100 8).toInt := fun z => Int.lt_of_le_of_lt hamx (hrtk z)
          refine g_aload_n X dX8_readLine_52 rfl (j := 0) rfl ?_
          refine i_get X F 100 rfl rfl fk_X8_31 dX8_readLine_53 rfl ?_
          refine g_bipush X dX8_readLine_56 (v := 9) (by decide) ?_
          refine g_dup2 X dX8_readLine_58 rfl rfl ?_
          refine i_iald X F 114 rfl rfl dX8_readLine_59 (vp_in_iff.mpr (by decide)) rfl ?_
          refine Go.gen (fun o29 => ?_)
          refine g_iconst X dX8_readLine_60 (v := 1) (by decide) ?_
          refine g_iadd X dX8_readLine_61 ?_
          refine Go.gen (fun o30 => ?_)
          refine i_iast X F I 114 rfl (fun _ => rfl) dX8_readLine_62 (vp_in_iff.mpr (by decide)) (by show okw (9) (o30); exact ⟨fun h => by exfalso; omega, fun h => by exfalso; omega, fun h => by exfalso; omega, fun h => by exfalso; omega, fun h => by exfalso; omega, fun h => by exfalso; omega, fun a1 a2 a3 => by exfalso; omega, fun a1 a2 a3 => by exfalso; omega, fun a1 a2 a3 a4 => by exfalso; omega, fun a1 a2 a3 => by exfalso; omega, fun a1 a2 => by exfalso; omega⟩) (fun M C F I K1 hC => ?_)
          have K := K.step K1 (by decide)
          have ham : (C0 100 8).toInt ≤ (C 100 8).toInt := by rw [(K1 100 (by decide)).1]; exact ham
          have hgd : C 100 12 = 0 := by rw [(K1 100 (by decide)).1]; exact hgd
          have hgo : ¬ C 100 10 = 0 → (C0 100 8).toInt < (C 100 8).toInt := by rw [(K1 100 (by decide)).1]; exact hgo
          exact g_vret X hrt dX8_readLine_63 (by decide) (by decide) ⟨C, D, F, I, K, ham, (fun _ => hgo)⟩
      · skip
        refine g_aload_n X dX8_readLine_36 rfl (j := 0) rfl ?_
        refine g_iconst X dX8_readLine_37 (v := 1) (by decide) ?_
        refine g_callVV X (s_X8_errs l G F I (1 : Int32) (by decide)) lk_X8_183 (F.1 100 rfl).2 (F.1 100 rfl).1 rfl rfl dX8_readLine_38 (Nat.le_of_ble_eq_true rfl) ⟨by decide, by decide⟩ ⟨by decide, by decide⟩ (fun L M hp => ?_)
        obtain ⟨C, D, F, I, K1, hr⟩ := hp
        have K := K.step K1 (by decide)
        obtain ⟨hr, hr8⟩ := hr
        have hgd := hr
        have ham : (C0 100 8).toInt ≤ (C 100 8).toInt := Int.le_trans ham (by rw [hr8]; exact Int.le_refl _)
        refine g_aload_n X dX8_readLine_41 rfl (j := 0) rfl ?_
        refine g_callVI X (s_X8_good l G F I  ) lk_X8_161 (F.1 100 rfl).2 (F.1 100 rfl).1 rfl rfl dX8_readLine_42 (Nat.le_of_ble_eq_true rfl) ⟨by decide, by decide⟩ ⟨by decide, by decide⟩ (fun r31 L M hp => ?_)
        obtain ⟨C, D, F, I, K1, hr⟩ := hp
        have K := K.step K1 (by decide)
        have hgd : ¬ C 100 12 = 0 := by rw [(K1 100 (by decide)).1]; exact hgd
        have ham : (C0 100 8).toInt ≤ (C 100 8).toInt := by rw [(K1 100 (by decide)).1]; exact ham
        rcases hr with ⟨rfl, hg32⟩ | ⟨rfl, hg32⟩
        · skip
          have hgd := hg32
          refine g_if_eq X dX8_readLine_45 (tgt := 52) (by decide) (fun _ => ?_) (fun q => absurd (by decide) q)
          refine g_aload_n X dX8_readLine_52 rfl (j := 0) rfl ?_
          refine i_get X F 100 rfl rfl fk_X8_31 dX8_readLine_53 rfl ?_
          refine g_bipush X dX8_readLine_56 (v := 9) (by decide) ?_
          refine g_dup2 X dX8_readLine_58 rfl rfl ?_
          refine i_iald X F 114 rfl rfl dX8_readLine_59 (vp_in_iff.mpr (by decide)) rfl ?_
          refine Go.gen (fun o33 => ?_)
          refine g_iconst X dX8_readLine_60 (v := 1) (by decide) ?_
          refine g_iadd X dX8_readLine_61 ?_
          refine Go.gen (fun o34 => ?_)
          refine i_iast X F I 114 rfl (fun _ => rfl) dX8_readLine_62 (vp_in_iff.mpr (by decide)) (by show okw (9) (o34); exact ⟨fun h => by exfalso; omega, fun h => by exfalso; omega, fun h => by exfalso; omega, fun h => by exfalso; omega, fun h => by exfalso; omega, fun h => by exfalso; omega, fun a1 a2 a3 => by exfalso; omega, fun a1 a2 a3 => by exfalso; omega, fun a1 a2 a3 a4 => by exfalso; omega, fun a1 a2 a3 => by exfalso; omega, fun a1 a2 => by exfalso; omega⟩) (fun M C F I K1 hC => ?_)
          have K := K.step K1 (by decide)
          have hgd : ¬ C 100 12 = 0 := by rw [(K1 100 (by decide)).1]; exact hgd
          have ham : (C0 100 8).toInt ≤ (C 100 8).toInt := by rw [(K1 100 (by decide)).1]; exact ham
          exact g_vret X hrt dX8_readLine_63 (by decide) (by decide) ⟨C, D, F, I, K, ham, (fun z => absurd z hgd)⟩
        · skip
          exact absurd hg32 hgd
