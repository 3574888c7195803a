set_option maxHeartbeats 4000000 in
set_option maxRecDepth 100000 in
theorem s_X8_share (l : Launch) (G : va_G) {cy : Nat → ClassId} {L : List Nat} {M : Nat → va_E} {a : Nat → Nat} {act : Nat → Bool} {C0 : Nat → Nat → Int32} {D0 : Nat → Nat → Int64} {R : Nat → Nat → Option Nat} (F : WI L M a act (ent cy a C0 D0 R)) (I : Inv C0) (p0 : Int32) (p1 : Int32)  : MI l G cy yX8_share cX8_share 7 (some .int) 7 0 0 [.ref (a 100), .int p0, .int p1] L M (fun r L2 M2 => ∃ C2 D2, WI L2 M2 a act (ent cy a C2 D2 R) ∧ Inv C2 ∧ Kp [100, 115, 116, 120, 121, 122, 123, 124, 125, 126, 127, 128, 133] C0 D0 C2 D2 ∧ True) := by
  refine MI.of (own := RX8) rfl (by decide) (Nat.le_of_ble_eq_true rfl) ?_
  intro p e s m below meth c A X hrt hnm
  obtain ⟨C, D, hC0, hD0, F, I, K⟩ : ∃ C D, C = C0 ∧ D = D0 ∧ WI L M a act (ent cy a C D R) ∧ Inv C ∧ Kp [100, 115, 116, 120, 121, 122, 123, 124, 125, 126, 127, 128, 133] C0 D0 C D := ⟨C0, D0, rfl, rfl, F, I, Kp.rf⟩
  obtain ⟨n1, hn1, en1⟩ := rg_nat ((show okw 0 (C 101 0) from I 101 0).1 rfl) (by decide)
  rw [hC0] at en1
  obtain ⟨n2, hn2, en2⟩ := rg_nat ((show okw 4 (C 101 4) from I 101 4).2.2.2.1 rfl) (by decide)
  rw [hC0] at en2
  obtain ⟨n3, hn3, en3⟩ := rg_nat ((show okw 7 (C 101 7) from I 101 7).2.2.2.2.1 rfl) (by decide)
  rw [hC0] at en3
  refine g_aload_n X dX8_share_0 rfl (j := 0) rfl ?_
  refine g_callVV X (s_X8_asItIs l G F I  ) lk_X8_286 (F.1 100 rfl).2 (F.1 100 rfl).1 rfl rfl dX8_share_1 (Nat.le_of_ble_eq_true rfl) ⟨by decide, by decide⟩ ⟨by decide, by decide⟩ (fun L M hp => ?_)
  obtain ⟨C, D, F, I, K1, hr⟩ := hp
  have K := K.step K1 (by decide)
  refine g_aload_n X dX8_share_4 rfl (j := 0) rfl ?_
  refine g_iload_n X dX8_share_5 rfl (j := 1) rfl ?_
  refine g_i2l X dX8_share_6 rfl ?_
  refine g_callVI X (s_X8_isPost l G F I ((Int32.toInt64 p0)) ) lk_X8_112 (F.1 100 rfl).2 (F.1 100 rfl).1 rfl rfl dX8_share_7 (Nat.le_of_ble_eq_true rfl) ⟨by decide, by decide⟩ ⟨by decide, by decide⟩ (fun r4 L M hp => ?_)
  obtain ⟨C, D, F, I, K1, hr⟩ := hp
  have K := K.step K1 (by decide)
  rcases hr with rfl | ⟨rfl, hl5a, hl5b⟩
  · skip
    refine g_if_eq X dX8_share_10 (tgt := 23) (by decide) (fun _ => ?_) (fun q => absurd (by decide) q)
    refine g_sipush X dX8_share_23 (v := -1000) (by decide) ?_
    exact g_iret X hrt dX8_share_26 (by decide) (by decide) ⟨C, D, F, I, K, trivial⟩
  · skip
    rw [Jvm.Kit.i64_of_i32] at hl5a hl5b
    obtain ⟨n6, hn6a, hn6b, en6⟩ := nI_ofInt (x := p0) (lo := 0) (hi := 6) (by omega) (by omega) (by decide)
    subst en6
    refine g_if_eq X dX8_share_10 (tgt := 23) (by decide) (fun q => absurd q (by decide)) (fun _ => ?_)
    refine g_iload_n X dX8_share_13 rfl (j := 2) rfl ?_
    refine g_i2l X dX8_share_14 rfl ?_
    refine g_lconst X dX8_share_15 (v := 0) (by decide) ?_
    refine g_lconst X dX8_share_16 (v := 1) (by decide) ?_
    refine g_callSI X (s_X8_in l G F I ((Int32.toInt64 p1)) (0 : Int64) (1 : Int64) ) lk_X8_94 rfl rfl dX8_share_17 (Nat.le_of_ble_eq_true rfl) ⟨by decide, by decide⟩ ⟨by decide, by decide⟩ (fun r7 L M hp => ?_)
    obtain ⟨C, D, F, I, K1, hr⟩ := hp
    have K := K.step K1 (by decide)
    rcases hr with ⟨rfl, hq8⟩ | ⟨rfl, hq8⟩
    · skip
      have hq8x := Jvm.Kit.i64_of_i32 p1
      have hq8l : (0 : Int64).toInt = 0 := (by decide)
      have hq8h : (1 : Int64).toInt = 1 := (by decide)
      refine g_if_ne X dX8_share_20 (tgt := 27) (by decide) (fun q => absurd (by decide) q) (fun _ => ?_)
      refine g_sipush X dX8_share_23 (v := -1000) (by decide) ?_
      exact g_iret X hrt dX8_share_26 (by decide) (by decide) ⟨C, D, F, I, K, trivial⟩
    · skip
      have hq8x := Jvm.Kit.i64_of_i32 p1
      have hq8l : (0 : Int64).toInt = 0 := (by decide)
      have hq8h : (1 : Int64).toInt = 1 := (by decide)
      obtain ⟨n9, hn9a, hn9b, en9⟩ := nI_ofInt (x := p1) (lo := 0) (hi := 1) (by omega) (by omega) (by decide)
      subst en9
      have tn9 := nI_toInt (n := n9) (by omega)
      refine g_if_ne X dX8_share_20 (tgt := 27) (by decide) (fun _ => ?_) (fun q => absurd q (by decide))
      refine g_aload_n X dX8_share_27 rfl (j := 0) rfl ?_
      refine g_callVI X (s_X8_posts l G F I  ) lk_X8_98 (F.1 100 rfl).2 (F.1 100 rfl).1 rfl rfl dX8_share_28 (Nat.le_of_ble_eq_true rfl) ⟨by decide, by decide⟩ ⟨by decide, by decide⟩ (fun r10 L M hp => ?_)
      obtain ⟨C, D, F, I, K1, hr⟩ := hp
      have K := K.step K1 (by decide)
      obtain ⟨n11, hn11, en11, rfl⟩ := hr
      obtain rfl : n2 = n11 := ((nI_eq (by omega) (by omega)).mp (en11.symm.trans ((congrFun (K 101 (by decide)).1 4).trans en2))).symm
      refine g_istore_n X dX8_share_31 rfl (by decide) (lv2 := [(3, .int (nI n2)), (0, .ref (a 100)), (1, .int (nI n6)), (2, .int (nI n9))]) rfl ?_
      refine g_iconst X dX8_share_32 (v := 0) (by decide) ?_
      refine g_istore X dX8_share_33 (by decide) (lv2 := [(4, .int 0), (3, .int (nI n2)), (0, .ref (a 100)), (1, .int (nI n6)), (2, .int (nI n9))]) rfl ?_
      refine g_lv [0, 1, 2, 3, 4] (lv2 := [(4, .int 0), (3, .int (nI n2)), (0, .ref (a 100)), (1, .int (nI n6)), (2, .int (nI n9))]) rfl ?_
      refine i_loop (mods := [100, 115, 116, 120, 121, 122, 123, 124, 125, 126, 127, 128, 133]) (fun x : Nat => 128 - x) (fun x => [(4, .int (nI (x))), (3, .int (nI n2)), (0, .ref (a 100)), (1, .int (nI n6)), (2, .int (nI n9))]) (fun x C => 0 ≤ x ∧ x ≤ 128) (fun x L M C D F I K hP ih35 => ?_) ((0) : Nat) F I K ⟨by show _ ≤ _; omega, by show _ ≤ _; omega⟩
      obtain ⟨i35_4, rfl⟩ : ∃ z, z = x := ⟨_, rfl⟩
      obtain ⟨hi35_4a, hi35_4b⟩ := hP
      refine g_lv [0, 1, 2, 3, 4] (lv2 := [(4, .int (nI i35_4)), (3, .int (nI n2)), (0, .ref (a 100)), (1, .int (nI n6)), (2, .int (nI n9))]) rfl ?_
      refine g_iload X dX8_share_35 (j := 0) rfl ?_
      refine g_iconst X dX8_share_37 (v := 1) (by decide) ?_
      refine g_iload_n X dX8_share_38 rfl (j := 1) rfl ?_
      refine g_ishl X dX8_share_39 ?_
      refine Go.top (v := .int (nI (2 ^ n2))) (congrArg Value.int (shl_pow n2 (by omega))) ?_
      have hpow : 2 ^ n2 ≤ 2 ^ 7 := Nat.pow_le_pow_right (by decide) (by omega)
      have hpow7 : (2 : Nat) ^ 7 = 128 := rfl
      refine g_icmp_ge X dX8_share_40 (tgt := 62) (by decide) (fun q12 => ?_) (fun q12 => ?_)
      · skip
        have q12 : (2 ^ n2) ≤ i35_4 := (nI_leI (a := (2 ^ n2)) (b := i35_4) (by omega) (by omega)).mp q12
        refine g_lconst X dX8_share_62 (v := 0) (by decide) ?_
        refine g_lstore X dX8_share_63 (by decide) (lv2 := [(4, .long 0), (3, .int (nI n2)), (0, .ref (a 100)), (1, .int (nI n6)), (2, .int (nI n9))]) rfl ?_
        refine g_iconst X dX8_share_65 (v := 0) (by decide) ?_
        refine g_istore X dX8_share_66 (by decide) (lv2 := [(6, .int 0), (4, .long 0), (3, .int (nI n2)), (0, .ref (a 100)), (1, .int (nI n6)), (2, .int (nI n9))]) rfl ?_
        refine g_lv [0, 1, 2, 3, 4, 5] (lv2 := [(6, .int 0), (4, .long 0), (3, .int (nI n2)), (0, .ref (a 100)), (1, .int (nI n6)), (2, .int (nI n9))]) rfl ?_
        refine i_loop (mods := [100, 115, 116, 120, 121, 122, 123, 124, 125, 126, 127, 128, 133]) (fun x : Nat × Int64 => 128 - x.1) (fun x => [(6, .int (nI (x.1))), (4, .long (x.2)), (3, .int (nI n2)), (0, .ref (a 100)), (1, .int (nI n6)), (2, .int (nI n9))]) (fun x C => 0 ≤ x.1 ∧ x.1 ≤ 128) (fun x L M C D F I K hP ih68 => ?_) ((0, 0) : Nat × Int64) F I K ⟨by show _ ≤ _; omega, by show _ ≤ _; omega⟩
        rcases x with ⟨i68_6, v68_4⟩
        obtain ⟨hi68_6a, hi68_6b⟩ := hP
        refine g_lv [0, 1, 2, 3, 4, 5] (lv2 := [(6, .int (nI i68_6)), (4, .long v68_4), (3, .int (nI n2)), (0, .ref (a 100)), (1, .int (nI n6)), (2, .int (nI n9))]) rfl ?_
        refine g_iload X dX8_share_68 (j := 0) rfl ?_
        refine g_iconst X dX8_share_70 (v := 1) (by decide) ?_
        refine g_iload_n X dX8_share_71 rfl (j := 2) rfl ?_
        refine g_ishl X dX8_share_72 ?_
        refine Go.top (v := .int (nI (2 ^ n2))) (congrArg Value.int (shl_pow n2 (by omega))) ?_
        have hpow : 2 ^ n2 ≤ 2 ^ 7 := Nat.pow_le_pow_right (by decide) (by omega)
        have hpow7 : (2 : Nat) ^ 7 = 128 := rfl
        refine g_icmp_ge X dX8_share_73 (tgt := 140) (by decide) (fun q13 => ?_) (fun q13 => ?_)
        · skip
          have q13 : (2 ^ n2) ≤ i68_6 := (nI_leI (a := (2 ^ n2)) (b := i68_6) (by omega) (by omega)).mp q13
          refine g_lload X dX8_share_140 (j := 1) rfl ?_
          refine g_iload_n X dX8_share_142 rfl (j := 2) rfl ?_
          refine g_callSI X (s_X8_factorial_n l G F I n2 (by omega) (by omega)) lk_X8_447 rfl rfl dX8_share_143 (Nat.le_of_ble_eq_true rfl) ⟨by decide, by decide⟩ ⟨by decide, by decide⟩ (fun r14 L M hp => ?_)
          obtain ⟨C, D, F, I, K1, hr⟩ := hp
          have K := K.step K1 (by decide)
          obtain ⟨n15, hn15a, hn15b, rfl⟩ := hr
          refine g_i2l X dX8_share_146 rfl ?_
          refine g_iload_n X dX8_share_147 rfl (j := 5) rfl ?_
          refine g_callSJ X (s_X8_part l G F I v68_4 ((Int32.toInt64 (nI n15))) (nI n9) (long_ne (n := n15) (by omega) (by omega))) lk_X8_450 rfl rfl dX8_share_148 (Nat.le_of_ble_eq_true rfl) ⟨by decide, by decide⟩ ⟨by decide, by decide⟩ (fun r16 L M hp => ?_)
          obtain ⟨C, D, F, I, K1, hr⟩ := hp
          have K := K.step K1 (by decide)
          refine g_l2i X dX8_share_151 rfl ?_
          refine Go.gen (fun o17 => ?_)
          exact g_iret X hrt dX8_share_152 (by decide) (by decide) ⟨C, D, F, I, K, trivial⟩
        · skip
          have q13 : ¬ (2 ^ n2) ≤ i68_6 := fun z => q13 ((nI_leI (a := (2 ^ n2)) (b := i68_6) (by omega) (by omega)).mpr z)
          refine g_iload X dX8_share_76 (j := 0) rfl ?_
          refine g_iload_n X dX8_share_78 rfl (j := 4) rfl ?_
          refine g_callSI X (s_X8_bit l G F I (nI i68_6) (nI n6) ) lk_X8_266 rfl rfl dX8_share_79 (Nat.le_of_ble_eq_true rfl) ⟨by decide, by decide⟩ ⟨by decide, by decide⟩ (fun r18 L M hp => ?_)
          obtain ⟨C, D, F, I, K1, hr⟩ := hp
          have K := K.step K1 (by decide)
          obtain ⟨n19, hn19a, hn19b, rfl⟩ := hr
          refine g_if_ne X dX8_share_82 (tgt := 134) (by decide) (fun q20 => ?_) (fun q20 => ?_)
          · skip
            have q20 : ¬ n19 = 0 := fun z => q20 ((nI_eq (a := n19) (b := 0) (by omega) (by omega)).mpr z)
            refine g_iinc X dX8_share_134 (j := 0) rfl (v := nI (i68_6 + 1)) (nI_1 i68_6) (by decide) (lv2 := [(6, .int (nI (i68_6 + 1))), (4, .long v68_4), (3, .int (nI n2)), (0, .ref (a 100)), (1, .int (nI n6)), (2, .int (nI n9))]) rfl ?_
            refine g_goto X dX8_share_137 (tgt := 68) (by decide) ?_
            refine g_lv [0, 1, 2, 3, 4, 5] (lv2 := [(6, .int (nI (i68_6 + 1))), (4, .long v68_4), (3, .int (nI n2)), (0, .ref (a 100)), (1, .int (nI n6)), (2, .int (nI n9))]) rfl ?_
            exact ih68 ((i68_6 + 1), v68_4) L M C D F I K ⟨by omega, by omega⟩ (by show _ < _; omega)
          · skip
            have q20 : n19 = 0 := (nI_eq (a := n19) (b := 0) (by omega) (by omega)).mp q20
            refine g_lload X dX8_share_85 (j := 1) rfl ?_
            refine g_iload X dX8_share_87 (j := 0) rfl ?_
            refine g_callSI X (s_X8_bits l G F I (nI i68_6) ) lk_X8_334 rfl rfl dX8_share_89 (Nat.le_of_ble_eq_true rfl) ⟨by decide, by decide⟩ ⟨by decide, by decide⟩ (fun r21 L M hp => ?_)
            obtain ⟨C, D, F, I, K1, hr⟩ := hp
            have K := K.step K1 (by decide)
            obtain ⟨n22, hn22a, hn22b, rfl⟩ := hr
            refine g_callSI X (s_X8_factorial_any l G F I (nI n22) (by have kk := nI_toInt (n := n22) (by omega); rw [kk]; omega)) lk_X8_447 rfl rfl dX8_share_92 (Nat.le_of_ble_eq_true rfl) ⟨by decide, by decide⟩ ⟨by decide, by decide⟩ (fun r23 L M hp => ?_)
            obtain ⟨C, D, F, I, K1, hr⟩ := hp
            have K := K.step K1 (by decide)
            refine g_i2l X dX8_share_95 rfl ?_
            refine g_iload_n X dX8_share_96 rfl (j := 2) rfl ?_
            refine g_iconst X dX8_share_97 (v := 1) (by decide) ?_
            refine g_isub X dX8_share_98 ?_
            have hs24 := nI_m1 (n := n2) (by omega)
            refine g_iload X dX8_share_99 (j := 0) rfl ?_
            refine g_callSI X (s_X8_bits l G F I (nI i68_6) ) lk_X8_334 rfl rfl dX8_share_101 (Nat.le_of_ble_eq_true rfl) ⟨by decide, by decide⟩ ⟨by decide, by decide⟩ (fun r25 L M hp => ?_)
            obtain ⟨C, D, F, I, K1, hr⟩ := hp
            have K := K.step K1 (by decide)
            obtain ⟨n26, hn26a, hn26b, rfl⟩ := hr
            refine g_isub X dX8_share_104 ?_
            have hfs := fsub (n := n2) (b := n26) (by omega) (by omega)
            refine g_callSI X (s_X8_factorial_any l G F I ((nI n2 - 1 - nI n26)) (by omega)) lk_X8_447 rfl rfl dX8_share_105 (Nat.le_of_ble_eq_true rfl) ⟨by decide, by decide⟩ ⟨by decide, by decide⟩ (fun r27 L M hp => ?_)
            obtain ⟨C, D, F, I, K1, hr⟩ := hp
            have K := K.step K1 (by decide)
            refine g_i2l X dX8_share_108 rfl ?_
            refine g_lmul X dX8_share_109 ?_
            refine Go.genL (fun o28 => ?_)
            refine g_aload_n X dX8_share_110 rfl (j := 3) rfl ?_
            refine i_get X F 100 rfl rfl fk_X8_73 dX8_share_111 rfl ?_
            refine g_iload X dX8_share_114 (j := 0) rfl ?_
            refine g_iconst X dX8_share_116 (v := 1) (by decide) ?_
            refine g_iload_n X dX8_share_117 rfl (j := 4) rfl ?_
            refine g_ishl X dX8_share_118 ?_
            refine g_ior X dX8_share_119 ?_
            obtain ⟨n29, hn29, en29⟩ := or_pow (t := i68_6) (q := n6) (by omega) (by omega)
            refine Go.top (v := .int (nI n29)) (congrArg Value.int en29) ?_
            refine i_iald X F 133 rfl rfl dX8_share_120 (vp_in_nI (by omega) (by decide)) rfl ?_
            refine Go.gen (fun o30 => ?_)
            refine g_aload_n X dX8_share_121 rfl (j := 3) rfl ?_
            refine i_get X F 100 rfl rfl fk_X8_73 dX8_share_122 rfl ?_
            refine g_iload X dX8_share_125 (j := 0) rfl ?_
            refine i_iald X F 133 rfl rfl dX8_share_127 (vp_in_nI (by omega) (by decide)) rfl ?_
            refine Go.gen (fun o31 => ?_)
            refine g_isub X dX8_share_128 ?_
            refine Go.gen (fun o32 => ?_)
            refine g_i2l X dX8_share_129 rfl ?_
            refine g_lmul X dX8_share_130 ?_
            refine Go.genL (fun o33 => ?_)
            refine g_ladd X dX8_share_131 ?_
            refine Go.genL (fun o34 => ?_)
            refine g_lstore X dX8_share_132 (by decide) (lv2 := [(4, .long o34), (6, .int (nI i68_6)), (3, .int (nI n2)), (0, .ref (a 100)), (1, .int (nI n6)), (2, .int (nI n9))]) rfl ?_
            refine g_iinc X dX8_share_134 (j := 1) rfl (v := nI (i68_6 + 1)) (nI_1 i68_6) (by decide) (lv2 := [(6, .int (nI (i68_6 + 1))), (4, .long o34), (3, .int (nI n2)), (0, .ref (a 100)), (1, .int (nI n6)), (2, .int (nI n9))]) rfl ?_
            refine g_goto X dX8_share_137 (tgt := 68) (by decide) ?_
            refine g_lv [0, 1, 2, 3, 4, 5] (lv2 := [(6, .int (nI (i68_6 + 1))), (4, .long o34), (3, .int (nI n2)), (0, .ref (a 100)), (1, .int (nI n6)), (2, .int (nI n9))]) rfl ?_
            exact ih68 ((i68_6 + 1), o34) L M C D F I K ⟨by omega, by omega⟩ (by show _ < _; omega)
      · skip
        have q12 : ¬ (2 ^ n2) ≤ i35_4 := fun z => q12 ((nI_leI (a := (2 ^ n2)) (b := i35_4) (by omega) (by omega)).mpr z)
        refine g_aload_n X dX8_share_43 rfl (j := 2) rfl ?_
        refine i_get X F 100 rfl rfl fk_X8_73 dX8_share_44 rfl ?_
        refine g_iload X dX8_share_47 (j := 0) rfl ?_
        refine g_aload_n X dX8_share_49 rfl (j := 2) rfl ?_
        refine g_iload X dX8_share_50 (j := 0) rfl ?_
        refine g_callVI X (s_X8_worthOf l G F I (nI i35_4) ) lk_X8_436 (F.1 100 rfl).2 (F.1 100 rfl).1 rfl rfl dX8_share_52 (Nat.le_of_ble_eq_true rfl) ⟨by decide, by decide⟩ ⟨by decide, by decide⟩ (fun r35 L M hp => ?_)
        obtain ⟨C, D, F, I, K1, hr⟩ := hp
        have K := K.step K1 (by decide)
        refine i_iast X F I 133 rfl (fun _ => rfl) dX8_share_55 (vp_in_nI (by omega) (by decide)) trivial (fun M C F I K1 hC => ?_)
        have K := K.step K1 (by decide)
        refine g_iinc X dX8_share_56 (j := 0) rfl (v := nI (i35_4 + 1)) (nI_1 i35_4) (by decide) (lv2 := [(4, .int (nI (i35_4 + 1))), (3, .int (nI n2)), (0, .ref (a 100)), (1, .int (nI n6)), (2, .int (nI n9))]) rfl ?_
        refine g_goto X dX8_share_59 (tgt := 35) (by decide) ?_
        refine g_lv [0, 1, 2, 3, 4] (lv2 := [(4, .int (nI (i35_4 + 1))), (3, .int (nI n2)), (0, .ref (a 100)), (1, .int (nI n6)), (2, .int (nI n9))]) rfl ?_
        exact ih35 ((i35_4 + 1)) L M C D F I K ⟨by omega, by omega⟩ (by show _ < _; omega)
set_option maxHeartbeats 4000000 in
set_option maxRecDepth 100000 in
theorem s_X8_getsBy (l : Launch) (G : va_G) {cy : Nat → ClassId} {L : List Nat} {M : Nat → va_E} {a : Nat → Nat} {act : Nat → Bool} {C0 : Nat → Nat → Int32} {D0 : Nat → Nat → Int64} {R : Nat → Nat → Option Nat} (F : WI L M a act (ent cy a C0 D0 R)) (I : Inv C0) (p0 : Nat) (hp0a : 0 ≤ p0) (hp0b : p0 ≤ 7) (p1 : Nat) (hp1a : 0 ≤ p1) (hp1b : p1 ≤ 7) (p2 : Int32) (p3 : Int32) (p4 : Int32)  : MI l G cy yX8_getsBy cX8_getsBy 7 (some .int) 6 0 0 [.ref (a 100), .int (nI p0), .int (nI p1), .int p2, .int p3, .int p4] L M (fun r L2 M2 => ∃ C2 D2, WI L2 M2 a act (ent cy a C2 D2 R) ∧ Inv C2 ∧ Kp [100, 115, 116, 120, 121, 122, 123, 124, 125, 126, 127, 128] C0 D0 C2 D2 ∧ True) := by
  refine MI.of (own := RX8) rfl (by decide) (Nat.le_of_ble_eq_true rfl) ?_
  intro p e s m below meth c A X hrt hnm
  obtain ⟨C, D, hC0, hD0, F, I, K⟩ : ∃ C D, C = C0 ∧ D = D0 ∧ WI L M a act (ent cy a C D R) ∧ Inv C ∧ Kp [100, 115, 116, 120, 121, 122, 123, 124, 125, 126, 127, 128] C0 D0 C D := ⟨C0, D0, rfl, rfl, F, I, Kp.rf⟩
  obtain ⟨n1, hn1, en1⟩ := rg_nat ((show okw 0 (C 101 0) from I 101 0).1 rfl) (by decide)
  rw [hC0] at en1
  obtain ⟨n2, hn2, en2⟩ := rg_nat ((show okw 4 (C 101 4) from I 101 4).2.2.2.1 rfl) (by decide)
  rw [hC0] at en2
  obtain ⟨n3, hn3, en3⟩ := rg_nat ((show okw 7 (C 101 7) from I 101 7).2.2.2.2.1 rfl) (by decide)
  rw [hC0] at en3
  refine g_aload_n X dX8_getsBy_0 rfl (j := 0) rfl ?_
  refine g_callVV X (s_X8_asItIs l G F I  ) lk_X8_286 (F.1 100 rfl).2 (F.1 100 rfl).1 rfl rfl dX8_getsBy_1 (Nat.le_of_ble_eq_true rfl) ⟨by decide, by decide⟩ ⟨by decide, by decide⟩ (fun L M hp => ?_)
  obtain ⟨C, D, F, I, K1, hr⟩ := hp
  have K := K.step K1 (by decide)
  refine g_aload_n X dX8_getsBy_4 rfl (j := 0) rfl ?_
  refine i_get X F 100 rfl rfl fk_X8_37 dX8_getsBy_5 rfl ?_
  refine g_iload_n X dX8_getsBy_8 rfl (j := 1) rfl ?_
  refine g_dup2 X dX8_getsBy_9 rfl rfl ?_
  refine i_iald X F 116 rfl rfl dX8_getsBy_10 (vp_in_nI (by omega) (by decide)) rfl ?_
  refine Go.gen (fun o4 => ?_)
  refine g_iload_n X dX8_getsBy_11 rfl (j := 3) rfl ?_
  refine g_iadd X dX8_getsBy_12 ?_
  refine Go.gen (fun o5 => ?_)
  refine i_iast X F I 116 rfl (fun _ => rfl) dX8_getsBy_13 (vp_in_nI (by omega) (by decide)) trivial (fun M C F I K1 hC => ?_)
  have K := K.step K1 (by decide)
  refine g_aload_n X dX8_getsBy_14 rfl (j := 0) rfl ?_
  refine i_get X F 100 rfl rfl fk_X8_37 dX8_getsBy_15 rfl ?_
  refine g_iload_n X dX8_getsBy_18 rfl (j := 2) rfl ?_
  refine g_dup2 X dX8_getsBy_19 rfl rfl ?_
  refine i_iald X F 116 rfl rfl dX8_getsBy_20 (vp_in_nI (by omega) (by decide)) rfl ?_
  refine Go.gen (fun o6 => ?_)
  refine g_iload X dX8_getsBy_21 (j := 4) rfl ?_
  refine g_iadd X dX8_getsBy_23 ?_
  refine Go.gen (fun o7 => ?_)
  refine i_iast X F I 116 rfl (fun _ => rfl) dX8_getsBy_24 (vp_in_nI (by omega) (by decide)) trivial (fun M C F I K1 hC => ?_)
  have K := K.step K1 (by decide)
  refine g_aload_n X dX8_getsBy_25 rfl (j := 0) rfl ?_
  refine g_callVV X (s_X8_goAll l G F I  ) lk_X8_289 (F.1 100 rfl).2 (F.1 100 rfl).1 rfl rfl dX8_getsBy_26 (Nat.le_of_ble_eq_true rfl) ⟨by decide, by decide⟩ ⟨by decide, by decide⟩ (fun L M hp => ?_)
  obtain ⟨C, D, F, I, K1, hr⟩ := hp
  have K := K.step K1 (by decide)
  refine g_aload_n X dX8_getsBy_29 rfl (j := 0) rfl ?_
  refine g_iload X dX8_getsBy_30 (j := 5) rfl ?_
  refine g_if_ne X dX8_getsBy_32 (tgt := 39) (by decide) (fun q8 => ?_) (fun q8 => ?_)
  · skip
    refine g_iload_n X dX8_getsBy_39 rfl (j := 2) rfl ?_
    refine g_callVI X (s_X8_homeOf l G F I p1 (by omega) (by omega) ) lk_X8_326 (F.1 100 rfl).2 (F.1 100 rfl).1 rfl rfl dX8_getsBy_40 (Nat.le_of_ble_eq_true rfl) ⟨by decide, by decide⟩ ⟨by decide, by decide⟩ (fun r9 L M hp => ?_)
    obtain ⟨C, D, F, I, K1, hr⟩ := hp
    have K := K.step K1 (by decide)
    refine g_istore X dX8_getsBy_43 (by decide) (lv2 := [(6, .int r9), (0, .ref (a 100)), (1, .int (nI p0)), (2, .int (nI p1)), (3, .int p2), (4, .int p3), (5, .int p4)]) rfl ?_
    refine g_iload X dX8_getsBy_45 (j := 0) rfl ?_
    refine g_iconst X dX8_getsBy_47 (v := -1) (by decide) ?_
    refine g_icmp_ne X dX8_getsBy_48 (tgt := 55) (by decide) (fun q10 => ?_) (fun q10 => ?_)
    · skip
      refine g_bipush X dX8_getsBy_55 (v := 20) (by decide) ?_
      refine g_iload X dX8_getsBy_57 (j := 0) rfl ?_
      refine g_isub X dX8_getsBy_59 ?_
      refine Go.gen (fun o11 => ?_)
      refine g_iload X dX8_getsBy_60 (j := 6) rfl ?_
      refine g_if_ne X dX8_getsBy_62 (tgt := 69) (by decide) (fun _ => ?_) (fun q => absurd q q8)
      refine g_iload X dX8_getsBy_69 (j := 5) rfl ?_
      refine g_isub X dX8_getsBy_71 ?_
      refine Go.gen (fun o13 => ?_)
      exact g_iret X hrt dX8_getsBy_72 (by decide) (by decide) ⟨C, D, F, I, K, trivial⟩
    · skip
      subst q10
      refine g_iconst X dX8_getsBy_51 (v := 0) (by decide) ?_
      refine g_goto X dX8_getsBy_52 (tgt := 60) (by decide) ?_
      refine g_iload X dX8_getsBy_60 (j := 6) rfl ?_
      refine g_if_ne X dX8_getsBy_62 (tgt := 69) (by decide) (fun _ => ?_) (fun q => absurd q q8)
      refine g_iload X dX8_getsBy_69 (j := 5) rfl ?_
      refine g_isub X dX8_getsBy_71 ?_
      refine Go.gen (fun o15 => ?_)
      exact g_iret X hrt dX8_getsBy_72 (by decide) (by decide) ⟨C, D, F, I, K, trivial⟩
  · skip
    subst q8
    refine g_iload_n X dX8_getsBy_35 rfl (j := 1) rfl ?_
    refine g_goto X dX8_getsBy_36 (tgt := 40) (by decide) ?_
    refine g_callVI X (s_X8_homeOf l G F I p0 (by omega) (by omega) ) lk_X8_326 (F.1 100 rfl).2 (F.1 100 rfl).1 rfl rfl dX8_getsBy_40 (Nat.le_of_ble_eq_true rfl) ⟨by decide, by decide⟩ ⟨by decide, by decide⟩ (fun r16 L M hp => ?_)
    obtain ⟨C, D, F, I, K1, hr⟩ := hp
    have K := K.step K1 (by decide)
    refine g_istore X dX8_getsBy_43 (by decide) (lv2 := [(6, .int r16), (0, .ref (a 100)), (1, .int (nI p0)), (2, .int (nI p1)), (3, .int p2), (4, .int p3), (5, .int 0)]) rfl ?_
    refine g_iload X dX8_getsBy_45 (j := 0) rfl ?_
    refine g_iconst X dX8_getsBy_47 (v := -1) (by decide) ?_
    refine g_icmp_ne X dX8_getsBy_48 (tgt := 55) (by decide) (fun q17 => ?_) (fun q17 => ?_)
    · skip
      refine g_bipush X dX8_getsBy_55 (v := 20) (by decide) ?_
      refine g_iload X dX8_getsBy_57 (j := 0) rfl ?_
      refine g_isub X dX8_getsBy_59 ?_
      refine Go.gen (fun o18 => ?_)
      refine g_iload X dX8_getsBy_60 (j := 6) rfl ?_
      refine g_if_ne X dX8_getsBy_62 (tgt := 69) (by decide) (fun q => absurd (by decide) q) (fun _ => ?_)
      refine g_iload_n X dX8_getsBy_65 rfl (j := 4) rfl ?_
      refine g_goto X dX8_getsBy_66 (tgt := 71) (by decide) ?_
      refine g_isub X dX8_getsBy_71 ?_
      refine Go.gen (fun o19 => ?_)
      exact g_iret X hrt dX8_getsBy_72 (by decide) (by decide) ⟨C, D, F, I, K, trivial⟩
    · skip
      subst q17
      refine g_iconst X dX8_getsBy_51 (v := 0) (by decide) ?_
      refine g_goto X dX8_getsBy_52 (tgt := 60) (by decide) ?_
      refine g_iload X dX8_getsBy_60 (j := 6) rfl ?_
      refine g_if_ne X dX8_getsBy_62 (tgt := 69) (by decide) (fun q => absurd (by decide) q) (fun _ => ?_)
      refine g_iload_n X dX8_getsBy_65 rfl (j := 4) rfl ?_
      refine g_goto X dX8_getsBy_66 (tgt := 71) (by decide) ?_
      refine g_isub X dX8_getsBy_71 ?_
      refine Go.gen (fun o20 => ?_)
      exact g_iret X hrt dX8_getsBy_72 (by decide) (by decide) ⟨C, D, F, I, K, trivial⟩
set_option maxHeartbeats 4000000 in
set_option maxRecDepth 100000 in
theorem s_X8_rests (l : Launch) (G : va_G) {cy : Nat → ClassId} {L : List Nat} {M : Nat → va_E} {a : Nat → Nat} {act : Nat → Bool} {C0 : Nat → Nat → Int32} {D0 : Nat → Nat → Int64} {R : Nat → Nat → Option Nat} (F : WI L M a act (ent cy a C0 D0 R)) (I : Inv C0) (p0 : Int32) (p1 : Int32)  : MI l G cy yX8_rests cX8_rests 8 (some .int) 7 0 0 [.ref (a 100), .int p0, .int p1] L M (fun r L2 M2 => ∃ C2 D2, WI L2 M2 a act (ent cy a C2 D2 R) ∧ Inv C2 ∧ Kp [100, 115, 116, 120, 121, 122, 123, 124, 125, 126, 127, 128] C0 D0 C2 D2 ∧ True) := by
  refine MI.of (own := RX8) rfl (by decide) (Nat.le_of_ble_eq_true rfl) ?_
  intro p e s m below meth c A X hrt hnm
  obtain ⟨C, D, hC0, hD0, F, I, K⟩ : ∃ C D, C = C0 ∧ D = D0 ∧ WI L M a act (ent cy a C D R) ∧ Inv C ∧ Kp [100, 115, 116, 120, 121, 122, 123, 124, 125, 126, 127, 128] C0 D0 C D := ⟨C0, D0, rfl, rfl, F, I, Kp.rf⟩
  obtain ⟨n1, hn1, en1⟩ := rg_nat ((show okw 0 (C 101 0) from I 101 0).1 rfl) (by decide)
  rw [hC0] at en1
  obtain ⟨n2, hn2, en2⟩ := rg_nat ((show okw 4 (C 101 4) from I 101 4).2.2.2.1 rfl) (by decide)
  rw [hC0] at en2
  obtain ⟨n3, hn3, en3⟩ := rg_nat ((show okw 7 (C 101 7) from I 101 7).2.2.2.2.1 rfl) (by decide)
  rw [hC0] at en3
  refine g_aload_n X dX8_rests_0 rfl (j := 0) rfl ?_
  refine g_iload_n X dX8_rests_1 rfl (j := 1) rfl ?_
  refine g_iload_n X dX8_rests_2 rfl (j := 2) rfl ?_
  refine g_callVI X (s_X8_areTwo l G F I p0 p1 ) lk_X8_346 (F.1 100 rfl).2 (F.1 100 rfl).1 rfl rfl dX8_rests_3 (Nat.le_of_ble_eq_true rfl) ⟨by decide, by decide⟩ ⟨by decide, by decide⟩ (fun r4 L M hp => ?_)
  obtain ⟨C, D, F, I, K1, hr⟩ := hp
  have K := K.step K1 (by decide)
  rcases hr with rfl | ⟨rfl, ⟨n5, hn5, en5⟩, ⟨n6, hn6, en6⟩⟩
  · skip
    refine g_if_ne X dX8_rests_6 (tgt := 12) (by decide) (fun q => absurd (by decide) q) (fun _ => ?_)
    refine g_bipush X dX8_rests_9 (v := -2) (by decide) ?_
    exact g_iret X hrt dX8_rests_11 (by decide) (by decide) ⟨C, D, F, I, K, trivial⟩
  · skip
    subst en5
    subst en6
    refine g_if_ne X dX8_rests_6 (tgt := 12) (by decide) (fun _ => ?_) (fun q => absurd q (by decide))
    refine g_iconst X dX8_rests_12 (v := 0) (by decide) ?_
    refine g_istore_n X dX8_rests_13 rfl (by decide) (lv2 := [(3, .int 0), (0, .ref (a 100)), (1, .int (nI n5)), (2, .int (nI n6))]) rfl ?_
    refine g_iconst X dX8_rests_14 (v := 0) (by decide) ?_
    refine g_istore X dX8_rests_15 (by decide) (lv2 := [(4, .int 0), (3, .int 0), (0, .ref (a 100)), (1, .int (nI n5)), (2, .int (nI n6))]) rfl ?_
    refine g_lv [0, 1, 2, 3, 4] (lv2 := [(4, .int 0), (3, .int 0), (0, .ref (a 100)), (1, .int (nI n5)), (2, .int (nI n6))]) rfl ?_
    refine i_loop (mods := [100, 115, 116, 120, 121, 122, 123, 124, 125, 126, 127, 128]) (fun x : Nat × Int32 => 4 - x.1) (fun x => [(4, .int (nI (x.1))), (3, .int (x.2)), (0, .ref (a 100)), (1, .int (nI n5)), (2, .int (nI n6))]) (fun x C => 0 ≤ x.1 ∧ x.1 ≤ 4) (fun x L M C D F I K hP ih17 => ?_) ((0, 0) : Nat × Int32) F I K ⟨by show _ ≤ _; omega, by show _ ≤ _; omega⟩
    rcases x with ⟨i17_4, v17_3⟩
    obtain ⟨hi17_4a, hi17_4b⟩ := hP
    refine g_lv [0, 1, 2, 3, 4] (lv2 := [(4, .int (nI i17_4)), (3, .int v17_3), (0, .ref (a 100)), (1, .int (nI n5)), (2, .int (nI n6))]) rfl ?_
    refine g_iload X dX8_rests_17 (j := 0) rfl ?_
    refine g_iconst X dX8_rests_19 (v := 4) (by decide) ?_
    refine g_icmp_ge X dX8_rests_20 (tgt := 118) (by decide) (fun q7 => ?_) (fun q7 => ?_)
    · skip
      have q7 : 4 ≤ i17_4 := (nI_leI (a := 4) (b := i17_4) (by omega) (by omega)).mp q7
      refine g_iload_n X dX8_rests_118 rfl (j := 1) rfl ?_
      exact g_iret X hrt dX8_rests_119 (by decide) (by decide) ⟨C, D, F, I, K, trivial⟩
    · skip
      have q7 : ¬ 4 ≤ i17_4 := fun z => q7 ((nI_leI (a := 4) (b := i17_4) (by omega) (by omega)).mpr z)
      refine g_iload X dX8_rests_23 (j := 0) rfl ?_
      refine g_iconst X dX8_rests_25 (v := 1) (by decide) ?_
      refine g_iand X dX8_rests_26 ?_
      refine Go.gen (fun o8 => ?_)
      refine g_istore X dX8_rests_27 (by decide) (lv2 := [(5, .int o8), (4, .int (nI i17_4)), (3, .int v17_3), (0, .ref (a 100)), (1, .int (nI n5)), (2, .int (nI n6))]) rfl ?_
      refine g_iload X dX8_rests_29 (j := 1) rfl ?_
      refine g_iconst X dX8_rests_31 (v := 1) (by decide) ?_
      refine g_ishr X dX8_rests_32 ?_
      refine Go.gen (fun o9 => ?_)
      refine g_istore X dX8_rests_33 (by decide) (lv2 := [(6, .int o9), (5, .int o8), (4, .int (nI i17_4)), (3, .int v17_3), (0, .ref (a 100)), (1, .int (nI n5)), (2, .int (nI n6))]) rfl ?_
      refine g_aload_n X dX8_rests_35 rfl (j := 4) rfl ?_
      refine g_iload_n X dX8_rests_36 rfl (j := 5) rfl ?_
      refine g_iload_n X dX8_rests_37 rfl (j := 6) rfl ?_
      refine g_iload X dX8_rests_38 (j := 1) rfl ?_
      refine g_iload X dX8_rests_40 (j := 0) rfl ?_
      refine g_iconst X dX8_rests_42 (v := 0) (by decide) ?_
      refine g_callVI X (s_X8_getsBy l G F I n5 (by omega) (by omega) n6 (by omega) (by omega) o8 o9 (0 : Int32) ) lk_X8_454 (F.1 100 rfl).2 (F.1 100 rfl).1 rfl rfl dX8_rests_43 (Nat.le_of_ble_eq_true rfl) ⟨by decide, by decide⟩ ⟨by decide, by decide⟩ (fun r10 L M hp => ?_)
      obtain ⟨C, D, F, I, K1, hr⟩ := hp
      have K := K.step K1 (by decide)
      refine g_aload_n X dX8_rests_46 rfl (j := 4) rfl ?_
      refine g_iload_n X dX8_rests_47 rfl (j := 5) rfl ?_
      refine g_iload_n X dX8_rests_48 rfl (j := 6) rfl ?_
      refine g_iconst X dX8_rests_49 (v := 1) (by decide) ?_
      refine g_iload X dX8_rests_50 (j := 1) rfl ?_
      refine g_isub X dX8_rests_52 ?_
      refine Go.gen (fun o11 => ?_)
      refine g_iload X dX8_rests_53 (j := 0) rfl ?_
      refine g_iconst X dX8_rests_55 (v := 0) (by decide) ?_
      refine g_callVI X (s_X8_getsBy l G F I n5 (by omega) (by omega) n6 (by omega) (by omega) o11 o9 (0 : Int32) ) lk_X8_454 (F.1 100 rfl).2 (F.1 100 rfl).1 rfl rfl dX8_rests_56 (Nat.le_of_ble_eq_true rfl) ⟨by decide, by decide⟩ ⟨by decide, by decide⟩ (fun r12 L M hp => ?_)
      obtain ⟨C, D, F, I, K1, hr⟩ := hp
      have K := K.step K1 (by decide)
      refine g_icmp_lt X dX8_rests_59 (tgt := 93) (by decide) (fun q13 => ?_) (fun q13 => ?_)
      · skip
        refine g_iconst X dX8_rests_93 (v := 0) (by decide) ?_
        refine g_istore X dX8_rests_94 (by decide) (lv2 := [(7, .int 0), (6, .int o9), (5, .int o8), (4, .int (nI i17_4)), (3, .int v17_3), (0, .ref (a 100)), (1, .int (nI n5)), (2, .int (nI n6))]) rfl ?_
        refine g_iload_n X dX8_rests_96 rfl (j := 4) rfl ?_
        refine g_iload X dX8_rests_97 (j := 0) rfl ?_
        refine g_if_eq X dX8_rests_99 (tgt := 109) (by decide) (fun _ => ?_) (fun q => absurd (by decide) q)
        refine g_iconst X dX8_rests_109 (v := 0) (by decide) ?_
        refine g_ior X dX8_rests_110 ?_
        refine Go.gen (fun o14 => ?_)
        refine g_istore_n X dX8_rests_111 rfl (by decide) (lv2 := [(3, .int o14), (7, .int 0), (6, .int o9), (5, .int o8), (4, .int (nI i17_4)), (0, .ref (a 100)), (1, .int (nI n5)), (2, .int (nI n6))]) rfl ?_
        refine g_iinc X dX8_rests_112 (j := 4) rfl (v := nI (i17_4 + 1)) (nI_1 i17_4) (by decide) (lv2 := [(4, .int (nI (i17_4 + 1))), (3, .int o14), (7, .int 0), (6, .int o9), (5, .int o8), (0, .ref (a 100)), (1, .int (nI n5)), (2, .int (nI n6))]) rfl ?_
        refine g_goto X dX8_rests_115 (tgt := 17) (by decide) ?_
        refine g_lv [0, 1, 5, 6, 7] (lv2 := [(4, .int (nI (i17_4 + 1))), (3, .int o14), (0, .ref (a 100)), (1, .int (nI n5)), (2, .int (nI n6))]) rfl ?_
        exact ih17 ((i17_4 + 1), o14) L M C D F I K ⟨by omega, by omega⟩ (by show _ < _; omega)
      · skip
        refine g_aload_n X dX8_rests_62 rfl (j := 4) rfl ?_
        refine g_iload_n X dX8_rests_63 rfl (j := 5) rfl ?_
        refine g_iload_n X dX8_rests_64 rfl (j := 6) rfl ?_
        refine g_iload X dX8_rests_65 (j := 1) rfl ?_
        refine g_iload X dX8_rests_67 (j := 0) rfl ?_
        refine g_iconst X dX8_rests_69 (v := 1) (by decide) ?_
        refine g_callVI X (s_X8_getsBy l G F I n5 (by omega) (by omega) n6 (by omega) (by omega) o8 o9 (1 : Int32) ) lk_X8_454 (F.1 100 rfl).2 (F.1 100 rfl).1 rfl rfl dX8_rests_70 (Nat.le_of_ble_eq_true rfl) ⟨by decide, by decide⟩ ⟨by decide, by decide⟩ (fun r15 L M hp => ?_)
        obtain ⟨C, D, F, I, K1, hr⟩ := hp
        have K := K.step K1 (by decide)
        refine g_aload_n X dX8_rests_73 rfl (j := 4) rfl ?_
        refine g_iload_n X dX8_rests_74 rfl (j := 5) rfl ?_
        refine g_iload_n X dX8_rests_75 rfl (j := 6) rfl ?_
        refine g_iload X dX8_rests_76 (j := 1) rfl ?_
        refine g_iconst X dX8_rests_78 (v := 1) (by decide) ?_
        refine g_iload X dX8_rests_79 (j := 0) rfl ?_
        refine g_isub X dX8_rests_81 ?_
        refine Go.gen (fun o16 => ?_)
        refine g_iconst X dX8_rests_82 (v := 1) (by decide) ?_
        refine g_callVI X (s_X8_getsBy l G F I n5 (by omega) (by omega) n6 (by omega) (by omega) o8 o16 (1 : Int32) ) lk_X8_454 (F.1 100 rfl).2 (F.1 100 rfl).1 rfl rfl dX8_rests_83 (Nat.le_of_ble_eq_true rfl) ⟨by decide, by decide⟩ ⟨by decide, by decide⟩ (fun r17 L M hp => ?_)
        obtain ⟨C, D, F, I, K1, hr⟩ := hp
        have K := K.step K1 (by decide)
        refine g_icmp_lt X dX8_rests_86 (tgt := 93) (by decide) (fun q18 => ?_) (fun q18 => ?_)
        · skip
          refine g_iconst X dX8_rests_93 (v := 0) (by decide) ?_
          refine g_istore X dX8_rests_94 (by decide) (lv2 := [(7, .int 0), (6, .int o9), (5, .int o8), (4, .int (nI i17_4)), (3, .int v17_3), (0, .ref (a 100)), (1, .int (nI n5)), (2, .int (nI n6))]) rfl ?_
          refine g_iload_n X dX8_rests_96 rfl (j := 4) rfl ?_
          refine g_iload X dX8_rests_97 (j := 0) rfl ?_
          refine g_if_eq X dX8_rests_99 (tgt := 109) (by decide) (fun _ => ?_) (fun q => absurd (by decide) q)
          refine g_iconst X dX8_rests_109 (v := 0) (by decide) ?_
          refine g_ior X dX8_rests_110 ?_
          refine Go.gen (fun o19 => ?_)
          refine g_istore_n X dX8_rests_111 rfl (by decide) (lv2 := [(3, .int o19), (7, .int 0), (6, .int o9), (5, .int o8), (4, .int (nI i17_4)), (0, .ref (a 100)), (1, .int (nI n5)), (2, .int (nI n6))]) rfl ?_
          refine g_iinc X dX8_rests_112 (j := 4) rfl (v := nI (i17_4 + 1)) (nI_1 i17_4) (by decide) (lv2 := [(4, .int (nI (i17_4 + 1))), (3, .int o19), (7, .int 0), (6, .int o9), (5, .int o8), (0, .ref (a 100)), (1, .int (nI n5)), (2, .int (nI n6))]) rfl ?_
          refine g_goto X dX8_rests_115 (tgt := 17) (by decide) ?_
          refine g_lv [0, 1, 5, 6, 7] (lv2 := [(4, .int (nI (i17_4 + 1))), (3, .int o19), (0, .ref (a 100)), (1, .int (nI n5)), (2, .int (nI n6))]) rfl ?_
          exact ih17 ((i17_4 + 1), o19) L M C D F I K ⟨by omega, by omega⟩ (by show _ < _; omega)
        · skip
          refine g_iconst X dX8_rests_89 (v := 1) (by decide) ?_
          refine g_goto X dX8_rests_90 (tgt := 94) (by decide) ?_
          refine g_istore X dX8_rests_94 (by decide) (lv2 := [(7, .int 1), (6, .int o9), (5, .int o8), (4, .int (nI i17_4)), (3, .int v17_3), (0, .ref (a 100)), (1, .int (nI n5)), (2, .int (nI n6))]) rfl ?_
          refine g_iload_n X dX8_rests_96 rfl (j := 4) rfl ?_
          refine g_iload X dX8_rests_97 (j := 0) rfl ?_
          refine g_if_eq X dX8_rests_99 (tgt := 109) (by decide) (fun q => absurd q (by decide)) (fun _ => ?_)
          refine g_iconst X dX8_rests_102 (v := 1) (by decide) ?_
          refine g_iload X dX8_rests_103 (j := 3) rfl ?_
          refine g_ishl X dX8_rests_105 ?_
          refine Go.gen (fun o20 => ?_)
          refine g_goto X dX8_rests_106 (tgt := 110) (by decide) ?_
          refine g_ior X dX8_rests_110 ?_
          refine Go.gen (fun o21 => ?_)
          refine g_istore_n X dX8_rests_111 rfl (by decide) (lv2 := [(3, .int o21), (7, .int 1), (6, .int o9), (5, .int o8), (4, .int (nI i17_4)), (0, .ref (a 100)), (1, .int (nI n5)), (2, .int (nI n6))]) rfl ?_
          refine g_iinc X dX8_rests_112 (j := 4) rfl (v := nI (i17_4 + 1)) (nI_1 i17_4) (by decide) (lv2 := [(4, .int (nI (i17_4 + 1))), (3, .int o21), (7, .int 1), (6, .int o9), (5, .int o8), (0, .ref (a 100)), (1, .int (nI n5)), (2, .int (nI n6))]) rfl ?_
          refine g_goto X dX8_rests_115 (tgt := 17) (by decide) ?_
          refine g_lv [0, 1, 5, 6, 7] (lv2 := [(4, .int (nI (i17_4 + 1))), (3, .int o21), (0, .ref (a 100)), (1, .int (nI n5)), (2, .int (nI n6))]) rfl ?_
          exact ih17 ((i17_4 + 1), o21) L M C D F I K ⟨by omega, by omega⟩ (by show _ < _; omega)
set_option maxHeartbeats 4000000 in
set_option maxRecDepth 100000 in
theorem s_X8_gets (l : Launch) (G : va_G) {cy : Nat → ClassId} {L : List Nat} {M : Nat → va_E} {a : Nat → Nat} {act : Nat → Bool} {C0 : Nat → Nat → Int32} {D0 : Nat → Nat → Int64} {R : Nat → Nat → Option Nat} (F : WI L M a act (ent cy a C0 D0 R)) (I : Inv C0) (p0 : Int32) (p1 : Int32) (p2 : Int32) (p3 : Int32)  : MI l G cy yX8_gets cX8_gets 5 (some .int) 7 0 0 [.ref (a 100), .int p0, .int p1, .int p2, .int p3] L M (fun r L2 M2 => ∃ C2 D2, WI L2 M2 a act (ent cy a C2 D2 R) ∧ Inv C2 ∧ Kp [100, 115, 116, 120, 121, 122, 123, 124, 125, 126, 127, 128] C0 D0 C2 D2 ∧ True) := by
  refine MI.of (own := RX8) rfl (by decide) (Nat.le_of_ble_eq_true rfl) ?_
  intro p e s m below meth c A X hrt hnm
  obtain ⟨C, D, hC0, hD0, F, I, K⟩ : ∃ C D, C = C0 ∧ D = D0 ∧ WI L M a act (ent cy a C D R) ∧ Inv C ∧ Kp [100, 115, 116, 120, 121, 122, 123, 124, 125, 126, 127, 128] C0 D0 C D := ⟨C0, D0, rfl, rfl, F, I, Kp.rf⟩
  obtain ⟨n1, hn1, en1⟩ := rg_nat ((show okw 0 (C 101 0) from I 101 0).1 rfl) (by decide)
  rw [hC0] at en1
  obtain ⟨n2, hn2, en2⟩ := rg_nat ((show okw 4 (C 101 4) from I 101 4).2.2.2.1 rfl) (by decide)
  rw [hC0] at en2
  obtain ⟨n3, hn3, en3⟩ := rg_nat ((show okw 7 (C 101 7) from I 101 7).2.2.2.2.1 rfl) (by decide)
  rw [hC0] at en3
  refine g_aload_n X dX8_gets_0 rfl (j := 0) rfl ?_
  refine g_iload_n X dX8_gets_1 rfl (j := 1) rfl ?_
  refine g_iload_n X dX8_gets_2 rfl (j := 2) rfl ?_
  refine g_callVI X (s_X8_areTwo l G F I p0 p1 ) lk_X8_346 (F.1 100 rfl).2 (F.1 100 rfl).1 rfl rfl dX8_gets_3 (Nat.le_of_ble_eq_true rfl) ⟨by decide, by decide⟩ ⟨by decide, by decide⟩ (fun r4 L M hp => ?_)
  obtain ⟨C, D, F, I, K1, hr⟩ := hp
  have K := K.step K1 (by decide)
  rcases hr with rfl | ⟨rfl, ⟨n5, hn5, en5⟩, ⟨n6, hn6, en6⟩⟩
  · skip
    refine g_if_eq X dX8_gets_6 (tgt := 43) (by decide) (fun _ => ?_) (fun q => absurd (by decide) q)
    refine g_sipush X dX8_gets_43 (v := -1000) (by decide) ?_
    exact g_iret X hrt dX8_gets_46 (by decide) (by decide) ⟨C, D, F, I, K, trivial⟩
  · skip
    subst en5
    subst en6
    refine g_if_eq X dX8_gets_6 (tgt := 43) (by decide) (fun q => absurd q (by decide)) (fun _ => ?_)
    refine g_iload_n X dX8_gets_9 rfl (j := 3) rfl ?_
    refine g_i2l X dX8_gets_10 rfl ?_
    refine g_lconst X dX8_gets_11 (v := 0) (by decide) ?_
    refine g_lconst X dX8_gets_12 (v := 1) (by decide) ?_
    refine g_callSI X (s_X8_in l G F I ((Int32.toInt64 p2)) (0 : Int64) (1 : Int64) ) lk_X8_94 rfl rfl dX8_gets_13 (Nat.le_of_ble_eq_true rfl) ⟨by decide, by decide⟩ ⟨by decide, by decide⟩ (fun r7 L M hp => ?_)
    obtain ⟨C, D, F, I, K1, hr⟩ := hp
    have K := K.step K1 (by decide)
    rcases hr with ⟨rfl, hq8⟩ | ⟨rfl, hq8⟩
    · skip
      have hq8x := Jvm.Kit.i64_of_i32 p2
      have hq8l : (0 : Int64).toInt = 0 := (by decide)
      have hq8h : (1 : Int64).toInt = 1 := (by decide)
      refine g_if_eq X dX8_gets_16 (tgt := 43) (by decide) (fun _ => ?_) (fun q => absurd (by decide) q)
      refine g_sipush X dX8_gets_43 (v := -1000) (by decide) ?_
      exact g_iret X hrt dX8_gets_46 (by decide) (by decide) ⟨C, D, F, I, K, trivial⟩
    · skip
      have hq8x := Jvm.Kit.i64_of_i32 p2
      have hq8l : (0 : Int64).toInt = 0 := (by decide)
      have hq8h : (1 : Int64).toInt = 1 := (by decide)
      obtain ⟨n9, hn9a, hn9b, en9⟩ := nI_ofInt (x := p2) (lo := 0) (hi := 1) (by omega) (by omega) (by decide)
      subst en9
      have tn9 := nI_toInt (n := n9) (by omega)
      refine g_if_eq X dX8_gets_16 (tgt := 43) (by decide) (fun q => absurd q (by decide)) (fun _ => ?_)
      refine g_iload X dX8_gets_19 (j := 4) rfl ?_
      refine g_i2l X dX8_gets_21 rfl ?_
      refine g_lconst X dX8_gets_22 (v := 0) (by decide) ?_
      refine g_lconst X dX8_gets_23 (v := 1) (by decide) ?_
      refine g_callSI X (s_X8_in l G F I ((Int32.toInt64 p3)) (0 : Int64) (1 : Int64) ) lk_X8_94 rfl rfl dX8_gets_24 (Nat.le_of_ble_eq_true rfl) ⟨by decide, by decide⟩ ⟨by decide, by decide⟩ (fun r10 L M hp => ?_)
      obtain ⟨C, D, F, I, K1, hr⟩ := hp
      have K := K.step K1 (by decide)
      rcases hr with ⟨rfl, hq11⟩ | ⟨rfl, hq11⟩
      · skip
        have hq11x := Jvm.Kit.i64_of_i32 p3
        have hq11l : (0 : Int64).toInt = 0 := (by decide)
        have hq11h : (1 : Int64).toInt = 1 := (by decide)
        refine g_if_eq X dX8_gets_27 (tgt := 43) (by decide) (fun _ => ?_) (fun q => absurd (by decide) q)
        refine g_sipush X dX8_gets_43 (v := -1000) (by decide) ?_
        exact g_iret X hrt dX8_gets_46 (by decide) (by decide) ⟨C, D, F, I, K, trivial⟩
      · skip
        have hq11x := Jvm.Kit.i64_of_i32 p3
        have hq11l : (0 : Int64).toInt = 0 := (by decide)
        have hq11h : (1 : Int64).toInt = 1 := (by decide)
        obtain ⟨n12, hn12a, hn12b, en12⟩ := nI_ofInt (x := p3) (lo := 0) (hi := 1) (by omega) (by omega) (by decide)
        subst en12
        have tn12 := nI_toInt (n := n12) (by omega)
        refine g_if_eq X dX8_gets_27 (tgt := 43) (by decide) (fun q => absurd q (by decide)) (fun _ => ?_)
        refine g_aload_n X dX8_gets_30 rfl (j := 0) rfl ?_
        refine g_iload_n X dX8_gets_31 rfl (j := 1) rfl ?_
        refine g_iload_n X dX8_gets_32 rfl (j := 2) rfl ?_
        refine g_iload_n X dX8_gets_33 rfl (j := 3) rfl ?_
        refine g_iload X dX8_gets_34 (j := 4) rfl ?_
        refine g_iconst X dX8_gets_36 (v := 0) (by decide) ?_
        refine g_callVI X (s_X8_getsBy l G F I n5 (by omega) (by omega) n6 (by omega) (by omega) (nI n9) (nI n12) (0 : Int32) ) lk_X8_454 (F.1 100 rfl).2 (F.1 100 rfl).1 rfl rfl dX8_gets_37 (Nat.le_of_ble_eq_true rfl) ⟨by decide, by decide⟩ ⟨by decide, by decide⟩ (fun r13 L M hp => ?_)
        obtain ⟨C, D, F, I, K1, hr⟩ := hp
        have K := K.step K1 (by decide)
        refine g_goto X dX8_gets_40 (tgt := 46) (by decide) ?_
        exact g_iret X hrt dX8_gets_46 (by decide) (by decide) ⟨C, D, F, I, K, trivial⟩
set_option maxHeartbeats 4000000 in
set_option maxRecDepth 100000 in
theorem s_X8_keepAct (l : Launch) (G : va_G) {cy : Nat → ClassId} {L : List Nat} {M : Nat → va_E} {a : Nat → Nat} {act : Nat → Bool} {C0 : Nat → Nat → Int32} {D0 : Nat → Nat → Int64} {R : Nat → Nat → Option Nat} (F : WI L M a act (ent cy a C0 D0 R)) (I : Inv C0) (p0 : Nat) (hp0a : 0 ≤ p0) (hp0b : p0 ≤ 2147483647) (hact : p0 ≤ 699 ∨ 10000 ≤ p0) : MI l G cy yX8_keepAct cX8_keepAct 2 (some .boolean) 7 0 0 [.ref (a 100), .int (nI p0)] L M (fun r L2 M2 => ∃ C2 D2, WI L2 M2 a act (ent cy a C2 D2 R) ∧ Inv C2 ∧ Kp [100, 101, 115, 116, 120, 121, 122, 123, 124, 125, 126, 127, 128] C0 D0 C2 D2 ∧ (r = 0 ∨ r = 1)) := by
  refine MI.of (own := RX8) rfl (by decide) (Nat.le_of_ble_eq_true rfl) ?_
  intro p e s m below meth c A X hrt hnm
  obtain ⟨C, D, hC0, hD0, F, I, K⟩ : ∃ C D, C = C0 ∧ D = D0 ∧ WI L M a act (ent cy a C D R) ∧ Inv C ∧ Kp [100, 101, 115, 116, 120, 121, 122, 123, 124, 125, 126, 127, 128] C0 D0 C D := ⟨C0, D0, rfl, rfl, F, I, Kp.rf⟩
  refine g_aload_n X dX8_keepAct_0 rfl (j := 0) rfl ?_
  refine i_get X F 100 rfl rfl fk_X8_9 dX8_keepAct_1 rfl ?_
  refine g_bipush X dX8_keepAct_4 (v := 8) (by decide) ?_
  obtain ⟨n1, hn1, en1⟩ := rg_nat ((show okw (8) (C 101 (8)) from I 101 (8)).2.2.2.2.2.1 rfl) (by decide)
  refine i_iald X F 101 rfl rfl dX8_keepAct_6 (vp_in_iff.mpr (by decide)) (v := nI n1) (by exact en1) ?_
  refine g_bipush X dX8_keepAct_7 (v := 30) (by decide) ?_
  refine g_icmp_ne X dX8_keepAct_9 (tgt := 14) (by decide) (fun q2 => ?_) (fun q2 => ?_)
  · skip
    have q2 : ¬ n1 = 30 := fun z => q2 ((nI_eq (a := n1) (b := 30) (by omega) (by omega)).mpr z)
    refine g_aload_n X dX8_keepAct_14 rfl (j := 0) rfl ?_
    refine i_get X F 100 rfl rfl fk_X8_9 dX8_keepAct_15 rfl ?_
    refine g_bipush X dX8_keepAct_18 (v := 72) (by decide) ?_
    refine g_aload_n X dX8_keepAct_20 rfl (j := 0) rfl ?_
    refine i_get X F 100 rfl rfl fk_X8_9 dX8_keepAct_21 rfl ?_
    refine g_bipush X dX8_keepAct_24 (v := 8) (by decide) ?_
    obtain ⟨n3, hn3, en3⟩ := rg_nat ((show okw (8) (C 101 (8)) from I 101 (8)).2.2.2.2.2.1 rfl) (by decide)
    refine i_iald X F 101 rfl rfl dX8_keepAct_26 (vp_in_iff.mpr (by decide)) (v := nI n3) (by exact en3) ?_
    obtain rfl : n1 = n3 := ((nI_eq (by omega) (by omega)).mp (en3.symm.trans en1)).symm
    refine g_iadd X dX8_keepAct_27 ?_
    refine Go.top (v := .int (nI (72 + n1))) (congrArg Value.int (nI_add 72 n1)) ?_
    refine g_iload_n X dX8_keepAct_28 rfl (j := 1) rfl ?_
    refine i_iast X F I 101 rfl (fun _ => rfl) dX8_keepAct_29 (vp_in_nI (by omega) (by decide)) (by rw [nI_clamp (by omega)]; show okw (72 + n1) (nI p0); exact ⟨fun h => by exfalso; omega, fun h => by exfalso; omega, fun h => by exfalso; omega, fun h => by exfalso; omega, fun h => by exfalso; omega, fun h => by exfalso; omega, fun a1 a2 a3 => by exfalso; omega, fun a1 a2 a3 => by exfalso; omega, fun a1 a2 a3 a4 => by exfalso; omega, fun a1 a2 a3 => by exfalso; omega, fun _ _ => (act_of (n := p0) (by omega) (by omega))⟩) (fun M C F I K1 hC => ?_)
    have K := K.step K1 (by decide)
    have en1 : C 101 8 = nI n1 := by rw [hC, nI_clamp (by omega), pk_un (by omega)]; exact en1
    refine g_aload_n X dX8_keepAct_30 rfl (j := 0) rfl ?_
    refine i_get X F 100 rfl rfl fk_X8_9 dX8_keepAct_31 rfl ?_
    refine g_bipush X dX8_keepAct_34 (v := 8) (by decide) ?_
    refine g_dup2 X dX8_keepAct_36 rfl rfl ?_
    obtain ⟨n4, hn4, en4⟩ := rg_nat ((show okw (8) (C 101 (8)) from I 101 (8)).2.2.2.2.2.1 rfl) (by decide)
    refine i_iald X F 101 rfl rfl dX8_keepAct_37 (vp_in_iff.mpr (by decide)) (v := nI n4) (by exact en4) ?_
    obtain rfl : n1 = n4 := ((nI_eq (by omega) (by omega)).mp (en4.symm.trans en1)).symm
    refine g_iconst X dX8_keepAct_38 (v := 1) (by decide) ?_
    refine g_iadd X dX8_keepAct_39 ?_
    refine Go.top (v := .int (nI (n1 + 1))) (congrArg Value.int (nI_add n1 1)) ?_
    refine i_iast X F I 101 rfl (fun _ => rfl) dX8_keepAct_40 (vp_in_iff.mpr (by decide)) (by show okw (8) (nI (n1 + 1)); exact ⟨fun h => by exfalso; omega, fun h => by exfalso; omega, fun h => by exfalso; omega, fun h => by exfalso; omega, fun h => by exfalso; omega, fun _ => (rg_of (n := (n1 + 1)) (by omega) (by omega) (by omega)), fun a1 a2 a3 => by exfalso; omega, fun a1 a2 a3 => by exfalso; omega, fun a1 a2 a3 a4 => by exfalso; omega, fun a1 a2 a3 => by exfalso; omega, fun a1 a2 => by exfalso; omega⟩) (fun M C F I K1 hC => ?_)
    have K := K.step K1 (by decide)
    refine g_aload_n X dX8_keepAct_41 rfl (j := 0) rfl ?_
    refine g_callVI X (s_X8_asksHeath l G F I  ) lk_X8_292 (F.1 100 rfl).2 (F.1 100 rfl).1 rfl rfl dX8_keepAct_42 (Nat.le_of_ble_eq_true rfl) ⟨by decide, by decide⟩ ⟨by decide, by decide⟩ (fun r5 L M hp => ?_)
    obtain ⟨C, D, F, I, K1, hr⟩ := hp
    have K := K.step K1 (by decide)
    rcases hr with rfl | rfl
    · skip
      refine g_pop X dX8_keepAct_45 rfl ?_
      refine g_iconst X dX8_keepAct_46 (v := 1) (by decide) ?_
      exact g_zret X hrt rfl dX8_keepAct_47 (by decide) (by decide) ⟨C, D, F, I, K, Or.inr rfl⟩
    · skip
      refine g_pop X dX8_keepAct_45 rfl ?_
      refine g_iconst X dX8_keepAct_46 (v := 1) (by decide) ?_
      exact g_zret X hrt rfl dX8_keepAct_47 (by decide) (by decide) ⟨C, D, F, I, K, Or.inr rfl⟩
  · skip
    have q2 : n1 = 30 := (nI_eq (a := n1) (b := 30) (by omega) (by omega)).mp q2
    refine g_iconst X dX8_keepAct_12 (v := 0) (by decide) ?_
    exact g_zret X hrt rfl dX8_keepAct_13 (by decide) (by decide) ⟨C, D, F, I, K, Or.inl rfl⟩
set_option maxHeartbeats 4000000 in
set_option maxRecDepth 100000 in
theorem s_X8_twists (l : Launch) (G : va_G) {cy : Nat → ClassId} {L : List Nat} {M : Nat → va_E} {a : Nat → Nat} {act : Nat → Bool} {C0 : Nat → Nat → Int32} {D0 : Nat → Nat → Int64} {R : Nat → Nat → Option Nat} (F : WI L M a act (ent cy a C0 D0 R)) (I : Inv C0) (p0 : Int32) (p1 : Int32)  : MI l G cy yX8_twists cX8_twists 3 (some .int) 8 0 0 [.ref (a 100), .int p0, .int p1] L M (fun r L2 M2 => ∃ C2 D2, WI L2 M2 a act (ent cy a C2 D2 R) ∧ Inv C2 ∧ Kp [100, 101, 115, 116, 120, 121, 122, 123, 124, 125, 126, 127, 128] C0 D0 C2 D2 ∧ True) := by
  refine MI.of (own := RX8) rfl (by decide) (Nat.le_of_ble_eq_true rfl) ?_
  intro p e s m below meth c A X hrt hnm
  obtain ⟨C, D, hC0, hD0, F, I, K⟩ : ∃ C D, C = C0 ∧ D = D0 ∧ WI L M a act (ent cy a C D R) ∧ Inv C ∧ Kp [100, 101, 115, 116, 120, 121, 122, 123, 124, 125, 126, 127, 128] C0 D0 C D := ⟨C0, D0, rfl, rfl, F, I, Kp.rf⟩
  refine g_aload_n X dX8_twists_0 rfl (j := 0) rfl ?_
  refine g_iload_n X dX8_twists_1 rfl (j := 1) rfl ?_
  refine g_i2l X dX8_twists_2 rfl ?_
  refine g_callVI X (s_X8_isPost l G F I ((Int32.toInt64 p0)) ) lk_X8_112 (F.1 100 rfl).2 (F.1 100 rfl).1 rfl rfl dX8_twists_3 (Nat.le_of_ble_eq_true rfl) ⟨by decide, by decide⟩ ⟨by decide, by decide⟩ (fun r1 L M hp => ?_)
  obtain ⟨C, D, F, I, K1, hr⟩ := hp
  have K := K.step K1 (by decide)
  rcases hr with rfl | ⟨rfl, hl2a, hl2b⟩
  · skip
    refine g_if_eq X dX8_twists_6 (tgt := 18) (by decide) (fun _ => ?_) (fun q => absurd (by decide) q)
    refine g_bipush X dX8_twists_18 (v := -2) (by decide) ?_
    exact g_iret X hrt dX8_twists_20 (by decide) (by decide) ⟨C, D, F, I, K, trivial⟩
  · skip
    rw [Jvm.Kit.i64_of_i32] at hl2a hl2b
    obtain ⟨n3, hn3a, hn3b, en3⟩ := nI_ofInt (x := p0) (lo := 0) (hi := 6) (by omega) (by omega) (by decide)
    subst en3
    refine g_if_eq X dX8_twists_6 (tgt := 18) (by decide) (fun q => absurd q (by decide)) (fun _ => ?_)
    refine g_aload_n X dX8_twists_9 rfl (j := 0) rfl ?_
    refine g_iload_n X dX8_twists_10 rfl (j := 2) rfl ?_
    refine g_i2l X dX8_twists_11 rfl ?_
    refine g_callVI X (s_X8_isAhead l G F I ((Int32.toInt64 p1)) ) lk_X8_311 (F.1 100 rfl).2 (F.1 100 rfl).1 rfl rfl dX8_twists_12 (Nat.le_of_ble_eq_true rfl) ⟨by decide, by decide⟩ ⟨by decide, by decide⟩ (fun r4 L M hp => ?_)
    obtain ⟨C, D, F, I, K1, hr⟩ := hp
    have K := K.step K1 (by decide)
    rcases hr with rfl | ⟨rfl, hl5a, hl5b⟩
    · skip
      refine g_if_ne X dX8_twists_15 (tgt := 21) (by decide) (fun q => absurd (by decide) q) (fun _ => ?_)
      refine g_bipush X dX8_twists_18 (v := -2) (by decide) ?_
      exact g_iret X hrt dX8_twists_20 (by decide) (by decide) ⟨C, D, F, I, K, trivial⟩
    · skip
      rw [Jvm.Kit.i64_of_i32] at hl5a hl5b
      obtain ⟨n6, hn6a, hn6b, en6⟩ := nI_ofInt (x := p1) (lo := 0) (hi := 15) (by omega) (by omega) (by decide)
      subst en6
      refine g_if_ne X dX8_twists_15 (tgt := 21) (by decide) (fun _ => ?_) (fun q => absurd q (by decide))
      refine g_aload_n X dX8_twists_21 rfl (j := 0) rfl ?_
      refine g_bipush X dX8_twists_22 (v := 100) (by decide) ?_
      refine g_iload_n X dX8_twists_24 rfl (j := 1) rfl ?_
      refine g_imul X dX8_twists_25 ?_
      refine Go.top (v := .int (nI (100 * n3))) (congrArg Value.int (pk_mul 100 n3)) ?_
      refine g_iload_n X dX8_twists_26 rfl (j := 2) rfl ?_
      refine g_iadd X dX8_twists_27 ?_
      refine Go.top (v := .int (nI ((100 * n3) + n6))) (congrArg Value.int (nI_add (100 * n3) n6)) ?_
      refine g_callVI X (s_X8_keepAct l G F I ((100 * n3) + n6) (by omega) (by omega) (by omega)) lk_X8_476 (F.1 100 rfl).2 (F.1 100 rfl).1 rfl rfl dX8_twists_28 (Nat.le_of_ble_eq_true rfl) ⟨by decide, by decide⟩ ⟨by decide, by decide⟩ (fun r7 L M hp => ?_)
      obtain ⟨C, D, F, I, K1, hr⟩ := hp
      have K := K.step K1 (by decide)
      rcases hr with rfl | rfl
      · skip
        refine g_if_ne X dX8_twists_31 (tgt := 37) (by decide) (fun q => absurd (by decide) q) (fun _ => ?_)
        refine g_bipush X dX8_twists_34 (v := -5) (by decide) ?_
        exact g_iret X hrt dX8_twists_36 (by decide) (by decide) ⟨C, D, F, I, K, trivial⟩
      · skip
        refine g_if_ne X dX8_twists_31 (tgt := 37) (by decide) (fun _ => ?_) (fun q => absurd q (by decide))
        refine g_aload_n X dX8_twists_37 rfl (j := 0) rfl ?_
        refine g_iload_n X dX8_twists_38 rfl (j := 1) rfl ?_
        refine g_callVI X (s_X8_roadMany l G F I n3 (by omega) (by omega) ) lk_X8_245 (F.1 100 rfl).2 (F.1 100 rfl).1 rfl rfl dX8_twists_39 (Nat.le_of_ble_eq_true rfl) ⟨by decide, by decide⟩ ⟨by decide, by decide⟩ (fun r8 L M hp => ?_)
        obtain ⟨C, D, F, I, K1, hr⟩ := hp
        have K := K.step K1 (by decide)
        obtain ⟨n9, hn9, en9, rfl⟩ := hr
        refine g_if_ne X dX8_twists_42 (tgt := 49) (by decide) (fun q10 => ?_) (fun q10 => ?_)
        · skip
          have q10 : ¬ n9 = 0 := fun z => q10 ((nI_eq (a := n9) (b := 0) (by omega) (by omega)).mpr z)
          refine g_aload_n X dX8_twists_49 rfl (j := 0) rfl ?_
          refine i_get X F 100 rfl rfl fk_X8_40 dX8_twists_50 rfl ?_
          refine g_iload_n X dX8_twists_53 rfl (j := 1) rfl ?_
          obtain ⟨n11, hn11, en11⟩ := rg_nat (I 120 n3) (by decide)
          refine i_iald X F 120 rfl rfl dX8_twists_54 (vp_in_nI (by omega) (by decide)) (v := nI n11) (by rw [nI_clamp (by omega)]; exact en11) ?_
          exact g_iret X hrt dX8_twists_55 (by decide) (by decide) ⟨C, D, F, I, K, trivial⟩
        · skip
          have q10 : n9 = 0 := (nI_eq (a := n9) (b := 0) (by omega) (by omega)).mp q10
          refine g_iconst X dX8_twists_45 (v := -1) (by decide) ?_
          refine g_goto X dX8_twists_46 (tgt := 55) (by decide) ?_
          exact g_iret X hrt dX8_twists_55 (by decide) (by decide) ⟨C, D, F, I, K, trivial⟩
set_option maxHeartbeats 4000000 in
set_option maxRecDepth 100000 in
theorem s_X8_holds (l : Launch) (G : va_G) {cy : Nat → ClassId} {L : List Nat} {M : Nat → va_E} {a : Nat → Nat} {act : Nat → Bool} {C0 : Nat → Nat → Int32} {D0 : Nat → Nat → Int64} {R : Nat → Nat → Option Nat} (F : WI L M a act (ent cy a C0 D0 R)) (I : Inv C0) (p0 : Int32) (p1 : Int32)  : MI l G cy yX8_holds cX8_holds 3 (some .int) 8 0 0 [.ref (a 100), .int p0, .int p1] L M (fun r L2 M2 => ∃ C2 D2, WI L2 M2 a act (ent cy a C2 D2 R) ∧ Inv C2 ∧ Kp [100, 101, 115, 116, 120, 121, 122, 123, 124, 125, 126, 127, 128] C0 D0 C2 D2 ∧ True) := by
  refine MI.of (own := RX8) rfl (by decide) (Nat.le_of_ble_eq_true rfl) ?_
  intro p e s m below meth c A X hrt hnm
  obtain ⟨C, D, hC0, hD0, F, I, K⟩ : ∃ C D, C = C0 ∧ D = D0 ∧ WI L M a act (ent cy a C D R) ∧ Inv C ∧ Kp [100, 101, 115, 116, 120, 121, 122, 123, 124, 125, 126, 127, 128] C0 D0 C D := ⟨C0, D0, rfl, rfl, F, I, Kp.rf⟩
  refine g_aload_n X dX8_holds_0 rfl (j := 0) rfl ?_
  refine g_iload_n X dX8_holds_1 rfl (j := 1) rfl ?_
  refine g_i2l X dX8_holds_2 rfl ?_
  refine g_callVI X (s_X8_isWalker l G F I ((Int32.toInt64 p0)) ) lk_X8_254 (F.1 100 rfl).2 (F.1 100 rfl).1 rfl rfl dX8_holds_3 (Nat.le_of_ble_eq_true rfl) ⟨by decide, by decide⟩ ⟨by decide, by decide⟩ (fun r1 L M hp => ?_)
  obtain ⟨C, D, F, I, K1, hr⟩ := hp
  have K := K.step K1 (by decide)
  rcases hr with rfl | ⟨rfl, hl2a, hl2b⟩
  · skip
    refine g_if_eq X dX8_holds_6 (tgt := 18) (by decide) (fun _ => ?_) (fun q => absurd (by decide) q)
    refine g_bipush X dX8_holds_18 (v := -2) (by decide) ?_
    exact g_iret X hrt dX8_holds_20 (by decide) (by decide) ⟨C, D, F, I, K, trivial⟩
  · skip
    rw [Jvm.Kit.i64_of_i32] at hl2a hl2b
    obtain ⟨n3, hn3a, hn3b, en3⟩ := nI_ofInt (x := p0) (lo := 0) (hi := 7) (by omega) (by omega) (by decide)
    subst en3
    refine g_if_eq X dX8_holds_6 (tgt := 18) (by decide) (fun q => absurd q (by decide)) (fun _ => ?_)
    refine g_aload_n X dX8_holds_9 rfl (j := 0) rfl ?_
    refine g_iload_n X dX8_holds_10 rfl (j := 2) rfl ?_
    refine g_i2l X dX8_holds_11 rfl ?_
    refine g_callVI X (s_X8_isAhead l G F I ((Int32.toInt64 p1)) ) lk_X8_311 (F.1 100 rfl).2 (F.1 100 rfl).1 rfl rfl dX8_holds_12 (Nat.le_of_ble_eq_true rfl) ⟨by decide, by decide⟩ ⟨by decide, by decide⟩ (fun r4 L M hp => ?_)
    obtain ⟨C, D, F, I, K1, hr⟩ := hp
    have K := K.step K1 (by decide)
    rcases hr with rfl | ⟨rfl, hl5a, hl5b⟩
    · skip
      refine g_if_ne X dX8_holds_15 (tgt := 21) (by decide) (fun q => absurd (by decide) q) (fun _ => ?_)
      refine g_bipush X dX8_holds_18 (v := -2) (by decide) ?_
      exact g_iret X hrt dX8_holds_20 (by decide) (by decide) ⟨C, D, F, I, K, trivial⟩
    · skip
      rw [Jvm.Kit.i64_of_i32] at hl5a hl5b
      obtain ⟨n6, hn6a, hn6b, en6⟩ := nI_ofInt (x := p1) (lo := 0) (hi := 15) (by omega) (by omega) (by decide)
      subst en6
      refine g_if_ne X dX8_holds_15 (tgt := 21) (by decide) (fun _ => ?_) (fun q => absurd q (by decide))
      refine g_aload_n X dX8_holds_21 rfl (j := 0) rfl ?_
      refine g_sipush X dX8_holds_22 (v := 10000) (by decide) ?_
      refine g_bipush X dX8_holds_25 (v := 100) (by decide) ?_
      refine g_iload_n X dX8_holds_27 rfl (j := 1) rfl ?_
      refine g_imul X dX8_holds_28 ?_
      refine Go.top (v := .int (nI (100 * n3))) (congrArg Value.int (pk_mul 100 n3)) ?_
      refine g_iadd X dX8_holds_29 ?_
      refine Go.top (v := .int (nI (10000 + (100 * n3)))) (congrArg Value.int (nI_add 10000 (100 * n3))) ?_
      refine g_iload_n X dX8_holds_30 rfl (j := 2) rfl ?_
      refine g_iadd X dX8_holds_31 ?_
      refine Go.top (v := .int (nI ((10000 + (100 * n3)) + n6))) (congrArg Value.int (nI_add (10000 + (100 * n3)) n6)) ?_
      refine g_callVI X (s_X8_keepAct l G F I ((10000 + (100 * n3)) + n6) (by omega) (by omega) (by omega)) lk_X8_476 (F.1 100 rfl).2 (F.1 100 rfl).1 rfl rfl dX8_holds_32 (Nat.le_of_ble_eq_true rfl) ⟨by decide, by decide⟩ ⟨by decide, by decide⟩ (fun r7 L M hp => ?_)
      obtain ⟨C, D, F, I, K1, hr⟩ := hp
      have K := K.step K1 (by decide)
      rcases hr with rfl | rfl
      · skip
        refine g_if_eq X dX8_holds_35 (tgt := 50) (by decide) (fun _ => ?_) (fun q => absurd (by decide) q)
        refine g_bipush X dX8_holds_50 (v := -5) (by decide) ?_
        exact g_iret X hrt dX8_holds_52 (by decide) (by decide) ⟨C, D, F, I, K, trivial⟩
      · skip
        refine g_if_eq X dX8_holds_35 (tgt := 50) (by decide) (fun q => absurd q (by decide)) (fun _ => ?_)
        refine g_aload_n X dX8_holds_38 rfl (j := 0) rfl ?_
        refine g_iload_n X dX8_holds_39 rfl (j := 1) rfl ?_
        refine g_aload_n X dX8_holds_40 rfl (j := 0) rfl ?_
        refine g_callVI X (s_X8_hours l G F I  ) lk_X8_106 (F.1 100 rfl).2 (F.1 100 rfl).1 rfl rfl dX8_holds_41 (Nat.le_of_ble_eq_true rfl) ⟨by decide, by decide⟩ ⟨by decide, by decide⟩ (fun r8 L M hp => ?_)
        obtain ⟨C, D, F, I, K1, hr⟩ := hp
        have K := K.step K1 (by decide)
        obtain ⟨n9, hn9, en9, rfl⟩ := hr
        refine g_callVI X (s_X8_placeOf l G F I n3 (by omega) (by omega) n9 (by omega) (by omega) ) lk_X8_298 (F.1 100 rfl).2 (F.1 100 rfl).1 rfl rfl dX8_holds_44 (Nat.le_of_ble_eq_true rfl) ⟨by decide, by decide⟩ ⟨by decide, by decide⟩ (fun r10 L M hp => ?_)
        obtain ⟨C, D, F, I, K1, hr⟩ := hp
        have K := K.step K1 (by decide)
        rcases okp_nat hr with rfl | ⟨n11, hn11, rfl⟩
        · skip
          refine g_goto X dX8_holds_47 (tgt := 52) (by decide) ?_
          exact g_iret X hrt dX8_holds_52 (by decide) (by decide) ⟨C, D, F, I, K, trivial⟩
        · skip
          refine g_goto X dX8_holds_47 (tgt := 52) (by decide) ?_
          exact g_iret X hrt dX8_holds_52 (by decide) (by decide) ⟨C, D, F, I, K, trivial⟩
set_option maxHeartbeats 4000000 in
set_option maxRecDepth 100000 in
theorem s_X8_undo (l : Launch) (G : va_G) {cy : Nat → ClassId} {L : List Nat} {M : Nat → va_E} {a : Nat → Nat} {act : Nat → Bool} {C0 : Nat → Nat → Int32} {D0 : Nat → Nat → Int64} {R : Nat → Nat → Option Nat} (F : WI L M a act (ent cy a C0 D0 R)) (I : Inv C0)   : MI l G cy yX8_undo cX8_undo 1 (some .int) 1 0 0 [.ref (a 100)] L M (fun r L2 M2 => ∃ C2 D2, WI L2 M2 a act (ent cy a C2 D2 R) ∧ Inv C2 ∧ Kp [101] C0 D0 C2 D2 ∧ True) := by
  refine MI.of (own := RX8) rfl (by decide) (Nat.le_of_ble_eq_true rfl) ?_
  intro p e s m below meth c A X hrt hnm
  obtain ⟨C, D, hC0, hD0, F, I, K⟩ : ∃ C D, C = C0 ∧ D = D0 ∧ WI L M a act (ent cy a C D R) ∧ Inv C ∧ Kp [101] C0 D0 C D := ⟨C0, D0, rfl, rfl, F, I, Kp.rf⟩
  refine g_aload_n X dX8_undo_0 rfl (j := 0) rfl ?_
  refine g_callVI X (s_X8_isHeath l G F I  ) lk_X8_102 (F.1 100 rfl).2 (F.1 100 rfl).1 rfl rfl dX8_undo_1 (Nat.le_of_ble_eq_true rfl) ⟨by decide, by decide⟩ ⟨by decide, by decide⟩ (fun r1 L M hp => ?_)
  obtain ⟨C, D, F, I, K1, hr⟩ := hp
  have K := K.step K1 (by decide)
  rcases hr with rfl | rfl
  · skip
    refine g_if_ne X dX8_undo_4 (tgt := 10) (by decide) (fun q => absurd (by decide) q) (fun _ => ?_)
    refine g_bipush X dX8_undo_7 (v := -2) (by decide) ?_
    exact g_iret X hrt dX8_undo_9 (by decide) (by decide) ⟨C, D, F, I, K, trivial⟩
  · skip
    refine g_if_ne X dX8_undo_4 (tgt := 10) (by decide) (fun _ => ?_) (fun q => absurd q (by decide))
    refine g_aload_n X dX8_undo_10 rfl (j := 0) rfl ?_
    refine i_get X F 100 rfl rfl fk_X8_9 dX8_undo_11 rfl ?_
    refine g_bipush X dX8_undo_14 (v := 8) (by decide) ?_
    obtain ⟨n2, hn2, en2⟩ := rg_nat ((show okw (8) (C 101 (8)) from I 101 (8)).2.2.2.2.2.1 rfl) (by decide)
    refine i_iald X F 101 rfl rfl dX8_undo_16 (vp_in_iff.mpr (by decide)) (v := nI n2) (by exact en2) ?_
    refine g_if_ne X dX8_undo_17 (tgt := 23) (by decide) (fun q3 => ?_) (fun q3 => ?_)
    · skip
      have q3 : ¬ n2 = 0 := fun z => q3 ((nI_eq (a := n2) (b := 0) (by omega) (by omega)).mpr z)
      refine g_aload_n X dX8_undo_23 rfl (j := 0) rfl ?_
      refine i_get X F 100 rfl rfl fk_X8_9 dX8_undo_24 rfl ?_
      refine g_bipush X dX8_undo_27 (v := 8) (by decide) ?_
      refine g_dup2 X dX8_undo_29 rfl rfl ?_
      obtain ⟨n4, hn4, en4⟩ := rg_nat ((show okw (8) (C 101 (8)) from I 101 (8)).2.2.2.2.2.1 rfl) (by decide)
      refine i_iald X F 101 rfl rfl dX8_undo_30 (vp_in_iff.mpr (by decide)) (v := nI n4) (by exact en4) ?_
      obtain rfl : n2 = n4 := ((nI_eq (by omega) (by omega)).mp (en4.symm.trans en2)).symm
      refine g_iconst X dX8_undo_31 (v := 1) (by decide) ?_
      refine g_isub X dX8_undo_32 ?_
      refine Go.top (v := .int (nI (n2 - 1))) (congrArg Value.int (pk_sub (a := n2) (b := 1) (by omega))) ?_
      refine i_iast X F I 101 rfl (fun _ => rfl) dX8_undo_33 (vp_in_iff.mpr (by decide)) (by show okw (8) (nI (n2 - 1)); exact ⟨fun h => by exfalso; omega, fun h => by exfalso; omega, fun h => by exfalso; omega, fun h => by exfalso; omega, fun h => by exfalso; omega, fun _ => (rg_of (n := (n2 - 1)) (by omega) (by omega) (by omega)), fun a1 a2 a3 => by exfalso; omega, fun a1 a2 a3 => by exfalso; omega, fun a1 a2 a3 a4 => by exfalso; omega, fun a1 a2 a3 => by exfalso; omega, fun a1 a2 => by exfalso; omega⟩) (fun M C F I K1 hC => ?_)
      have K := K.step K1 (by decide)
      refine g_aload_n X dX8_undo_34 rfl (j := 0) rfl ?_
      refine i_get X F 100 rfl rfl fk_X8_9 dX8_undo_35 rfl ?_
      refine g_bipush X dX8_undo_38 (v := 8) (by decide) ?_
      obtain ⟨n5, hn5, en5⟩ := rg_nat ((show okw (8) (C 101 (8)) from I 101 (8)).2.2.2.2.2.1 rfl) (by decide)
      refine i_iald X F 101 rfl rfl dX8_undo_40 (vp_in_iff.mpr (by decide)) (v := nI n5) (by exact en5) ?_
      exact g_iret X hrt dX8_undo_41 (by decide) (by decide) ⟨C, D, F, I, K, trivial⟩
    · skip
      have q3 : n2 = 0 := (nI_eq (a := n2) (b := 0) (by omega) (by omega)).mp q3
      refine g_bipush X dX8_undo_20 (v := -5) (by decide) ?_
      exact g_iret X hrt dX8_undo_22 (by decide) (by decide) ⟨C, D, F, I, K, trivial⟩
set_option maxHeartbeats 4000000 in
set_option maxRecDepth 100000 in
theorem s_X8_anew (l : Launch) (G : va_G) {cy : Nat → ClassId} {L : List Nat} {M : Nat → va_E} {a : Nat → Nat} {act : Nat → Bool} {C0 : Nat → Nat → Int32} {D0 : Nat → Nat → Int64} {R : Nat → Nat → Option Nat} (F : WI L M a act (ent cy a C0 D0 R)) (I : Inv C0)   : MI l G cy yX8_anew cX8_anew 2 (some .int) 1 0 0 [.ref (a 100)] L M (fun r L2 M2 => ∃ C2 D2, WI L2 M2 a act (ent cy a C2 D2 R) ∧ Inv C2 ∧ Kp [101] C0 D0 C2 D2 ∧ True) := by
  refine MI.of (own := RX8) rfl (by decide) (Nat.le_of_ble_eq_true rfl) ?_
  intro p e s m below meth c A X hrt hnm
  obtain ⟨C, D, hC0, hD0, F, I, K⟩ : ∃ C D, C = C0 ∧ D = D0 ∧ WI L M a act (ent cy a C D R) ∧ Inv C ∧ Kp [101] C0 D0 C D := ⟨C0, D0, rfl, rfl, F, I, Kp.rf⟩
  refine g_aload_n X dX8_anew_0 rfl (j := 0) rfl ?_
  refine g_callVI X (s_X8_isHeath l G F I  ) lk_X8_102 (F.1 100 rfl).2 (F.1 100 rfl).1 rfl rfl dX8_anew_1 (Nat.le_of_ble_eq_true rfl) ⟨by decide, by decide⟩ ⟨by decide, by decide⟩ (fun r1 L M hp => ?_)
  obtain ⟨C, D, F, I, K1, hr⟩ := hp
  have K := K.step K1 (by decide)
  rcases hr with rfl | rfl
  · skip
    refine g_if_ne X dX8_anew_4 (tgt := 10) (by decide) (fun q => absurd (by decide) q) (fun _ => ?_)
    refine g_bipush X dX8_anew_7 (v := -2) (by decide) ?_
    exact g_iret X hrt dX8_anew_9 (by decide) (by decide) ⟨C, D, F, I, K, trivial⟩
  · skip
    refine g_if_ne X dX8_anew_4 (tgt := 10) (by decide) (fun _ => ?_) (fun q => absurd q (by decide))
    refine g_aload_n X dX8_anew_10 rfl (j := 0) rfl ?_
    refine i_get X F 100 rfl rfl fk_X8_9 dX8_anew_11 rfl ?_
    refine g_bipush X dX8_anew_14 (v := 8) (by decide) ?_
    obtain ⟨n2, hn2, en2⟩ := rg_nat ((show okw (8) (C 101 (8)) from I 101 (8)).2.2.2.2.2.1 rfl) (by decide)
    refine i_iald X F 101 rfl rfl dX8_anew_16 (vp_in_iff.mpr (by decide)) (v := nI n2) (by exact en2) ?_
    refine g_istore_n X dX8_anew_17 rfl (by decide) (lv2 := [(1, .int (nI n2)), (0, .ref (a 100))]) rfl ?_
    refine g_aload_n X dX8_anew_18 rfl (j := 1) rfl ?_
    refine i_get X F 100 rfl rfl fk_X8_9 dX8_anew_19 rfl ?_
    refine g_bipush X dX8_anew_22 (v := 8) (by decide) ?_
    refine g_iconst X dX8_anew_24 (v := 0) (by decide) ?_
    refine i_iast X F I 101 rfl (fun _ => rfl) dX8_anew_25 (vp_in_iff.mpr (by decide)) (by exact okw_0 _) (fun M C F I K1 hC => ?_)
    have K := K.step K1 (by decide)
    refine g_iload_n X dX8_anew_26 rfl (j := 0) rfl ?_
    exact g_iret X hrt dX8_anew_27 (by decide) (by decide) ⟨C, D, F, I, K, trivial⟩
set_option maxHeartbeats 4000000 in
set_option maxRecDepth 100000 in
theorem s_X8_goDrawn (l : Launch) (G : va_G) {cy : Nat → ClassId} {L : List Nat} {M : Nat → va_E} {a : Nat → Nat} {act : Nat → Bool} {C0 : Nat → Nat → Int32} {D0 : Nat → Nat → Int64} {R : Nat → Nat → Option Nat} (F : WI L M a act (ent cy a C0 D0 R)) (I : Inv C0) (p0 : Int64)  : MV l G cy yX8_goDrawn cX8_goDrawn 6 none 6 0 0 [.ref (a 100), .long p0] L M (fun L2 M2 => ∃ C2 D2, WI L2 M2 a act (ent cy a C2 D2 R) ∧ Inv C2 ∧ Kp [100, 115, 116, 120, 121, 122, 123, 124, 125, 126, 127, 128] C0 D0 C2 D2 ∧ True) := by
  refine MV.of (own := RX8) rfl (by decide) (Nat.le_of_ble_eq_true rfl) ?_
  intro p e s m below meth c A X hrt hnm
  obtain ⟨C, D, hC0, hD0, F, I, K⟩ : ∃ C D, C = C0 ∧ D = D0 ∧ WI L M a act (ent cy a C D R) ∧ Inv C ∧ Kp [100, 115, 116, 120, 121, 122, 123, 124, 125, 126, 127, 128] C0 D0 C D := ⟨C0, D0, rfl, rfl, F, I, Kp.rf⟩
  obtain ⟨n1, hn1, en1⟩ := rg_nat ((show okw 0 (C 101 0) from I 101 0).1 rfl) (by decide)
  rw [hC0] at en1
  obtain ⟨n2, hn2, en2⟩ := rg_nat ((show okw 4 (C 101 4) from I 101 4).2.2.2.1 rfl) (by decide)
  rw [hC0] at en2
  obtain ⟨n3, hn3, en3⟩ := rg_nat ((show okw 7 (C 101 7) from I 101 7).2.2.2.2.1 rfl) (by decide)
  rw [hC0] at en3
  refine g_aload_n X dX8_goDrawn_0 rfl (j := 0) rfl ?_
  refine g_callVV X (s_X8_asItIs l G F I  ) lk_X8_286 (F.1 100 rfl).2 (F.1 100 rfl).1 rfl rfl dX8_goDrawn_1 (Nat.le_of_ble_eq_true rfl) ⟨by decide, by decide⟩ ⟨by decide, by decide⟩ (fun L M hp => ?_)
  obtain ⟨C, D, F, I, K1, hr⟩ := hp
  have K := K.step K1 (by decide)
  refine g_lload_n X dX8_goDrawn_4 rfl (j := 1) rfl ?_
  refine g_lstore_n X dX8_goDrawn_5 rfl (by decide) (lv2 := [(3, .long p0), (0, .ref (a 100)), (1, .long p0)]) rfl ?_
  refine g_iconst X dX8_goDrawn_6 (v := 0) (by decide) ?_
  refine g_istore X dX8_goDrawn_7 (by decide) (lv2 := [(5, .int 0), (3, .long p0), (0, .ref (a 100)), (1, .long p0)]) rfl ?_
  refine g_lv [0, 1, 2, 3] (lv2 := [(5, .int 0), (3, .long p0), (0, .ref (a 100)), (1, .long p0)]) rfl ?_
  refine i_loop (mods := [100, 115, 116, 120, 121, 122, 123, 124, 125, 126, 127, 128]) (fun x : Nat × Int64 => 16 - x.1) (fun x => [(5, .int (nI (x.1))), (3, .long (x.2)), (0, .ref (a 100)), (1, .long p0)]) (fun x C => 0 ≤ x.1 ∧ x.1 ≤ 16) (fun x L M C D F I K hP ih9 => ?_) ((0, p0) : Nat × Int64) F I K ⟨by show _ ≤ _; omega, by show _ ≤ _; omega⟩
  rcases x with ⟨i9_5, v9_3⟩
  obtain ⟨hi9_5a, hi9_5b⟩ := hP
  refine g_lv [0, 1, 2, 3] (lv2 := [(5, .int (nI i9_5)), (3, .long v9_3), (0, .ref (a 100)), (1, .long p0)]) rfl ?_
  refine g_iload X dX8_goDrawn_9 (j := 0) rfl ?_
  refine g_aload_n X dX8_goDrawn_11 rfl (j := 2) rfl ?_
  refine g_callVI X (s_X8_hours l G F I  ) lk_X8_106 (F.1 100 rfl).2 (F.1 100 rfl).1 rfl rfl dX8_goDrawn_12 (Nat.le_of_ble_eq_true rfl) ⟨by decide, by decide⟩ ⟨by decide, by decide⟩ (fun r4 L M hp => ?_)
  obtain ⟨C, D, F, I, K1, hr⟩ := hp
  have K := K.step K1 (by decide)
  obtain ⟨n5, hn5, en5, rfl⟩ := hr
  obtain rfl : n1 = n5 := ((nI_eq (by omega) (by omega)).mp (en5.symm.trans ((congrFun (K 101 (by decide)).1 0).trans en1))).symm
  refine g_icmp_ge X dX8_goDrawn_15 (tgt := 75) (by decide) (fun q6 => ?_) (fun q6 => ?_)
  · skip
    have q6 : n1 ≤ i9_5 := (nI_leI (a := n1) (b := i9_5) (by omega) (by omega)).mp q6
    refine g_aload_n X dX8_goDrawn_75 rfl (j := 2) rfl ?_
    refine g_callVV X (s_X8_goAll l G F I  ) lk_X8_289 (F.1 100 rfl).2 (F.1 100 rfl).1 rfl rfl dX8_goDrawn_76 (Nat.le_of_ble_eq_true rfl) ⟨by decide, by decide⟩ ⟨by decide, by decide⟩ (fun L M hp => ?_)
    obtain ⟨C, D, F, I, K1, hr⟩ := hp
    have K := K.step K1 (by decide)
    exact g_vret X hrt dX8_goDrawn_79 (by decide) (by decide) ⟨C, D, F, I, K, trivial⟩
  · skip
    have q6 : ¬ n1 ≤ i9_5 := fun z => q6 ((nI_leI (a := n1) (b := i9_5) (by omega) (by omega)).mpr z)
    refine g_ldc2 X (v := 1103515245) wd893 dX8_goDrawn_18 ?_
    refine g_lload_n X dX8_goDrawn_21 rfl (j := 1) rfl ?_
    refine g_lmul X dX8_goDrawn_22 ?_
    refine Go.genL (fun o7 => ?_)
    refine g_ldc2 X (v := 12345) wd894 dX8_goDrawn_23 ?_
    refine g_ladd X dX8_goDrawn_26 ?_
    refine Go.genL (fun o8 => ?_)
    refine g_ldc2 X (v := 2147483648) wd895 dX8_goDrawn_27 ?_
    refine g_lrem X dX8_goDrawn_30 (by decide) ?_
    refine Go.genL (fun o9 => ?_)
    refine g_lstore_n X dX8_goDrawn_31 rfl (by decide) (lv2 := [(3, .long o9), (5, .int (nI i9_5)), (0, .ref (a 100)), (1, .long p0)]) rfl ?_
    refine g_aload_n X dX8_goDrawn_32 rfl (j := 2) rfl ?_
    refine g_dup X dX8_goDrawn_33 rfl ?_
    refine i_get X F 100 rfl rfl fk_X8_260 dX8_goDrawn_34 rfl ?_
    refine Go.gen (fun o10 => ?_)
    refine g_lload_n X dX8_goDrawn_37 rfl (j := 0) rfl ?_
    refine g_ldc2 X (v := 65536) wd896 dX8_goDrawn_38 ?_
    refine g_ldiv X dX8_goDrawn_41 (by decide) ?_
    refine Go.genL (fun o11 => ?_)
    refine g_ldc2 X (v := 10) wd670 dX8_goDrawn_42 ?_
    refine g_lrem X dX8_goDrawn_45 (by decide) ?_
    refine Go.genL (fun o12 => ?_)
    refine g_aload_n X dX8_goDrawn_46 rfl (j := 2) rfl ?_
    refine i_get X F 100 rfl rfl fk_X8_9 dX8_goDrawn_47 rfl ?_
    refine g_iconst X dX8_goDrawn_50 (v := 2) (by decide) ?_
    obtain ⟨n13, hn13, en13⟩ := rg_nat ((show okw (2) (C 101 (2)) from I 101 (2)).2.1 rfl) (by decide)
    refine i_iald X F 101 rfl rfl dX8_goDrawn_51 (vp_in_iff.mpr (by decide)) (v := nI n13) (by exact en13) ?_
    refine g_i2l X dX8_goDrawn_52 rfl ?_
    refine g_lcmp X dX8_goDrawn_53 ?_
    refine g_if_ge X dX8_goDrawn_54 (tgt := 64) (by decide) (fun q14 => ?_) (fun q14 => ?_)
    · skip
      have q14t : ((Int32.toInt64 (nI n13))).toInt ≤ o12.toInt := Int64.le_iff_toInt_le.mp ((lg_cmp_ge _ _).mp q14)
      have q14wb := Jvm.Kit.i64_of_i32 (nI n13)
      rw [nI_toInt (by omega)] at q14wb
      refine g_iconst X dX8_goDrawn_64 (v := 0) (by decide) ?_
      refine g_ior X dX8_goDrawn_65 ?_
      refine Go.gen (fun o15 => ?_)
      refine i_put X F I 100 rfl rfl rfl fk_X8_260 dX8_goDrawn_66 rfl rfl (Nat.le_of_ble_eq_true rfl) (fun h => absurd h (by decide)) (fun M C F I K1 hC => ?_)
      have K := K.step K1 (by decide)
      refine g_iinc X dX8_goDrawn_69 (j := 1) rfl (v := nI (i9_5 + 1)) (nI_1 i9_5) (by decide) (lv2 := [(5, .int (nI (i9_5 + 1))), (3, .long o9), (0, .ref (a 100)), (1, .long p0)]) rfl ?_
      refine g_goto X dX8_goDrawn_72 (tgt := 9) (by decide) ?_
      refine g_lv [0, 1, 2, 3] (lv2 := [(5, .int (nI (i9_5 + 1))), (3, .long o9), (0, .ref (a 100)), (1, .long p0)]) rfl ?_
      exact ih9 ((i9_5 + 1), o9) L M C D F I K ⟨by omega, by omega⟩ (by show _ < _; omega)
    · skip
      have q14t : ¬ ((Int32.toInt64 (nI n13))).toInt ≤ o12.toInt := fun z => q14 ((lg_cmp_ge _ _).mpr (Int64.le_iff_toInt_le.mpr z))
      have q14wb := Jvm.Kit.i64_of_i32 (nI n13)
      rw [nI_toInt (by omega)] at q14wb
      refine g_iconst X dX8_goDrawn_57 (v := 1) (by decide) ?_
      refine g_iload X dX8_goDrawn_58 (j := 1) rfl ?_
      refine g_ishl X dX8_goDrawn_60 ?_
      refine Go.gen (fun o16 => ?_)
      refine g_goto X dX8_goDrawn_61 (tgt := 65) (by decide) ?_
      refine g_ior X dX8_goDrawn_65 ?_
      refine Go.gen (fun o17 => ?_)
      refine i_put X F I 100 rfl rfl rfl fk_X8_260 dX8_goDrawn_66 rfl rfl (Nat.le_of_ble_eq_true rfl) (fun h => absurd h (by decide)) (fun M C F I K1 hC => ?_)
      have K := K.step K1 (by decide)
      refine g_iinc X dX8_goDrawn_69 (j := 1) rfl (v := nI (i9_5 + 1)) (nI_1 i9_5) (by decide) (lv2 := [(5, .int (nI (i9_5 + 1))), (3, .long o9), (0, .ref (a 100)), (1, .long p0)]) rfl ?_
      refine g_goto X dX8_goDrawn_72 (tgt := 9) (by decide) ?_
      refine g_lv [0, 1, 2, 3] (lv2 := [(5, .int (nI (i9_5 + 1))), (3, .long o9), (0, .ref (a 100)), (1, .long p0)]) rfl ?_
      exact ih9 ((i9_5 + 1), o9) L M C D F I K ⟨by omega, by omega⟩ (by show _ < _; omega)
set_option maxHeartbeats 4000000 in
set_option maxRecDepth 100000 in
theorem s_X8_isSeed (l : Launch) (G : va_G) {cy : Nat → ClassId} {L : List Nat} {M : Nat → va_E} {a : Nat → Nat} {act : Nat → Bool} {C0 : Nat → Nat → Int32} {D0 : Nat → Nat → Int64} {R : Nat → Nat → Option Nat} (F : WI L M a act (ent cy a C0 D0 R)) (I : Inv C0) (p0 : Int32)  : MI l G cy yX8_isSeed cX8_isSeed 1 (some .boolean) 1 0 0 [.int p0] L M (fun r L2 M2 => ∃ C2 D2, WI L2 M2 a act (ent cy a C2 D2 R) ∧ Inv C2 ∧ Kp [] C0 D0 C2 D2 ∧ (r = 0 ∨ r = 1)) := by
  refine MI.of (own := RX8) rfl (by decide) (Nat.le_of_ble_eq_true rfl) ?_
  intro p e s m below meth c A X hrt hnm
  obtain ⟨C, D, hC0, hD0, F, I, K⟩ : ∃ C D, C = C0 ∧ D = D0 ∧ WI L M a act (ent cy a C D R) ∧ Inv C ∧ Kp [] C0 D0 C D := ⟨C0, D0, rfl, rfl, F, I, Kp.rf⟩
  refine g_iload_n X dX8_isSeed_0 rfl (j := 0) rfl ?_
  refine g_i2l X dX8_isSeed_1 rfl ?_
  refine g_lconst X dX8_isSeed_2 (v := 0) (by decide) ?_
  refine g_ldc2 X (v := 2000000000) wd897 dX8_isSeed_3 ?_
  refine g_callSI X (s_X8_in l G F I ((Int32.toInt64 p0)) (0 : Int64) (2000000000 : Int64) ) lk_X8_94 rfl rfl dX8_isSeed_6 (Nat.le_of_ble_eq_true rfl) ⟨by decide, by decide⟩ ⟨by decide, by decide⟩ (fun r1 L M hp => ?_)
  obtain ⟨C, D, F, I, K1, hr⟩ := hp
  have K := K.step K1 (by decide)
  rcases hr with ⟨rfl, hq2⟩ | ⟨rfl, hq2⟩
  · skip
    have hq2x := Jvm.Kit.i64_of_i32 p0
    have hq2l : (0 : Int64).toInt = 0 := (by decide)
    have hq2h : (2000000000 : Int64).toInt = 2000000000 := (by decide)
    exact g_zret X hrt rfl dX8_isSeed_9 (by decide) (by decide) ⟨C, D, F, I, K, Or.inl rfl⟩
  · skip
    have hq2x := Jvm.Kit.i64_of_i32 p0
    have hq2l : (0 : Int64).toInt = 0 := (by decide)
    have hq2h : (2000000000 : Int64).toInt = 2000000000 := (by decide)
    obtain ⟨n3, hn3a, hn3b, en3⟩ := nI_ofInt (x := p0) (lo := 0) (hi := 2000000000) (by omega) (by omega) (by decide)
    subst en3
    have tn3 := nI_toInt (n := n3) (by omega)
    exact g_zret X hrt rfl dX8_isSeed_9 (by decide) (by decide) ⟨C, D, F, I, K, Or.inr rfl⟩
set_option maxHeartbeats 4000000 in
set_option maxRecDepth 100000 in
theorem s_X8_drawn (l : Launch) (G : va_G) {cy : Nat → ClassId} {L : List Nat} {M : Nat → va_E} {a : Nat → Nat} {act : Nat → Bool} {C0 : Nat → Nat → Int32} {D0 : Nat → Nat → Int64} {R : Nat → Nat → Option Nat} (F : WI L M a act (ent cy a C0 D0 R)) (I : Inv C0) (p0 : Int32) (p1 : Int32)  : MI l G cy yX8_drawn cX8_drawn 3 (some .int) 7 0 0 [.ref (a 100), .int p0, .int p1] L M (fun r L2 M2 => ∃ C2 D2, WI L2 M2 a act (ent cy a C2 D2 R) ∧ Inv C2 ∧ Kp [100, 115, 116, 120, 121, 122, 123, 124, 125, 126, 127, 128] C0 D0 C2 D2 ∧ True) := by
  refine MI.of (own := RX8) rfl (by decide) (Nat.le_of_ble_eq_true rfl) ?_
  intro p e s m below meth c A X hrt hnm
  obtain ⟨C, D, hC0, hD0, F, I, K⟩ : ∃ C D, C = C0 ∧ D = D0 ∧ WI L M a act (ent cy a C D R) ∧ Inv C ∧ Kp [100, 115, 116, 120, 121, 122, 123, 124, 125, 126, 127, 128] C0 D0 C D := ⟨C0, D0, rfl, rfl, F, I, Kp.rf⟩
  obtain ⟨n1, hn1, en1⟩ := rg_nat ((show okw 0 (C 101 0) from I 101 0).1 rfl) (by decide)
  rw [hC0] at en1
  obtain ⟨n2, hn2, en2⟩ := rg_nat ((show okw 4 (C 101 4) from I 101 4).2.2.2.1 rfl) (by decide)
  rw [hC0] at en2
  obtain ⟨n3, hn3, en3⟩ := rg_nat ((show okw 7 (C 101 7) from I 101 7).2.2.2.2.1 rfl) (by decide)
  rw [hC0] at en3
  refine g_aload_n X dX8_drawn_0 rfl (j := 0) rfl ?_
  refine g_callVI X (s_X8_isHeath l G F I  ) lk_X8_102 (F.1 100 rfl).2 (F.1 100 rfl).1 rfl rfl dX8_drawn_1 (Nat.le_of_ble_eq_true rfl) ⟨by decide, by decide⟩ ⟨by decide, by decide⟩ (fun r4 L M hp => ?_)
  obtain ⟨C, D, F, I, K1, hr⟩ := hp
  have K := K.step K1 (by decide)
  rcases hr with rfl | rfl
  · skip
    refine g_if_eq X dX8_drawn_4 (tgt := 24) (by decide) (fun _ => ?_) (fun q => absurd (by decide) q)
    refine g_bipush X dX8_drawn_24 (v := -2) (by decide) ?_
    exact g_iret X hrt dX8_drawn_26 (by decide) (by decide) ⟨C, D, F, I, K, trivial⟩
  · skip
    refine g_if_eq X dX8_drawn_4 (tgt := 24) (by decide) (fun q => absurd q (by decide)) (fun _ => ?_)
    refine g_iload_n X dX8_drawn_7 rfl (j := 1) rfl ?_
    refine g_callSI X (s_X8_isSeed l G F I p0 ) lk_X8_489 rfl rfl dX8_drawn_8 (Nat.le_of_ble_eq_true rfl) ⟨by decide, by decide⟩ ⟨by decide, by decide⟩ (fun r5 L M hp => ?_)
    obtain ⟨C, D, F, I, K1, hr⟩ := hp
    have K := K.step K1 (by decide)
    rcases hr with rfl | rfl
    · skip
      refine g_if_eq X dX8_drawn_11 (tgt := 24) (by decide) (fun _ => ?_) (fun q => absurd (by decide) q)
      refine g_bipush X dX8_drawn_24 (v := -2) (by decide) ?_
      exact g_iret X hrt dX8_drawn_26 (by decide) (by decide) ⟨C, D, F, I, K, trivial⟩
    · skip
      refine g_if_eq X dX8_drawn_11 (tgt := 24) (by decide) (fun q => absurd q (by decide)) (fun _ => ?_)
      refine g_iload_n X dX8_drawn_14 rfl (j := 2) rfl ?_
      refine g_i2l X dX8_drawn_15 rfl ?_
      refine g_lconst X dX8_drawn_16 (v := 0) (by decide) ?_
      refine g_lconst X dX8_drawn_17 (v := 1) (by decide) ?_
      refine g_callSI X (s_X8_in l G F I ((Int32.toInt64 p1)) (0 : Int64) (1 : Int64) ) lk_X8_94 rfl rfl dX8_drawn_18 (Nat.le_of_ble_eq_true rfl) ⟨by decide, by decide⟩ ⟨by decide, by decide⟩ (fun r6 L M hp => ?_)
      obtain ⟨C, D, F, I, K1, hr⟩ := hp
      have K := K.step K1 (by decide)
      rcases hr with ⟨rfl, hq7⟩ | ⟨rfl, hq7⟩
      · skip
        have hq7x := Jvm.Kit.i64_of_i32 p1
        have hq7l : (0 : Int64).toInt = 0 := (by decide)
        have hq7h : (1 : Int64).toInt = 1 := (by decide)
        refine g_if_ne X dX8_drawn_21 (tgt := 27) (by decide) (fun q => absurd (by decide) q) (fun _ => ?_)
        refine g_bipush X dX8_drawn_24 (v := -2) (by decide) ?_
        exact g_iret X hrt dX8_drawn_26 (by decide) (by decide) ⟨C, D, F, I, K, trivial⟩
      · skip
        have hq7x := Jvm.Kit.i64_of_i32 p1
        have hq7l : (0 : Int64).toInt = 0 := (by decide)
        have hq7h : (1 : Int64).toInt = 1 := (by decide)
        obtain ⟨n8, hn8a, hn8b, en8⟩ := nI_ofInt (x := p1) (lo := 0) (hi := 1) (by omega) (by omega) (by decide)
        subst en8
        have tn8 := nI_toInt (n := n8) (by omega)
        refine g_if_ne X dX8_drawn_21 (tgt := 27) (by decide) (fun _ => ?_) (fun q => absurd q (by decide))
        refine g_aload_n X dX8_drawn_27 rfl (j := 0) rfl ?_
        refine g_iload_n X dX8_drawn_28 rfl (j := 1) rfl ?_
        refine g_i2l X dX8_drawn_29 rfl ?_
        refine g_callVV X (s_X8_goDrawn l G F I ((Int32.toInt64 p0)) ) lk_X8_492 (F.1 100 rfl).2 (F.1 100 rfl).1 rfl rfl dX8_drawn_30 (Nat.le_of_ble_eq_true rfl) ⟨by decide, by decide⟩ ⟨by decide, by decide⟩ (fun L M hp => ?_)
        obtain ⟨C, D, F, I, K1, hr⟩ := hp
        have K := K.step K1 (by decide)
        refine g_iload_n X dX8_drawn_33 rfl (j := 2) rfl ?_
        refine g_if_ne X dX8_drawn_34 (tgt := 44) (by decide) (fun q9 => ?_) (fun q9 => ?_)
        · skip
          have q9 : ¬ n8 = 0 := fun z => q9 ((nI_eq (a := n8) (b := 0) (by omega) (by omega)).mpr z)
          refine g_aload_n X dX8_drawn_44 rfl (j := 0) rfl ?_
          refine g_callVI X (s_X8_insideLast l G F I  ) lk_X8_391 (F.1 100 rfl).2 (F.1 100 rfl).1 rfl rfl dX8_drawn_45 (Nat.le_of_ble_eq_true rfl) ⟨by decide, by decide⟩ ⟨by decide, by decide⟩ (fun r10 L M hp => ?_)
          obtain ⟨C, D, F, I, K1, hr⟩ := hp
          have K := K.step K1 (by decide)
          exact g_iret X hrt dX8_drawn_48 (by decide) (by decide) ⟨C, D, F, I, K, trivial⟩
        · skip
          have q9 : n8 = 0 := (nI_eq (a := n8) (b := 0) (by omega) (by omega)).mp q9
          refine g_aload_n X dX8_drawn_37 rfl (j := 0) rfl ?_
          refine i_get X F 100 rfl rfl fk_X8_260 dX8_drawn_38 rfl ?_
          refine Go.gen (fun o11 => ?_)
          refine g_goto X dX8_drawn_41 (tgt := 48) (by decide) ?_
          exact g_iret X hrt dX8_drawn_48 (by decide) (by decide) ⟨C, D, F, I, K, trivial⟩
set_option maxHeartbeats 4000000 in
set_option maxRecDepth 100000 in
theorem s_X8_luck (l : Launch) (G : va_G) {cy : Nat → ClassId} {L : List Nat} {M : Nat → va_E} {a : Nat → Nat} {act : Nat → Bool} {C0 : Nat → Nat → Int32} {D0 : Nat → Nat → Int64} {R : Nat → Nat → Option Nat} (F : WI L M a act (ent cy a C0 D0 R)) (I : Inv C0) (p0 : Int32) (p1 : Int32) (p2 : Int32)  : MI l G cy yX8_luck cX8_luck 6 (some .int) 7 0 0 [.ref (a 100), .int p0, .int p1, .int p2] L M (fun r L2 M2 => ∃ C2 D2, WI L2 M2 a act (ent cy a C2 D2 R) ∧ Inv C2 ∧ Kp [100, 115, 116, 120, 121, 122, 123, 124, 125, 126, 127, 128] C0 D0 C2 D2 ∧ True) := by
  refine MI.of (own := RX8) rfl (by decide) (Nat.le_of_ble_eq_true rfl) ?_
  intro p e s m below meth c A X hrt hnm
  obtain ⟨C, D, hC0, hD0, F, I, K⟩ : ∃ C D, C = C0 ∧ D = D0 ∧ WI L M a act (ent cy a C D R) ∧ Inv C ∧ Kp [100, 115, 116, 120, 121, 122, 123, 124, 125, 126, 127, 128] C0 D0 C D := ⟨C0, D0, rfl, rfl, F, I, Kp.rf⟩
  obtain ⟨n1, hn1, en1⟩ := rg_nat ((show okw 0 (C 101 0) from I 101 0).1 rfl) (by decide)
  rw [hC0] at en1
  obtain ⟨n2, hn2, en2⟩ := rg_nat ((show okw 4 (C 101 4) from I 101 4).2.2.2.1 rfl) (by decide)
  rw [hC0] at en2
  obtain ⟨n3, hn3, en3⟩ := rg_nat ((show okw 7 (C 101 7) from I 101 7).2.2.2.2.1 rfl) (by decide)
  rw [hC0] at en3
  refine g_iload_n X dX8_luck_0 rfl (j := 1) rfl ?_
  refine g_callSI X (s_X8_isSeed l G F I p0 ) lk_X8_489 rfl rfl dX8_luck_1 (Nat.le_of_ble_eq_true rfl) ⟨by decide, by decide⟩ ⟨by decide, by decide⟩ (fun r4 L M hp => ?_)
  obtain ⟨C, D, F, I, K1, hr⟩ := hp
  have K := K.step K1 (by decide)
  rcases hr with rfl | rfl
  · skip
    refine g_if_eq X dX8_luck_4 (tgt := 28) (by decide) (fun _ => ?_) (fun q => absurd (by decide) q)
    refine g_bipush X dX8_luck_28 (v := -2) (by decide) ?_
    exact g_iret X hrt dX8_luck_30 (by decide) (by decide) ⟨C, D, F, I, K, trivial⟩
  · skip
    refine g_if_eq X dX8_luck_4 (tgt := 28) (by decide) (fun q => absurd q (by decide)) (fun _ => ?_)
    refine g_iload_n X dX8_luck_7 rfl (j := 2) rfl ?_
    refine g_i2l X dX8_luck_8 rfl ?_
    refine g_lconst X dX8_luck_9 (v := 1) (by decide) ?_
    refine g_ldc2 X (v := 20) wd851 dX8_luck_10 ?_
    refine g_callSI X (s_X8_in l G F I ((Int32.toInt64 p1)) (1 : Int64) (20 : Int64) ) lk_X8_94 rfl rfl dX8_luck_13 (Nat.le_of_ble_eq_true rfl) ⟨by decide, by decide⟩ ⟨by decide, by decide⟩ (fun r5 L M hp => ?_)
    obtain ⟨C, D, F, I, K1, hr⟩ := hp
    have K := K.step K1 (by decide)
    rcases hr with ⟨rfl, hq6⟩ | ⟨rfl, hq6⟩
    · skip
      have hq6x := Jvm.Kit.i64_of_i32 p1
      have hq6l : (1 : Int64).toInt = 1 := (by decide)
      have hq6h : (20 : Int64).toInt = 20 := (by decide)
      refine g_if_eq X dX8_luck_16 (tgt := 28) (by decide) (fun _ => ?_) (fun q => absurd (by decide) q)
      refine g_bipush X dX8_luck_28 (v := -2) (by decide) ?_
      exact g_iret X hrt dX8_luck_30 (by decide) (by decide) ⟨C, D, F, I, K, trivial⟩
    · skip
      have hq6x := Jvm.Kit.i64_of_i32 p1
      have hq6l : (1 : Int64).toInt = 1 := (by decide)
      have hq6h : (20 : Int64).toInt = 20 := (by decide)
      obtain ⟨n7, hn7a, hn7b, en7⟩ := nI_ofInt (x := p1) (lo := 1) (hi := 20) (by omega) (by omega) (by decide)
      subst en7
      have tn7 := nI_toInt (n := n7) (by omega)
      refine g_if_eq X dX8_luck_16 (tgt := 28) (by decide) (fun q => absurd q (by decide)) (fun _ => ?_)
      refine g_aload_n X dX8_luck_19 rfl (j := 0) rfl ?_
      refine g_iload_n X dX8_luck_20 rfl (j := 3) rfl ?_
      refine g_i2l X dX8_luck_21 rfl ?_
      refine g_callVI X (s_X8_isWalker l G F I ((Int32.toInt64 p2)) ) lk_X8_254 (F.1 100 rfl).2 (F.1 100 rfl).1 rfl rfl dX8_luck_22 (Nat.le_of_ble_eq_true rfl) ⟨by decide, by decide⟩ ⟨by decide, by decide⟩ (fun r8 L M hp => ?_)
      obtain ⟨C, D, F, I, K1, hr⟩ := hp
      have K := K.step K1 (by decide)
      rcases hr with rfl | ⟨rfl, hl9a, hl9b⟩
      · skip
        refine g_if_ne X dX8_luck_25 (tgt := 31) (by decide) (fun q => absurd (by decide) q) (fun _ => ?_)
        refine g_bipush X dX8_luck_28 (v := -2) (by decide) ?_
        exact g_iret X hrt dX8_luck_30 (by decide) (by decide) ⟨C, D, F, I, K, trivial⟩
      · skip
        rw [Jvm.Kit.i64_of_i32] at hl9a hl9b
        obtain ⟨n10, hn10a, hn10b, en10⟩ := nI_ofInt (x := p2) (lo := 0) (hi := 7) (by omega) (by omega) (by decide)
        subst en10
        refine g_if_ne X dX8_luck_25 (tgt := 31) (by decide) (fun _ => ?_) (fun q => absurd q (by decide))
        refine g_iconst X dX8_luck_31 (v := 0) (by decide) ?_
        refine g_istore X dX8_luck_32 (by decide) (lv2 := [(4, .int 0), (0, .ref (a 100)), (1, .int p0), (2, .int (nI n7)), (3, .int (nI n10))]) rfl ?_
        refine g_iconst X dX8_luck_34 (v := 0) (by decide) ?_
        refine g_istore X dX8_luck_35 (by decide) (lv2 := [(5, .int 0), (4, .int 0), (0, .ref (a 100)), (1, .int p0), (2, .int (nI n7)), (3, .int (nI n10))]) rfl ?_
        refine g_lv [0, 1, 2, 3, 4, 5] (lv2 := [(5, .int 0), (4, .int 0), (0, .ref (a 100)), (1, .int p0), (2, .int (nI n7)), (3, .int (nI n10))]) rfl ?_
        refine i_loop (mods := [100, 115, 116, 120, 121, 122, 123, 124, 125, 126, 127, 128]) (fun x : Nat × Int32 => 20 - x.1) (fun x => [(5, .int (nI (x.1))), (4, .int (x.2)), (0, .ref (a 100)), (1, .int p0), (2, .int (nI n7)), (3, .int (nI n10))]) (fun x C => 0 ≤ x.1 ∧ x.1 ≤ 20) (fun x L M C D F I K hP ih37 => ?_) ((0, 0) : Nat × Int32) F I K ⟨by show _ ≤ _; omega, by show _ ≤ _; omega⟩
        rcases x with ⟨i37_5, v37_4⟩
        obtain ⟨hi37_5a, hi37_5b⟩ := hP
        refine g_lv [0, 1, 2, 3, 4, 5] (lv2 := [(5, .int (nI i37_5)), (4, .int v37_4), (0, .ref (a 100)), (1, .int p0), (2, .int (nI n7)), (3, .int (nI n10))]) rfl ?_
        refine g_iload X dX8_luck_37 (j := 0) rfl ?_
        refine g_iload_n X dX8_luck_39 rfl (j := 4) rfl ?_
        refine g_icmp_ge X dX8_luck_40 (tgt := 81) (by decide) (fun q11 => ?_) (fun q11 => ?_)
        · skip
          have q11 : n7 ≤ i37_5 := (nI_leI (a := n7) (b := i37_5) (by omega) (by omega)).mp q11
          refine g_iload X dX8_luck_81 (j := 1) rfl ?_
          exact g_iret X hrt dX8_luck_83 (by decide) (by decide) ⟨C, D, F, I, K, trivial⟩
        · skip
          have q11 : ¬ n7 ≤ i37_5 := fun z => q11 ((nI_leI (a := n7) (b := i37_5) (by omega) (by omega)).mpr z)
          refine g_aload_n X dX8_luck_43 rfl (j := 2) rfl ?_
          refine g_iload_n X dX8_luck_44 rfl (j := 3) rfl ?_
          refine g_i2l X dX8_luck_45 rfl ?_
          refine g_iload X dX8_luck_46 (j := 0) rfl ?_
          refine g_i2l X dX8_luck_48 rfl ?_
          refine g_ladd X dX8_luck_49 ?_
          refine Go.genL (fun o12 => ?_)
          refine g_callVV X (s_X8_goDrawn l G F I o12 ) lk_X8_492 (F.1 100 rfl).2 (F.1 100 rfl).1 rfl rfl dX8_luck_50 (Nat.le_of_ble_eq_true rfl) ⟨by decide, by decide⟩ ⟨by decide, by decide⟩ (fun L M hp => ?_)
          obtain ⟨C, D, F, I, K1, hr⟩ := hp
          have K := K.step K1 (by decide)
          refine g_iload X dX8_luck_53 (j := 1) rfl ?_
          refine g_aload_n X dX8_luck_55 rfl (j := 2) rfl ?_
          refine g_iload_n X dX8_luck_56 rfl (j := 5) rfl ?_
          refine g_aload_n X dX8_luck_57 rfl (j := 2) rfl ?_
          refine g_callVI X (s_X8_hours l G F I  ) lk_X8_106 (F.1 100 rfl).2 (F.1 100 rfl).1 rfl rfl dX8_luck_58 (Nat.le_of_ble_eq_true rfl) ⟨by decide, by decide⟩ ⟨by decide, by decide⟩ (fun r13 L M hp => ?_)
          obtain ⟨C, D, F, I, K1, hr⟩ := hp
          have K := K.step K1 (by decide)
          obtain ⟨n14, hn14, en14, rfl⟩ := hr
          obtain rfl : n1 = n14 := ((nI_eq (by omega) (by omega)).mp (en14.symm.trans ((congrFun (K 101 (by decide)).1 0).trans en1))).symm
          refine g_callVI X (s_X8_isInside l G F I n10 (by omega) (by omega) n1 (by omega) (by omega) ) lk_X8_323 (F.1 100 rfl).2 (F.1 100 rfl).1 rfl rfl dX8_luck_61 (Nat.le_of_ble_eq_true rfl) ⟨by decide, by decide⟩ ⟨by decide, by decide⟩ (fun r15 L M hp => ?_)
          obtain ⟨C, D, F, I, K1, hr⟩ := hp
          have K := K.step K1 (by decide)
          rcases hr with rfl | rfl
          · skip
            refine g_if_eq X dX8_luck_64 (tgt := 71) (by decide) (fun _ => ?_) (fun q => absurd (by decide) q)
            refine g_iconst X dX8_luck_71 (v := 0) (by decide) ?_
            refine g_iadd X dX8_luck_72 ?_
            refine Go.gen (fun o16 => ?_)
            refine g_istore X dX8_luck_73 (by decide) (lv2 := [(4, .int o16), (5, .int (nI i37_5)), (0, .ref (a 100)), (1, .int p0), (2, .int (nI n7)), (3, .int (nI n10))]) rfl ?_
            refine g_iinc X dX8_luck_75 (j := 1) rfl (v := nI (i37_5 + 1)) (nI_1 i37_5) (by decide) (lv2 := [(5, .int (nI (i37_5 + 1))), (4, .int o16), (0, .ref (a 100)), (1, .int p0), (2, .int (nI n7)), (3, .int (nI n10))]) rfl ?_
            refine g_goto X dX8_luck_78 (tgt := 37) (by decide) ?_
            refine g_lv [0, 1, 2, 3, 4, 5] (lv2 := [(5, .int (nI (i37_5 + 1))), (4, .int o16), (0, .ref (a 100)), (1, .int p0), (2, .int (nI n7)), (3, .int (nI n10))]) rfl ?_
            exact ih37 ((i37_5 + 1), o16) L M C D F I K ⟨by omega, by omega⟩ (by show _ < _; omega)
          · skip
            refine g_if_eq X dX8_luck_64 (tgt := 71) (by decide) (fun q => absurd q (by decide)) (fun _ => ?_)
            refine g_iconst X dX8_luck_67 (v := 1) (by decide) ?_
            refine g_goto X dX8_luck_68 (tgt := 72) (by decide) ?_
            refine g_iadd X dX8_luck_72 ?_
            refine Go.gen (fun o17 => ?_)
            refine g_istore X dX8_luck_73 (by decide) (lv2 := [(4, .int o17), (5, .int (nI i37_5)), (0, .ref (a 100)), (1, .int p0), (2, .int (nI n7)), (3, .int (nI n10))]) rfl ?_
            refine g_iinc X dX8_luck_75 (j := 1) rfl (v := nI (i37_5 + 1)) (nI_1 i37_5) (by decide) (lv2 := [(5, .int (nI (i37_5 + 1))), (4, .int o17), (0, .ref (a 100)), (1, .int p0), (2, .int (nI n7)), (3, .int (nI n10))]) rfl ?_
            refine g_goto X dX8_luck_78 (tgt := 37) (by decide) ?_
            refine g_lv [0, 1, 2, 3, 4, 5] (lv2 := [(5, .int (nI (i37_5 + 1))), (4, .int o17), (0, .ref (a 100)), (1, .int p0), (2, .int (nI n7)), (3, .int (nI n10))]) rfl ?_
            exact ih37 ((i37_5 + 1), o17) L M C D F I K ⟨by omega, by omega⟩ (by show _ < _; omega)
set_option maxHeartbeats 4000000 in
set_option maxRecDepth 100000 in
theorem s_X8_rate (l : Launch) (G : va_G) {cy : Nat → ClassId} {L : List Nat} {M : Nat → va_E} {a : Nat → Nat} {act : Nat → Bool} {C0 : Nat → Nat → Int32} {D0 : Nat → Nat → Int64} {R : Nat → Nat → Option Nat} (F : WI L M a act (ent cy a C0 D0 R)) (I : Inv C0) (p0 : Int32) (p1 : Int32)  : MI l G cy yX8_rate cX8_rate 4 (some .int) 2 0 0 [.ref (a 100), .int p0, .int p1] L M (fun r L2 M2 => ∃ C2 D2, WI L2 M2 a act (ent cy a C2 D2 R) ∧ Inv C2 ∧ Kp [101] C0 D0 C2 D2 ∧ True) := by
  refine MI.of (own := RX8) rfl (by decide) (Nat.le_of_ble_eq_true rfl) ?_
  intro p e s m below meth c A X hrt hnm
  obtain ⟨C, D, hC0, hD0, F, I, K⟩ : ∃ C D, C = C0 ∧ D = D0 ∧ WI L M a act (ent cy a C D R) ∧ Inv C ∧ Kp [101] C0 D0 C D := ⟨C0, D0, rfl, rfl, F, I, Kp.rf⟩
  refine g_aload_n X dX8_rate_0 rfl (j := 0) rfl ?_
  refine g_iload_n X dX8_rate_1 rfl (j := 1) rfl ?_
  refine g_i2l X dX8_rate_2 rfl ?_
  refine g_callVI X (s_X8_isInn l G F I ((Int32.toInt64 p0)) ) lk_X8_118 (F.1 100 rfl).2 (F.1 100 rfl).1 rfl rfl dX8_rate_3 (Nat.le_of_ble_eq_true rfl) ⟨by decide, by decide⟩ ⟨by decide, by decide⟩ (fun r1 L M hp => ?_)
  obtain ⟨C, D, F, I, K1, hr⟩ := hp
  have K := K.step K1 (by decide)
  rcases hr with rfl | ⟨rfl, hl2a, hl2b⟩
  · skip
    refine g_if_eq X dX8_rate_6 (tgt := 21) (by decide) (fun _ => ?_) (fun q => absurd (by decide) q)
    refine g_bipush X dX8_rate_21 (v := -2) (by decide) ?_
    exact g_iret X hrt dX8_rate_23 (by decide) (by decide) ⟨C, D, F, I, K, trivial⟩
  · skip
    rw [Jvm.Kit.i64_of_i32] at hl2a hl2b
    obtain ⟨n3, hn3a, hn3b, en3⟩ := nI_ofInt (x := p0) (lo := 0) (hi := 3) (by omega) (by omega) (by decide)
    subst en3
    refine g_if_eq X dX8_rate_6 (tgt := 21) (by decide) (fun q => absurd q (by decide)) (fun _ => ?_)
    refine g_iload_n X dX8_rate_9 rfl (j := 2) rfl ?_
    refine g_i2l X dX8_rate_10 rfl ?_
    refine g_lconst X dX8_rate_11 (v := 0) (by decide) ?_
    refine g_ldc2 X (v := 9) wd905 dX8_rate_12 ?_
    refine g_callSI X (s_X8_in l G F I ((Int32.toInt64 p1)) (0 : Int64) (9 : Int64) ) lk_X8_94 rfl rfl dX8_rate_15 (Nat.le_of_ble_eq_true rfl) ⟨by decide, by decide⟩ ⟨by decide, by decide⟩ (fun r4 L M hp => ?_)
    obtain ⟨C, D, F, I, K1, hr⟩ := hp
    have K := K.step K1 (by decide)
    rcases hr with ⟨rfl, hq5⟩ | ⟨rfl, hq5⟩
    · skip
      have hq5x := Jvm.Kit.i64_of_i32 p1
      have hq5l : (0 : Int64).toInt = 0 := (by decide)
      have hq5h : (9 : Int64).toInt = 9 := (by decide)
      refine g_if_ne X dX8_rate_18 (tgt := 24) (by decide) (fun q => absurd (by decide) q) (fun _ => ?_)
      refine g_bipush X dX8_rate_21 (v := -2) (by decide) ?_
      exact g_iret X hrt dX8_rate_23 (by decide) (by decide) ⟨C, D, F, I, K, trivial⟩
    · skip
      have hq5x := Jvm.Kit.i64_of_i32 p1
      have hq5l : (0 : Int64).toInt = 0 := (by decide)
      have hq5h : (9 : Int64).toInt = 9 := (by decide)
      obtain ⟨n6, hn6a, hn6b, en6⟩ := nI_ofInt (x := p1) (lo := 0) (hi := 9) (by omega) (by omega) (by decide)
      subst en6
      have tn6 := nI_toInt (n := n6) (by omega)
      refine g_if_ne X dX8_rate_18 (tgt := 24) (by decide) (fun _ => ?_) (fun q => absurd q (by decide))
      refine g_aload_n X dX8_rate_24 rfl (j := 0) rfl ?_
      refine i_get X F 100 rfl rfl fk_X8_9 dX8_rate_25 rfl ?_
      refine g_bipush X dX8_rate_28 (v := 8) (by decide) ?_
      obtain ⟨n7, hn7, en7⟩ := rg_nat ((show okw (8) (C 101 (8)) from I 101 (8)).2.2.2.2.2.1 rfl) (by decide)
      refine i_iald X F 101 rfl rfl dX8_rate_30 (vp_in_iff.mpr (by decide)) (v := nI n7) (by exact en7) ?_
      refine g_if_le X dX8_rate_31 (tgt := 37) (by decide) (fun q8 => ?_) (fun q8 => ?_)
      · skip
        have q8 : n7 ≤ 0 := (nI_leI (a := n7) (b := 0) (by omega) (by omega)).mp q8
        refine g_aload_n X dX8_rate_37 rfl (j := 0) rfl ?_
        refine i_get X F 100 rfl rfl fk_X8_9 dX8_rate_38 rfl ?_
        refine g_bipush X dX8_rate_41 (v := 10) (by decide) ?_
        refine g_iload_n X dX8_rate_43 rfl (j := 1) rfl ?_
        refine g_iadd X dX8_rate_44 ?_
        refine Go.top (v := .int (nI (10 + n3))) (congrArg Value.int (nI_add 10 n3)) ?_
        refine i_iald X F 101 rfl rfl dX8_rate_45 (vp_in_nI (by omega) (by decide)) rfl ?_
        refine Go.gen (fun o9 => ?_)
        refine g_istore_n X dX8_rate_46 rfl (by decide) (lv2 := [(3, .int o9), (0, .ref (a 100)), (1, .int (nI n3)), (2, .int (nI n6))]) rfl ?_
        refine g_aload_n X dX8_rate_47 rfl (j := 1) rfl ?_
        refine i_get X F 100 rfl rfl fk_X8_9 dX8_rate_48 rfl ?_
        refine g_bipush X dX8_rate_51 (v := 10) (by decide) ?_
        refine g_iload_n X dX8_rate_53 rfl (j := 2) rfl ?_
        refine g_iadd X dX8_rate_54 ?_
        refine Go.top (v := .int (nI (10 + n3))) (congrArg Value.int (nI_add 10 n3)) ?_
        refine g_iload_n X dX8_rate_55 rfl (j := 3) rfl ?_
        refine i_iast X F I 101 rfl (fun _ => rfl) dX8_rate_56 (vp_in_nI (by omega) (by decide)) (by rw [nI_clamp (by omega)]; show okw (10 + n3) (nI n6); exact ⟨fun h => by exfalso; omega, fun h => by exfalso; omega, fun h => by exfalso; omega, fun h => by exfalso; omega, fun h => by exfalso; omega, fun h => by exfalso; omega, fun a1 a2 a3 => by exfalso; omega, fun a1 a2 a3 => by exfalso; omega, fun a1 a2 a3 a4 => by exfalso; omega, fun a1 a2 a3 => by exfalso; omega, fun a1 a2 => by exfalso; omega⟩) (fun M C F I K1 hC => ?_)
        have K := K.step K1 (by decide)
        refine g_iload_n X dX8_rate_57 rfl (j := 0) rfl ?_
        exact g_iret X hrt dX8_rate_58 (by decide) (by decide) ⟨C, D, F, I, K, trivial⟩
      · skip
        have q8 : ¬ n7 ≤ 0 := fun z => q8 ((nI_leI (a := n7) (b := 0) (by omega) (by omega)).mpr z)
        refine g_bipush X dX8_rate_34 (v := -5) (by decide) ?_
        exact g_iret X hrt dX8_rate_36 (by decide) (by decide) ⟨C, D, F, I, K, trivial⟩
set_option maxHeartbeats 4000000 in
set_option maxRecDepth 100000 in
theorem s_X8_count (l : Launch) (G : va_G) {cy : Nat → ClassId} {L : List Nat} {M : Nat → va_E} {a : Nat → Nat} {act : Nat → Bool} {C0 : Nat → Nat → Int32} {D0 : Nat → Nat → Int64} {R : Nat → Nat → Option Nat} (F : WI L M a act (ent cy a C0 D0 R)) (I : Inv C0) (p0 : Int32)  : MI l G cy yX8_count cX8_count 4 (some .int) 1 0 0 [.ref (a 100), .int p0] L M (fun r L2 M2 => ∃ C2 D2, WI L2 M2 a act (ent cy a C2 D2 R) ∧ Inv C2 ∧ Kp [] C0 D0 C2 D2 ∧ True) := by
  refine MI.of (own := RX8) rfl (by decide) (Nat.le_of_ble_eq_true rfl) ?_
  intro p e s m below meth c A X hrt hnm
  obtain ⟨C, D, hC0, hD0, F, I, K⟩ : ∃ C D, C = C0 ∧ D = D0 ∧ WI L M a act (ent cy a C D R) ∧ Inv C ∧ Kp [] C0 D0 C D := ⟨C0, D0, rfl, rfl, F, I, Kp.rf⟩
  obtain ⟨n1, hn1, en1⟩ := rg_nat ((show okw 0 (C 101 0) from I 101 0).1 rfl) (by decide)
  rw [hC0] at en1
  obtain ⟨n2, hn2, en2⟩ := rg_nat ((show okw 4 (C 101 4) from I 101 4).2.2.2.1 rfl) (by decide)
  rw [hC0] at en2
  obtain ⟨n3, hn3, en3⟩ := rg_nat ((show okw 7 (C 101 7) from I 101 7).2.2.2.2.1 rfl) (by decide)
  rw [hC0] at en3
  refine g_iload_n X dX8_count_0 rfl (j := 1) rfl ?_
  refine g_i2l X dX8_count_1 rfl ?_
  refine g_lconst X dX8_count_2 (v := 0) (by decide) ?_
  refine g_ldc2 X (v := 9) wd905 dX8_count_3 ?_
  refine g_callSI X (s_X8_in l G F I ((Int32.toInt64 p0)) (0 : Int64) (9 : Int64) ) lk_X8_94 rfl rfl dX8_count_6 (Nat.le_of_ble_eq_true rfl) ⟨by decide, by decide⟩ ⟨by decide, by decide⟩ (fun r4 L M hp => ?_)
  obtain ⟨C, D, F, I, K1, hr⟩ := hp
  have K := K.step K1 (by decide)
  rcases hr with ⟨rfl, hq5⟩ | ⟨rfl, hq5⟩
  · skip
    have hq5x := Jvm.Kit.i64_of_i32 p0
    have hq5l : (0 : Int64).toInt = 0 := (by decide)
    have hq5h : (9 : Int64).toInt = 9 := (by decide)
    refine g_if_eq X dX8_count_9 (tgt := 19) (by decide) (fun _ => ?_) (fun q => absurd (by decide) q)
    refine g_iload_n X dX8_count_19 rfl (j := 1) rfl ?_
    refine g_bipush X dX8_count_20 (v := 10) (by decide) ?_
    refine g_icmp_ne X dX8_count_22 (tgt := 30) (by decide) (fun q6 => ?_) (fun q6 => ?_)
    · skip
      refine g_iload_n X dX8_count_30 rfl (j := 1) rfl ?_
      refine g_bipush X dX8_count_31 (v := 11) (by decide) ?_
      refine g_icmp_eq X dX8_count_33 (tgt := 38) (by decide) (fun q7 => ?_) (fun q7 => ?_)
      · skip
        subst q7
        refine g_iconst X dX8_count_38 (v := 0) (by decide) ?_
        refine g_istore_n X dX8_count_39 rfl (by decide) (lv2 := [(2, .int 0), (0, .ref (a 100)), (1, .int 11)]) rfl ?_
        refine g_iconst X dX8_count_40 (v := 0) (by decide) ?_
        refine g_istore_n X dX8_count_41 rfl (by decide) (lv2 := [(3, .int 0), (2, .int 0), (0, .ref (a 100)), (1, .int 11)]) rfl ?_
        refine g_lv [0, 1, 2, 3] (lv2 := [(3, .int 0), (2, .int 0), (0, .ref (a 100)), (1, .int 11)]) rfl ?_
        refine i_loop (mods := []) (fun x : Nat × Int32 => 4 - x.1) (fun x => [(3, .int (nI (x.1))), (2, .int (x.2)), (0, .ref (a 100)), (1, .int 11)]) (fun x C => 0 ≤ x.1 ∧ x.1 ≤ 4) (fun x L M C D F I K hP ih42 => ?_) ((0, 0) : Nat × Int32) F I K ⟨by show _ ≤ _; omega, by show _ ≤ _; omega⟩
        rcases x with ⟨i42_3, v42_2⟩
        obtain ⟨hi42_3a, hi42_3b⟩ := hP
        refine g_lv [0, 1, 2, 3] (lv2 := [(3, .int (nI i42_3)), (2, .int v42_2), (0, .ref (a 100)), (1, .int 11)]) rfl ?_
        refine g_iload_n X dX8_count_42 rfl (j := 0) rfl ?_
        refine g_iconst X dX8_count_43 (v := 4) (by decide) ?_
        refine g_icmp_ge X dX8_count_44 (tgt := 71) (by decide) (fun q8 => ?_) (fun q8 => ?_)
        · skip
          have q8 : 4 ≤ i42_3 := (nI_leI (a := 4) (b := i42_3) (by omega) (by omega)).mp q8
          refine g_iload_n X dX8_count_71 rfl (j := 1) rfl ?_
          exact g_iret X hrt dX8_count_72 (by decide) (by decide) ⟨C, D, F, I, K, trivial⟩
        · skip
          have q8 : ¬ 4 ≤ i42_3 := fun z => q8 ((nI_leI (a := 4) (b := i42_3) (by omega) (by omega)).mpr z)
          refine g_iload_n X dX8_count_47 rfl (j := 1) rfl ?_
          refine g_aload_n X dX8_count_48 rfl (j := 2) rfl ?_
          refine i_get X F 100 rfl rfl fk_X8_76 dX8_count_49 rfl ?_
          refine g_iload_n X dX8_count_52 rfl (j := 0) rfl ?_
          rcases rgm_nat (I 137 i42_3) with en9 | ⟨n9, hn9, en9⟩
          · skip
            refine i_iald X F 137 rfl rfl dX8_count_53 (vp_in_nI (by omega) (by decide)) (v := -1) (by rw [nI_clamp (by omega)]; exact en9) ?_
            have fn9 : C0 137 (i42_3) = -1 := (congrFun (K 137 (by decide)).1 (i42_3)).symm.trans en9
            refine g_iconst X dX8_count_54 (v := -1) (by decide) ?_
            refine g_icmp_ne X dX8_count_55 (tgt := 62) (by decide) (fun q => absurd (by decide) q) (fun _ => ?_)
            refine g_iconst X dX8_count_58 (v := 0) (by decide) ?_
            refine g_goto X dX8_count_59 (tgt := 63) (by decide) ?_
            refine g_iadd X dX8_count_63 ?_
            refine Go.gen (fun o10 => ?_)
            refine g_istore_n X dX8_count_64 rfl (by decide) (lv2 := [(2, .int o10), (3, .int (nI i42_3)), (0, .ref (a 100)), (1, .int 11)]) rfl ?_
            refine g_iinc X dX8_count_65 (j := 1) rfl (v := nI (i42_3 + 1)) (nI_1 i42_3) (by decide) (lv2 := [(3, .int (nI (i42_3 + 1))), (2, .int o10), (0, .ref (a 100)), (1, .int 11)]) rfl ?_
            refine g_goto X dX8_count_68 (tgt := 42) (by decide) ?_
            refine g_lv [0, 1, 2, 3] (lv2 := [(3, .int (nI (i42_3 + 1))), (2, .int o10), (0, .ref (a 100)), (1, .int 11)]) rfl ?_
            exact ih42 ((i42_3 + 1), o10) L M C D F I K ⟨by omega, by omega⟩ (by show _ < _; omega)
          · skip
            refine i_iald X F 137 rfl rfl dX8_count_53 (vp_in_nI (by omega) (by decide)) (v := nI n9) (by rw [nI_clamp (by omega)]; exact en9) ?_
            have fn9 : C0 137 (i42_3) = nI n9 := (congrFun (K 137 (by decide)).1 (i42_3)).symm.trans en9
            refine g_iconst X dX8_count_54 (v := -1) (by decide) ?_
            refine g_icmp_ne X dX8_count_55 (tgt := 62) (by decide) (fun _ => ?_) (fun q => absurd q (nI_nm1 (by omega)))
            refine g_iconst X dX8_count_62 (v := 1) (by decide) ?_
            refine g_iadd X dX8_count_63 ?_
            refine Go.gen (fun o12 => ?_)
            refine g_istore_n X dX8_count_64 rfl (by decide) (lv2 := [(2, .int o12), (3, .int (nI i42_3)), (0, .ref (a 100)), (1, .int 11)]) rfl ?_
            refine g_iinc X dX8_count_65 (j := 1) rfl (v := nI (i42_3 + 1)) (nI_1 i42_3) (by decide) (lv2 := [(3, .int (nI (i42_3 + 1))), (2, .int o12), (0, .ref (a 100)), (1, .int 11)]) rfl ?_
            refine g_goto X dX8_count_68 (tgt := 42) (by decide) ?_
            refine g_lv [0, 1, 2, 3] (lv2 := [(3, .int (nI (i42_3 + 1))), (2, .int o12), (0, .ref (a 100)), (1, .int 11)]) rfl ?_
            exact ih42 ((i42_3 + 1), o12) L M C D F I K ⟨by omega, by omega⟩ (by show _ < _; omega)
      · skip
        refine g_iconst X dX8_count_36 (v := -1) (by decide) ?_
        exact g_iret X hrt dX8_count_37 (by decide) (by decide) ⟨C, D, F, I, K, trivial⟩
    · skip
      subst q6
      refine g_aload_n X dX8_count_25 rfl (j := 0) rfl ?_
      obtain ⟨n13, hn13, en13⟩ := rg_nat (I 100 5 (by decide)) (by decide)
      refine i_get X F 100 rfl rfl fk_X8_121 dX8_count_26 (v := .int (nI n13)) (congrArg (fun z => some (Value.int z)) en13) ?_
      exact g_iret X hrt dX8_count_29 (by decide) (by decide) ⟨C, D, F, I, K, trivial⟩
  · skip
    have hq5x := Jvm.Kit.i64_of_i32 p0
    have hq5l : (0 : Int64).toInt = 0 := (by decide)
    have hq5h : (9 : Int64).toInt = 9 := (by decide)
    obtain ⟨n14, hn14a, hn14b, en14⟩ := nI_ofInt (x := p0) (lo := 0) (hi := 9) (by omega) (by omega) (by decide)
    subst en14
    have tn14 := nI_toInt (n := n14) (by omega)
    refine g_if_eq X dX8_count_9 (tgt := 19) (by decide) (fun q => absurd q (by decide)) (fun _ => ?_)
    refine g_aload_n X dX8_count_12 rfl (j := 0) rfl ?_
    refine i_get X F 100 rfl rfl fk_X8_9 dX8_count_13 rfl ?_
    refine g_iload_n X dX8_count_16 rfl (j := 1) rfl ?_
    refine i_iald X F 101 rfl rfl dX8_count_17 (vp_in_nI (by omega) (by decide)) rfl ?_
    refine Go.gen (fun o15 => ?_)
    exact g_iret X hrt dX8_count_18 (by decide) (by decide) ⟨C, D, F, I, K, trivial⟩
set_option maxHeartbeats 4000000 in
set_option maxRecDepth 100000 in
theorem s_X8_bit_f (l : Launch) (G : va_G) {cy : Nat → ClassId} {L : List Nat} {M : Nat → va_E} {a : Nat → Nat} {act : Nat → Bool} {C0 : Nat → Nat → Int32} {D0 : Nat → Nat → Int64} {R : Nat → Nat → Option Nat} (F : WI L M a act (ent cy a C0 D0 R)) (I : Inv C0) (p0 : Nat) (hp0a : 0 ≤ p0) (hp0b : p0 ≤ 255) (p1 : Nat) (hp1a : 0 ≤ p1) (hp1b : p1 ≤ 7)  : MI l G cy yX8_bit cX8_bit 2 (some .int) 0 0 0 [.int (nI p0), .int (nI p1)] L M (fun r L2 M2 => ∃ C2 D2, WI L2 M2 a act (ent cy a C2 D2 R) ∧ Inv C2 ∧ Kp [] C0 D0 C2 D2 ∧ r = (nI p0 >>> (nI p1 &&& 31)) &&& 1) := by
  refine MI.of (own := RX8) rfl (by decide) (Nat.le_of_ble_eq_true rfl) ?_
  intro p e s m below meth c A X hrt hnm
  obtain ⟨C, D, hC0, hD0, F, I, K⟩ : ∃ C D, C = C0 ∧ D = D0 ∧ WI L M a act (ent cy a C D R) ∧ Inv C ∧ Kp [] C0 D0 C D := ⟨C0, D0, rfl, rfl, F, I, Kp.rf⟩
  refine g_iload_n X dX8_bit_0 rfl (j := 0) rfl ?_
  refine g_iload_n X dX8_bit_1 rfl (j := 1) rfl ?_
  refine g_ishr X dX8_bit_2 ?_
  refine g_iconst X dX8_bit_3 (v := 1) (by decide) ?_
  refine g_iand X dX8_bit_4 ?_
  exact g_iret X hrt dX8_bit_5 (by decide) (by decide) ⟨C, D, F, I, K, rfl⟩
set_option maxHeartbeats 4000000 in
set_option maxRecDepth 100000 in
theorem s_X8_layFog (l : Launch) (G : va_G) {cy : Nat → ClassId} {L : List Nat} {M : Nat → va_E} {a : Nat → Nat} {act : Nat → Bool} {C0 : Nat → Nat → Int32} {D0 : Nat → Nat → Int64} {R : Nat → Nat → Option Nat} (F : WI L M a act (ent cy a C0 D0 R)) (I : Inv C0) (p0 : Nat) (hp0a : 0 ≤ p0) (hp0b : p0 ≤ 7) (p1 : Nat) (hp1a : 0 ≤ p1) (hp1b : p1 ≤ 7)  : MV l G cy yX8_layFog cX8_layFog 7 none 6 0 0 [.ref (a 100), .int (nI p0), .int (nI p1)] L M (fun L2 M2 => ∃ C2 D2, WI L2 M2 a act (ent cy a C2 D2 R) ∧ Inv C2 ∧ Kp [100, 115, 116, 120, 121, 122, 123, 124, 125, 126, 127, 128] C0 D0 C2 D2 ∧ ¬ D2 100 34 = 0) := by
  refine MV.of (own := RX8) rfl (by decide) (Nat.le_of_ble_eq_true rfl) ?_
  intro p e s m below meth c A X hrt hnm
  obtain ⟨C, D, hC0, hD0, F, I, K⟩ : ∃ C D, C = C0 ∧ D = D0 ∧ WI L M a act (ent cy a C D R) ∧ Inv C ∧ Kp [100, 115, 116, 120, 121, 122, 123, 124, 125, 126, 127, 128] C0 D0 C D := ⟨C0, D0, rfl, rfl, F, I, Kp.rf⟩
  obtain ⟨n1, hn1, en1⟩ := rg_nat ((show okw 0 (C 101 0) from I 101 0).1 rfl) (by decide)
  rw [hC0] at en1
  obtain ⟨n2, hn2, en2⟩ := rg_nat ((show okw 2 (C 101 2) from I 101 2).2.1 rfl) (by decide)
  rw [hC0] at en2
  obtain ⟨n3, hn3, en3⟩ := rg_nat ((show okw 4 (C 101 4) from I 101 4).2.2.2.1 rfl) (by decide)
  rw [hC0] at en3
  obtain ⟨n4, hn4, en4⟩ := rg_nat ((show okw 7 (C 101 7) from I 101 7).2.2.2.2.1 rfl) (by decide)
  rw [hC0] at en4
  obtain ⟨od, hod⟩ : ∃ z, z = n2 := ⟨_, rfl⟩
  refine g_aload_n X dX8_layFog_0 rfl (j := 0) rfl ?_
  refine g_lconst X dX8_layFog_1 (v := 0) (by decide) ?_
  refine i_putL X F 100 rfl rfl rfl fk_X8_458 dX8_layFog_2 (Nat.le_of_ble_eq_true rfl) (fun M D F K1 hC => ?_)
  have K := K.step K1 (by decide)
  have hL5 : D 100 34 = (0 : Int64) := by rw [hC]; exact updL_self
  refine g_aload_n X dX8_layFog_5 rfl (j := 0) rfl ?_
  refine g_lconst X dX8_layFog_6 (v := 0) (by decide) ?_
  refine i_putL X F 100 rfl rfl rfl fk_X8_462 dX8_layFog_7 (Nat.le_of_ble_eq_true rfl) (fun M D F K1 hC => ?_)
  have K := K.step K1 (by decide)
  have hL5 : D 100 34 = (0 : Int64) := by rw [hC]; exact (updL_ne (by decide)).trans hL5
  refine g_aload_n X dX8_layFog_10 rfl (j := 0) rfl ?_
  refine g_lconst X dX8_layFog_11 (v := 0) (by decide) ?_
  refine i_putL X F 100 rfl rfl rfl fk_X8_465 dX8_layFog_12 (Nat.le_of_ble_eq_true rfl) (fun M D F K1 hC => ?_)
  have K := K.step K1 (by decide)
  have hL5 : D 100 34 = (0 : Int64) := by rw [hC]; exact (updL_ne (by decide)).trans hL5
  refine g_aload_n X dX8_layFog_15 rfl (j := 0) rfl ?_
  refine g_callVV X (s_X8_asItIs l G F I  ) lk_X8_286 (F.1 100 rfl).2 (F.1 100 rfl).1 rfl rfl dX8_layFog_16 (Nat.le_of_ble_eq_true rfl) ⟨by decide, by decide⟩ ⟨by decide, by decide⟩ (fun L M hp => ?_)
  obtain ⟨C, D, F, I, K1, hr⟩ := hp
  have K := K.step K1 (by decide)
  have hL5 : D 100 34 = (0 : Int64) := (congrFun hr 34).trans hL5
  refine g_iconst X dX8_layFog_19 (v := 0) (by decide) ?_
  refine g_istore_n X dX8_layFog_20 rfl (by decide) (lv2 := [(3, .int 0), (0, .ref (a 100)), (1, .int (nI p0)), (2, .int (nI p1))]) rfl ?_
  refine g_lv [0, 1, 2, 3] (lv2 := [(3, .int 0), (0, .ref (a 100)), (1, .int (nI p0)), (2, .int (nI p1))]) rfl ?_
  refine i_loopD (mods := [100, 115, 116, 120, 121, 122, 123, 124, 125, 126, 127, 128]) (fun x : Int64 × Nat => 256 - x.2) (fun x => [(3, .int (nI (x.2))), (0, .ref (a 100)), (1, .int (nI p0)), (2, .int (nI p1))]) (fun x C D => D 100 34 = x.1 ∧ 0 ≤ x.2 ∧ x.2 ≤ 256 ∧ (0 ≤ (x.1).toInt ∧ (x.1).toInt ≤ ((x.2) : Int) * 100000000 ∧ (od < 10 → 1 ≤ (x.2) → 1 ≤ (x.1).toInt) ∧ (2 ^ (p1 + 1) ≤ (x.2) → 1 ≤ (x.1).toInt))) (fun x L M C D F I K hP ih21 => ?_) (((0 : Int64), 0) : Int64 × Nat) F I K ⟨hL5, by show _ ≤ _; omega, by show _ ≤ _; omega, ⟨by decide, by decide, fun _ z => absurd z (by decide), fun z => absurd z (Nat.not_le.mpr (Nat.two_pow_pos _))⟩⟩
  rcases x with ⟨g21_100, i21_3⟩
  obtain ⟨heg21_100, hi21_3a, hi21_3b, hO⟩ := hP
  try dsimp only at hO
  have heg21_100 : D 100 34 = g21_100 := heg21_100
  refine g_lv [0, 1, 2, 3] (lv2 := [(3, .int (nI i21_3)), (0, .ref (a 100)), (1, .int (nI p0)), (2, .int (nI p1))]) rfl ?_
  refine g_iload_n X dX8_layFog_21 rfl (j := 0) rfl ?_
  refine g_iconst X dX8_layFog_22 (v := 2) (by decide) ?_
  refine g_iload_n X dX8_layFog_23 rfl (j := 3) rfl ?_
  refine g_ishl X dX8_layFog_24 ?_
  refine Go.top (v := .int (nI (2 ^ (p1 + 1)))) (congrArg Value.int (shl2 p1 (by omega))) ?_
  have hpow : 2 ^ (p1 + 1) ≤ 2 ^ 8 := Nat.pow_le_pow_right (by decide) (by omega)
  have hpow8 : (2 : Nat) ^ 8 = 256 := rfl
  refine g_icmp_ge X dX8_layFog_25 (tgt := 166) (by decide) (fun q6 => ?_) (fun q6 => ?_)
  · skip
    have q6 : (2 ^ (p1 + 1)) ≤ i21_3 := (nI_leI (a := (2 ^ (p1 + 1))) (b := i21_3) (by omega) (by omega)).mp q6
    exact g_vret X hrt dX8_layFog_166 (by decide) (by decide) ⟨C, D, F, I, K, (fun z => by have y := hO.2.2.2 (by omega); rw [heg21_100.symm.trans z] at y; exact absurd y (by decide))⟩
  · skip
    have q6 : ¬ (2 ^ (p1 + 1)) ≤ i21_3 := fun z => q6 ((nI_leI (a := (2 ^ (p1 + 1))) (b := i21_3) (by omega) (by omega)).mpr z)
    refine g_lconst X dX8_layFog_28 (v := 1) (by decide) ?_
    refine g_lstore X dX8_layFog_29 (by decide) (lv2 := [(4, .long 1), (3, .int (nI i21_3)), (0, .ref (a 100)), (1, .int (nI p0)), (2, .int (nI p1))]) rfl ?_
    refine g_iconst X dX8_layFog_31 (v := 0) (by decide) ?_
    refine g_istore X dX8_layFog_32 (by decide) (lv2 := [(6, .int 0), (4, .long 1), (3, .int (nI i21_3)), (0, .ref (a 100)), (1, .int (nI p0)), (2, .int (nI p1))]) rfl ?_
    refine g_lv [0, 1, 2, 3, 4, 5] (lv2 := [(6, .int 0), (4, .long 1), (3, .int (nI i21_3)), (0, .ref (a 100)), (1, .int (nI p0)), (2, .int (nI p1))]) rfl ?_
    refine i_loopD (mods := [100, 115, 116, 120, 121, 122, 123, 124, 125, 126, 127, 128]) (fun x : Nat × Int64 => 8 - x.1) (fun x => [(6, .int (nI (x.1))), (4, .long (x.2)), (3, .int (nI i21_3)), (0, .ref (a 100)), (1, .int (nI p0)), (2, .int (nI p1))]) (fun x C D => 0 ≤ x.1 ∧ x.1 ≤ 8 ∧ D 100 34 = g21_100 ∧ (0 ≤ (x.2).toInt ∧ (x.2).toInt ≤ 10 ^ (x.1) ∧ (od < 10 → i21_3 = 0 → 1 ≤ (x.2).toInt) ∧ (od = 10 → i21_3 = 2 ^ (p1 + 1) - 1 → 1 ≤ (x.2).toInt))) (fun x L M C D F I K hP ih34 => ?_) ((0, 1) : Nat × Int64) F I K ⟨by show _ ≤ _; omega, by show _ ≤ _; omega, heg21_100, ⟨by decide, by decide, fun _ _ => by decide, fun _ _ => by decide⟩⟩
    rcases x with ⟨i34_6, v34_4⟩
    obtain ⟨hi34_6a, hi34_6b, hk34_34, hI⟩ := hP
    try dsimp only at hI
    refine g_lv [0, 1, 2, 3, 4, 5] (lv2 := [(6, .int (nI i34_6)), (4, .long v34_4), (3, .int (nI i21_3)), (0, .ref (a 100)), (1, .int (nI p0)), (2, .int (nI p1))]) rfl ?_
    refine g_iload X dX8_layFog_34 (j := 0) rfl ?_
    refine g_iload_n X dX8_layFog_36 rfl (j := 5) rfl ?_
    refine g_icmp_gt X dX8_layFog_37 (tgt := 81) (by decide) (fun q7 => ?_) (fun q7 => ?_)
    · skip
      have q7 : p1 < i34_6 := (nI_ltI (a := p1) (b := i34_6) (by omega) (by omega)).mp q7
      refine g_lload X dX8_layFog_81 (j := 1) rfl ?_
      refine g_lconst X dX8_layFog_83 (v := 0) (by decide) ?_
      refine g_lcmp X dX8_layFog_84 ?_
      refine g_if_ne X dX8_layFog_85 (tgt := 91) (by decide) (fun q8 => ?_) (fun q8 => ?_)
      · skip
        have q8t : ¬ v34_4 = (0 : Int64) := fun z => q8 ((lg_cmp_eq _ _).mpr z)
        have q8k0 : (0 : Int64).toInt = 0 := (by decide)
        refine g_aload_n X dX8_layFog_91 rfl (j := 3) rfl ?_
        refine g_iload_n X dX8_layFog_92 rfl (j := 2) rfl ?_
        refine i_put X F I 100 rfl rfl rfl fk_X8_260 dX8_layFog_93 rfl rfl (Nat.le_of_ble_eq_true rfl) (fun h => absurd h (by decide)) (fun M C F I K1 hC => ?_)
        have K := K.step K1 (by decide)
        refine g_aload_n X dX8_layFog_96 rfl (j := 3) rfl ?_
        refine g_callVV X (s_X8_goAll l G F I  ) lk_X8_289 (F.1 100 rfl).2 (F.1 100 rfl).1 rfl rfl dX8_layFog_97 (Nat.le_of_ble_eq_true rfl) ⟨by decide, by decide⟩ ⟨by decide, by decide⟩ (fun L M hp => ?_)
        obtain ⟨C, D, F, I, K1, hr⟩ := hp
        have K := K.step K1 (by decide)
        have hk34_34 : D 100 34 = g21_100 := (congrFun (K1 100 (by decide)).2 34).trans hk34_34
        refine g_aload_n X dX8_layFog_100 rfl (j := 3) rfl ?_
        refine g_dup X dX8_layFog_101 rfl ?_
        refine i_get X F 100 rfl rfl fk_X8_458 dX8_layFog_102 (v := .long g21_100) (congrArg (fun z => some (Value.long z)) hk34_34) ?_
        refine g_lload X dX8_layFog_105 (j := 1) rfl ?_
        refine g_ladd X dX8_layFog_107 ?_
        refine i_putL X F 100 rfl rfl rfl fk_X8_458 dX8_layFog_108 (Nat.le_of_ble_eq_true rfl) (fun M D F K1 hC => ?_)
        have K := K.step K1 (by decide)
        have hL9 : D 100 34 = ((g21_100 + v34_4)) := by rw [hC]; exact updL_self
        refine g_aload_n X dX8_layFog_111 rfl (j := 3) rfl ?_
        refine g_dup X dX8_layFog_112 rfl ?_
        refine i_get X F 100 rfl rfl fk_X8_462 dX8_layFog_113 rfl ?_
        refine Go.genL (fun o10 => ?_)
        refine g_aload_n X dX8_layFog_116 rfl (j := 3) rfl ?_
        refine g_iload_n X dX8_layFog_117 rfl (j := 4) rfl ?_
        refine g_iload_n X dX8_layFog_118 rfl (j := 5) rfl ?_
        refine g_iconst X dX8_layFog_119 (v := 1) (by decide) ?_
        refine g_iadd X dX8_layFog_120 ?_
        refine Go.top (v := .int (nI (p1 + 1))) (congrArg Value.int (nI_add p1 1)) ?_
        refine g_callVI X (s_X8_isInside l G F I p0 (by omega) (by omega) (p1 + 1) (by omega) (by omega) ) lk_X8_323 (F.1 100 rfl).2 (F.1 100 rfl).1 rfl rfl dX8_layFog_121 (Nat.le_of_ble_eq_true rfl) ⟨by decide, by decide⟩ ⟨by decide, by decide⟩ (fun r11 L M hp => ?_)
        obtain ⟨C, D, F, I, K1, hr⟩ := hp
        have K := K.step K1 (by decide)
        have hL9 : D 100 34 = ((g21_100 + v34_4)) := (congrFun (K1 100 (by decide)).2 34).trans hL9
        rcases hr with rfl | rfl
        · skip
          refine g_if_eq X dX8_layFog_124 (tgt := 132) (by decide) (fun _ => ?_) (fun q => absurd (by decide) q)
          refine g_lconst X dX8_layFog_132 (v := 0) (by decide) ?_
          refine g_ladd X dX8_layFog_133 ?_
          refine Go.genL (fun o12 => ?_)
          refine i_putL X F 100 rfl rfl rfl fk_X8_462 dX8_layFog_134 (Nat.le_of_ble_eq_true rfl) (fun M D F K1 hC => ?_)
          have K := K.step K1 (by decide)
          have hL9 : D 100 34 = ((g21_100 + v34_4)) := by rw [hC]; exact (updL_ne (by decide)).trans hL9
          refine g_aload_n X dX8_layFog_137 rfl (j := 3) rfl ?_
          refine g_dup X dX8_layFog_138 rfl ?_
          refine i_get X F 100 rfl rfl fk_X8_465 dX8_layFog_139 rfl ?_
          refine Go.genL (fun o13 => ?_)
          refine g_lload X dX8_layFog_142 (j := 1) rfl ?_
          refine g_aload_n X dX8_layFog_144 rfl (j := 3) rfl ?_
          refine g_iload_n X dX8_layFog_145 rfl (j := 5) rfl ?_
          refine g_iconst X dX8_layFog_146 (v := 1) (by decide) ?_
          refine g_iadd X dX8_layFog_147 ?_
          refine Go.top (v := .int (nI (p1 + 1))) (congrArg Value.int (nI_add p1 1)) ?_
          refine g_callVI X (s_X8_insideAt l G F I (p1 + 1) (by omega) (by omega) ) lk_X8_340 (F.1 100 rfl).2 (F.1 100 rfl).1 rfl rfl dX8_layFog_148 (Nat.le_of_ble_eq_true rfl) ⟨by decide, by decide⟩ ⟨by decide, by decide⟩ (fun r14 L M hp => ?_)
          obtain ⟨C, D, F, I, K1, hr⟩ := hp
          have K := K.step K1 (by decide)
          have hL9 : D 100 34 = ((g21_100 + v34_4)) := (congrFun (K1 100 (by decide)).2 34).trans hL9
          refine g_callSI X (s_X8_bits l G F I r14 ) lk_X8_334 rfl rfl dX8_layFog_151 (Nat.le_of_ble_eq_true rfl) ⟨by decide, by decide⟩ ⟨by decide, by decide⟩ (fun r15 L M hp => ?_)
          obtain ⟨C, D, F, I, K1, hr⟩ := hp
          have K := K.step K1 (by decide)
          have hL9 : D 100 34 = ((g21_100 + v34_4)) := (congrFun (K1 100 (by decide)).2 34).trans hL9
          obtain ⟨n16, hn16a, hn16b, rfl⟩ := hr
          refine g_i2l X dX8_layFog_154 rfl ?_
          refine g_lmul X dX8_layFog_155 ?_
          refine Go.genL (fun o17 => ?_)
          refine g_ladd X dX8_layFog_156 ?_
          refine Go.genL (fun o18 => ?_)
          refine i_putL X F 100 rfl rfl rfl fk_X8_465 dX8_layFog_157 (Nat.le_of_ble_eq_true rfl) (fun M D F K1 hC => ?_)
          have K := K.step K1 (by decide)
          have hL9 : D 100 34 = ((g21_100 + v34_4)) := by rw [hC]; exact (updL_ne (by decide)).trans hL9
          have hOn : 0 ≤ ((g21_100 + v34_4)).toInt ∧ ((g21_100 + v34_4)).toInt ≤ ((i21_3 + 1 : Nat) : Int) * 100000000 ∧ (od < 10 → 1 ≤ (i21_3 + 1 : Nat) → 1 ≤ ((g21_100 + v34_4)).toInt) ∧ (2 ^ (p1 + 1) ≤ (i21_3 + 1 : Nat) → 1 ≤ ((g21_100 + v34_4)).toInt) := by
            obtain ⟨a1, a2, a3, a4⟩ := hO
            obtain ⟨b1, b2, b3, b4⟩ := hI
            have h10 : (10 : Int) ^ (i34_6) ≤ 10 ^ 8 := by have z : (10 : Nat) ^ (i34_6) ≤ 10 ^ 8 := Nat.pow_le_pow_right (by decide) (by omega); exact_mod_cast z
            have hv1 : v34_4.toInt ≠ 0 := fun e => q8t (Int64.toInt_inj.mp (by rw [e]; decide))
            have hs := Jvm.Kit.i64_add (x := g21_100) (y := v34_4) (by omega) (by omega)
            rw [hs]
            refine ⟨by omega, by omega, fun _ _ => by omega, fun _ => by omega⟩
          refine g_iinc X dX8_layFog_160 (j := 2) rfl (v := nI (i21_3 + 1)) (nI_1 i21_3) (by decide) (lv2 := [(3, .int (nI (i21_3 + 1))), (6, .int (nI i34_6)), (4, .long v34_4), (0, .ref (a 100)), (1, .int (nI p0)), (2, .int (nI p1))]) rfl ?_
          refine g_goto X dX8_layFog_163 (tgt := 21) (by decide) ?_
          refine g_lv [0, 3, 4, 5] (lv2 := [(3, .int (nI (i21_3 + 1))), (0, .ref (a 100)), (1, .int (nI p0)), (2, .int (nI p1))]) rfl ?_
          exact ih21 (((g21_100 + v34_4)), (i21_3 + 1)) L M C D F I K ⟨hL9, by omega, by omega, hOn⟩ (by show _ < _; omega)
        · skip
          refine g_if_eq X dX8_layFog_124 (tgt := 132) (by decide) (fun q => absurd q (by decide)) (fun _ => ?_)
          refine g_lload X dX8_layFog_127 (j := 1) rfl ?_
          refine g_goto X dX8_layFog_129 (tgt := 133) (by decide) ?_
          refine g_ladd X dX8_layFog_133 ?_
          refine Go.genL (fun o19 => ?_)
          refine i_putL X F 100 rfl rfl rfl fk_X8_462 dX8_layFog_134 (Nat.le_of_ble_eq_true rfl) (fun M D F K1 hC => ?_)
          have K := K.step K1 (by decide)
          have hL9 : D 100 34 = ((g21_100 + v34_4)) := by rw [hC]; exact (updL_ne (by decide)).trans hL9
          refine g_aload_n X dX8_layFog_137 rfl (j := 3) rfl ?_
          refine g_dup X dX8_layFog_138 rfl ?_
          refine i_get X F 100 rfl rfl fk_X8_465 dX8_layFog_139 rfl ?_
          refine Go.genL (fun o20 => ?_)
          refine g_lload X dX8_layFog_142 (j := 1) rfl ?_
          refine g_aload_n X dX8_layFog_144 rfl (j := 3) rfl ?_
          refine g_iload_n X dX8_layFog_145 rfl (j := 5) rfl ?_
          refine g_iconst X dX8_layFog_146 (v := 1) (by decide) ?_
          refine g_iadd X dX8_layFog_147 ?_
          refine Go.top (v := .int (nI (p1 + 1))) (congrArg Value.int (nI_add p1 1)) ?_
          refine g_callVI X (s_X8_insideAt l G F I (p1 + 1) (by omega) (by omega) ) lk_X8_340 (F.1 100 rfl).2 (F.1 100 rfl).1 rfl rfl dX8_layFog_148 (Nat.le_of_ble_eq_true rfl) ⟨by decide, by decide⟩ ⟨by decide, by decide⟩ (fun r21 L M hp => ?_)
          obtain ⟨C, D, F, I, K1, hr⟩ := hp
          have K := K.step K1 (by decide)
          have hL9 : D 100 34 = ((g21_100 + v34_4)) := (congrFun (K1 100 (by decide)).2 34).trans hL9
          refine g_callSI X (s_X8_bits l G F I r21 ) lk_X8_334 rfl rfl dX8_layFog_151 (Nat.le_of_ble_eq_true rfl) ⟨by decide, by decide⟩ ⟨by decide, by decide⟩ (fun r22 L M hp => ?_)
          obtain ⟨C, D, F, I, K1, hr⟩ := hp
          have K := K.step K1 (by decide)
          have hL9 : D 100 34 = ((g21_100 + v34_4)) := (congrFun (K1 100 (by decide)).2 34).trans hL9
          obtain ⟨n23, hn23a, hn23b, rfl⟩ := hr
          refine g_i2l X dX8_layFog_154 rfl ?_
          refine g_lmul X dX8_layFog_155 ?_
          refine Go.genL (fun o24 => ?_)
          refine g_ladd X dX8_layFog_156 ?_
          refine Go.genL (fun o25 => ?_)
          refine i_putL X F 100 rfl rfl rfl fk_X8_465 dX8_layFog_157 (Nat.le_of_ble_eq_true rfl) (fun M D F K1 hC => ?_)
          have K := K.step K1 (by decide)
          have hL9 : D 100 34 = ((g21_100 + v34_4)) := by rw [hC]; exact (updL_ne (by decide)).trans hL9
          have hOn : 0 ≤ ((g21_100 + v34_4)).toInt ∧ ((g21_100 + v34_4)).toInt ≤ ((i21_3 + 1 : Nat) : Int) * 100000000 ∧ (od < 10 → 1 ≤ (i21_3 + 1 : Nat) → 1 ≤ ((g21_100 + v34_4)).toInt) ∧ (2 ^ (p1 + 1) ≤ (i21_3 + 1 : Nat) → 1 ≤ ((g21_100 + v34_4)).toInt) := by
            obtain ⟨a1, a2, a3, a4⟩ := hO
            obtain ⟨b1, b2, b3, b4⟩ := hI
            have h10 : (10 : Int) ^ (i34_6) ≤ 10 ^ 8 := by have z : (10 : Nat) ^ (i34_6) ≤ 10 ^ 8 := Nat.pow_le_pow_right (by decide) (by omega); exact_mod_cast z
            have hv1 : v34_4.toInt ≠ 0 := fun e => q8t (Int64.toInt_inj.mp (by rw [e]; decide))
            have hs := Jvm.Kit.i64_add (x := g21_100) (y := v34_4) (by omega) (by omega)
            rw [hs]
            refine ⟨by omega, by omega, fun _ _ => by omega, fun _ => by omega⟩
          refine g_iinc X dX8_layFog_160 (j := 2) rfl (v := nI (i21_3 + 1)) (nI_1 i21_3) (by decide) (lv2 := [(3, .int (nI (i21_3 + 1))), (6, .int (nI i34_6)), (4, .long v34_4), (0, .ref (a 100)), (1, .int (nI p0)), (2, .int (nI p1))]) rfl ?_
          refine g_goto X dX8_layFog_163 (tgt := 21) (by decide) ?_
          refine g_lv [0, 3, 4, 5] (lv2 := [(3, .int (nI (i21_3 + 1))), (0, .ref (a 100)), (1, .int (nI p0)), (2, .int (nI p1))]) rfl ?_
          exact ih21 (((g21_100 + v34_4)), (i21_3 + 1)) L M C D F I K ⟨hL9, by omega, by omega, hOn⟩ (by show _ < _; omega)
      · skip
        have q8t : v34_4 = (0 : Int64) := (lg_cmp_eq _ _).mp q8
        have q8k0 : (0 : Int64).toInt = 0 := (by decide)
        refine g_goto X dX8_layFog_88 (tgt := 160) (by decide) ?_
        have hOn : 0 ≤ g21_100.toInt ∧ g21_100.toInt ≤ ((i21_3 + 1 : Nat) : Int) * 100000000 ∧ (od < 10 → 1 ≤ (i21_3 + 1 : Nat) → 1 ≤ g21_100.toInt) ∧ (2 ^ (p1 + 1) ≤ (i21_3 + 1 : Nat) → 1 ≤ g21_100.toInt) := by
          obtain ⟨a1, a2, a3, a4⟩ := hO
          obtain ⟨b1, b2, b3, b4⟩ := hI
          have h10 : (10 : Int) ^ (i34_6) ≤ 10 ^ 8 := by have z : (10 : Nat) ^ (i34_6) ≤ 10 ^ 8 := Nat.pow_le_pow_right (by decide) (by omega); exact_mod_cast z
          have hv0 : v34_4.toInt = 0 := by rw [q8t]; decide
          refine ⟨a1, by omega, fun ho hs => ?_, fun hs => ?_⟩
          · by_cases h0 : i21_3 = 0
            · have := b3 ho h0; omega
            · exact a3 ho (by omega)
          · by_cases ho : od < 10
            · by_cases h0 : i21_3 = 0
              · have := b3 ho h0; omega
              · exact a3 ho (by omega)
            · have := b4 (by omega) (by omega); omega
        refine g_iinc X dX8_layFog_160 (j := 2) rfl (v := nI (i21_3 + 1)) (nI_1 i21_3) (by decide) (lv2 := [(3, .int (nI (i21_3 + 1))), (6, .int (nI i34_6)), (4, .long v34_4), (0, .ref (a 100)), (1, .int (nI p0)), (2, .int (nI p1))]) rfl ?_
        refine g_goto X dX8_layFog_163 (tgt := 21) (by decide) ?_
        refine g_lv [0, 3, 4, 5] (lv2 := [(3, .int (nI (i21_3 + 1))), (0, .ref (a 100)), (1, .int (nI p0)), (2, .int (nI p1))]) rfl ?_
        exact ih21 (g21_100, (i21_3 + 1)) L M C D F I K ⟨hk34_34, by omega, by omega, hOn⟩ (by show _ < _; omega)
    · skip
      have q7 : ¬ p1 < i34_6 := fun z => q7 ((nI_ltI (a := p1) (b := i34_6) (by omega) (by omega)).mpr z)
      refine g_lload X dX8_layFog_40 (j := 1) rfl ?_
      refine g_iload_n X dX8_layFog_42 rfl (j := 2) rfl ?_
      refine g_iload X dX8_layFog_43 (j := 0) rfl ?_
      refine g_callSI X (s_X8_bit_f l G F I i21_3 (by omega) (by omega) i34_6 (by omega) (by omega) ) lk_X8_266 rfl rfl dX8_layFog_45 (Nat.le_of_ble_eq_true rfl) ⟨by decide, by decide⟩ ⟨by decide, by decide⟩ (fun r26 L M hp => ?_)
      obtain ⟨C, D, F, I, K1, hr⟩ := hp
      have K := K.step K1 (by decide)
      have hk34_34 : D 100 34 = g21_100 := (congrFun (K1 100 (by decide)).2 34).trans hk34_34
      have hbt := hr
      refine g_iconst X dX8_layFog_48 (v := 1) (by decide) ?_
      refine g_icmp_ne X dX8_layFog_49 (tgt := 62) (by decide) (fun q27 => ?_) (fun q27 => ?_)
      · skip
        refine g_bipush X dX8_layFog_62 (v := 10) (by decide) ?_
        refine g_aload_n X dX8_layFog_64 rfl (j := 3) rfl ?_
        refine i_get X F 100 rfl rfl fk_X8_9 dX8_layFog_65 rfl ?_
        refine g_iconst X dX8_layFog_68 (v := 2) (by decide) ?_
        obtain ⟨n28, hn28, en28⟩ := rg_nat ((show okw (2) (C 101 (2)) from I 101 (2)).2.1 rfl) (by decide)
        refine i_iald X F 101 rfl rfl dX8_layFog_69 (vp_in_iff.mpr (by decide)) (v := nI n28) (by exact en28) ?_
        obtain rfl : n2 = n28 := ((nI_eq (by omega) (by omega)).mp (en28.symm.trans ((congrFun (K 101 (by decide)).1 2).trans en2))).symm
        refine g_isub X dX8_layFog_70 ?_
        refine Go.top (v := .int (nI (10 - n2))) (congrArg Value.int (pk_sub (a := 10) (b := n2) (by omega))) ?_
        refine g_i2l X dX8_layFog_71 rfl ?_
        have hIn : 0 ≤ (v34_4 * (nI (10 - n2)).toInt64).toInt ∧ (v34_4 * (nI (10 - n2)).toInt64).toInt ≤ 10 ^ (i34_6 + 1) ∧ (od < 10 → i21_3 = 0 → 1 ≤ (v34_4 * (nI (10 - n2)).toInt64).toInt) ∧ (od = 10 → i21_3 = 2 ^ (p1 + 1) - 1 → 1 ≤ (v34_4 * (nI (10 - n2)).toInt64).toInt) := by
          obtain ⟨b1, b2, b3, b4⟩ := hI
          have hf := Jvm.Kit.i64_of_i32 (nI (10 - n2))
          rw [nI_toInt (by omega)] at hf
          obtain ⟨c1, c2, c3⟩ := lm_bd (x := v34_4) (y := (nI (10 - n2)).toInt64) (t := i34_6) b1 b2 (by omega) (by omega) (by omega)
          rw [c1]
          refine ⟨c2, c3, fun ho hs => ?_, fun ho hs => ?_⟩
          · exact lm_pos (b3 ho hs) (by rw [hf]; omega)
          · exfalso; rw [hs, bit1_ p1 (by omega) i34_6 (by omega) (by omega)] at hbt; exact q27 hbt
        refine g_lmul X dX8_layFog_72 ?_
        refine g_lstore X dX8_layFog_73 (by decide) (lv2 := [(4, .long ((v34_4 * (nI (10 - n2)).toInt64))), (6, .int (nI i34_6)), (3, .int (nI i21_3)), (0, .ref (a 100)), (1, .int (nI p0)), (2, .int (nI p1))]) rfl ?_
        refine g_iinc X dX8_layFog_75 (j := 1) rfl (v := nI (i34_6 + 1)) (nI_1 i34_6) (by decide) (lv2 := [(6, .int (nI (i34_6 + 1))), (4, .long ((v34_4 * (nI (10 - n2)).toInt64))), (3, .int (nI i21_3)), (0, .ref (a 100)), (1, .int (nI p0)), (2, .int (nI p1))]) rfl ?_
        refine g_goto X dX8_layFog_78 (tgt := 34) (by decide) ?_
        refine g_lv [0, 1, 2, 3, 4, 5] (lv2 := [(6, .int (nI (i34_6 + 1))), (4, .long ((v34_4 * (nI (10 - n2)).toInt64))), (3, .int (nI i21_3)), (0, .ref (a 100)), (1, .int (nI p0)), (2, .int (nI p1))]) rfl ?_
        exact ih34 ((i34_6 + 1), (v34_4 * (nI (10 - n2)).toInt64)) L M C D F I K ⟨by omega, by omega, hk34_34, hIn⟩ (by show _ < _; omega)
      · skip
        subst q27
        refine g_aload_n X dX8_layFog_52 rfl (j := 3) rfl ?_
        refine i_get X F 100 rfl rfl fk_X8_9 dX8_layFog_53 rfl ?_
        refine g_iconst X dX8_layFog_56 (v := 2) (by decide) ?_
        obtain ⟨n29, hn29, en29⟩ := rg_nat ((show okw (2) (C 101 (2)) from I 101 (2)).2.1 rfl) (by decide)
        refine i_iald X F 101 rfl rfl dX8_layFog_57 (vp_in_iff.mpr (by decide)) (v := nI n29) (by exact en29) ?_
        obtain rfl : n2 = n29 := ((nI_eq (by omega) (by omega)).mp (en29.symm.trans ((congrFun (K 101 (by decide)).1 2).trans en2))).symm
        refine g_i2l X dX8_layFog_58 rfl ?_
        refine g_goto X dX8_layFog_59 (tgt := 72) (by decide) ?_
        have hIn : 0 ≤ (v34_4 * (nI n2).toInt64).toInt ∧ (v34_4 * (nI n2).toInt64).toInt ≤ 10 ^ (i34_6 + 1) ∧ (od < 10 → i21_3 = 0 → 1 ≤ (v34_4 * (nI n2).toInt64).toInt) ∧ (od = 10 → i21_3 = 2 ^ (p1 + 1) - 1 → 1 ≤ (v34_4 * (nI n2).toInt64).toInt) := by
          obtain ⟨b1, b2, b3, b4⟩ := hI
          have hf := Jvm.Kit.i64_of_i32 (nI n2)
          rw [nI_toInt (by omega)] at hf
          obtain ⟨c1, c2, c3⟩ := lm_bd (x := v34_4) (y := (nI n2).toInt64) (t := i34_6) b1 b2 (by omega) (by omega) (by omega)
          rw [c1]
          refine ⟨c2, c3, fun ho hs => ?_, fun ho hs => ?_⟩
          · exfalso; rw [hs, bit0_ i34_6 (by omega)] at hbt; exact absurd hbt (by decide)
          · exact lm_pos (b4 ho hs) (by rw [hf]; omega)
        refine g_lmul X dX8_layFog_72 ?_
        refine g_lstore X dX8_layFog_73 (by decide) (lv2 := [(4, .long ((v34_4 * (nI n2).toInt64))), (6, .int (nI i34_6)), (3, .int (nI i21_3)), (0, .ref (a 100)), (1, .int (nI p0)), (2, .int (nI p1))]) rfl ?_
        refine g_iinc X dX8_layFog_75 (j := 1) rfl (v := nI (i34_6 + 1)) (nI_1 i34_6) (by decide) (lv2 := [(6, .int (nI (i34_6 + 1))), (4, .long ((v34_4 * (nI n2).toInt64))), (3, .int (nI i21_3)), (0, .ref (a 100)), (1, .int (nI p0)), (2, .int (nI p1))]) rfl ?_
        refine g_goto X dX8_layFog_78 (tgt := 34) (by decide) ?_
        refine g_lv [0, 1, 2, 3, 4, 5] (lv2 := [(6, .int (nI (i34_6 + 1))), (4, .long ((v34_4 * (nI n2).toInt64))), (3, .int (nI i21_3)), (0, .ref (a 100)), (1, .int (nI p0)), (2, .int (nI p1))]) rfl ?_
        exact ih34 ((i34_6 + 1), (v34_4 * (nI n2).toInt64)) L M C D F I K ⟨by omega, by omega, hk34_34, hIn⟩ (by show _ < _; omega)
set_option maxHeartbeats 4000000 in
set_option maxRecDepth 100000 in
theorem s_X8_isFog (l : Launch) (G : va_G) {cy : Nat → ClassId} {L : List Nat} {M : Nat → va_E} {a : Nat → Nat} {act : Nat → Bool} {C0 : Nat → Nat → Int32} {D0 : Nat → Nat → Int64} {R : Nat → Nat → Option Nat} (F : WI L M a act (ent cy a C0 D0 R)) (I : Inv C0) (p0 : Int32) (p1 : Int32)  : MI l G cy yX8_isFog cX8_isFog 3 (some .boolean) 2 0 0 [.ref (a 100), .int p0, .int p1] L M (fun r L2 M2 => ∃ C2 D2, WI L2 M2 a act (ent cy a C2 D2 R) ∧ Inv C2 ∧ Kp [] C0 D0 C2 D2 ∧ (r = 0 ∨ (r = 1 ∧ ∃ n : Nat, n ≤ 7 ∧ p0 = nI n))) := by
  refine MI.of (own := RX8) rfl (by decide) (Nat.le_of_ble_eq_true rfl) ?_
  intro p e s m below meth c A X hrt hnm
  obtain ⟨C, D, hC0, hD0, F, I, K⟩ : ∃ C D, C = C0 ∧ D = D0 ∧ WI L M a act (ent cy a C D R) ∧ Inv C ∧ Kp [] C0 D0 C D := ⟨C0, D0, rfl, rfl, F, I, Kp.rf⟩
  obtain ⟨n1, hn1, en1⟩ := rg_nat ((show okw 0 (C 101 0) from I 101 0).1 rfl) (by decide)
  rw [hC0] at en1
  obtain ⟨n2, hn2, en2⟩ := rg_nat ((show okw 4 (C 101 4) from I 101 4).2.2.2.1 rfl) (by decide)
  rw [hC0] at en2
  obtain ⟨n3, hn3, en3⟩ := rg_nat ((show okw 7 (C 101 7) from I 101 7).2.2.2.2.1 rfl) (by decide)
  rw [hC0] at en3
  refine g_aload_n X dX8_isFog_0 rfl (j := 0) rfl ?_
  refine g_iload_n X dX8_isFog_1 rfl (j := 1) rfl ?_
  refine g_i2l X dX8_isFog_2 rfl ?_
  refine g_callVI X (s_X8_isAhead l G F I ((Int32.toInt64 p0)) ) lk_X8_311 (F.1 100 rfl).2 (F.1 100 rfl).1 rfl rfl dX8_isFog_3 (Nat.le_of_ble_eq_true rfl) ⟨by decide, by decide⟩ ⟨by decide, by decide⟩ (fun r4 L M hp => ?_)
  obtain ⟨C, D, F, I, K1, hr⟩ := hp
  have K := K.step K1 (by decide)
  rcases hr with rfl | ⟨rfl, hl5a, hl5b⟩
  · skip
    refine g_if_eq X dX8_isFog_6 (tgt := 29) (by decide) (fun _ => ?_) (fun q => absurd (by decide) q)
    refine g_iconst X dX8_isFog_29 (v := 0) (by decide) ?_
    exact g_zret X hrt rfl dX8_isFog_30 (by decide) (by decide) ⟨C, D, F, I, K, Or.inl rfl⟩
  · skip
    rw [Jvm.Kit.i64_of_i32] at hl5a hl5b
    obtain ⟨n6, hn6a, hn6b, en6⟩ := nI_ofInt (x := p0) (lo := 0) (hi := 15) (by omega) (by omega) (by decide)
    subst en6
    refine g_if_eq X dX8_isFog_6 (tgt := 29) (by decide) (fun q => absurd q (by decide)) (fun _ => ?_)
    refine g_iload_n X dX8_isFog_9 rfl (j := 1) rfl ?_
    refine g_bipush X dX8_isFog_10 (v := 7) (by decide) ?_
    refine g_icmp_gt X dX8_isFog_12 (tgt := 29) (by decide) (fun q7 => ?_) (fun q7 => ?_)
    · skip
      have q7 : 7 < n6 := (nI_ltI (a := 7) (b := n6) (by omega) (by omega)).mp q7
      refine g_iconst X dX8_isFog_29 (v := 0) (by decide) ?_
      exact g_zret X hrt rfl dX8_isFog_30 (by decide) (by decide) ⟨C, D, F, I, K, Or.inl rfl⟩
    · skip
      have q7 : ¬ 7 < n6 := fun z => q7 ((nI_ltI (a := 7) (b := n6) (by omega) (by omega)).mpr z)
      refine g_iload_n X dX8_isFog_15 rfl (j := 2) rfl ?_
      refine g_i2l X dX8_isFog_16 rfl ?_
      refine g_lconst X dX8_isFog_17 (v := 0) (by decide) ?_
      refine g_lconst X dX8_isFog_18 (v := 1) (by decide) ?_
      refine g_callSI X (s_X8_in l G F I ((Int32.toInt64 p1)) (0 : Int64) (1 : Int64) ) lk_X8_94 rfl rfl dX8_isFog_19 (Nat.le_of_ble_eq_true rfl) ⟨by decide, by decide⟩ ⟨by decide, by decide⟩ (fun r8 L M hp => ?_)
      obtain ⟨C, D, F, I, K1, hr⟩ := hp
      have K := K.step K1 (by decide)
      rcases hr with ⟨rfl, hq9⟩ | ⟨rfl, hq9⟩
      · skip
        have hq9x := Jvm.Kit.i64_of_i32 p1
        have hq9l : (0 : Int64).toInt = 0 := (by decide)
        have hq9h : (1 : Int64).toInt = 1 := (by decide)
        refine g_if_eq X dX8_isFog_22 (tgt := 29) (by decide) (fun _ => ?_) (fun q => absurd (by decide) q)
        refine g_iconst X dX8_isFog_29 (v := 0) (by decide) ?_
        exact g_zret X hrt rfl dX8_isFog_30 (by decide) (by decide) ⟨C, D, F, I, K, Or.inl rfl⟩
      · skip
        have hq9x := Jvm.Kit.i64_of_i32 p1
        have hq9l : (0 : Int64).toInt = 0 := (by decide)
        have hq9h : (1 : Int64).toInt = 1 := (by decide)
        obtain ⟨n10, hn10a, hn10b, en10⟩ := nI_ofInt (x := p1) (lo := 0) (hi := 1) (by omega) (by omega) (by decide)
        subst en10
        have tn10 := nI_toInt (n := n10) (by omega)
        refine g_if_eq X dX8_isFog_22 (tgt := 29) (by decide) (fun q => absurd q (by decide)) (fun _ => ?_)
        refine g_iconst X dX8_isFog_25 (v := 1) (by decide) ?_
        refine g_goto X dX8_isFog_26 (tgt := 30) (by decide) ?_
        exact g_zret X hrt rfl dX8_isFog_30 (by decide) (by decide) ⟨C, D, F, I, K, Or.inr ⟨rfl, n6, by omega, rfl⟩⟩
set_option maxHeartbeats 4000000 in
set_option maxRecDepth 100000 in
theorem s_X8_chance (l : Launch) (G : va_G) {cy : Nat → ClassId} {L : List Nat} {M : Nat → va_E} {a : Nat → Nat} {act : Nat → Bool} {C0 : Nat → Nat → Int32} {D0 : Nat → Nat → Int64} {R : Nat → Nat → Option Nat} (F : WI L M a act (ent cy a C0 D0 R)) (I : Inv C0) (p0 : Int32) (p1 : Int32) (p2 : Int32)  : MJ l G cy yX8_chance cX8_chance 4 (some .long) 7 0 0 [.ref (a 100), .int p0, .int p1, .int p2] L M (fun r L2 M2 => ∃ C2 D2, WI L2 M2 a act (ent cy a C2 D2 R) ∧ Inv C2 ∧ Kp [100, 115, 116, 120, 121, 122, 123, 124, 125, 126, 127, 128] C0 D0 C2 D2 ∧ True) := by
  refine MJ.of (own := RX8) rfl (by decide) (Nat.le_of_ble_eq_true rfl) ?_
  intro p e s m below meth c A X hrt hnm
  obtain ⟨C, D, hC0, hD0, F, I, K⟩ : ∃ C D, C = C0 ∧ D = D0 ∧ WI L M a act (ent cy a C D R) ∧ Inv C ∧ Kp [100, 115, 116, 120, 121, 122, 123, 124, 125, 126, 127, 128] C0 D0 C D := ⟨C0, D0, rfl, rfl, F, I, Kp.rf⟩
  obtain ⟨n1, hn1, en1⟩ := rg_nat ((show okw 0 (C 101 0) from I 101 0).1 rfl) (by decide)
  rw [hC0] at en1
  obtain ⟨n2, hn2, en2⟩ := rg_nat ((show okw 4 (C 101 4) from I 101 4).2.2.2.1 rfl) (by decide)
  rw [hC0] at en2
  obtain ⟨n3, hn3, en3⟩ := rg_nat ((show okw 7 (C 101 7) from I 101 7).2.2.2.2.1 rfl) (by decide)
  rw [hC0] at en3
  refine g_aload_n X dX8_chance_0 rfl (j := 0) rfl ?_
  refine g_iload_n X dX8_chance_1 rfl (j := 1) rfl ?_
  refine g_i2l X dX8_chance_2 rfl ?_
  refine g_callVI X (s_X8_isWalker l G F I ((Int32.toInt64 p0)) ) lk_X8_254 (F.1 100 rfl).2 (F.1 100 rfl).1 rfl rfl dX8_chance_3 (Nat.le_of_ble_eq_true rfl) ⟨by decide, by decide⟩ ⟨by decide, by decide⟩ (fun r4 L M hp => ?_)
  obtain ⟨C, D, F, I, K1, hr⟩ := hp
  have K := K.step K1 (by decide)
  rcases hr with rfl | ⟨rfl, hl5a, hl5b⟩
  · skip
    refine g_if_eq X dX8_chance_6 (tgt := 18) (by decide) (fun _ => ?_) (fun q => absurd (by decide) q)
    refine g_ldc2 X (v := -2) wd911 dX8_chance_18 ?_
    exact g_lret X hrt dX8_chance_21 (by decide) (by decide) ⟨C, D, F, I, K, trivial⟩
  · skip
    rw [Jvm.Kit.i64_of_i32] at hl5a hl5b
    obtain ⟨n6, hn6a, hn6b, en6⟩ := nI_ofInt (x := p0) (lo := 0) (hi := 7) (by omega) (by omega) (by decide)
    subst en6
    refine g_if_eq X dX8_chance_6 (tgt := 18) (by decide) (fun q => absurd q (by decide)) (fun _ => ?_)
    refine g_aload_n X dX8_chance_9 rfl (j := 0) rfl ?_
    refine g_iload_n X dX8_chance_10 rfl (j := 2) rfl ?_
    refine g_iload_n X dX8_chance_11 rfl (j := 3) rfl ?_
    refine g_callVI X (s_X8_isFog l G F I p1 p2 ) lk_X8_468 (F.1 100 rfl).2 (F.1 100 rfl).1 rfl rfl dX8_chance_12 (Nat.le_of_ble_eq_true rfl) ⟨by decide, by decide⟩ ⟨by decide, by decide⟩ (fun r7 L M hp => ?_)
    obtain ⟨C, D, F, I, K1, hr⟩ := hp
    have K := K.step K1 (by decide)
    rcases hr with rfl | ⟨rfl, n8, hn8, en8⟩
    · skip
      refine g_if_ne X dX8_chance_15 (tgt := 22) (by decide) (fun q => absurd (by decide) q) (fun _ => ?_)
      refine g_ldc2 X (v := -2) wd911 dX8_chance_18 ?_
      exact g_lret X hrt dX8_chance_21 (by decide) (by decide) ⟨C, D, F, I, K, trivial⟩
    · skip
      subst en8
      refine g_if_ne X dX8_chance_15 (tgt := 22) (by decide) (fun _ => ?_) (fun q => absurd q (by decide))
      refine g_aload_n X dX8_chance_22 rfl (j := 0) rfl ?_
      refine g_iload_n X dX8_chance_23 rfl (j := 1) rfl ?_
      refine g_iload_n X dX8_chance_24 rfl (j := 2) rfl ?_
      refine g_callVV X (s_X8_layFog l G F I n6 (by omega) (by omega) n8 (by omega) (by omega) ) lk_X8_473 (F.1 100 rfl).2 (F.1 100 rfl).1 rfl rfl dX8_chance_25 (Nat.le_of_ble_eq_true rfl) ⟨by decide, by decide⟩ ⟨by decide, by decide⟩ (fun L M hp => ?_)
      obtain ⟨C, D, F, I, K1, hr⟩ := hp
      have K := K.step K1 (by decide)
      have hoa := hr
      refine g_aload_n X dX8_chance_28 rfl (j := 0) rfl ?_
      refine i_get X F 100 rfl rfl fk_X8_462 dX8_chance_29 rfl ?_
      refine Go.genL (fun o9 => ?_)
      refine g_aload_n X dX8_chance_32 rfl (j := 0) rfl ?_
      obtain ⟨o10, eo10⟩ : ∃ z, D 100 34 = z := ⟨_, rfl⟩
      refine i_get X F 100 rfl rfl fk_X8_458 dX8_chance_33 (v := .long o10) (congrArg (fun z => some (Value.long z)) eo10) ?_
      refine g_iload_n X dX8_chance_36 rfl (j := 3) rfl ?_
      refine g_callSJ X (s_X8_part l G F I o9 o10 p2 (fun y => hoa (eo10.trans y))) lk_X8_450 rfl rfl dX8_chance_37 (Nat.le_of_ble_eq_true rfl) ⟨by decide, by decide⟩ ⟨by decide, by decide⟩ (fun r11 L M hp => ?_)
      obtain ⟨C, D, F, I, K1, hr⟩ := hp
      have K := K.step K1 (by decide)
      have eo10 : D 100 34 = o10 := (congrFun (K1 100 (by decide)).2 34).trans eo10
      exact g_lret X hrt dX8_chance_40 (by decide) (by decide) ⟨C, D, F, I, K, trivial⟩
set_option maxHeartbeats 4000000 in
set_option maxRecDepth 100000 in
theorem s_X8_mean (l : Launch) (G : va_G) {cy : Nat → ClassId} {L : List Nat} {M : Nat → va_E} {a : Nat → Nat} {act : Nat → Bool} {C0 : Nat → Nat → Int32} {D0 : Nat → Nat → Int64} {R : Nat → Nat → Option Nat} (F : WI L M a act (ent cy a C0 D0 R)) (I : Inv C0) (p0 : Int32) (p1 : Int32)  : MJ l G cy yX8_mean cX8_mean 3 (some .long) 7 0 0 [.ref (a 100), .int p0, .int p1] L M (fun r L2 M2 => ∃ C2 D2, WI L2 M2 a act (ent cy a C2 D2 R) ∧ Inv C2 ∧ Kp [100, 115, 116, 120, 121, 122, 123, 124, 125, 126, 127, 128] C0 D0 C2 D2 ∧ True) := by
  refine MJ.of (own := RX8) rfl (by decide) (Nat.le_of_ble_eq_true rfl) ?_
  intro p e s m below meth c A X hrt hnm
  obtain ⟨C, D, hC0, hD0, F, I, K⟩ : ∃ C D, C = C0 ∧ D = D0 ∧ WI L M a act (ent cy a C D R) ∧ Inv C ∧ Kp [100, 115, 116, 120, 121, 122, 123, 124, 125, 126, 127, 128] C0 D0 C D := ⟨C0, D0, rfl, rfl, F, I, Kp.rf⟩
  obtain ⟨n1, hn1, en1⟩ := rg_nat ((show okw 0 (C 101 0) from I 101 0).1 rfl) (by decide)
  rw [hC0] at en1
  obtain ⟨n2, hn2, en2⟩ := rg_nat ((show okw 4 (C 101 4) from I 101 4).2.2.2.1 rfl) (by decide)
  rw [hC0] at en2
  obtain ⟨n3, hn3, en3⟩ := rg_nat ((show okw 7 (C 101 7) from I 101 7).2.2.2.2.1 rfl) (by decide)
  rw [hC0] at en3
  refine g_aload_n X dX8_mean_0 rfl (j := 0) rfl ?_
  refine g_iload_n X dX8_mean_1 rfl (j := 1) rfl ?_
  refine g_iload_n X dX8_mean_2 rfl (j := 2) rfl ?_
  refine g_callVI X (s_X8_isFog l G F I p0 p1 ) lk_X8_468 (F.1 100 rfl).2 (F.1 100 rfl).1 rfl rfl dX8_mean_3 (Nat.le_of_ble_eq_true rfl) ⟨by decide, by decide⟩ ⟨by decide, by decide⟩ (fun r4 L M hp => ?_)
  obtain ⟨C, D, F, I, K1, hr⟩ := hp
  have K := K.step K1 (by decide)
  rcases hr with rfl | ⟨rfl, n5, hn5, en5⟩
  · skip
    refine g_if_ne X dX8_mean_6 (tgt := 13) (by decide) (fun q => absurd (by decide) q) (fun _ => ?_)
    refine g_ldc2 X (v := -2) wd911 dX8_mean_9 ?_
    exact g_lret X hrt dX8_mean_12 (by decide) (by decide) ⟨C, D, F, I, K, trivial⟩
  · skip
    subst en5
    refine g_if_ne X dX8_mean_6 (tgt := 13) (by decide) (fun _ => ?_) (fun q => absurd q (by decide))
    refine g_aload_n X dX8_mean_13 rfl (j := 0) rfl ?_
    refine g_iconst X dX8_mean_14 (v := 0) (by decide) ?_
    refine g_iload_n X dX8_mean_15 rfl (j := 1) rfl ?_
    refine g_callVV X (s_X8_layFog l G F I 0 (by omega) (by omega) n5 (by omega) (by omega) ) lk_X8_473 (F.1 100 rfl).2 (F.1 100 rfl).1 rfl rfl dX8_mean_16 (Nat.le_of_ble_eq_true rfl) ⟨by decide, by decide⟩ ⟨by decide, by decide⟩ (fun L M hp => ?_)
    obtain ⟨C, D, F, I, K1, hr⟩ := hp
    have K := K.step K1 (by decide)
    have hoa := hr
    refine g_aload_n X dX8_mean_19 rfl (j := 0) rfl ?_
    refine i_get X F 100 rfl rfl fk_X8_465 dX8_mean_20 rfl ?_
    refine Go.genL (fun o6 => ?_)
    refine g_aload_n X dX8_mean_23 rfl (j := 0) rfl ?_
    obtain ⟨o7, eo7⟩ : ∃ z, D 100 34 = z := ⟨_, rfl⟩
    refine i_get X F 100 rfl rfl fk_X8_458 dX8_mean_24 (v := .long o7) (congrArg (fun z => some (Value.long z)) eo7) ?_
    refine g_iload_n X dX8_mean_27 rfl (j := 2) rfl ?_
    refine g_callSJ X (s_X8_part l G F I o6 o7 p1 (fun y => hoa (eo7.trans y))) lk_X8_450 rfl rfl dX8_mean_28 (Nat.le_of_ble_eq_true rfl) ⟨by decide, by decide⟩ ⟨by decide, by decide⟩ (fun r8 L M hp => ?_)
    obtain ⟨C, D, F, I, K1, hr⟩ := hp
    have K := K.step K1 (by decide)
    have eo7 : D 100 34 = o7 := (congrFun (K1 100 (by decide)).2 34).trans eo7
    exact g_lret X hrt dX8_mean_31 (by decide) (by decide) ⟨C, D, F, I, K, trivial⟩
