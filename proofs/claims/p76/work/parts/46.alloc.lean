set_option maxHeartbeats 4000000 in
set_option maxRecDepth 100000 in
theorem s_X0_copyFrom_i0 (l : Launch) (G : va_G) {cy : Nat → ClassId} {L : List Nat} {M : Nat → va_E} {a : Nat → Nat} {act : Nat → Bool} {C0 : Nat → Nat → Int32} {D0 : Nat → Nat → Int64} {R : Nat → Nat → Option Nat} (F : WI L M a act (ent cy a C0 D0 R)) (I : Inv C0)  (act57 : (baseact 57 || act 57) = true) (act58 : (baseact 58 || act 58) = true) (act59 : (baseact 59 || act 59) = true) : MV l G cy yX0_copyFrom cX0_copyFrom 2 none 1 0 0 [.ref (a 57), .ref (a 10)] L M (fun L2 M2 => ∃ C2 D2, WI L2 M2 a act (ent cy a C2 D2 R) ∧ Inv C2 ∧ Kp [57, 58, 59] C0 D0 C2 D2 ∧ True) := by
  refine MV.of (own := RX0) rfl (by decide) (Nat.le_of_ble_eq_true rfl) ?_
  intro p e s m below meth c A X hrt hnm
  obtain ⟨C, D, hC0, hD0, F, I, K⟩ : ∃ C D, C = C0 ∧ D = D0 ∧ WI L M a act (ent cy a C D R) ∧ Inv C ∧ Kp [57, 58, 59] C0 D0 C D := ⟨C0, D0, rfl, rfl, F, I, Kp.rf⟩
  refine g_aload_n X dX0_copyFrom_0 rfl (j := 0) rfl ?_
  refine g_aload_n X dX0_copyFrom_1 rfl (j := 1) rfl ?_
  obtain ⟨n1, hn1, en1⟩ := rg_nat (I 10 0 rfl) (by decide)
  refine i_get X F 10 rfl rfl fk_X0_9 dX0_copyFrom_2 (v := .int (nI n1)) (congrArg (fun z => some (Value.int z)) en1) ?_
  refine i_put X F I 57 (act57) rfl rfl fk_X0_9 dX0_copyFrom_5 rfl rfl (Nat.le_of_ble_eq_true rfl) (fun _ => (rg_of (n := n1) (by omega) (by omega) (by omega))) (fun M C F I K1 hC => ?_)
  have K := K.step K1 (by decide)
  refine g_aload_n X dX0_copyFrom_8 rfl (j := 1) rfl ?_
  refine i_get X F 10 rfl rfl fk_X0_15 dX0_copyFrom_9 rfl ?_
  refine g_iconst X dX0_copyFrom_12 (v := 0) (by decide) ?_
  refine g_aload_n X dX0_copyFrom_13 rfl (j := 0) rfl ?_
  refine i_get X F 57 (act57) rfl fk_X0_15 dX0_copyFrom_14 rfl ?_
  refine g_iconst X dX0_copyFrom_17 (v := 0) (by decide) ?_
  refine g_bipush X dX0_copyFrom_18 (v := 30) (by decide) ?_
  refine i_copyi X F I 11 rfl 58 (act58) rfl (fun _ => rfl) (t0 := 1) rfl rfl wd163 wd87 wd88 wd89 (by decide) (by decide) (by decide) (by decide) (by decide) (fun _ _ => rfl) (by decide) (Nat.le_of_ble_eq_true rfl) dX0_copyFrom_20 (fun j => cpy_ok (P := okv 58) (fun j => I 11 j) (fun j => I 58 j) j) (fun M C F I K1 hC => ?_)
  have K := K.step K1 (by decide)
  refine g_aload_n X dX0_copyFrom_23 rfl (j := 1) rfl ?_
  refine i_get X F 10 rfl rfl fk_X0_19 dX0_copyFrom_24 rfl ?_
  refine g_iconst X dX0_copyFrom_27 (v := 0) (by decide) ?_
  refine g_aload_n X dX0_copyFrom_28 rfl (j := 0) rfl ?_
  refine i_get X F 57 (act57) rfl fk_X0_19 dX0_copyFrom_29 rfl ?_
  refine g_iconst X dX0_copyFrom_32 (v := 0) (by decide) ?_
  refine g_aload_n X dX0_copyFrom_33 rfl (j := 0) rfl ?_
  refine i_get X F 57 (act57) rfl fk_X0_19 dX0_copyFrom_34 rfl ?_
  refine i_alen X F 59 (act59) rfl (t0 := 1) rfl dX0_copyFrom_37 (v := 240) rfl ?_
  refine i_copyi X F I 12 rfl 59 (act59) rfl (fun _ => rfl) (t0 := 1) rfl rfl wd163 wd87 wd88 wd89 (by decide) (by decide) (by decide) (by decide) (by decide) (fun _ _ => rfl) (by decide) (Nat.le_of_ble_eq_true rfl) dX0_copyFrom_38 (fun j => trivial) (fun M C F I K1 hC => ?_)
  have K := K.step K1 (by decide)
  exact g_vret X hrt dX0_copyFrom_41 (by decide) (by decide) ⟨C, D, F, I, K, trivial⟩
set_option maxHeartbeats 4000000 in
set_option maxRecDepth 100000 in
theorem s_X2_copyFrom_i0 (l : Launch) (G : va_G) {cy : Nat → ClassId} {L : List Nat} {M : Nat → va_E} {a : Nat → Nat} {act : Nat → Bool} {C0 : Nat → Nat → Int32} {D0 : Nat → Nat → Int64} {R : Nat → Nat → Option Nat} (F : WI L M a act (ent cy a C0 D0 R)) (I : Inv C0)  (act50 : (baseact 50 || act 50) = true) (act51 : (baseact 51 || act 51) = true) (act52 : (baseact 52 || act 52) = true) (act53 : (baseact 53 || act 53) = true) (act54 : (baseact 54 || act 54) = true) (act55 : (baseact 55 || act 55) = true) (act56 : (baseact 56 || act 56) = true) (act57 : (baseact 57 || act 57) = true) (act58 : (baseact 58 || act 58) = true) (act59 : (baseact 59 || act 59) = true) : MV l G cy yX2_copyFrom cX2_copyFrom 2 none 2 0 0 [.ref (a 50), .ref (a 3)] L M (fun L2 M2 => ∃ C2 D2, WI L2 M2 a act (ent cy a C2 D2 R) ∧ Inv C2 ∧ Kp [50, 51, 52, 53, 54, 55, 56, 57, 58, 59] C0 D0 C2 D2 ∧ True) := by
  refine MV.of (own := RX2) rfl (by decide) (Nat.le_of_ble_eq_true rfl) ?_
  intro p e s m below meth c A X hrt hnm
  obtain ⟨C, D, hC0, hD0, F, I, K⟩ : ∃ C D, C = C0 ∧ D = D0 ∧ WI L M a act (ent cy a C D R) ∧ Inv C ∧ Kp [50, 51, 52, 53, 54, 55, 56, 57, 58, 59] C0 D0 C D := ⟨C0, D0, rfl, rfl, F, I, Kp.rf⟩
  refine g_aload_n X dX2_copyFrom_0 rfl (j := 0) rfl ?_
  refine g_aload_n X dX2_copyFrom_1 rfl (j := 1) rfl ?_
  refine i_get X F 3 rfl rfl fk_X2_9 dX2_copyFrom_2 rfl ?_
  refine Go.gen (fun o1 => ?_)
  refine i_put X F I 50 (act50) rfl rfl fk_X2_9 dX2_copyFrom_5 rfl rfl (Nat.le_of_ble_eq_true rfl) ⟨fun h => absurd h (by decide), fun h => absurd h (by decide), fun h => absurd h (by decide), fun h => absurd h (by decide)⟩ (fun M C F I K1 hC => ?_)
  have K := K.step K1 (by decide)
  refine g_aload_n X dX2_copyFrom_8 rfl (j := 0) rfl ?_
  refine g_aload_n X dX2_copyFrom_9 rfl (j := 1) rfl ?_
  obtain ⟨n2, hn2, en2⟩ := rg_nat ((I 3 1).1 rfl) (by decide)
  refine i_get X F 3 rfl rfl fk_X2_15 dX2_copyFrom_10 (v := .int (nI n2)) (congrArg (fun z => some (Value.int z)) en2) ?_
  refine i_put X F I 50 (act50) rfl rfl fk_X2_15 dX2_copyFrom_13 rfl rfl (Nat.le_of_ble_eq_true rfl) ⟨fun _ => (rg_of (n := n2) (by omega) (by omega) (by omega)), fun h => absurd h (by decide), fun h => absurd h (by decide), fun h => absurd h (by decide)⟩ (fun M C F I K1 hC => ?_)
  have K := K.step K1 (by decide)
  refine g_aload_n X dX2_copyFrom_16 rfl (j := 0) rfl ?_
  refine g_aload_n X dX2_copyFrom_17 rfl (j := 1) rfl ?_
  refine i_get X F 3 rfl rfl fk_X2_18 dX2_copyFrom_18 rfl ?_
  refine Go.gen (fun o3 => ?_)
  refine i_put X F I 50 (act50) rfl rfl fk_X2_18 dX2_copyFrom_21 rfl rfl (Nat.le_of_ble_eq_true rfl) ⟨fun h => absurd h (by decide), fun h => absurd h (by decide), fun h => absurd h (by decide), fun h => absurd h (by decide)⟩ (fun M C F I K1 hC => ?_)
  have K := K.step K1 (by decide)
  refine g_aload_n X dX2_copyFrom_24 rfl (j := 0) rfl ?_
  refine g_aload_n X dX2_copyFrom_25 rfl (j := 1) rfl ?_
  refine i_get X F 3 rfl rfl fk_X2_21 dX2_copyFrom_26 rfl ?_
  refine Go.gen (fun o4 => ?_)
  refine i_put X F I 50 (act50) rfl rfl fk_X2_21 dX2_copyFrom_29 rfl rfl (Nat.le_of_ble_eq_true rfl) ⟨fun h => absurd h (by decide), fun h => absurd h (by decide), fun h => absurd h (by decide), fun h => absurd h (by decide)⟩ (fun M C F I K1 hC => ?_)
  have K := K.step K1 (by decide)
  refine g_aload_n X dX2_copyFrom_32 rfl (j := 0) rfl ?_
  refine g_aload_n X dX2_copyFrom_33 rfl (j := 1) rfl ?_
  obtain ⟨n5, hn5, en5⟩ := rg_nat ((I 3 4).2.1 rfl) (by decide)
  refine i_get X F 3 rfl rfl fk_X2_24 dX2_copyFrom_34 (v := .int (nI n5)) (congrArg (fun z => some (Value.int z)) en5) ?_
  refine i_put X F I 50 (act50) rfl rfl fk_X2_24 dX2_copyFrom_37 rfl rfl (Nat.le_of_ble_eq_true rfl) ⟨fun h => absurd h (by decide), fun _ => (rg_of (n := n5) (by omega) (by omega) (by omega)), fun h => absurd h (by decide), fun h => absurd h (by decide)⟩ (fun M C F I K1 hC => ?_)
  have K := K.step K1 (by decide)
  refine g_aload_n X dX2_copyFrom_40 rfl (j := 0) rfl ?_
  refine g_aload_n X dX2_copyFrom_41 rfl (j := 1) rfl ?_
  obtain ⟨n6, hn6, en6⟩ := rg_nat ((I 3 5).2.2.1 rfl) (by decide)
  refine i_get X F 3 rfl rfl fk_X2_27 dX2_copyFrom_42 (v := .int (nI n6)) (congrArg (fun z => some (Value.int z)) en6) ?_
  refine i_put X F I 50 (act50) rfl rfl fk_X2_27 dX2_copyFrom_45 rfl rfl (Nat.le_of_ble_eq_true rfl) ⟨fun h => absurd h (by decide), fun h => absurd h (by decide), fun _ => (rg_of (n := n6) (by omega) (by omega) (by omega)), fun h => absurd h (by decide)⟩ (fun M C F I K1 hC => ?_)
  have K := K.step K1 (by decide)
  refine g_aload_n X dX2_copyFrom_48 rfl (j := 0) rfl ?_
  refine g_aload_n X dX2_copyFrom_49 rfl (j := 1) rfl ?_
  refine i_get X F 3 rfl rfl fk_X2_30 dX2_copyFrom_50 rfl ?_
  refine Go.gen (fun o7 => ?_)
  refine i_put X F I 50 (act50) rfl rfl fk_X2_30 dX2_copyFrom_53 rfl rfl (Nat.le_of_ble_eq_true rfl) ⟨fun h => absurd h (by decide), fun h => absurd h (by decide), fun h => absurd h (by decide), fun h => absurd h (by decide)⟩ (fun M C F I K1 hC => ?_)
  have K := K.step K1 (by decide)
  refine g_aload_n X dX2_copyFrom_56 rfl (j := 0) rfl ?_
  refine g_aload_n X dX2_copyFrom_57 rfl (j := 1) rfl ?_
  refine i_get X F 3 rfl rfl fk_X2_33 dX2_copyFrom_58 rfl ?_
  refine Go.gen (fun o8 => ?_)
  refine i_put X F I 50 (act50) rfl rfl fk_X2_33 dX2_copyFrom_61 rfl rfl (Nat.le_of_ble_eq_true rfl) ⟨fun h => absurd h (by decide), fun h => absurd h (by decide), fun h => absurd h (by decide), fun h => absurd h (by decide)⟩ (fun M C F I K1 hC => ?_)
  have K := K.step K1 (by decide)
  refine g_aload_n X dX2_copyFrom_64 rfl (j := 0) rfl ?_
  refine g_aload_n X dX2_copyFrom_65 rfl (j := 1) rfl ?_
  obtain ⟨n9, hn9, en9⟩ := rg_nat ((I 3 8).2.2.2 rfl) (by decide)
  refine i_get X F 3 rfl rfl fk_X2_36 dX2_copyFrom_66 (v := .int (nI n9)) (congrArg (fun z => some (Value.int z)) en9) ?_
  refine i_put X F I 50 (act50) rfl rfl fk_X2_36 dX2_copyFrom_69 rfl rfl (Nat.le_of_ble_eq_true rfl) ⟨fun h => absurd h (by decide), fun h => absurd h (by decide), fun h => absurd h (by decide), fun _ => (rg_of (n := n9) (by omega) (by omega) (by omega))⟩ (fun M C F I K1 hC => ?_)
  have K := K.step K1 (by decide)
  refine g_aload_n X dX2_copyFrom_72 rfl (j := 1) rfl ?_
  refine i_get X F 3 rfl rfl fk_X2_39 dX2_copyFrom_73 rfl ?_
  refine g_iconst X dX2_copyFrom_76 (v := 0) (by decide) ?_
  refine g_aload_n X dX2_copyFrom_77 rfl (j := 0) rfl ?_
  refine i_get X F 50 (act50) rfl fk_X2_39 dX2_copyFrom_78 rfl ?_
  refine g_iconst X dX2_copyFrom_81 (v := 0) (by decide) ?_
  refine g_iconst X dX2_copyFrom_82 (v := 4) (by decide) ?_
  refine i_copyi X F I 4 rfl 51 (act51) rfl (fun _ => rfl) (t0 := 1) rfl rfl wd169 wd87 wd88 wd89 (by decide) (by decide) (by decide) (by decide) (by decide) (fun _ _ => rfl) (by decide) (Nat.le_of_ble_eq_true rfl) dX2_copyFrom_83 (fun j => trivial) (fun M C F I K1 hC => ?_)
  have K := K.step K1 (by decide)
  refine g_aload_n X dX2_copyFrom_86 rfl (j := 1) rfl ?_
  refine i_get X F 3 rfl rfl fk_X2_43 dX2_copyFrom_87 rfl ?_
  refine g_iconst X dX2_copyFrom_90 (v := 0) (by decide) ?_
  refine g_aload_n X dX2_copyFrom_91 rfl (j := 0) rfl ?_
  refine i_get X F 50 (act50) rfl fk_X2_43 dX2_copyFrom_92 rfl ?_
  refine g_iconst X dX2_copyFrom_95 (v := 0) (by decide) ?_
  refine g_bipush X dX2_copyFrom_96 (v := 7) (by decide) ?_
  refine i_copyi X F I 5 rfl 52 (act52) rfl (fun _ => rfl) (t0 := 1) rfl rfl wd169 wd87 wd88 wd89 (by decide) (by decide) (by decide) (by decide) (by decide) (fun _ _ => rfl) (by decide) (Nat.le_of_ble_eq_true rfl) dX2_copyFrom_98 (fun j => cpy_ok (P := okv 52) (fun j => I 5 j) (fun j => I 52 j) j) (fun M C F I K1 hC => ?_)
  have K := K.step K1 (by decide)
  refine g_aload_n X dX2_copyFrom_101 rfl (j := 1) rfl ?_
  refine i_get X F 3 rfl rfl fk_X2_46 dX2_copyFrom_102 rfl ?_
  refine g_iconst X dX2_copyFrom_105 (v := 0) (by decide) ?_
  refine g_aload_n X dX2_copyFrom_106 rfl (j := 0) rfl ?_
  refine i_get X F 50 (act50) rfl fk_X2_46 dX2_copyFrom_107 rfl ?_
  refine g_iconst X dX2_copyFrom_110 (v := 0) (by decide) ?_
  refine g_aload_n X dX2_copyFrom_111 rfl (j := 0) rfl ?_
  refine i_get X F 50 (act50) rfl fk_X2_46 dX2_copyFrom_112 rfl ?_
  refine i_alen X F 53 (act53) rfl (t0 := 1) rfl dX2_copyFrom_115 (v := 28) rfl ?_
  refine i_copyi X F I 6 rfl 53 (act53) rfl (fun _ => rfl) (t0 := 1) rfl rfl wd169 wd87 wd88 wd89 (by decide) (by decide) (by decide) (by decide) (by decide) (fun _ _ => rfl) (by decide) (Nat.le_of_ble_eq_true rfl) dX2_copyFrom_116 (fun j => cpy_ok (P := okv 53) (fun j => I 6 j) (fun j => I 53 j) j) (fun M C F I K1 hC => ?_)
  have K := K.step K1 (by decide)
  refine g_aload_n X dX2_copyFrom_119 rfl (j := 1) rfl ?_
  refine i_get X F 3 rfl rfl fk_X2_49 dX2_copyFrom_120 rfl ?_
  refine g_iconst X dX2_copyFrom_123 (v := 0) (by decide) ?_
  refine g_aload_n X dX2_copyFrom_124 rfl (j := 0) rfl ?_
  refine i_get X F 50 (act50) rfl fk_X2_49 dX2_copyFrom_125 rfl ?_
  refine g_iconst X dX2_copyFrom_128 (v := 0) (by decide) ?_
  refine g_bipush X dX2_copyFrom_129 (v := 7) (by decide) ?_
  refine i_copyi X F I 7 rfl 54 (act54) rfl (fun _ => rfl) (t0 := 1) rfl rfl wd169 wd87 wd88 wd89 (by decide) (by decide) (by decide) (by decide) (by decide) (fun _ _ => rfl) (by decide) (Nat.le_of_ble_eq_true rfl) dX2_copyFrom_131 (fun j => cpy_ok (P := okv 54) (fun j => I 7 j) (fun j => I 54 j) j) (fun M C F I K1 hC => ?_)
  have K := K.step K1 (by decide)
  refine g_aload_n X dX2_copyFrom_134 rfl (j := 1) rfl ?_
  refine i_get X F 3 rfl rfl fk_X2_52 dX2_copyFrom_135 rfl ?_
  refine g_iconst X dX2_copyFrom_138 (v := 0) (by decide) ?_
  refine g_aload_n X dX2_copyFrom_139 rfl (j := 0) rfl ?_
  refine i_get X F 50 (act50) rfl fk_X2_52 dX2_copyFrom_140 rfl ?_
  refine g_iconst X dX2_copyFrom_143 (v := 0) (by decide) ?_
  refine g_bipush X dX2_copyFrom_144 (v := 8) (by decide) ?_
  refine i_copyi X F I 8 rfl 55 (act55) rfl (fun _ => rfl) (t0 := 1) rfl rfl wd169 wd87 wd88 wd89 (by decide) (by decide) (by decide) (by decide) (by decide) (fun _ _ => rfl) (by decide) (Nat.le_of_ble_eq_true rfl) dX2_copyFrom_146 (fun j => cpy_ok (P := okv 55) (fun j => I 8 j) (fun j => I 55 j) j) (fun M C F I K1 hC => ?_)
  have K := K.step K1 (by decide)
  refine g_aload_n X dX2_copyFrom_149 rfl (j := 1) rfl ?_
  refine i_get X F 3 rfl rfl fk_X2_55 dX2_copyFrom_150 rfl ?_
  refine g_iconst X dX2_copyFrom_153 (v := 0) (by decide) ?_
  refine g_aload_n X dX2_copyFrom_154 rfl (j := 0) rfl ?_
  refine i_get X F 50 (act50) rfl fk_X2_55 dX2_copyFrom_155 rfl ?_
  refine g_iconst X dX2_copyFrom_158 (v := 0) (by decide) ?_
  refine g_bipush X dX2_copyFrom_159 (v := 8) (by decide) ?_
  refine i_copyi X F I 9 rfl 56 (act56) rfl (fun _ => rfl) (t0 := 1) rfl rfl wd169 wd87 wd88 wd89 (by decide) (by decide) (by decide) (by decide) (by decide) (fun _ _ => rfl) (by decide) (Nat.le_of_ble_eq_true rfl) dX2_copyFrom_161 (fun j => trivial) (fun M C F I K1 hC => ?_)
  have K := K.step K1 (by decide)
  refine g_aload_n X dX2_copyFrom_164 rfl (j := 0) rfl ?_
  refine i_get X F 50 (act50) rfl fk_X2_61 dX2_copyFrom_165 rfl ?_
  refine g_aload_n X dX2_copyFrom_168 rfl (j := 1) rfl ?_
  refine i_get X F 3 rfl rfl fk_X2_61 dX2_copyFrom_169 rfl ?_
  refine g_callVV X (s_X0_copyFrom_i0 l G F I  act57 act58 act59) lk_X2_80 (F.1 57 (act57)).2 (F.1 57 (act57)).1 rfl rfl dX2_copyFrom_172 (Nat.le_of_ble_eq_true rfl) ⟨by decide, by decide⟩ ⟨by decide, by decide⟩ (fun L M hp => ?_)
  obtain ⟨C, D, F, I, K1, hr⟩ := hp
  have K := K.step K1 (by decide)
  exact g_vret X hrt dX2_copyFrom_175 (by decide) (by decide) ⟨C, D, F, I, K, trivial⟩
set_option maxHeartbeats 4000000 in
set_option maxRecDepth 100000 in
theorem s_X0_copyFrom_i1 (l : Launch) (G : va_G) {cy : Nat → ClassId} {L : List Nat} {M : Nat → va_E} {a : Nat → Nat} {act : Nat → Bool} {C0 : Nat → Nat → Int32} {D0 : Nat → Nat → Int64} {R : Nat → Nat → Option Nat} (F : WI L M a act (ent cy a C0 D0 R)) (I : Inv C0)  (act67 : (baseact 67 || act 67) = true) (act68 : (baseact 68 || act 68) = true) (act69 : (baseact 69 || act 69) = true) : MV l G cy yX0_copyFrom cX0_copyFrom 2 none 1 0 0 [.ref (a 67), .ref (a 10)] L M (fun L2 M2 => ∃ C2 D2, WI L2 M2 a act (ent cy a C2 D2 R) ∧ Inv C2 ∧ Kp [67, 68, 69] C0 D0 C2 D2 ∧ True) := by
  refine MV.of (own := RX0) rfl (by decide) (Nat.le_of_ble_eq_true rfl) ?_
  intro p e s m below meth c A X hrt hnm
  obtain ⟨C, D, hC0, hD0, F, I, K⟩ : ∃ C D, C = C0 ∧ D = D0 ∧ WI L M a act (ent cy a C D R) ∧ Inv C ∧ Kp [67, 68, 69] C0 D0 C D := ⟨C0, D0, rfl, rfl, F, I, Kp.rf⟩
  refine g_aload_n X dX0_copyFrom_0 rfl (j := 0) rfl ?_
  refine g_aload_n X dX0_copyFrom_1 rfl (j := 1) rfl ?_
  obtain ⟨n1, hn1, en1⟩ := rg_nat (I 10 0 rfl) (by decide)
  refine i_get X F 10 rfl rfl fk_X0_9 dX0_copyFrom_2 (v := .int (nI n1)) (congrArg (fun z => some (Value.int z)) en1) ?_
  refine i_put X F I 67 (act67) rfl rfl fk_X0_9 dX0_copyFrom_5 rfl rfl (Nat.le_of_ble_eq_true rfl) (fun _ => (rg_of (n := n1) (by omega) (by omega) (by omega))) (fun M C F I K1 hC => ?_)
  have K := K.step K1 (by decide)
  refine g_aload_n X dX0_copyFrom_8 rfl (j := 1) rfl ?_
  refine i_get X F 10 rfl rfl fk_X0_15 dX0_copyFrom_9 rfl ?_
  refine g_iconst X dX0_copyFrom_12 (v := 0) (by decide) ?_
  refine g_aload_n X dX0_copyFrom_13 rfl (j := 0) rfl ?_
  refine i_get X F 67 (act67) rfl fk_X0_15 dX0_copyFrom_14 rfl ?_
  refine g_iconst X dX0_copyFrom_17 (v := 0) (by decide) ?_
  refine g_bipush X dX0_copyFrom_18 (v := 30) (by decide) ?_
  refine i_copyi X F I 11 rfl 68 (act68) rfl (fun _ => rfl) (t0 := 1) rfl rfl wd163 wd87 wd88 wd89 (by decide) (by decide) (by decide) (by decide) (by decide) (fun _ _ => rfl) (by decide) (Nat.le_of_ble_eq_true rfl) dX0_copyFrom_20 (fun j => cpy_ok (P := okv 68) (fun j => I 11 j) (fun j => I 68 j) j) (fun M C F I K1 hC => ?_)
  have K := K.step K1 (by decide)
  refine g_aload_n X dX0_copyFrom_23 rfl (j := 1) rfl ?_
  refine i_get X F 10 rfl rfl fk_X0_19 dX0_copyFrom_24 rfl ?_
  refine g_iconst X dX0_copyFrom_27 (v := 0) (by decide) ?_
  refine g_aload_n X dX0_copyFrom_28 rfl (j := 0) rfl ?_
  refine i_get X F 67 (act67) rfl fk_X0_19 dX0_copyFrom_29 rfl ?_
  refine g_iconst X dX0_copyFrom_32 (v := 0) (by decide) ?_
  refine g_aload_n X dX0_copyFrom_33 rfl (j := 0) rfl ?_
  refine i_get X F 67 (act67) rfl fk_X0_19 dX0_copyFrom_34 rfl ?_
  refine i_alen X F 69 (act69) rfl (t0 := 1) rfl dX0_copyFrom_37 (v := 240) rfl ?_
  refine i_copyi X F I 12 rfl 69 (act69) rfl (fun _ => rfl) (t0 := 1) rfl rfl wd163 wd87 wd88 wd89 (by decide) (by decide) (by decide) (by decide) (by decide) (fun _ _ => rfl) (by decide) (Nat.le_of_ble_eq_true rfl) dX0_copyFrom_38 (fun j => trivial) (fun M C F I K1 hC => ?_)
  have K := K.step K1 (by decide)
  exact g_vret X hrt dX0_copyFrom_41 (by decide) (by decide) ⟨C, D, F, I, K, trivial⟩
set_option maxHeartbeats 4000000 in
set_option maxRecDepth 100000 in
theorem s_X2_copyFrom_i1 (l : Launch) (G : va_G) {cy : Nat → ClassId} {L : List Nat} {M : Nat → va_E} {a : Nat → Nat} {act : Nat → Bool} {C0 : Nat → Nat → Int32} {D0 : Nat → Nat → Int64} {R : Nat → Nat → Option Nat} (F : WI L M a act (ent cy a C0 D0 R)) (I : Inv C0)  (act60 : (baseact 60 || act 60) = true) (act61 : (baseact 61 || act 61) = true) (act62 : (baseact 62 || act 62) = true) (act63 : (baseact 63 || act 63) = true) (act64 : (baseact 64 || act 64) = true) (act65 : (baseact 65 || act 65) = true) (act66 : (baseact 66 || act 66) = true) (act67 : (baseact 67 || act 67) = true) (act68 : (baseact 68 || act 68) = true) (act69 : (baseact 69 || act 69) = true) : MV l G cy yX2_copyFrom cX2_copyFrom 2 none 2 0 0 [.ref (a 60), .ref (a 3)] L M (fun L2 M2 => ∃ C2 D2, WI L2 M2 a act (ent cy a C2 D2 R) ∧ Inv C2 ∧ Kp [60, 61, 62, 63, 64, 65, 66, 67, 68, 69] C0 D0 C2 D2 ∧ True) := by
  refine MV.of (own := RX2) rfl (by decide) (Nat.le_of_ble_eq_true rfl) ?_
  intro p e s m below meth c A X hrt hnm
  obtain ⟨C, D, hC0, hD0, F, I, K⟩ : ∃ C D, C = C0 ∧ D = D0 ∧ WI L M a act (ent cy a C D R) ∧ Inv C ∧ Kp [60, 61, 62, 63, 64, 65, 66, 67, 68, 69] C0 D0 C D := ⟨C0, D0, rfl, rfl, F, I, Kp.rf⟩
  refine g_aload_n X dX2_copyFrom_0 rfl (j := 0) rfl ?_
  refine g_aload_n X dX2_copyFrom_1 rfl (j := 1) rfl ?_
  refine i_get X F 3 rfl rfl fk_X2_9 dX2_copyFrom_2 rfl ?_
  refine Go.gen (fun o1 => ?_)
  refine i_put X F I 60 (act60) rfl rfl fk_X2_9 dX2_copyFrom_5 rfl rfl (Nat.le_of_ble_eq_true rfl) ⟨fun h => absurd h (by decide), fun h => absurd h (by decide), fun h => absurd h (by decide), fun h => absurd h (by decide)⟩ (fun M C F I K1 hC => ?_)
  have K := K.step K1 (by decide)
  refine g_aload_n X dX2_copyFrom_8 rfl (j := 0) rfl ?_
  refine g_aload_n X dX2_copyFrom_9 rfl (j := 1) rfl ?_
  obtain ⟨n2, hn2, en2⟩ := rg_nat ((I 3 1).1 rfl) (by decide)
  refine i_get X F 3 rfl rfl fk_X2_15 dX2_copyFrom_10 (v := .int (nI n2)) (congrArg (fun z => some (Value.int z)) en2) ?_
  refine i_put X F I 60 (act60) rfl rfl fk_X2_15 dX2_copyFrom_13 rfl rfl (Nat.le_of_ble_eq_true rfl) ⟨fun _ => (rg_of (n := n2) (by omega) (by omega) (by omega)), fun h => absurd h (by decide), fun h => absurd h (by decide), fun h => absurd h (by decide)⟩ (fun M C F I K1 hC => ?_)
  have K := K.step K1 (by decide)
  refine g_aload_n X dX2_copyFrom_16 rfl (j := 0) rfl ?_
  refine g_aload_n X dX2_copyFrom_17 rfl (j := 1) rfl ?_
  refine i_get X F 3 rfl rfl fk_X2_18 dX2_copyFrom_18 rfl ?_
  refine Go.gen (fun o3 => ?_)
  refine i_put X F I 60 (act60) rfl rfl fk_X2_18 dX2_copyFrom_21 rfl rfl (Nat.le_of_ble_eq_true rfl) ⟨fun h => absurd h (by decide), fun h => absurd h (by decide), fun h => absurd h (by decide), fun h => absurd h (by decide)⟩ (fun M C F I K1 hC => ?_)
  have K := K.step K1 (by decide)
  refine g_aload_n X dX2_copyFrom_24 rfl (j := 0) rfl ?_
  refine g_aload_n X dX2_copyFrom_25 rfl (j := 1) rfl ?_
  refine i_get X F 3 rfl rfl fk_X2_21 dX2_copyFrom_26 rfl ?_
  refine Go.gen (fun o4 => ?_)
  refine i_put X F I 60 (act60) rfl rfl fk_X2_21 dX2_copyFrom_29 rfl rfl (Nat.le_of_ble_eq_true rfl) ⟨fun h => absurd h (by decide), fun h => absurd h (by decide), fun h => absurd h (by decide), fun h => absurd h (by decide)⟩ (fun M C F I K1 hC => ?_)
  have K := K.step K1 (by decide)
  refine g_aload_n X dX2_copyFrom_32 rfl (j := 0) rfl ?_
  refine g_aload_n X dX2_copyFrom_33 rfl (j := 1) rfl ?_
  obtain ⟨n5, hn5, en5⟩ := rg_nat ((I 3 4).2.1 rfl) (by decide)
  refine i_get X F 3 rfl rfl fk_X2_24 dX2_copyFrom_34 (v := .int (nI n5)) (congrArg (fun z => some (Value.int z)) en5) ?_
  refine i_put X F I 60 (act60) rfl rfl fk_X2_24 dX2_copyFrom_37 rfl rfl (Nat.le_of_ble_eq_true rfl) ⟨fun h => absurd h (by decide), fun _ => (rg_of (n := n5) (by omega) (by omega) (by omega)), fun h => absurd h (by decide), fun h => absurd h (by decide)⟩ (fun M C F I K1 hC => ?_)
  have K := K.step K1 (by decide)
  refine g_aload_n X dX2_copyFrom_40 rfl (j := 0) rfl ?_
  refine g_aload_n X dX2_copyFrom_41 rfl (j := 1) rfl ?_
  obtain ⟨n6, hn6, en6⟩ := rg_nat ((I 3 5).2.2.1 rfl) (by decide)
  refine i_get X F 3 rfl rfl fk_X2_27 dX2_copyFrom_42 (v := .int (nI n6)) (congrArg (fun z => some (Value.int z)) en6) ?_
  refine i_put X F I 60 (act60) rfl rfl fk_X2_27 dX2_copyFrom_45 rfl rfl (Nat.le_of_ble_eq_true rfl) ⟨fun h => absurd h (by decide), fun h => absurd h (by decide), fun _ => (rg_of (n := n6) (by omega) (by omega) (by omega)), fun h => absurd h (by decide)⟩ (fun M C F I K1 hC => ?_)
  have K := K.step K1 (by decide)
  refine g_aload_n X dX2_copyFrom_48 rfl (j := 0) rfl ?_
  refine g_aload_n X dX2_copyFrom_49 rfl (j := 1) rfl ?_
  refine i_get X F 3 rfl rfl fk_X2_30 dX2_copyFrom_50 rfl ?_
  refine Go.gen (fun o7 => ?_)
  refine i_put X F I 60 (act60) rfl rfl fk_X2_30 dX2_copyFrom_53 rfl rfl (Nat.le_of_ble_eq_true rfl) ⟨fun h => absurd h (by decide), fun h => absurd h (by decide), fun h => absurd h (by decide), fun h => absurd h (by decide)⟩ (fun M C F I K1 hC => ?_)
  have K := K.step K1 (by decide)
  refine g_aload_n X dX2_copyFrom_56 rfl (j := 0) rfl ?_
  refine g_aload_n X dX2_copyFrom_57 rfl (j := 1) rfl ?_
  refine i_get X F 3 rfl rfl fk_X2_33 dX2_copyFrom_58 rfl ?_
  refine Go.gen (fun o8 => ?_)
  refine i_put X F I 60 (act60) rfl rfl fk_X2_33 dX2_copyFrom_61 rfl rfl (Nat.le_of_ble_eq_true rfl) ⟨fun h => absurd h (by decide), fun h => absurd h (by decide), fun h => absurd h (by decide), fun h => absurd h (by decide)⟩ (fun M C F I K1 hC => ?_)
  have K := K.step K1 (by decide)
  refine g_aload_n X dX2_copyFrom_64 rfl (j := 0) rfl ?_
  refine g_aload_n X dX2_copyFrom_65 rfl (j := 1) rfl ?_
  obtain ⟨n9, hn9, en9⟩ := rg_nat ((I 3 8).2.2.2 rfl) (by decide)
  refine i_get X F 3 rfl rfl fk_X2_36 dX2_copyFrom_66 (v := .int (nI n9)) (congrArg (fun z => some (Value.int z)) en9) ?_
  refine i_put X F I 60 (act60) rfl rfl fk_X2_36 dX2_copyFrom_69 rfl rfl (Nat.le_of_ble_eq_true rfl) ⟨fun h => absurd h (by decide), fun h => absurd h (by decide), fun h => absurd h (by decide), fun _ => (rg_of (n := n9) (by omega) (by omega) (by omega))⟩ (fun M C F I K1 hC => ?_)
  have K := K.step K1 (by decide)
  refine g_aload_n X dX2_copyFrom_72 rfl (j := 1) rfl ?_
  refine i_get X F 3 rfl rfl fk_X2_39 dX2_copyFrom_73 rfl ?_
  refine g_iconst X dX2_copyFrom_76 (v := 0) (by decide) ?_
  refine g_aload_n X dX2_copyFrom_77 rfl (j := 0) rfl ?_
  refine i_get X F 60 (act60) rfl fk_X2_39 dX2_copyFrom_78 rfl ?_
  refine g_iconst X dX2_copyFrom_81 (v := 0) (by decide) ?_
  refine g_iconst X dX2_copyFrom_82 (v := 4) (by decide) ?_
  refine i_copyi X F I 4 rfl 61 (act61) rfl (fun _ => rfl) (t0 := 1) rfl rfl wd169 wd87 wd88 wd89 (by decide) (by decide) (by decide) (by decide) (by decide) (fun _ _ => rfl) (by decide) (Nat.le_of_ble_eq_true rfl) dX2_copyFrom_83 (fun j => trivial) (fun M C F I K1 hC => ?_)
  have K := K.step K1 (by decide)
  refine g_aload_n X dX2_copyFrom_86 rfl (j := 1) rfl ?_
  refine i_get X F 3 rfl rfl fk_X2_43 dX2_copyFrom_87 rfl ?_
  refine g_iconst X dX2_copyFrom_90 (v := 0) (by decide) ?_
  refine g_aload_n X dX2_copyFrom_91 rfl (j := 0) rfl ?_
  refine i_get X F 60 (act60) rfl fk_X2_43 dX2_copyFrom_92 rfl ?_
  refine g_iconst X dX2_copyFrom_95 (v := 0) (by decide) ?_
  refine g_bipush X dX2_copyFrom_96 (v := 7) (by decide) ?_
  refine i_copyi X F I 5 rfl 62 (act62) rfl (fun _ => rfl) (t0 := 1) rfl rfl wd169 wd87 wd88 wd89 (by decide) (by decide) (by decide) (by decide) (by decide) (fun _ _ => rfl) (by decide) (Nat.le_of_ble_eq_true rfl) dX2_copyFrom_98 (fun j => cpy_ok (P := okv 62) (fun j => I 5 j) (fun j => I 62 j) j) (fun M C F I K1 hC => ?_)
  have K := K.step K1 (by decide)
  refine g_aload_n X dX2_copyFrom_101 rfl (j := 1) rfl ?_
  refine i_get X F 3 rfl rfl fk_X2_46 dX2_copyFrom_102 rfl ?_
  refine g_iconst X dX2_copyFrom_105 (v := 0) (by decide) ?_
  refine g_aload_n X dX2_copyFrom_106 rfl (j := 0) rfl ?_
  refine i_get X F 60 (act60) rfl fk_X2_46 dX2_copyFrom_107 rfl ?_
  refine g_iconst X dX2_copyFrom_110 (v := 0) (by decide) ?_
  refine g_aload_n X dX2_copyFrom_111 rfl (j := 0) rfl ?_
  refine i_get X F 60 (act60) rfl fk_X2_46 dX2_copyFrom_112 rfl ?_
  refine i_alen X F 63 (act63) rfl (t0 := 1) rfl dX2_copyFrom_115 (v := 28) rfl ?_
  refine i_copyi X F I 6 rfl 63 (act63) rfl (fun _ => rfl) (t0 := 1) rfl rfl wd169 wd87 wd88 wd89 (by decide) (by decide) (by decide) (by decide) (by decide) (fun _ _ => rfl) (by decide) (Nat.le_of_ble_eq_true rfl) dX2_copyFrom_116 (fun j => cpy_ok (P := okv 63) (fun j => I 6 j) (fun j => I 63 j) j) (fun M C F I K1 hC => ?_)
  have K := K.step K1 (by decide)
  refine g_aload_n X dX2_copyFrom_119 rfl (j := 1) rfl ?_
  refine i_get X F 3 rfl rfl fk_X2_49 dX2_copyFrom_120 rfl ?_
  refine g_iconst X dX2_copyFrom_123 (v := 0) (by decide) ?_
  refine g_aload_n X dX2_copyFrom_124 rfl (j := 0) rfl ?_
  refine i_get X F 60 (act60) rfl fk_X2_49 dX2_copyFrom_125 rfl ?_
  refine g_iconst X dX2_copyFrom_128 (v := 0) (by decide) ?_
  refine g_bipush X dX2_copyFrom_129 (v := 7) (by decide) ?_
  refine i_copyi X F I 7 rfl 64 (act64) rfl (fun _ => rfl) (t0 := 1) rfl rfl wd169 wd87 wd88 wd89 (by decide) (by decide) (by decide) (by decide) (by decide) (fun _ _ => rfl) (by decide) (Nat.le_of_ble_eq_true rfl) dX2_copyFrom_131 (fun j => cpy_ok (P := okv 64) (fun j => I 7 j) (fun j => I 64 j) j) (fun M C F I K1 hC => ?_)
  have K := K.step K1 (by decide)
  refine g_aload_n X dX2_copyFrom_134 rfl (j := 1) rfl ?_
  refine i_get X F 3 rfl rfl fk_X2_52 dX2_copyFrom_135 rfl ?_
  refine g_iconst X dX2_copyFrom_138 (v := 0) (by decide) ?_
  refine g_aload_n X dX2_copyFrom_139 rfl (j := 0) rfl ?_
  refine i_get X F 60 (act60) rfl fk_X2_52 dX2_copyFrom_140 rfl ?_
  refine g_iconst X dX2_copyFrom_143 (v := 0) (by decide) ?_
  refine g_bipush X dX2_copyFrom_144 (v := 8) (by decide) ?_
  refine i_copyi X F I 8 rfl 65 (act65) rfl (fun _ => rfl) (t0 := 1) rfl rfl wd169 wd87 wd88 wd89 (by decide) (by decide) (by decide) (by decide) (by decide) (fun _ _ => rfl) (by decide) (Nat.le_of_ble_eq_true rfl) dX2_copyFrom_146 (fun j => cpy_ok (P := okv 65) (fun j => I 8 j) (fun j => I 65 j) j) (fun M C F I K1 hC => ?_)
  have K := K.step K1 (by decide)
  refine g_aload_n X dX2_copyFrom_149 rfl (j := 1) rfl ?_
  refine i_get X F 3 rfl rfl fk_X2_55 dX2_copyFrom_150 rfl ?_
  refine g_iconst X dX2_copyFrom_153 (v := 0) (by decide) ?_
  refine g_aload_n X dX2_copyFrom_154 rfl (j := 0) rfl ?_
  refine i_get X F 60 (act60) rfl fk_X2_55 dX2_copyFrom_155 rfl ?_
  refine g_iconst X dX2_copyFrom_158 (v := 0) (by decide) ?_
  refine g_bipush X dX2_copyFrom_159 (v := 8) (by decide) ?_
  refine i_copyi X F I 9 rfl 66 (act66) rfl (fun _ => rfl) (t0 := 1) rfl rfl wd169 wd87 wd88 wd89 (by decide) (by decide) (by decide) (by decide) (by decide) (fun _ _ => rfl) (by decide) (Nat.le_of_ble_eq_true rfl) dX2_copyFrom_161 (fun j => trivial) (fun M C F I K1 hC => ?_)
  have K := K.step K1 (by decide)
  refine g_aload_n X dX2_copyFrom_164 rfl (j := 0) rfl ?_
  refine i_get X F 60 (act60) rfl fk_X2_61 dX2_copyFrom_165 rfl ?_
  refine g_aload_n X dX2_copyFrom_168 rfl (j := 1) rfl ?_
  refine i_get X F 3 rfl rfl fk_X2_61 dX2_copyFrom_169 rfl ?_
  refine g_callVV X (s_X0_copyFrom_i1 l G F I  act67 act68 act69) lk_X2_80 (F.1 67 (act67)).2 (F.1 67 (act67)).1 rfl rfl dX2_copyFrom_172 (Nat.le_of_ble_eq_true rfl) ⟨by decide, by decide⟩ ⟨by decide, by decide⟩ (fun L M hp => ?_)
  obtain ⟨C, D, F, I, K1, hr⟩ := hp
  have K := K.step K1 (by decide)
  exact g_vret X hrt dX2_copyFrom_175 (by decide) (by decide) ⟨C, D, F, I, K, trivial⟩
set_option maxHeartbeats 4000000 in
set_option maxRecDepth 100000 in
theorem s_X0_copyFrom_i2 (l : Launch) (G : va_G) {cy : Nat → ClassId} {L : List Nat} {M : Nat → va_E} {a : Nat → Nat} {act : Nat → Bool} {C0 : Nat → Nat → Int32} {D0 : Nat → Nat → Int64} {R : Nat → Nat → Option Nat} (F : WI L M a act (ent cy a C0 D0 R)) (I : Inv C0)  (act77 : (baseact 77 || act 77) = true) (act78 : (baseact 78 || act 78) = true) (act79 : (baseact 79 || act 79) = true) : MV l G cy yX0_copyFrom cX0_copyFrom 2 none 1 0 0 [.ref (a 77), .ref (a 10)] L M (fun L2 M2 => ∃ C2 D2, WI L2 M2 a act (ent cy a C2 D2 R) ∧ Inv C2 ∧ Kp [77, 78, 79] C0 D0 C2 D2 ∧ True) := by
  refine MV.of (own := RX0) rfl (by decide) (Nat.le_of_ble_eq_true rfl) ?_
  intro p e s m below meth c A X hrt hnm
  obtain ⟨C, D, hC0, hD0, F, I, K⟩ : ∃ C D, C = C0 ∧ D = D0 ∧ WI L M a act (ent cy a C D R) ∧ Inv C ∧ Kp [77, 78, 79] C0 D0 C D := ⟨C0, D0, rfl, rfl, F, I, Kp.rf⟩
  refine g_aload_n X dX0_copyFrom_0 rfl (j := 0) rfl ?_
  refine g_aload_n X dX0_copyFrom_1 rfl (j := 1) rfl ?_
  obtain ⟨n1, hn1, en1⟩ := rg_nat (I 10 0 rfl) (by decide)
  refine i_get X F 10 rfl rfl fk_X0_9 dX0_copyFrom_2 (v := .int (nI n1)) (congrArg (fun z => some (Value.int z)) en1) ?_
  refine i_put X F I 77 (act77) rfl rfl fk_X0_9 dX0_copyFrom_5 rfl rfl (Nat.le_of_ble_eq_true rfl) (fun _ => (rg_of (n := n1) (by omega) (by omega) (by omega))) (fun M C F I K1 hC => ?_)
  have K := K.step K1 (by decide)
  refine g_aload_n X dX0_copyFrom_8 rfl (j := 1) rfl ?_
  refine i_get X F 10 rfl rfl fk_X0_15 dX0_copyFrom_9 rfl ?_
  refine g_iconst X dX0_copyFrom_12 (v := 0) (by decide) ?_
  refine g_aload_n X dX0_copyFrom_13 rfl (j := 0) rfl ?_
  refine i_get X F 77 (act77) rfl fk_X0_15 dX0_copyFrom_14 rfl ?_
  refine g_iconst X dX0_copyFrom_17 (v := 0) (by decide) ?_
  refine g_bipush X dX0_copyFrom_18 (v := 30) (by decide) ?_
  refine i_copyi X F I 11 rfl 78 (act78) rfl (fun _ => rfl) (t0 := 1) rfl rfl wd163 wd87 wd88 wd89 (by decide) (by decide) (by decide) (by decide) (by decide) (fun _ _ => rfl) (by decide) (Nat.le_of_ble_eq_true rfl) dX0_copyFrom_20 (fun j => cpy_ok (P := okv 78) (fun j => I 11 j) (fun j => I 78 j) j) (fun M C F I K1 hC => ?_)
  have K := K.step K1 (by decide)
  refine g_aload_n X dX0_copyFrom_23 rfl (j := 1) rfl ?_
  refine i_get X F 10 rfl rfl fk_X0_19 dX0_copyFrom_24 rfl ?_
  refine g_iconst X dX0_copyFrom_27 (v := 0) (by decide) ?_
  refine g_aload_n X dX0_copyFrom_28 rfl (j := 0) rfl ?_
  refine i_get X F 77 (act77) rfl fk_X0_19 dX0_copyFrom_29 rfl ?_
  refine g_iconst X dX0_copyFrom_32 (v := 0) (by decide) ?_
  refine g_aload_n X dX0_copyFrom_33 rfl (j := 0) rfl ?_
  refine i_get X F 77 (act77) rfl fk_X0_19 dX0_copyFrom_34 rfl ?_
  refine i_alen X F 79 (act79) rfl (t0 := 1) rfl dX0_copyFrom_37 (v := 240) rfl ?_
  refine i_copyi X F I 12 rfl 79 (act79) rfl (fun _ => rfl) (t0 := 1) rfl rfl wd163 wd87 wd88 wd89 (by decide) (by decide) (by decide) (by decide) (by decide) (fun _ _ => rfl) (by decide) (Nat.le_of_ble_eq_true rfl) dX0_copyFrom_38 (fun j => trivial) (fun M C F I K1 hC => ?_)
  have K := K.step K1 (by decide)
  exact g_vret X hrt dX0_copyFrom_41 (by decide) (by decide) ⟨C, D, F, I, K, trivial⟩
set_option maxHeartbeats 4000000 in
set_option maxRecDepth 100000 in
theorem s_X2_copyFrom_i2 (l : Launch) (G : va_G) {cy : Nat → ClassId} {L : List Nat} {M : Nat → va_E} {a : Nat → Nat} {act : Nat → Bool} {C0 : Nat → Nat → Int32} {D0 : Nat → Nat → Int64} {R : Nat → Nat → Option Nat} (F : WI L M a act (ent cy a C0 D0 R)) (I : Inv C0)  (act70 : (baseact 70 || act 70) = true) (act71 : (baseact 71 || act 71) = true) (act72 : (baseact 72 || act 72) = true) (act73 : (baseact 73 || act 73) = true) (act74 : (baseact 74 || act 74) = true) (act75 : (baseact 75 || act 75) = true) (act76 : (baseact 76 || act 76) = true) (act77 : (baseact 77 || act 77) = true) (act78 : (baseact 78 || act 78) = true) (act79 : (baseact 79 || act 79) = true) : MV l G cy yX2_copyFrom cX2_copyFrom 2 none 2 0 0 [.ref (a 70), .ref (a 3)] L M (fun L2 M2 => ∃ C2 D2, WI L2 M2 a act (ent cy a C2 D2 R) ∧ Inv C2 ∧ Kp [70, 71, 72, 73, 74, 75, 76, 77, 78, 79] C0 D0 C2 D2 ∧ True) := by
  refine MV.of (own := RX2) rfl (by decide) (Nat.le_of_ble_eq_true rfl) ?_
  intro p e s m below meth c A X hrt hnm
  obtain ⟨C, D, hC0, hD0, F, I, K⟩ : ∃ C D, C = C0 ∧ D = D0 ∧ WI L M a act (ent cy a C D R) ∧ Inv C ∧ Kp [70, 71, 72, 73, 74, 75, 76, 77, 78, 79] C0 D0 C D := ⟨C0, D0, rfl, rfl, F, I, Kp.rf⟩
  refine g_aload_n X dX2_copyFrom_0 rfl (j := 0) rfl ?_
  refine g_aload_n X dX2_copyFrom_1 rfl (j := 1) rfl ?_
  refine i_get X F 3 rfl rfl fk_X2_9 dX2_copyFrom_2 rfl ?_
  refine Go.gen (fun o1 => ?_)
  refine i_put X F I 70 (act70) rfl rfl fk_X2_9 dX2_copyFrom_5 rfl rfl (Nat.le_of_ble_eq_true rfl) ⟨fun h => absurd h (by decide), fun h => absurd h (by decide), fun h => absurd h (by decide), fun h => absurd h (by decide)⟩ (fun M C F I K1 hC => ?_)
  have K := K.step K1 (by decide)
  refine g_aload_n X dX2_copyFrom_8 rfl (j := 0) rfl ?_
  refine g_aload_n X dX2_copyFrom_9 rfl (j := 1) rfl ?_
  obtain ⟨n2, hn2, en2⟩ := rg_nat ((I 3 1).1 rfl) (by decide)
  refine i_get X F 3 rfl rfl fk_X2_15 dX2_copyFrom_10 (v := .int (nI n2)) (congrArg (fun z => some (Value.int z)) en2) ?_
  refine i_put X F I 70 (act70) rfl rfl fk_X2_15 dX2_copyFrom_13 rfl rfl (Nat.le_of_ble_eq_true rfl) ⟨fun _ => (rg_of (n := n2) (by omega) (by omega) (by omega)), fun h => absurd h (by decide), fun h => absurd h (by decide), fun h => absurd h (by decide)⟩ (fun M C F I K1 hC => ?_)
  have K := K.step K1 (by decide)
  refine g_aload_n X dX2_copyFrom_16 rfl (j := 0) rfl ?_
  refine g_aload_n X dX2_copyFrom_17 rfl (j := 1) rfl ?_
  refine i_get X F 3 rfl rfl fk_X2_18 dX2_copyFrom_18 rfl ?_
  refine Go.gen (fun o3 => ?_)
  refine i_put X F I 70 (act70) rfl rfl fk_X2_18 dX2_copyFrom_21 rfl rfl (Nat.le_of_ble_eq_true rfl) ⟨fun h => absurd h (by decide), fun h => absurd h (by decide), fun h => absurd h (by decide), fun h => absurd h (by decide)⟩ (fun M C F I K1 hC => ?_)
  have K := K.step K1 (by decide)
  refine g_aload_n X dX2_copyFrom_24 rfl (j := 0) rfl ?_
  refine g_aload_n X dX2_copyFrom_25 rfl (j := 1) rfl ?_
  refine i_get X F 3 rfl rfl fk_X2_21 dX2_copyFrom_26 rfl ?_
  refine Go.gen (fun o4 => ?_)
  refine i_put X F I 70 (act70) rfl rfl fk_X2_21 dX2_copyFrom_29 rfl rfl (Nat.le_of_ble_eq_true rfl) ⟨fun h => absurd h (by decide), fun h => absurd h (by decide), fun h => absurd h (by decide), fun h => absurd h (by decide)⟩ (fun M C F I K1 hC => ?_)
  have K := K.step K1 (by decide)
  refine g_aload_n X dX2_copyFrom_32 rfl (j := 0) rfl ?_
  refine g_aload_n X dX2_copyFrom_33 rfl (j := 1) rfl ?_
  obtain ⟨n5, hn5, en5⟩ := rg_nat ((I 3 4).2.1 rfl) (by decide)
  refine i_get X F 3 rfl rfl fk_X2_24 dX2_copyFrom_34 (v := .int (nI n5)) (congrArg (fun z => some (Value.int z)) en5) ?_
  refine i_put X F I 70 (act70) rfl rfl fk_X2_24 dX2_copyFrom_37 rfl rfl (Nat.le_of_ble_eq_true rfl) ⟨fun h => absurd h (by decide), fun _ => (rg_of (n := n5) (by omega) (by omega) (by omega)), fun h => absurd h (by decide), fun h => absurd h (by decide)⟩ (fun M C F I K1 hC => ?_)
  have K := K.step K1 (by decide)
  refine g_aload_n X dX2_copyFrom_40 rfl (j := 0) rfl ?_
  refine g_aload_n X dX2_copyFrom_41 rfl (j := 1) rfl ?_
  obtain ⟨n6, hn6, en6⟩ := rg_nat ((I 3 5).2.2.1 rfl) (by decide)
  refine i_get X F 3 rfl rfl fk_X2_27 dX2_copyFrom_42 (v := .int (nI n6)) (congrArg (fun z => some (Value.int z)) en6) ?_
  refine i_put X F I 70 (act70) rfl rfl fk_X2_27 dX2_copyFrom_45 rfl rfl (Nat.le_of_ble_eq_true rfl) ⟨fun h => absurd h (by decide), fun h => absurd h (by decide), fun _ => (rg_of (n := n6) (by omega) (by omega) (by omega)), fun h => absurd h (by decide)⟩ (fun M C F I K1 hC => ?_)
  have K := K.step K1 (by decide)
  refine g_aload_n X dX2_copyFrom_48 rfl (j := 0) rfl ?_
  refine g_aload_n X dX2_copyFrom_49 rfl (j := 1) rfl ?_
  refine i_get X F 3 rfl rfl fk_X2_30 dX2_copyFrom_50 rfl ?_
  refine Go.gen (fun o7 => ?_)
  refine i_put X F I 70 (act70) rfl rfl fk_X2_30 dX2_copyFrom_53 rfl rfl (Nat.le_of_ble_eq_true rfl) ⟨fun h => absurd h (by decide), fun h => absurd h (by decide), fun h => absurd h (by decide), fun h => absurd h (by decide)⟩ (fun M C F I K1 hC => ?_)
  have K := K.step K1 (by decide)
  refine g_aload_n X dX2_copyFrom_56 rfl (j := 0) rfl ?_
  refine g_aload_n X dX2_copyFrom_57 rfl (j := 1) rfl ?_
  refine i_get X F 3 rfl rfl fk_X2_33 dX2_copyFrom_58 rfl ?_
  refine Go.gen (fun o8 => ?_)
  refine i_put X F I 70 (act70) rfl rfl fk_X2_33 dX2_copyFrom_61 rfl rfl (Nat.le_of_ble_eq_true rfl) ⟨fun h => absurd h (by decide), fun h => absurd h (by decide), fun h => absurd h (by decide), fun h => absurd h (by decide)⟩ (fun M C F I K1 hC => ?_)
  have K := K.step K1 (by decide)
  refine g_aload_n X dX2_copyFrom_64 rfl (j := 0) rfl ?_
  refine g_aload_n X dX2_copyFrom_65 rfl (j := 1) rfl ?_
  obtain ⟨n9, hn9, en9⟩ := rg_nat ((I 3 8).2.2.2 rfl) (by decide)
  refine i_get X F 3 rfl rfl fk_X2_36 dX2_copyFrom_66 (v := .int (nI n9)) (congrArg (fun z => some (Value.int z)) en9) ?_
  refine i_put X F I 70 (act70) rfl rfl fk_X2_36 dX2_copyFrom_69 rfl rfl (Nat.le_of_ble_eq_true rfl) ⟨fun h => absurd h (by decide), fun h => absurd h (by decide), fun h => absurd h (by decide), fun _ => (rg_of (n := n9) (by omega) (by omega) (by omega))⟩ (fun M C F I K1 hC => ?_)
  have K := K.step K1 (by decide)
  refine g_aload_n X dX2_copyFrom_72 rfl (j := 1) rfl ?_
  refine i_get X F 3 rfl rfl fk_X2_39 dX2_copyFrom_73 rfl ?_
  refine g_iconst X dX2_copyFrom_76 (v := 0) (by decide) ?_
  refine g_aload_n X dX2_copyFrom_77 rfl (j := 0) rfl ?_
  refine i_get X F 70 (act70) rfl fk_X2_39 dX2_copyFrom_78 rfl ?_
  refine g_iconst X dX2_copyFrom_81 (v := 0) (by decide) ?_
  refine g_iconst X dX2_copyFrom_82 (v := 4) (by decide) ?_
  refine i_copyi X F I 4 rfl 71 (act71) rfl (fun _ => rfl) (t0 := 1) rfl rfl wd169 wd87 wd88 wd89 (by decide) (by decide) (by decide) (by decide) (by decide) (fun _ _ => rfl) (by decide) (Nat.le_of_ble_eq_true rfl) dX2_copyFrom_83 (fun j => trivial) (fun M C F I K1 hC => ?_)
  have K := K.step K1 (by decide)
  refine g_aload_n X dX2_copyFrom_86 rfl (j := 1) rfl ?_
  refine i_get X F 3 rfl rfl fk_X2_43 dX2_copyFrom_87 rfl ?_
  refine g_iconst X dX2_copyFrom_90 (v := 0) (by decide) ?_
  refine g_aload_n X dX2_copyFrom_91 rfl (j := 0) rfl ?_
  refine i_get X F 70 (act70) rfl fk_X2_43 dX2_copyFrom_92 rfl ?_
  refine g_iconst X dX2_copyFrom_95 (v := 0) (by decide) ?_
  refine g_bipush X dX2_copyFrom_96 (v := 7) (by decide) ?_
  refine i_copyi X F I 5 rfl 72 (act72) rfl (fun _ => rfl) (t0 := 1) rfl rfl wd169 wd87 wd88 wd89 (by decide) (by decide) (by decide) (by decide) (by decide) (fun _ _ => rfl) (by decide) (Nat.le_of_ble_eq_true rfl) dX2_copyFrom_98 (fun j => cpy_ok (P := okv 72) (fun j => I 5 j) (fun j => I 72 j) j) (fun M C F I K1 hC => ?_)
  have K := K.step K1 (by decide)
  refine g_aload_n X dX2_copyFrom_101 rfl (j := 1) rfl ?_
  refine i_get X F 3 rfl rfl fk_X2_46 dX2_copyFrom_102 rfl ?_
  refine g_iconst X dX2_copyFrom_105 (v := 0) (by decide) ?_
  refine g_aload_n X dX2_copyFrom_106 rfl (j := 0) rfl ?_
  refine i_get X F 70 (act70) rfl fk_X2_46 dX2_copyFrom_107 rfl ?_
  refine g_iconst X dX2_copyFrom_110 (v := 0) (by decide) ?_
  refine g_aload_n X dX2_copyFrom_111 rfl (j := 0) rfl ?_
  refine i_get X F 70 (act70) rfl fk_X2_46 dX2_copyFrom_112 rfl ?_
  refine i_alen X F 73 (act73) rfl (t0 := 1) rfl dX2_copyFrom_115 (v := 28) rfl ?_
  refine i_copyi X F I 6 rfl 73 (act73) rfl (fun _ => rfl) (t0 := 1) rfl rfl wd169 wd87 wd88 wd89 (by decide) (by decide) (by decide) (by decide) (by decide) (fun _ _ => rfl) (by decide) (Nat.le_of_ble_eq_true rfl) dX2_copyFrom_116 (fun j => cpy_ok (P := okv 73) (fun j => I 6 j) (fun j => I 73 j) j) (fun M C F I K1 hC => ?_)
  have K := K.step K1 (by decide)
  refine g_aload_n X dX2_copyFrom_119 rfl (j := 1) rfl ?_
  refine i_get X F 3 rfl rfl fk_X2_49 dX2_copyFrom_120 rfl ?_
  refine g_iconst X dX2_copyFrom_123 (v := 0) (by decide) ?_
  refine g_aload_n X dX2_copyFrom_124 rfl (j := 0) rfl ?_
  refine i_get X F 70 (act70) rfl fk_X2_49 dX2_copyFrom_125 rfl ?_
  refine g_iconst X dX2_copyFrom_128 (v := 0) (by decide) ?_
  refine g_bipush X dX2_copyFrom_129 (v := 7) (by decide) ?_
  refine i_copyi X F I 7 rfl 74 (act74) rfl (fun _ => rfl) (t0 := 1) rfl rfl wd169 wd87 wd88 wd89 (by decide) (by decide) (by decide) (by decide) (by decide) (fun _ _ => rfl) (by decide) (Nat.le_of_ble_eq_true rfl) dX2_copyFrom_131 (fun j => cpy_ok (P := okv 74) (fun j => I 7 j) (fun j => I 74 j) j) (fun M C F I K1 hC => ?_)
  have K := K.step K1 (by decide)
  refine g_aload_n X dX2_copyFrom_134 rfl (j := 1) rfl ?_
  refine i_get X F 3 rfl rfl fk_X2_52 dX2_copyFrom_135 rfl ?_
  refine g_iconst X dX2_copyFrom_138 (v := 0) (by decide) ?_
  refine g_aload_n X dX2_copyFrom_139 rfl (j := 0) rfl ?_
  refine i_get X F 70 (act70) rfl fk_X2_52 dX2_copyFrom_140 rfl ?_
  refine g_iconst X dX2_copyFrom_143 (v := 0) (by decide) ?_
  refine g_bipush X dX2_copyFrom_144 (v := 8) (by decide) ?_
  refine i_copyi X F I 8 rfl 75 (act75) rfl (fun _ => rfl) (t0 := 1) rfl rfl wd169 wd87 wd88 wd89 (by decide) (by decide) (by decide) (by decide) (by decide) (fun _ _ => rfl) (by decide) (Nat.le_of_ble_eq_true rfl) dX2_copyFrom_146 (fun j => cpy_ok (P := okv 75) (fun j => I 8 j) (fun j => I 75 j) j) (fun M C F I K1 hC => ?_)
  have K := K.step K1 (by decide)
  refine g_aload_n X dX2_copyFrom_149 rfl (j := 1) rfl ?_
  refine i_get X F 3 rfl rfl fk_X2_55 dX2_copyFrom_150 rfl ?_
  refine g_iconst X dX2_copyFrom_153 (v := 0) (by decide) ?_
  refine g_aload_n X dX2_copyFrom_154 rfl (j := 0) rfl ?_
  refine i_get X F 70 (act70) rfl fk_X2_55 dX2_copyFrom_155 rfl ?_
  refine g_iconst X dX2_copyFrom_158 (v := 0) (by decide) ?_
  refine g_bipush X dX2_copyFrom_159 (v := 8) (by decide) ?_
  refine i_copyi X F I 9 rfl 76 (act76) rfl (fun _ => rfl) (t0 := 1) rfl rfl wd169 wd87 wd88 wd89 (by decide) (by decide) (by decide) (by decide) (by decide) (fun _ _ => rfl) (by decide) (Nat.le_of_ble_eq_true rfl) dX2_copyFrom_161 (fun j => trivial) (fun M C F I K1 hC => ?_)
  have K := K.step K1 (by decide)
  refine g_aload_n X dX2_copyFrom_164 rfl (j := 0) rfl ?_
  refine i_get X F 70 (act70) rfl fk_X2_61 dX2_copyFrom_165 rfl ?_
  refine g_aload_n X dX2_copyFrom_168 rfl (j := 1) rfl ?_
  refine i_get X F 3 rfl rfl fk_X2_61 dX2_copyFrom_169 rfl ?_
  refine g_callVV X (s_X0_copyFrom_i2 l G F I  act77 act78 act79) lk_X2_80 (F.1 77 (act77)).2 (F.1 77 (act77)).1 rfl rfl dX2_copyFrom_172 (Nat.le_of_ble_eq_true rfl) ⟨by decide, by decide⟩ ⟨by decide, by decide⟩ (fun L M hp => ?_)
  obtain ⟨C, D, F, I, K1, hr⟩ := hp
  have K := K.step K1 (by decide)
  exact g_vret X hrt dX2_copyFrom_175 (by decide) (by decide) ⟨C, D, F, I, K, trivial⟩
set_option maxHeartbeats 4000000 in
set_option maxRecDepth 100000 in
theorem s_X7_image (l : Launch) (G : va_G) {cy : Nat → ClassId} {L : List Nat} {M : Nat → va_E} {a : Nat → Nat} {act : Nat → Bool} {C0 : Nat → Nat → Int32} {D0 : Nat → Nat → Int64} {R : Nat → Nat → Option Nat} (F : WI L M a act (ent cy a C0 D0 R)) (I : Inv C0) (HA : AB act) (HR : RA a act R) (hN : NowOk (C0 3) (C0 27) (C0 29)) (p0 : Int32) : MI l G cy yX7_image cX7_image 2 (some .int) 3 10 351 [.ref (a 0), .int p0] L M (fun r L2 M2 => ∃ (a2 : Nat → Nat) (act2 : Nat → Bool) (C2 : Nat → Nat → Int32) (D2 : Nat → Nat → Int64) (R2 : Nat → Nat → Option Nat), WI L2 M2 a2 act2 (ent cy a2 C2 D2 R2) ∧ Inv C2 ∧ AB act2 ∧ RA a2 act2 R2 ∧ (∀ k, baseact k = true → a2 k = a k) ∧ NowOk (C2 3) (C2 27) (C2 29) ∧ Kp [50, 51, 52, 53, 54, 55, 56, 57, 58, 59, 60, 61, 62, 63, 64, 65, 66, 67, 68, 69, 70, 71, 72, 73, 74, 75, 76, 77, 78, 79] C0 D0 C2 D2 ∧ r = imS p0) := by
  refine MI.of (own := RX7) rfl (by decide) (Nat.le_of_ble_eq_true rfl) ?_
  intro p e s m below meth c A X hrt hnm
  obtain ⟨C, D, hC0, hD0, F, I, K⟩ : ∃ C D, C = C0 ∧ D = D0 ∧ WI L M a act (ent cy a C D R) ∧ Inv C ∧ Kp [50, 51, 52, 53, 54, 55, 56, 57, 58, 59, 60, 61, 62, 63, 64, 65, 66, 67, 68, 69, 70, 71, 72, 73, 74, 75, 76, 77, 78, 79] C0 D0 C D := ⟨C0, D0, rfl, rfl, F, I, Kp.rf⟩
  rw [← hC0] at hN
  have hst : ∀ k, baseact k = true → a k = a k := fun _ _ => rfl
  rcases sc3 p0 with hx1 | hx1 | rfl | rfl | rfl
  · skip
    have hno1 : p0 < 0 ∨ 3 ≤ p0 := Or.inl hx1
    refine g_iload_n X dX7_image_0 rfl (j := 1) rfl ?_
    refine g_if_lt X dX7_image_1 (tgt := 9) (by decide) (fun q2 => ?_) (fun q2 => ?_)
    · skip
      have q2t : p0.toInt < (0 : Int32).toInt := Int32.lt_iff_toInt_lt.mp q2
      have q2k : (0 : Int32).toInt = 0 := (by decide)
      have q2b := Int32.toInt_lt p0
      refine g_bipush X dX7_image_9 (v := -2) (by decide) ?_
      exact g_iret X hrt dX7_image_11 (by decide) (by decide) ⟨a, act, C, D, R, F, I, HA, HR, hst, hN, K, (im_out hno1)⟩
    · skip
      have q2t : ¬ p0.toInt < (0 : Int32).toInt := fun z => q2 (Int32.lt_iff_toInt_lt.mpr z)
      have q2k : (0 : Int32).toInt = 0 := (by decide)
      have q2b := Int32.toInt_lt p0
      obtain ⟨n3, hn3, rfl⟩ := nI_of (x := p0) (fun z => by have z2 := Int32.lt_iff_toInt_lt.mp z; have z3 : (0 : Int32).toInt = 0 := (by decide); omega)
      rw [nI_toInt (by omega)] at q2t
      have tn3 := nI_toInt (n := n3) (by omega)
      refine g_iload_n X dX7_image_4 rfl (j := 1) rfl ?_
      refine g_iconst X dX7_image_5 (v := 3) (by decide) ?_
      refine g_icmp_lt X dX7_image_6 (tgt := 12) (by decide) (fun q4 => ?_) (fun q4 => ?_)
      · skip
        have q4 : n3 < 3 := (nI_ltI (a := n3) (b := 3) (by omega) (by omega)).mp q4
        exact absurd hno1 (no3 (by omega))
      · skip
        have q4 : ¬ n3 < 3 := fun z => q4 ((nI_ltI (a := n3) (b := 3) (by omega) (by omega)).mpr z)
        refine g_bipush X dX7_image_9 (v := -2) (by decide) ?_
        exact g_iret X hrt dX7_image_11 (by decide) (by decide) ⟨a, act, C, D, R, F, I, HA, HR, hst, hN, K, (im_out hno1)⟩
  · skip
    have hno1 : p0 < 0 ∨ 3 ≤ p0 := Or.inr hx1
    refine g_iload_n X dX7_image_0 rfl (j := 1) rfl ?_
    refine g_if_lt X dX7_image_1 (tgt := 9) (by decide) (fun q5 => ?_) (fun q5 => ?_)
    · skip
      have q5t : p0.toInt < (0 : Int32).toInt := Int32.lt_iff_toInt_lt.mp q5
      have q5k : (0 : Int32).toInt = 0 := (by decide)
      have q5b := Int32.toInt_lt p0
      refine g_bipush X dX7_image_9 (v := -2) (by decide) ?_
      exact g_iret X hrt dX7_image_11 (by decide) (by decide) ⟨a, act, C, D, R, F, I, HA, HR, hst, hN, K, (im_out hno1)⟩
    · skip
      have q5t : ¬ p0.toInt < (0 : Int32).toInt := fun z => q5 (Int32.lt_iff_toInt_lt.mpr z)
      have q5k : (0 : Int32).toInt = 0 := (by decide)
      have q5b := Int32.toInt_lt p0
      obtain ⟨n6, hn6, rfl⟩ := nI_of (x := p0) (fun z => by have z2 := Int32.lt_iff_toInt_lt.mp z; have z3 : (0 : Int32).toInt = 0 := (by decide); omega)
      rw [nI_toInt (by omega)] at q5t
      have tn6 := nI_toInt (n := n6) (by omega)
      refine g_iload_n X dX7_image_4 rfl (j := 1) rfl ?_
      refine g_iconst X dX7_image_5 (v := 3) (by decide) ?_
      refine g_icmp_lt X dX7_image_6 (tgt := 12) (by decide) (fun q7 => ?_) (fun q7 => ?_)
      · skip
        have q7 : n6 < 3 := (nI_ltI (a := n6) (b := 3) (by omega) (by omega)).mp q7
        exact absurd hno1 (no3 (by omega))
      · skip
        have q7 : ¬ n6 < 3 := fun z => q7 ((nI_ltI (a := n6) (b := 3) (by omega) (by omega)).mpr z)
        refine g_bipush X dX7_image_9 (v := -2) (by decide) ?_
        exact g_iret X hrt dX7_image_11 (by decide) (by decide) ⟨a, act, C, D, R, F, I, HA, HR, hst, hN, K, (im_out hno1)⟩
  · skip
    refine g_iload_n X dX7_image_0 rfl (j := 1) rfl ?_
    refine g_if_lt X dX7_image_1 (tgt := 9) (by decide) (fun q => absurd q (by decide)) (fun _ => ?_)
    refine g_iload_n X dX7_image_4 rfl (j := 1) rfl ?_
    refine g_iconst X dX7_image_5 (v := 3) (by decide) ?_
    refine g_icmp_lt X dX7_image_6 (tgt := 12) (by decide) (fun _ => ?_) (fun q => absurd (by decide) q)
    refine g_aload_n X dX7_image_12 rfl (j := 0) rfl ?_
    refine i_get X F 0 rfl rfl fk_X7_26 dX7_image_13 rfl ?_
    refine g_iload_n X dX7_image_16 rfl (j := 1) rfl ?_
    rcases (Bool.eq_false_or_eq_true (act 50)).symm with hA50 | hA50
    · skip
      refine i_aald X F 23 rfl (t0 := 4) rfl rfl dX7_image_17 (vp_in_iff.mpr (by decide)) (v := .null) (by show va_rf (R 23 0) = _; rw [HR.2.1 0 (by decide)]; rw [if_neg (by rw [hA50]; decide)]; rfl) ?_
      refine g_ifnonnullN X dX7_image_18 ?_
      refine g_aload_n X dX7_image_21 rfl (j := 0) rfl ?_
      refine i_get X F 0 rfl rfl fk_X7_26 dX7_image_22 rfl ?_
      refine g_iload_n X dX7_image_25 rfl (j := 1) rfl ?_
      refine g_new X clX2 wd1061 wd1062 wd7 (fs := [.int 0, .int 0, .int 0, .int 0, .int 0, .int 0, .int 0, .int 0, .int 0, .null, .null, .null, .null, .null, .null, .null]) (by decide) (by decide) (by decide) dX7_image_26 (fun q hq => ?_)
      refine g_widen (k1 := 1) (k2 := 16) (by decide) (by decide) ?_
      refine g_dup X dX7_image_29 rfl ?_
      have FA := (FW.push (F.toFW ksA_act ksA_nd) hq (.inr (2, [.int 0, .int 0, .int 0, .int 0, .int 0, .int 0, .int 0, .int 0, .int 0, .null, .null, .null, .null, .null, .null, .null]))).swap
      refine g_callI X (c_X2_init_s2 l G (h := q) FA) lk_X7_18 rfl rfl dX7_image_30 (Nat.le_of_ble_eq_true rfl) ⟨by decide, by decide⟩ ⟨by decide, by decide⟩ (fun L M hp => ?_)
      refine g_widen (k1 := 10) (k2 := 351) (by decide) (by decide) ?_
      clear FA
      obtain ⟨z10, z11, z14, z15, z5, z6, z7, z8, z9, FB⟩ := hp
      have FC : FW L M (((q, .inr (2, [.int 0, .int 0, .int 0, .int 0, .int 0, .int 0, .int 0, .int 0, .int 0, .ref z5, .ref z6, .ref z7, .ref z8, .ref z9, .ref z10, .ref z11])) :: (z5, .inl (cy 1, 4, .inl (fun _ => 0))) :: (z6, .inl (cy 1, 7, .inl (fun _ => 0))) :: (z7, .inl (cy 1, 28, .inl (fun _ => 0))) :: (z8, .inl (cy 1, 7, .inl (fun _ => 0))) :: (z9, .inl (cy 1, 8, .inl (fun _ => 0))) :: (z10, .inl (cy 1, 8, .inl (fun _ => 0))) :: (z11, .inr (0, [.int 0, .ref z14, .ref z15])) :: (z14, .inl (cy 1, 30, .inl (fun _ => 0))) :: (z15, .inl (cy 1, 240, .inl (fun _ => 0))) :: []) ++ (ksA act).map fun k => (a k, ent cy a C D R k)) := FW.selR (x := (z15, .inl (cy 1, 240, .inl (fun _ => 0))) :: (z14, .inl (cy 1, 30, .inl (fun _ => 0))) :: (z11, .inr (0, [.int 0, .ref z14, .ref z15])) :: (z10, .inl (cy 1, 8, .inl (fun _ => 0))) :: (z9, .inl (cy 1, 8, .inl (fun _ => 0))) :: (z8, .inl (cy 1, 7, .inl (fun _ => 0))) :: (z7, .inl (cy 1, 28, .inl (fun _ => 0))) :: (z6, .inl (cy 1, 7, .inl (fun _ => 0))) :: (z5, .inl (cy 1, 4, .inl (fun _ => 0))) :: (q, .inr (2, [.int 0, .int 0, .int 0, .int 0, .int 0, .int 0, .int 0, .int 0, .int 0, .ref z5, .ref z6, .ref z7, .ref z8, .ref z9, .ref z10, .ref z11])) :: []) FB [9, 8, 7, 6, 5, 4, 3, 2, 1, 0] (by decide) rfl
      have hno : ∀ k, 50 ≤ k ∧ k < 50 + 10 → (baseact k || act k) = false := noact50 HR hA50
      obtain ⟨a, act, C, D, F, I, HA, hold, hnew⟩ := grow (cy := cy) (a := a) (act := act) (C := C) (D := D) (R := R) I HA 50 10 [q, z5, z6, z7, z8, z9, z10, z11, z14, z15] (by decide) (by decide) blk_50.1 blk_50.2.1 blk_50.2.2 hno rfl FC
      have hq0 : q = a 50 := (hnew 50 ⟨by decide, by decide⟩).2.symm
      have e0 := (hold 0 (by decide)).1
      have eA := (hold 23 (by decide)).1
      rw [← e0] at X
      rw [hq0, ← e0, ← eA]
      have hst := fun (k : Nat) (hk : baseact k = true) => ((hold k (fun z => by have y := hno k z; rw [hk] at y; cases y)).1).trans (hst k hk)
      have K : Kp [50, 51, 52, 53, 54, 55, 56, 57, 58, 59, 60, 61, 62, 63, 64, 65, 66, 67, 68, 69, 70, 71, 72, 73, 74, 75, 76, 77, 78, 79] C0 D0 C D := fun k hk => by
        have z : ¬ (50 ≤ k ∧ k < 50 + 10) := fun z => hk (by simp only [List.mem_cons, List.not_mem_nil, or_false]; omega)
        exact ⟨((hold k z).2.2.1).trans (K k hk).1, ((hold k z).2.2.2).trans (K k hk).2⟩
      have hN : NowOk (C 3) (C 27) (C 29) := by rw [(hold 3 (by decide)).2.2.1, (hold 27 (by decide)).2.2.1, (hold 29 (by decide)).2.2.1]; exact hN
      have act50 : (baseact 50 || act 50) = true := by rw [(hnew 50 ⟨by decide, by decide⟩).1]; rfl
      have act51 : (baseact 51 || act 51) = true := by rw [(hnew 51 ⟨by decide, by decide⟩).1]; rfl
      have act52 : (baseact 52 || act 52) = true := by rw [(hnew 52 ⟨by decide, by decide⟩).1]; rfl
      have act53 : (baseact 53 || act 53) = true := by rw [(hnew 53 ⟨by decide, by decide⟩).1]; rfl
      have act54 : (baseact 54 || act 54) = true := by rw [(hnew 54 ⟨by decide, by decide⟩).1]; rfl
      have act55 : (baseact 55 || act 55) = true := by rw [(hnew 55 ⟨by decide, by decide⟩).1]; rfl
      have act56 : (baseact 56 || act 56) = true := by rw [(hnew 56 ⟨by decide, by decide⟩).1]; rfl
      have act57 : (baseact 57 || act 57) = true := by rw [(hnew 57 ⟨by decide, by decide⟩).1]; rfl
      have act58 : (baseact 58 || act 58) = true := by rw [(hnew 58 ⟨by decide, by decide⟩).1]; rfl
      have act59 : (baseact 59 || act 59) = true := by rw [(hnew 59 ⟨by decide, by decide⟩).1]; rfl
      have hA50 : act 50 = true := (hnew 50 ⟨by decide, by decide⟩).1
      refine i_aast X F 23 rfl 50 act50 (t0 := 4) rfl (ci := 2) rfl (fun _ => rfl) rfl dX7_image_33 (vp_in_iff.mpr (by decide)) (fun M R F hR hRc => ?_)
      have HR : RA a act R := RA_23 HR 0 (by decide) (fun k hk => ⟨(hold k hk).1, (hold k hk).2.1⟩) (fun k hk => (hnew k hk).1) hR hRc
      clear hold hnew hRc hR FC FB hno e0 eA
      refine g_aload_n X dX7_image_34 rfl (j := 0) rfl ?_
      refine i_get X F 0 rfl rfl fk_X7_26 dX7_image_35 rfl ?_
      refine g_iload_n X dX7_image_38 rfl (j := 1) rfl ?_
      refine i_aald X F 23 rfl (t0 := 4) rfl rfl dX7_image_39 (vp_in_iff.mpr (by decide)) (v := .ref (a 50)) (by show va_rf (R 23 0) = _; rw [HR.2.1 0 (by decide)]; rw [if_pos hA50]; rfl) ?_
      refine g_aload_n X dX7_image_40 rfl (j := 0) rfl ?_
      refine i_get X F 0 rfl rfl fk_X7_19 dX7_image_41 rfl ?_
      refine g_callVV X (s_X2_copyFrom_i0 l G F I  act50 act51 act52 act53 act54 act55 act56 act57 act58 act59) lk_X7_87 (F.1 50 (act50)).2 (F.1 50 (act50)).1 rfl rfl dX7_image_44 (Nat.le_of_ble_eq_true rfl) ⟨by decide, by decide⟩ ⟨by decide, by decide⟩ (fun L M hp => ?_)
      obtain ⟨C, D, F, I, K1, hr⟩ := hp
      have K := K.step K1 (by decide)
      have hN : NowOk (C 3) (C 27) (C 29) := by rw [(K1 3 (by decide)).1, (K1 27 (by decide)).1, (K1 29 (by decide)).1]; exact hN
      refine g_iconst X dX7_image_47 (v := 0) (by decide) ?_
      exact g_iret X hrt dX7_image_48 (by decide) (by decide) ⟨a, act, C, D, R, F, I, HA, HR, hst, hN, K, (im_in (c := 0) (by decide))⟩
    · skip
      have act50 : (baseact 50 || act 50) = true := by rw [hA50]; rfl
      have act51 : (baseact 51 || act 51) = true := by rw [((HR.2.2.2 0 (by decide) 1 (by decide)).trans hA50)]; rfl
      have act52 : (baseact 52 || act 52) = true := by rw [((HR.2.2.2 0 (by decide) 2 (by decide)).trans hA50)]; rfl
      have act53 : (baseact 53 || act 53) = true := by rw [((HR.2.2.2 0 (by decide) 3 (by decide)).trans hA50)]; rfl
      have act54 : (baseact 54 || act 54) = true := by rw [((HR.2.2.2 0 (by decide) 4 (by decide)).trans hA50)]; rfl
      have act55 : (baseact 55 || act 55) = true := by rw [((HR.2.2.2 0 (by decide) 5 (by decide)).trans hA50)]; rfl
      have act56 : (baseact 56 || act 56) = true := by rw [((HR.2.2.2 0 (by decide) 6 (by decide)).trans hA50)]; rfl
      have act57 : (baseact 57 || act 57) = true := by rw [((HR.2.2.2 0 (by decide) 7 (by decide)).trans hA50)]; rfl
      have act58 : (baseact 58 || act 58) = true := by rw [((HR.2.2.2 0 (by decide) 8 (by decide)).trans hA50)]; rfl
      have act59 : (baseact 59 || act 59) = true := by rw [((HR.2.2.2 0 (by decide) 9 (by decide)).trans hA50)]; rfl
      refine i_aald X F 23 rfl (t0 := 4) rfl rfl dX7_image_17 (vp_in_iff.mpr (by decide)) (v := .ref (a 50)) (by show va_rf (R 23 0) = _; rw [HR.2.1 0 (by decide)]; rw [if_pos hA50]; rfl) ?_
      refine g_ifnonnull X dX7_image_18 (tgt := 34) (by decide) ?_
      refine g_aload_n X dX7_image_34 rfl (j := 0) rfl ?_
      refine i_get X F 0 rfl rfl fk_X7_26 dX7_image_35 rfl ?_
      refine g_iload_n X dX7_image_38 rfl (j := 1) rfl ?_
      refine i_aald X F 23 rfl (t0 := 4) rfl rfl dX7_image_39 (vp_in_iff.mpr (by decide)) (v := .ref (a 50)) (by show va_rf (R 23 0) = _; rw [HR.2.1 0 (by decide)]; rw [if_pos hA50]; rfl) ?_
      refine g_aload_n X dX7_image_40 rfl (j := 0) rfl ?_
      refine i_get X F 0 rfl rfl fk_X7_19 dX7_image_41 rfl ?_
      refine g_callVV X (s_X2_copyFrom_i0 l G F I  act50 act51 act52 act53 act54 act55 act56 act57 act58 act59) lk_X7_87 (F.1 50 (act50)).2 (F.1 50 (act50)).1 rfl rfl dX7_image_44 (Nat.le_of_ble_eq_true rfl) ⟨by decide, by decide⟩ ⟨by decide, by decide⟩ (fun L M hp => ?_)
      obtain ⟨C, D, F, I, K1, hr⟩ := hp
      have K := K.step K1 (by decide)
      have hN : NowOk (C 3) (C 27) (C 29) := by rw [(K1 3 (by decide)).1, (K1 27 (by decide)).1, (K1 29 (by decide)).1]; exact hN
      refine g_iconst X dX7_image_47 (v := 0) (by decide) ?_
      exact g_iret X hrt dX7_image_48 (by decide) (by decide) ⟨a, act, C, D, R, F, I, HA, HR, hst, hN, K, (im_in (c := 0) (by decide))⟩
  · skip
    refine g_iload_n X dX7_image_0 rfl (j := 1) rfl ?_
    refine g_if_lt X dX7_image_1 (tgt := 9) (by decide) (fun q => absurd q (by decide)) (fun _ => ?_)
    refine g_iload_n X dX7_image_4 rfl (j := 1) rfl ?_
    refine g_iconst X dX7_image_5 (v := 3) (by decide) ?_
    refine g_icmp_lt X dX7_image_6 (tgt := 12) (by decide) (fun _ => ?_) (fun q => absurd (by decide) q)
    refine g_aload_n X dX7_image_12 rfl (j := 0) rfl ?_
    refine i_get X F 0 rfl rfl fk_X7_26 dX7_image_13 rfl ?_
    refine g_iload_n X dX7_image_16 rfl (j := 1) rfl ?_
    rcases (Bool.eq_false_or_eq_true (act 60)).symm with hA60 | hA60
    · skip
      refine i_aald X F 23 rfl (t0 := 4) rfl rfl dX7_image_17 (vp_in_iff.mpr (by decide)) (v := .null) (by show va_rf (R 23 1) = _; rw [HR.2.1 1 (by decide)]; rw [if_neg (by rw [hA60]; decide)]; rfl) ?_
      refine g_ifnonnullN X dX7_image_18 ?_
      refine g_aload_n X dX7_image_21 rfl (j := 0) rfl ?_
      refine i_get X F 0 rfl rfl fk_X7_26 dX7_image_22 rfl ?_
      refine g_iload_n X dX7_image_25 rfl (j := 1) rfl ?_
      refine g_new X clX2 wd1061 wd1062 wd7 (fs := [.int 0, .int 0, .int 0, .int 0, .int 0, .int 0, .int 0, .int 0, .int 0, .null, .null, .null, .null, .null, .null, .null]) (by decide) (by decide) (by decide) dX7_image_26 (fun q hq => ?_)
      refine g_widen (k1 := 1) (k2 := 16) (by decide) (by decide) ?_
      refine g_dup X dX7_image_29 rfl ?_
      have FA := (FW.push (F.toFW ksA_act ksA_nd) hq (.inr (2, [.int 0, .int 0, .int 0, .int 0, .int 0, .int 0, .int 0, .int 0, .int 0, .null, .null, .null, .null, .null, .null, .null]))).swap
      refine g_callI X (c_X2_init_s2 l G (h := q) FA) lk_X7_18 rfl rfl dX7_image_30 (Nat.le_of_ble_eq_true rfl) ⟨by decide, by decide⟩ ⟨by decide, by decide⟩ (fun L M hp => ?_)
      refine g_widen (k1 := 10) (k2 := 351) (by decide) (by decide) ?_
      clear FA
      obtain ⟨z10, z11, z14, z15, z5, z6, z7, z8, z9, FB⟩ := hp
      have FC : FW L M (((q, .inr (2, [.int 0, .int 0, .int 0, .int 0, .int 0, .int 0, .int 0, .int 0, .int 0, .ref z5, .ref z6, .ref z7, .ref z8, .ref z9, .ref z10, .ref z11])) :: (z5, .inl (cy 1, 4, .inl (fun _ => 0))) :: (z6, .inl (cy 1, 7, .inl (fun _ => 0))) :: (z7, .inl (cy 1, 28, .inl (fun _ => 0))) :: (z8, .inl (cy 1, 7, .inl (fun _ => 0))) :: (z9, .inl (cy 1, 8, .inl (fun _ => 0))) :: (z10, .inl (cy 1, 8, .inl (fun _ => 0))) :: (z11, .inr (0, [.int 0, .ref z14, .ref z15])) :: (z14, .inl (cy 1, 30, .inl (fun _ => 0))) :: (z15, .inl (cy 1, 240, .inl (fun _ => 0))) :: []) ++ (ksA act).map fun k => (a k, ent cy a C D R k)) := FW.selR (x := (z15, .inl (cy 1, 240, .inl (fun _ => 0))) :: (z14, .inl (cy 1, 30, .inl (fun _ => 0))) :: (z11, .inr (0, [.int 0, .ref z14, .ref z15])) :: (z10, .inl (cy 1, 8, .inl (fun _ => 0))) :: (z9, .inl (cy 1, 8, .inl (fun _ => 0))) :: (z8, .inl (cy 1, 7, .inl (fun _ => 0))) :: (z7, .inl (cy 1, 28, .inl (fun _ => 0))) :: (z6, .inl (cy 1, 7, .inl (fun _ => 0))) :: (z5, .inl (cy 1, 4, .inl (fun _ => 0))) :: (q, .inr (2, [.int 0, .int 0, .int 0, .int 0, .int 0, .int 0, .int 0, .int 0, .int 0, .ref z5, .ref z6, .ref z7, .ref z8, .ref z9, .ref z10, .ref z11])) :: []) FB [9, 8, 7, 6, 5, 4, 3, 2, 1, 0] (by decide) rfl
      have hno : ∀ k, 60 ≤ k ∧ k < 60 + 10 → (baseact k || act k) = false := noact60 HR hA60
      obtain ⟨a, act, C, D, F, I, HA, hold, hnew⟩ := grow (cy := cy) (a := a) (act := act) (C := C) (D := D) (R := R) I HA 60 10 [q, z5, z6, z7, z8, z9, z10, z11, z14, z15] (by decide) (by decide) blk_60.1 blk_60.2.1 blk_60.2.2 hno rfl FC
      have hq0 : q = a 60 := (hnew 60 ⟨by decide, by decide⟩).2.symm
      have e0 := (hold 0 (by decide)).1
      have eA := (hold 23 (by decide)).1
      rw [← e0] at X
      rw [hq0, ← e0, ← eA]
      have hst := fun (k : Nat) (hk : baseact k = true) => ((hold k (fun z => by have y := hno k z; rw [hk] at y; cases y)).1).trans (hst k hk)
      have K : Kp [50, 51, 52, 53, 54, 55, 56, 57, 58, 59, 60, 61, 62, 63, 64, 65, 66, 67, 68, 69, 70, 71, 72, 73, 74, 75, 76, 77, 78, 79] C0 D0 C D := fun k hk => by
        have z : ¬ (60 ≤ k ∧ k < 60 + 10) := fun z => hk (by simp only [List.mem_cons, List.not_mem_nil, or_false]; omega)
        exact ⟨((hold k z).2.2.1).trans (K k hk).1, ((hold k z).2.2.2).trans (K k hk).2⟩
      have hN : NowOk (C 3) (C 27) (C 29) := by rw [(hold 3 (by decide)).2.2.1, (hold 27 (by decide)).2.2.1, (hold 29 (by decide)).2.2.1]; exact hN
      have act60 : (baseact 60 || act 60) = true := by rw [(hnew 60 ⟨by decide, by decide⟩).1]; rfl
      have act61 : (baseact 61 || act 61) = true := by rw [(hnew 61 ⟨by decide, by decide⟩).1]; rfl
      have act62 : (baseact 62 || act 62) = true := by rw [(hnew 62 ⟨by decide, by decide⟩).1]; rfl
      have act63 : (baseact 63 || act 63) = true := by rw [(hnew 63 ⟨by decide, by decide⟩).1]; rfl
      have act64 : (baseact 64 || act 64) = true := by rw [(hnew 64 ⟨by decide, by decide⟩).1]; rfl
      have act65 : (baseact 65 || act 65) = true := by rw [(hnew 65 ⟨by decide, by decide⟩).1]; rfl
      have act66 : (baseact 66 || act 66) = true := by rw [(hnew 66 ⟨by decide, by decide⟩).1]; rfl
      have act67 : (baseact 67 || act 67) = true := by rw [(hnew 67 ⟨by decide, by decide⟩).1]; rfl
      have act68 : (baseact 68 || act 68) = true := by rw [(hnew 68 ⟨by decide, by decide⟩).1]; rfl
      have act69 : (baseact 69 || act 69) = true := by rw [(hnew 69 ⟨by decide, by decide⟩).1]; rfl
      have hA60 : act 60 = true := (hnew 60 ⟨by decide, by decide⟩).1
      refine i_aast X F 23 rfl 60 act60 (t0 := 4) rfl (ci := 2) rfl (fun _ => rfl) rfl dX7_image_33 (vp_in_iff.mpr (by decide)) (fun M R F hR hRc => ?_)
      have HR : RA a act R := RA_23 HR 1 (by decide) (fun k hk => ⟨(hold k hk).1, (hold k hk).2.1⟩) (fun k hk => (hnew k hk).1) hR hRc
      clear hold hnew hRc hR FC FB hno e0 eA
      refine g_aload_n X dX7_image_34 rfl (j := 0) rfl ?_
      refine i_get X F 0 rfl rfl fk_X7_26 dX7_image_35 rfl ?_
      refine g_iload_n X dX7_image_38 rfl (j := 1) rfl ?_
      refine i_aald X F 23 rfl (t0 := 4) rfl rfl dX7_image_39 (vp_in_iff.mpr (by decide)) (v := .ref (a 60)) (by show va_rf (R 23 1) = _; rw [HR.2.1 1 (by decide)]; rw [if_pos hA60]; rfl) ?_
      refine g_aload_n X dX7_image_40 rfl (j := 0) rfl ?_
      refine i_get X F 0 rfl rfl fk_X7_19 dX7_image_41 rfl ?_
      refine g_callVV X (s_X2_copyFrom_i1 l G F I  act60 act61 act62 act63 act64 act65 act66 act67 act68 act69) lk_X7_87 (F.1 60 (act60)).2 (F.1 60 (act60)).1 rfl rfl dX7_image_44 (Nat.le_of_ble_eq_true rfl) ⟨by decide, by decide⟩ ⟨by decide, by decide⟩ (fun L M hp => ?_)
      obtain ⟨C, D, F, I, K1, hr⟩ := hp
      have K := K.step K1 (by decide)
      have hN : NowOk (C 3) (C 27) (C 29) := by rw [(K1 3 (by decide)).1, (K1 27 (by decide)).1, (K1 29 (by decide)).1]; exact hN
      refine g_iconst X dX7_image_47 (v := 0) (by decide) ?_
      exact g_iret X hrt dX7_image_48 (by decide) (by decide) ⟨a, act, C, D, R, F, I, HA, HR, hst, hN, K, (im_in (c := 1) (by decide))⟩
    · skip
      have act60 : (baseact 60 || act 60) = true := by rw [hA60]; rfl
      have act61 : (baseact 61 || act 61) = true := by rw [((HR.2.2.2 1 (by decide) 1 (by decide)).trans hA60)]; rfl
      have act62 : (baseact 62 || act 62) = true := by rw [((HR.2.2.2 1 (by decide) 2 (by decide)).trans hA60)]; rfl
      have act63 : (baseact 63 || act 63) = true := by rw [((HR.2.2.2 1 (by decide) 3 (by decide)).trans hA60)]; rfl
      have act64 : (baseact 64 || act 64) = true := by rw [((HR.2.2.2 1 (by decide) 4 (by decide)).trans hA60)]; rfl
      have act65 : (baseact 65 || act 65) = true := by rw [((HR.2.2.2 1 (by decide) 5 (by decide)).trans hA60)]; rfl
      have act66 : (baseact 66 || act 66) = true := by rw [((HR.2.2.2 1 (by decide) 6 (by decide)).trans hA60)]; rfl
      have act67 : (baseact 67 || act 67) = true := by rw [((HR.2.2.2 1 (by decide) 7 (by decide)).trans hA60)]; rfl
      have act68 : (baseact 68 || act 68) = true := by rw [((HR.2.2.2 1 (by decide) 8 (by decide)).trans hA60)]; rfl
      have act69 : (baseact 69 || act 69) = true := by rw [((HR.2.2.2 1 (by decide) 9 (by decide)).trans hA60)]; rfl
      refine i_aald X F 23 rfl (t0 := 4) rfl rfl dX7_image_17 (vp_in_iff.mpr (by decide)) (v := .ref (a 60)) (by show va_rf (R 23 1) = _; rw [HR.2.1 1 (by decide)]; rw [if_pos hA60]; rfl) ?_
      refine g_ifnonnull X dX7_image_18 (tgt := 34) (by decide) ?_
      refine g_aload_n X dX7_image_34 rfl (j := 0) rfl ?_
      refine i_get X F 0 rfl rfl fk_X7_26 dX7_image_35 rfl ?_
      refine g_iload_n X dX7_image_38 rfl (j := 1) rfl ?_
      refine i_aald X F 23 rfl (t0 := 4) rfl rfl dX7_image_39 (vp_in_iff.mpr (by decide)) (v := .ref (a 60)) (by show va_rf (R 23 1) = _; rw [HR.2.1 1 (by decide)]; rw [if_pos hA60]; rfl) ?_
      refine g_aload_n X dX7_image_40 rfl (j := 0) rfl ?_
      refine i_get X F 0 rfl rfl fk_X7_19 dX7_image_41 rfl ?_
      refine g_callVV X (s_X2_copyFrom_i1 l G F I  act60 act61 act62 act63 act64 act65 act66 act67 act68 act69) lk_X7_87 (F.1 60 (act60)).2 (F.1 60 (act60)).1 rfl rfl dX7_image_44 (Nat.le_of_ble_eq_true rfl) ⟨by decide, by decide⟩ ⟨by decide, by decide⟩ (fun L M hp => ?_)
      obtain ⟨C, D, F, I, K1, hr⟩ := hp
      have K := K.step K1 (by decide)
      have hN : NowOk (C 3) (C 27) (C 29) := by rw [(K1 3 (by decide)).1, (K1 27 (by decide)).1, (K1 29 (by decide)).1]; exact hN
      refine g_iconst X dX7_image_47 (v := 0) (by decide) ?_
      exact g_iret X hrt dX7_image_48 (by decide) (by decide) ⟨a, act, C, D, R, F, I, HA, HR, hst, hN, K, (im_in (c := 1) (by decide))⟩
  · skip
    refine g_iload_n X dX7_image_0 rfl (j := 1) rfl ?_
    refine g_if_lt X dX7_image_1 (tgt := 9) (by decide) (fun q => absurd q (by decide)) (fun _ => ?_)
    refine g_iload_n X dX7_image_4 rfl (j := 1) rfl ?_
    refine g_iconst X dX7_image_5 (v := 3) (by decide) ?_
    refine g_icmp_lt X dX7_image_6 (tgt := 12) (by decide) (fun _ => ?_) (fun q => absurd (by decide) q)
    refine g_aload_n X dX7_image_12 rfl (j := 0) rfl ?_
    refine i_get X F 0 rfl rfl fk_X7_26 dX7_image_13 rfl ?_
    refine g_iload_n X dX7_image_16 rfl (j := 1) rfl ?_
    rcases (Bool.eq_false_or_eq_true (act 70)).symm with hA70 | hA70
    · skip
      refine i_aald X F 23 rfl (t0 := 4) rfl rfl dX7_image_17 (vp_in_iff.mpr (by decide)) (v := .null) (by show va_rf (R 23 2) = _; rw [HR.2.1 2 (by decide)]; rw [if_neg (by rw [hA70]; decide)]; rfl) ?_
      refine g_ifnonnullN X dX7_image_18 ?_
      refine g_aload_n X dX7_image_21 rfl (j := 0) rfl ?_
      refine i_get X F 0 rfl rfl fk_X7_26 dX7_image_22 rfl ?_
      refine g_iload_n X dX7_image_25 rfl (j := 1) rfl ?_
      refine g_new X clX2 wd1061 wd1062 wd7 (fs := [.int 0, .int 0, .int 0, .int 0, .int 0, .int 0, .int 0, .int 0, .int 0, .null, .null, .null, .null, .null, .null, .null]) (by decide) (by decide) (by decide) dX7_image_26 (fun q hq => ?_)
      refine g_widen (k1 := 1) (k2 := 16) (by decide) (by decide) ?_
      refine g_dup X dX7_image_29 rfl ?_
      have FA := (FW.push (F.toFW ksA_act ksA_nd) hq (.inr (2, [.int 0, .int 0, .int 0, .int 0, .int 0, .int 0, .int 0, .int 0, .int 0, .null, .null, .null, .null, .null, .null, .null]))).swap
      refine g_callI X (c_X2_init_s2 l G (h := q) FA) lk_X7_18 rfl rfl dX7_image_30 (Nat.le_of_ble_eq_true rfl) ⟨by decide, by decide⟩ ⟨by decide, by decide⟩ (fun L M hp => ?_)
      refine g_widen (k1 := 10) (k2 := 351) (by decide) (by decide) ?_
      clear FA
      obtain ⟨z10, z11, z14, z15, z5, z6, z7, z8, z9, FB⟩ := hp
      have FC : FW L M (((q, .inr (2, [.int 0, .int 0, .int 0, .int 0, .int 0, .int 0, .int 0, .int 0, .int 0, .ref z5, .ref z6, .ref z7, .ref z8, .ref z9, .ref z10, .ref z11])) :: (z5, .inl (cy 1, 4, .inl (fun _ => 0))) :: (z6, .inl (cy 1, 7, .inl (fun _ => 0))) :: (z7, .inl (cy 1, 28, .inl (fun _ => 0))) :: (z8, .inl (cy 1, 7, .inl (fun _ => 0))) :: (z9, .inl (cy 1, 8, .inl (fun _ => 0))) :: (z10, .inl (cy 1, 8, .inl (fun _ => 0))) :: (z11, .inr (0, [.int 0, .ref z14, .ref z15])) :: (z14, .inl (cy 1, 30, .inl (fun _ => 0))) :: (z15, .inl (cy 1, 240, .inl (fun _ => 0))) :: []) ++ (ksA act).map fun k => (a k, ent cy a C D R k)) := FW.selR (x := (z15, .inl (cy 1, 240, .inl (fun _ => 0))) :: (z14, .inl (cy 1, 30, .inl (fun _ => 0))) :: (z11, .inr (0, [.int 0, .ref z14, .ref z15])) :: (z10, .inl (cy 1, 8, .inl (fun _ => 0))) :: (z9, .inl (cy 1, 8, .inl (fun _ => 0))) :: (z8, .inl (cy 1, 7, .inl (fun _ => 0))) :: (z7, .inl (cy 1, 28, .inl (fun _ => 0))) :: (z6, .inl (cy 1, 7, .inl (fun _ => 0))) :: (z5, .inl (cy 1, 4, .inl (fun _ => 0))) :: (q, .inr (2, [.int 0, .int 0, .int 0, .int 0, .int 0, .int 0, .int 0, .int 0, .int 0, .ref z5, .ref z6, .ref z7, .ref z8, .ref z9, .ref z10, .ref z11])) :: []) FB [9, 8, 7, 6, 5, 4, 3, 2, 1, 0] (by decide) rfl
      have hno : ∀ k, 70 ≤ k ∧ k < 70 + 10 → (baseact k || act k) = false := noact70 HR hA70
      obtain ⟨a, act, C, D, F, I, HA, hold, hnew⟩ := grow (cy := cy) (a := a) (act := act) (C := C) (D := D) (R := R) I HA 70 10 [q, z5, z6, z7, z8, z9, z10, z11, z14, z15] (by decide) (by decide) blk_70.1 blk_70.2.1 blk_70.2.2 hno rfl FC
      have hq0 : q = a 70 := (hnew 70 ⟨by decide, by decide⟩).2.symm
      have e0 := (hold 0 (by decide)).1
      have eA := (hold 23 (by decide)).1
      rw [← e0] at X
      rw [hq0, ← e0, ← eA]
      have hst := fun (k : Nat) (hk : baseact k = true) => ((hold k (fun z => by have y := hno k z; rw [hk] at y; cases y)).1).trans (hst k hk)
      have K : Kp [50, 51, 52, 53, 54, 55, 56, 57, 58, 59, 60, 61, 62, 63, 64, 65, 66, 67, 68, 69, 70, 71, 72, 73, 74, 75, 76, 77, 78, 79] C0 D0 C D := fun k hk => by
        have z : ¬ (70 ≤ k ∧ k < 70 + 10) := fun z => hk (by simp only [List.mem_cons, List.not_mem_nil, or_false]; omega)
        exact ⟨((hold k z).2.2.1).trans (K k hk).1, ((hold k z).2.2.2).trans (K k hk).2⟩
      have hN : NowOk (C 3) (C 27) (C 29) := by rw [(hold 3 (by decide)).2.2.1, (hold 27 (by decide)).2.2.1, (hold 29 (by decide)).2.2.1]; exact hN
      have act70 : (baseact 70 || act 70) = true := by rw [(hnew 70 ⟨by decide, by decide⟩).1]; rfl
      have act71 : (baseact 71 || act 71) = true := by rw [(hnew 71 ⟨by decide, by decide⟩).1]; rfl
      have act72 : (baseact 72 || act 72) = true := by rw [(hnew 72 ⟨by decide, by decide⟩).1]; rfl
      have act73 : (baseact 73 || act 73) = true := by rw [(hnew 73 ⟨by decide, by decide⟩).1]; rfl
      have act74 : (baseact 74 || act 74) = true := by rw [(hnew 74 ⟨by decide, by decide⟩).1]; rfl
      have act75 : (baseact 75 || act 75) = true := by rw [(hnew 75 ⟨by decide, by decide⟩).1]; rfl
      have act76 : (baseact 76 || act 76) = true := by rw [(hnew 76 ⟨by decide, by decide⟩).1]; rfl
      have act77 : (baseact 77 || act 77) = true := by rw [(hnew 77 ⟨by decide, by decide⟩).1]; rfl
      have act78 : (baseact 78 || act 78) = true := by rw [(hnew 78 ⟨by decide, by decide⟩).1]; rfl
      have act79 : (baseact 79 || act 79) = true := by rw [(hnew 79 ⟨by decide, by decide⟩).1]; rfl
      have hA70 : act 70 = true := (hnew 70 ⟨by decide, by decide⟩).1
      refine i_aast X F 23 rfl 70 act70 (t0 := 4) rfl (ci := 2) rfl (fun _ => rfl) rfl dX7_image_33 (vp_in_iff.mpr (by decide)) (fun M R F hR hRc => ?_)
      have HR : RA a act R := RA_23 HR 2 (by decide) (fun k hk => ⟨(hold k hk).1, (hold k hk).2.1⟩) (fun k hk => (hnew k hk).1) hR hRc
      clear hold hnew hRc hR FC FB hno e0 eA
      refine g_aload_n X dX7_image_34 rfl (j := 0) rfl ?_
      refine i_get X F 0 rfl rfl fk_X7_26 dX7_image_35 rfl ?_
      refine g_iload_n X dX7_image_38 rfl (j := 1) rfl ?_
      refine i_aald X F 23 rfl (t0 := 4) rfl rfl dX7_image_39 (vp_in_iff.mpr (by decide)) (v := .ref (a 70)) (by show va_rf (R 23 2) = _; rw [HR.2.1 2 (by decide)]; rw [if_pos hA70]; rfl) ?_
      refine g_aload_n X dX7_image_40 rfl (j := 0) rfl ?_
      refine i_get X F 0 rfl rfl fk_X7_19 dX7_image_41 rfl ?_
      refine g_callVV X (s_X2_copyFrom_i2 l G F I  act70 act71 act72 act73 act74 act75 act76 act77 act78 act79) lk_X7_87 (F.1 70 (act70)).2 (F.1 70 (act70)).1 rfl rfl dX7_image_44 (Nat.le_of_ble_eq_true rfl) ⟨by decide, by decide⟩ ⟨by decide, by decide⟩ (fun L M hp => ?_)
      obtain ⟨C, D, F, I, K1, hr⟩ := hp
      have K := K.step K1 (by decide)
      have hN : NowOk (C 3) (C 27) (C 29) := by rw [(K1 3 (by decide)).1, (K1 27 (by decide)).1, (K1 29 (by decide)).1]; exact hN
      refine g_iconst X dX7_image_47 (v := 0) (by decide) ?_
      exact g_iret X hrt dX7_image_48 (by decide) (by decide) ⟨a, act, C, D, R, F, I, HA, HR, hst, hN, K, (im_in (c := 2) (by decide))⟩
    · skip
      have act70 : (baseact 70 || act 70) = true := by rw [hA70]; rfl
      have act71 : (baseact 71 || act 71) = true := by rw [((HR.2.2.2 2 (by decide) 1 (by decide)).trans hA70)]; rfl
      have act72 : (baseact 72 || act 72) = true := by rw [((HR.2.2.2 2 (by decide) 2 (by decide)).trans hA70)]; rfl
      have act73 : (baseact 73 || act 73) = true := by rw [((HR.2.2.2 2 (by decide) 3 (by decide)).trans hA70)]; rfl
      have act74 : (baseact 74 || act 74) = true := by rw [((HR.2.2.2 2 (by decide) 4 (by decide)).trans hA70)]; rfl
      have act75 : (baseact 75 || act 75) = true := by rw [((HR.2.2.2 2 (by decide) 5 (by decide)).trans hA70)]; rfl
      have act76 : (baseact 76 || act 76) = true := by rw [((HR.2.2.2 2 (by decide) 6 (by decide)).trans hA70)]; rfl
      have act77 : (baseact 77 || act 77) = true := by rw [((HR.2.2.2 2 (by decide) 7 (by decide)).trans hA70)]; rfl
      have act78 : (baseact 78 || act 78) = true := by rw [((HR.2.2.2 2 (by decide) 8 (by decide)).trans hA70)]; rfl
      have act79 : (baseact 79 || act 79) = true := by rw [((HR.2.2.2 2 (by decide) 9 (by decide)).trans hA70)]; rfl
      refine i_aald X F 23 rfl (t0 := 4) rfl rfl dX7_image_17 (vp_in_iff.mpr (by decide)) (v := .ref (a 70)) (by show va_rf (R 23 2) = _; rw [HR.2.1 2 (by decide)]; rw [if_pos hA70]; rfl) ?_
      refine g_ifnonnull X dX7_image_18 (tgt := 34) (by decide) ?_
      refine g_aload_n X dX7_image_34 rfl (j := 0) rfl ?_
      refine i_get X F 0 rfl rfl fk_X7_26 dX7_image_35 rfl ?_
      refine g_iload_n X dX7_image_38 rfl (j := 1) rfl ?_
      refine i_aald X F 23 rfl (t0 := 4) rfl rfl dX7_image_39 (vp_in_iff.mpr (by decide)) (v := .ref (a 70)) (by show va_rf (R 23 2) = _; rw [HR.2.1 2 (by decide)]; rw [if_pos hA70]; rfl) ?_
      refine g_aload_n X dX7_image_40 rfl (j := 0) rfl ?_
      refine i_get X F 0 rfl rfl fk_X7_19 dX7_image_41 rfl ?_
      refine g_callVV X (s_X2_copyFrom_i2 l G F I  act70 act71 act72 act73 act74 act75 act76 act77 act78 act79) lk_X7_87 (F.1 70 (act70)).2 (F.1 70 (act70)).1 rfl rfl dX7_image_44 (Nat.le_of_ble_eq_true rfl) ⟨by decide, by decide⟩ ⟨by decide, by decide⟩ (fun L M hp => ?_)
      obtain ⟨C, D, F, I, K1, hr⟩ := hp
      have K := K.step K1 (by decide)
      have hN : NowOk (C 3) (C 27) (C 29) := by rw [(K1 3 (by decide)).1, (K1 27 (by decide)).1, (K1 29 (by decide)).1]; exact hN
      refine g_iconst X dX7_image_47 (v := 0) (by decide) ?_
      exact g_iret X hrt dX7_image_48 (by decide) (by decide) ⟨a, act, C, D, R, F, I, HA, HR, hst, hN, K, (im_in (c := 2) (by decide))⟩
set_option maxHeartbeats 4000000 in
set_option maxRecDepth 100000 in
theorem s_J7_fill_d0a16_81 (l : Launch) (G : va_G) {cy : Nat → ClassId} {L : List Nat} {M : Nat → va_E} {a : Nat → Nat} {act : Nat → Bool} {C0 : Nat → Nat → Int32} {D0 : Nat → Nat → Int64} {R : Nat → Nat → Option Nat} (F : WI L M a act (ent cy a C0 D0 R)) (I : Inv C0)  (act81 : (baseact 81 || act 81) = true) : MV l G cy yJ7_fill_d0a16 cJ7_fill_d0a16 5 none 0 0 0 [.ref (a 81), .long 0] L M (fun L2 M2 => ∃ C2 D2, WI L2 M2 a act (ent cy a C2 D2 R) ∧ Inv C2 ∧ Kp [81] C0 D0 C2 D2 ∧ True) := by
  refine MV.of (own := RJ7) rfl (by decide) (Nat.le_of_ble_eq_true rfl) ?_
  intro p e s m below meth c A X hrt hnm
  obtain ⟨C, D, hC0, hD0, F, I, K⟩ : ∃ C D, C = C0 ∧ D = D0 ∧ WI L M a act (ent cy a C D R) ∧ Inv C ∧ Kp [81] C0 D0 C D := ⟨C0, D0, rfl, rfl, F, I, Kp.rf⟩
  refine g_iconst X dJ7_fill_d0a16_0 (v := 0) (by decide) ?_
  refine g_istore_n X dJ7_fill_d0a16_1 rfl (by decide) (lv2 := [(3, .int 0), (0, .ref (a 81)), (1, .long 0)]) rfl ?_
  refine g_aload_n X dJ7_fill_d0a16_2 rfl (j := 1) rfl ?_
  refine i_alen X F 81 (act81) rfl (t0 := 2) rfl dJ7_fill_d0a16_3 (v := 60) rfl ?_
  refine g_istore X dJ7_fill_d0a16_4 (by decide) (lv2 := [(4, .int 60), (3, .int 0), (0, .ref (a 81)), (1, .long 0)]) rfl ?_
  refine g_lv [1, 0, 2, 3] (lv2 := [(3, .int 0), (4, .int 60), (0, .ref (a 81)), (1, .long 0)]) rfl ?_
  refine i_loop (mods := [81]) (fun x : Nat => 60 - x) (fun x => [(3, .int (nI (x))), (4, .int 60), (0, .ref (a 81)), (1, .long 0)]) (fun x C => 0 ≤ x ∧ x ≤ 60) (fun x L M C D F I K hP ih6 => ?_) ((0) : Nat) F I K ⟨by show _ ≤ _; omega, by show _ ≤ _; omega⟩
  obtain ⟨i6_3, rfl⟩ : ∃ z, z = x := ⟨_, rfl⟩
  obtain ⟨hi6_3a, hi6_3b⟩ := hP
  refine g_lv [0, 1, 2, 3] (lv2 := [(3, .int (nI i6_3)), (4, .int 60), (0, .ref (a 81)), (1, .long 0)]) rfl ?_
  refine g_iload_n X dJ7_fill_d0a16_6 rfl (j := 0) rfl ?_
  refine g_iload X dJ7_fill_d0a16_7 (j := 1) rfl ?_
  refine g_icmp_ge X dJ7_fill_d0a16_9 (tgt := 22) (by decide) (fun q1 => ?_) (fun q1 => ?_)
  · skip
    have q1 : 60 ≤ i6_3 := (nI_leI (a := 60) (b := i6_3) (by omega) (by omega)).mp q1
    exact g_vret X hrt dJ7_fill_d0a16_22 (by decide) (by decide) ⟨C, D, F, I, K, trivial⟩
  · skip
    have q1 : ¬ 60 ≤ i6_3 := fun z => q1 ((nI_leI (a := 60) (b := i6_3) (by omega) (by omega)).mpr z)
    refine g_aload_n X dJ7_fill_d0a16_12 rfl (j := 2) rfl ?_
    refine g_iload_n X dJ7_fill_d0a16_13 rfl (j := 0) rfl ?_
    refine g_lload_n X dJ7_fill_d0a16_14 rfl (j := 3) rfl ?_
    refine i_last X F 81 (act81) (fun _ => rfl) dJ7_fill_d0a16_15 (vp_in_nI (by omega) (by decide)) (fun M D F K1 hC => ?_)
    have K := K.step K1 (by decide)
    refine g_iinc X dJ7_fill_d0a16_16 (j := 0) rfl (v := nI (i6_3 + 1)) (nI_1 i6_3) (by decide) (lv2 := [(3, .int (nI (i6_3 + 1))), (4, .int 60), (0, .ref (a 81)), (1, .long 0)]) rfl ?_
    refine g_goto X dJ7_fill_d0a16_19 (tgt := 6) (by decide) ?_
    refine g_lv [0, 1, 2, 3] (lv2 := [(3, .int (nI (i6_3 + 1))), (4, .int 60), (0, .ref (a 81)), (1, .long 0)]) rfl ?_
    exact ih6 ((i6_3 + 1)) L M C D F I K ⟨by omega, by omega⟩ (by show _ < _; omega)
set_option maxHeartbeats 4000000 in
set_option maxRecDepth 100000 in
theorem s_X5_begin_80 (l : Launch) (G : va_G) {cy : Nat → ClassId} {L : List Nat} {M : Nat → va_E} {a : Nat → Nat} {act : Nat → Bool} {C0 : Nat → Nat → Int32} {D0 : Nat → Nat → Int64} {R : Nat → Nat → Option Nat} (F : WI L M a act (ent cy a C0 D0 R)) (I : Inv C0) (p0 : Int32) (p1 : Nat) (hp1a : 0 ≤ p1) (hp1b : p1 ≤ 60) (act80 : (baseact 80 || act 80) = true) (act81 : (baseact 81 || act 81) = true) : MV l G cy yX5_begin cX5_begin 3 none 1 0 0 [.ref (a 80), .int p0, .int (nI p1)] L M (fun L2 M2 => ∃ C2 D2, WI L2 M2 a act (ent cy a C2 D2 R) ∧ Inv C2 ∧ Kp [80, 81] C0 D0 C2 D2 ∧ True) := by
  refine MV.of (own := RX5) rfl (by decide) (Nat.le_of_ble_eq_true rfl) ?_
  intro p e s m below meth c A X hrt hnm
  obtain ⟨C, D, hC0, hD0, F, I, K⟩ : ∃ C D, C = C0 ∧ D = D0 ∧ WI L M a act (ent cy a C D R) ∧ Inv C ∧ Kp [80, 81] C0 D0 C D := ⟨C0, D0, rfl, rfl, F, I, Kp.rf⟩
  refine g_aload_n X dX5_begin_0 rfl (j := 0) rfl ?_
  refine g_iload_n X dX5_begin_1 rfl (j := 1) rfl ?_
  refine i_put X F I 80 (act80) rfl rfl fk_X5_15 dX5_begin_2 rfl rfl (Nat.le_of_ble_eq_true rfl) (fun h => absurd h (by decide)) (fun M C F I K1 hC => ?_)
  have K := K.step K1 (by decide)
  refine g_aload_n X dX5_begin_5 rfl (j := 0) rfl ?_
  refine g_iload_n X dX5_begin_6 rfl (j := 2) rfl ?_
  refine i_put X F I 80 (act80) rfl rfl fk_X5_19 dX5_begin_7 rfl rfl (Nat.le_of_ble_eq_true rfl) (fun _ => (rg_of (n := p1) (by omega) (by omega) (by omega))) (fun M C F I K1 hC => ?_)
  have K := K.step K1 (by decide)
  refine g_aload_n X dX5_begin_10 rfl (j := 0) rfl ?_
  refine i_get X F 80 (act80) rfl fk_X5_9 dX5_begin_11 rfl ?_
  refine g_lconst X dX5_begin_14 (v := 0) (by decide) ?_
  refine g_callSV X (s_J7_fill_d0a16_81 l G F I  act81) lk_X5_22 rfl rfl dX5_begin_15 (Nat.le_of_ble_eq_true rfl) ⟨by decide, by decide⟩ ⟨by decide, by decide⟩ (fun L M hp => ?_)
  obtain ⟨C, D, F, I, K1, hr⟩ := hp
  have K := K.step K1 (by decide)
  exact g_vret X hrt dX5_begin_18 (by decide) (by decide) ⟨C, D, F, I, K, trivial⟩
set_option maxHeartbeats 4000000 in
set_option maxRecDepth 100000 in
theorem s_J7_fill_d0a16_83 (l : Launch) (G : va_G) {cy : Nat → ClassId} {L : List Nat} {M : Nat → va_E} {a : Nat → Nat} {act : Nat → Bool} {C0 : Nat → Nat → Int32} {D0 : Nat → Nat → Int64} {R : Nat → Nat → Option Nat} (F : WI L M a act (ent cy a C0 D0 R)) (I : Inv C0)  (act83 : (baseact 83 || act 83) = true) : MV l G cy yJ7_fill_d0a16 cJ7_fill_d0a16 5 none 0 0 0 [.ref (a 83), .long 0] L M (fun L2 M2 => ∃ C2 D2, WI L2 M2 a act (ent cy a C2 D2 R) ∧ Inv C2 ∧ Kp [83] C0 D0 C2 D2 ∧ True) := by
  refine MV.of (own := RJ7) rfl (by decide) (Nat.le_of_ble_eq_true rfl) ?_
  intro p e s m below meth c A X hrt hnm
  obtain ⟨C, D, hC0, hD0, F, I, K⟩ : ∃ C D, C = C0 ∧ D = D0 ∧ WI L M a act (ent cy a C D R) ∧ Inv C ∧ Kp [83] C0 D0 C D := ⟨C0, D0, rfl, rfl, F, I, Kp.rf⟩
  refine g_iconst X dJ7_fill_d0a16_0 (v := 0) (by decide) ?_
  refine g_istore_n X dJ7_fill_d0a16_1 rfl (by decide) (lv2 := [(3, .int 0), (0, .ref (a 83)), (1, .long 0)]) rfl ?_
  refine g_aload_n X dJ7_fill_d0a16_2 rfl (j := 1) rfl ?_
  refine i_alen X F 83 (act83) rfl (t0 := 2) rfl dJ7_fill_d0a16_3 (v := 60) rfl ?_
  refine g_istore X dJ7_fill_d0a16_4 (by decide) (lv2 := [(4, .int 60), (3, .int 0), (0, .ref (a 83)), (1, .long 0)]) rfl ?_
  refine g_lv [1, 0, 2, 3] (lv2 := [(3, .int 0), (4, .int 60), (0, .ref (a 83)), (1, .long 0)]) rfl ?_
  refine i_loop (mods := [83]) (fun x : Nat => 60 - x) (fun x => [(3, .int (nI (x))), (4, .int 60), (0, .ref (a 83)), (1, .long 0)]) (fun x C => 0 ≤ x ∧ x ≤ 60) (fun x L M C D F I K hP ih6 => ?_) ((0) : Nat) F I K ⟨by show _ ≤ _; omega, by show _ ≤ _; omega⟩
  obtain ⟨i6_3, rfl⟩ : ∃ z, z = x := ⟨_, rfl⟩
  obtain ⟨hi6_3a, hi6_3b⟩ := hP
  refine g_lv [0, 1, 2, 3] (lv2 := [(3, .int (nI i6_3)), (4, .int 60), (0, .ref (a 83)), (1, .long 0)]) rfl ?_
  refine g_iload_n X dJ7_fill_d0a16_6 rfl (j := 0) rfl ?_
  refine g_iload X dJ7_fill_d0a16_7 (j := 1) rfl ?_
  refine g_icmp_ge X dJ7_fill_d0a16_9 (tgt := 22) (by decide) (fun q1 => ?_) (fun q1 => ?_)
  · skip
    have q1 : 60 ≤ i6_3 := (nI_leI (a := 60) (b := i6_3) (by omega) (by omega)).mp q1
    exact g_vret X hrt dJ7_fill_d0a16_22 (by decide) (by decide) ⟨C, D, F, I, K, trivial⟩
  · skip
    have q1 : ¬ 60 ≤ i6_3 := fun z => q1 ((nI_leI (a := 60) (b := i6_3) (by omega) (by omega)).mpr z)
    refine g_aload_n X dJ7_fill_d0a16_12 rfl (j := 2) rfl ?_
    refine g_iload_n X dJ7_fill_d0a16_13 rfl (j := 0) rfl ?_
    refine g_lload_n X dJ7_fill_d0a16_14 rfl (j := 3) rfl ?_
    refine i_last X F 83 (act83) (fun _ => rfl) dJ7_fill_d0a16_15 (vp_in_nI (by omega) (by decide)) (fun M D F K1 hC => ?_)
    have K := K.step K1 (by decide)
    refine g_iinc X dJ7_fill_d0a16_16 (j := 0) rfl (v := nI (i6_3 + 1)) (nI_1 i6_3) (by decide) (lv2 := [(3, .int (nI (i6_3 + 1))), (4, .int 60), (0, .ref (a 83)), (1, .long 0)]) rfl ?_
    refine g_goto X dJ7_fill_d0a16_19 (tgt := 6) (by decide) ?_
    refine g_lv [0, 1, 2, 3] (lv2 := [(3, .int (nI (i6_3 + 1))), (4, .int 60), (0, .ref (a 83)), (1, .long 0)]) rfl ?_
    exact ih6 ((i6_3 + 1)) L M C D F I K ⟨by omega, by omega⟩ (by show _ < _; omega)
set_option maxHeartbeats 4000000 in
set_option maxRecDepth 100000 in
theorem s_X5_begin_82 (l : Launch) (G : va_G) {cy : Nat → ClassId} {L : List Nat} {M : Nat → va_E} {a : Nat → Nat} {act : Nat → Bool} {C0 : Nat → Nat → Int32} {D0 : Nat → Nat → Int64} {R : Nat → Nat → Option Nat} (F : WI L M a act (ent cy a C0 D0 R)) (I : Inv C0) (p0 : Int32) (p1 : Nat) (hp1a : 0 ≤ p1) (hp1b : p1 ≤ 60) (act82 : (baseact 82 || act 82) = true) (act83 : (baseact 83 || act 83) = true) : MV l G cy yX5_begin cX5_begin 3 none 1 0 0 [.ref (a 82), .int p0, .int (nI p1)] L M (fun L2 M2 => ∃ C2 D2, WI L2 M2 a act (ent cy a C2 D2 R) ∧ Inv C2 ∧ Kp [82, 83] C0 D0 C2 D2 ∧ True) := by
  refine MV.of (own := RX5) rfl (by decide) (Nat.le_of_ble_eq_true rfl) ?_
  intro p e s m below meth c A X hrt hnm
  obtain ⟨C, D, hC0, hD0, F, I, K⟩ : ∃ C D, C = C0 ∧ D = D0 ∧ WI L M a act (ent cy a C D R) ∧ Inv C ∧ Kp [82, 83] C0 D0 C D := ⟨C0, D0, rfl, rfl, F, I, Kp.rf⟩
  refine g_aload_n X dX5_begin_0 rfl (j := 0) rfl ?_
  refine g_iload_n X dX5_begin_1 rfl (j := 1) rfl ?_
  refine i_put X F I 82 (act82) rfl rfl fk_X5_15 dX5_begin_2 rfl rfl (Nat.le_of_ble_eq_true rfl) (fun h => absurd h (by decide)) (fun M C F I K1 hC => ?_)
  have K := K.step K1 (by decide)
  refine g_aload_n X dX5_begin_5 rfl (j := 0) rfl ?_
  refine g_iload_n X dX5_begin_6 rfl (j := 2) rfl ?_
  refine i_put X F I 82 (act82) rfl rfl fk_X5_19 dX5_begin_7 rfl rfl (Nat.le_of_ble_eq_true rfl) (fun _ => (rg_of (n := p1) (by omega) (by omega) (by omega))) (fun M C F I K1 hC => ?_)
  have K := K.step K1 (by decide)
  refine g_aload_n X dX5_begin_10 rfl (j := 0) rfl ?_
  refine i_get X F 82 (act82) rfl fk_X5_9 dX5_begin_11 rfl ?_
  refine g_lconst X dX5_begin_14 (v := 0) (by decide) ?_
  refine g_callSV X (s_J7_fill_d0a16_83 l G F I  act83) lk_X5_22 rfl rfl dX5_begin_15 (Nat.le_of_ble_eq_true rfl) ⟨by decide, by decide⟩ ⟨by decide, by decide⟩ (fun L M hp => ?_)
  obtain ⟨C, D, F, I, K1, hr⟩ := hp
  have K := K.step K1 (by decide)
  exact g_vret X hrt dX5_begin_18 (by decide) (by decide) ⟨C, D, F, I, K, trivial⟩
set_option maxHeartbeats 4000000 in
set_option maxRecDepth 100000 in
theorem s_J7_fill_d0a16_85 (l : Launch) (G : va_G) {cy : Nat → ClassId} {L : List Nat} {M : Nat → va_E} {a : Nat → Nat} {act : Nat → Bool} {C0 : Nat → Nat → Int32} {D0 : Nat → Nat → Int64} {R : Nat → Nat → Option Nat} (F : WI L M a act (ent cy a C0 D0 R)) (I : Inv C0)  (act85 : (baseact 85 || act 85) = true) : MV l G cy yJ7_fill_d0a16 cJ7_fill_d0a16 5 none 0 0 0 [.ref (a 85), .long 0] L M (fun L2 M2 => ∃ C2 D2, WI L2 M2 a act (ent cy a C2 D2 R) ∧ Inv C2 ∧ Kp [85] C0 D0 C2 D2 ∧ True) := by
  refine MV.of (own := RJ7) rfl (by decide) (Nat.le_of_ble_eq_true rfl) ?_
  intro p e s m below meth c A X hrt hnm
  obtain ⟨C, D, hC0, hD0, F, I, K⟩ : ∃ C D, C = C0 ∧ D = D0 ∧ WI L M a act (ent cy a C D R) ∧ Inv C ∧ Kp [85] C0 D0 C D := ⟨C0, D0, rfl, rfl, F, I, Kp.rf⟩
  refine g_iconst X dJ7_fill_d0a16_0 (v := 0) (by decide) ?_
  refine g_istore_n X dJ7_fill_d0a16_1 rfl (by decide) (lv2 := [(3, .int 0), (0, .ref (a 85)), (1, .long 0)]) rfl ?_
  refine g_aload_n X dJ7_fill_d0a16_2 rfl (j := 1) rfl ?_
  refine i_alen X F 85 (act85) rfl (t0 := 2) rfl dJ7_fill_d0a16_3 (v := 60) rfl ?_
  refine g_istore X dJ7_fill_d0a16_4 (by decide) (lv2 := [(4, .int 60), (3, .int 0), (0, .ref (a 85)), (1, .long 0)]) rfl ?_
  refine g_lv [1, 0, 2, 3] (lv2 := [(3, .int 0), (4, .int 60), (0, .ref (a 85)), (1, .long 0)]) rfl ?_
  refine i_loop (mods := [85]) (fun x : Nat => 60 - x) (fun x => [(3, .int (nI (x))), (4, .int 60), (0, .ref (a 85)), (1, .long 0)]) (fun x C => 0 ≤ x ∧ x ≤ 60) (fun x L M C D F I K hP ih6 => ?_) ((0) : Nat) F I K ⟨by show _ ≤ _; omega, by show _ ≤ _; omega⟩
  obtain ⟨i6_3, rfl⟩ : ∃ z, z = x := ⟨_, rfl⟩
  obtain ⟨hi6_3a, hi6_3b⟩ := hP
  refine g_lv [0, 1, 2, 3] (lv2 := [(3, .int (nI i6_3)), (4, .int 60), (0, .ref (a 85)), (1, .long 0)]) rfl ?_
  refine g_iload_n X dJ7_fill_d0a16_6 rfl (j := 0) rfl ?_
  refine g_iload X dJ7_fill_d0a16_7 (j := 1) rfl ?_
  refine g_icmp_ge X dJ7_fill_d0a16_9 (tgt := 22) (by decide) (fun q1 => ?_) (fun q1 => ?_)
  · skip
    have q1 : 60 ≤ i6_3 := (nI_leI (a := 60) (b := i6_3) (by omega) (by omega)).mp q1
    exact g_vret X hrt dJ7_fill_d0a16_22 (by decide) (by decide) ⟨C, D, F, I, K, trivial⟩
  · skip
    have q1 : ¬ 60 ≤ i6_3 := fun z => q1 ((nI_leI (a := 60) (b := i6_3) (by omega) (by omega)).mpr z)
    refine g_aload_n X dJ7_fill_d0a16_12 rfl (j := 2) rfl ?_
    refine g_iload_n X dJ7_fill_d0a16_13 rfl (j := 0) rfl ?_
    refine g_lload_n X dJ7_fill_d0a16_14 rfl (j := 3) rfl ?_
    refine i_last X F 85 (act85) (fun _ => rfl) dJ7_fill_d0a16_15 (vp_in_nI (by omega) (by decide)) (fun M D F K1 hC => ?_)
    have K := K.step K1 (by decide)
    refine g_iinc X dJ7_fill_d0a16_16 (j := 0) rfl (v := nI (i6_3 + 1)) (nI_1 i6_3) (by decide) (lv2 := [(3, .int (nI (i6_3 + 1))), (4, .int 60), (0, .ref (a 85)), (1, .long 0)]) rfl ?_
    refine g_goto X dJ7_fill_d0a16_19 (tgt := 6) (by decide) ?_
    refine g_lv [0, 1, 2, 3] (lv2 := [(3, .int (nI (i6_3 + 1))), (4, .int 60), (0, .ref (a 85)), (1, .long 0)]) rfl ?_
    exact ih6 ((i6_3 + 1)) L M C D F I K ⟨by omega, by omega⟩ (by show _ < _; omega)
set_option maxHeartbeats 4000000 in
set_option maxRecDepth 100000 in
theorem s_X5_begin_84 (l : Launch) (G : va_G) {cy : Nat → ClassId} {L : List Nat} {M : Nat → va_E} {a : Nat → Nat} {act : Nat → Bool} {C0 : Nat → Nat → Int32} {D0 : Nat → Nat → Int64} {R : Nat → Nat → Option Nat} (F : WI L M a act (ent cy a C0 D0 R)) (I : Inv C0) (p0 : Int32) (p1 : Nat) (hp1a : 0 ≤ p1) (hp1b : p1 ≤ 60) (act84 : (baseact 84 || act 84) = true) (act85 : (baseact 85 || act 85) = true) : MV l G cy yX5_begin cX5_begin 3 none 1 0 0 [.ref (a 84), .int p0, .int (nI p1)] L M (fun L2 M2 => ∃ C2 D2, WI L2 M2 a act (ent cy a C2 D2 R) ∧ Inv C2 ∧ Kp [84, 85] C0 D0 C2 D2 ∧ True) := by
  refine MV.of (own := RX5) rfl (by decide) (Nat.le_of_ble_eq_true rfl) ?_
  intro p e s m below meth c A X hrt hnm
  obtain ⟨C, D, hC0, hD0, F, I, K⟩ : ∃ C D, C = C0 ∧ D = D0 ∧ WI L M a act (ent cy a C D R) ∧ Inv C ∧ Kp [84, 85] C0 D0 C D := ⟨C0, D0, rfl, rfl, F, I, Kp.rf⟩
  refine g_aload_n X dX5_begin_0 rfl (j := 0) rfl ?_
  refine g_iload_n X dX5_begin_1 rfl (j := 1) rfl ?_
  refine i_put X F I 84 (act84) rfl rfl fk_X5_15 dX5_begin_2 rfl rfl (Nat.le_of_ble_eq_true rfl) (fun h => absurd h (by decide)) (fun M C F I K1 hC => ?_)
  have K := K.step K1 (by decide)
  refine g_aload_n X dX5_begin_5 rfl (j := 0) rfl ?_
  refine g_iload_n X dX5_begin_6 rfl (j := 2) rfl ?_
  refine i_put X F I 84 (act84) rfl rfl fk_X5_19 dX5_begin_7 rfl rfl (Nat.le_of_ble_eq_true rfl) (fun _ => (rg_of (n := p1) (by omega) (by omega) (by omega))) (fun M C F I K1 hC => ?_)
  have K := K.step K1 (by decide)
  refine g_aload_n X dX5_begin_10 rfl (j := 0) rfl ?_
  refine i_get X F 84 (act84) rfl fk_X5_9 dX5_begin_11 rfl ?_
  refine g_lconst X dX5_begin_14 (v := 0) (by decide) ?_
  refine g_callSV X (s_J7_fill_d0a16_85 l G F I  act85) lk_X5_22 rfl rfl dX5_begin_15 (Nat.le_of_ble_eq_true rfl) ⟨by decide, by decide⟩ ⟨by decide, by decide⟩ (fun L M hp => ?_)
  obtain ⟨C, D, F, I, K1, hr⟩ := hp
  have K := K.step K1 (by decide)
  exact g_vret X hrt dX5_begin_18 (by decide) (by decide) ⟨C, D, F, I, K, trivial⟩
set_option maxHeartbeats 4000000 in
set_option maxRecDepth 100000 in
theorem s_J7_fill_d0a16_87 (l : Launch) (G : va_G) {cy : Nat → ClassId} {L : List Nat} {M : Nat → va_E} {a : Nat → Nat} {act : Nat → Bool} {C0 : Nat → Nat → Int32} {D0 : Nat → Nat → Int64} {R : Nat → Nat → Option Nat} (F : WI L M a act (ent cy a C0 D0 R)) (I : Inv C0)  (act87 : (baseact 87 || act 87) = true) : MV l G cy yJ7_fill_d0a16 cJ7_fill_d0a16 5 none 0 0 0 [.ref (a 87), .long 0] L M (fun L2 M2 => ∃ C2 D2, WI L2 M2 a act (ent cy a C2 D2 R) ∧ Inv C2 ∧ Kp [87] C0 D0 C2 D2 ∧ True) := by
  refine MV.of (own := RJ7) rfl (by decide) (Nat.le_of_ble_eq_true rfl) ?_
  intro p e s m below meth c A X hrt hnm
  obtain ⟨C, D, hC0, hD0, F, I, K⟩ : ∃ C D, C = C0 ∧ D = D0 ∧ WI L M a act (ent cy a C D R) ∧ Inv C ∧ Kp [87] C0 D0 C D := ⟨C0, D0, rfl, rfl, F, I, Kp.rf⟩
  refine g_iconst X dJ7_fill_d0a16_0 (v := 0) (by decide) ?_
  refine g_istore_n X dJ7_fill_d0a16_1 rfl (by decide) (lv2 := [(3, .int 0), (0, .ref (a 87)), (1, .long 0)]) rfl ?_
  refine g_aload_n X dJ7_fill_d0a16_2 rfl (j := 1) rfl ?_
  refine i_alen X F 87 (act87) rfl (t0 := 2) rfl dJ7_fill_d0a16_3 (v := 60) rfl ?_
  refine g_istore X dJ7_fill_d0a16_4 (by decide) (lv2 := [(4, .int 60), (3, .int 0), (0, .ref (a 87)), (1, .long 0)]) rfl ?_
  refine g_lv [1, 0, 2, 3] (lv2 := [(3, .int 0), (4, .int 60), (0, .ref (a 87)), (1, .long 0)]) rfl ?_
  refine i_loop (mods := [87]) (fun x : Nat => 60 - x) (fun x => [(3, .int (nI (x))), (4, .int 60), (0, .ref (a 87)), (1, .long 0)]) (fun x C => 0 ≤ x ∧ x ≤ 60) (fun x L M C D F I K hP ih6 => ?_) ((0) : Nat) F I K ⟨by show _ ≤ _; omega, by show _ ≤ _; omega⟩
  obtain ⟨i6_3, rfl⟩ : ∃ z, z = x := ⟨_, rfl⟩
  obtain ⟨hi6_3a, hi6_3b⟩ := hP
  refine g_lv [0, 1, 2, 3] (lv2 := [(3, .int (nI i6_3)), (4, .int 60), (0, .ref (a 87)), (1, .long 0)]) rfl ?_
  refine g_iload_n X dJ7_fill_d0a16_6 rfl (j := 0) rfl ?_
  refine g_iload X dJ7_fill_d0a16_7 (j := 1) rfl ?_
  refine g_icmp_ge X dJ7_fill_d0a16_9 (tgt := 22) (by decide) (fun q1 => ?_) (fun q1 => ?_)
  · skip
    have q1 : 60 ≤ i6_3 := (nI_leI (a := 60) (b := i6_3) (by omega) (by omega)).mp q1
    exact g_vret X hrt dJ7_fill_d0a16_22 (by decide) (by decide) ⟨C, D, F, I, K, trivial⟩
  · skip
    have q1 : ¬ 60 ≤ i6_3 := fun z => q1 ((nI_leI (a := 60) (b := i6_3) (by omega) (by omega)).mpr z)
    refine g_aload_n X dJ7_fill_d0a16_12 rfl (j := 2) rfl ?_
    refine g_iload_n X dJ7_fill_d0a16_13 rfl (j := 0) rfl ?_
    refine g_lload_n X dJ7_fill_d0a16_14 rfl (j := 3) rfl ?_
    refine i_last X F 87 (act87) (fun _ => rfl) dJ7_fill_d0a16_15 (vp_in_nI (by omega) (by decide)) (fun M D F K1 hC => ?_)
    have K := K.step K1 (by decide)
    refine g_iinc X dJ7_fill_d0a16_16 (j := 0) rfl (v := nI (i6_3 + 1)) (nI_1 i6_3) (by decide) (lv2 := [(3, .int (nI (i6_3 + 1))), (4, .int 60), (0, .ref (a 87)), (1, .long 0)]) rfl ?_
    refine g_goto X dJ7_fill_d0a16_19 (tgt := 6) (by decide) ?_
    refine g_lv [0, 1, 2, 3] (lv2 := [(3, .int (nI (i6_3 + 1))), (4, .int 60), (0, .ref (a 87)), (1, .long 0)]) rfl ?_
    exact ih6 ((i6_3 + 1)) L M C D F I K ⟨by omega, by omega⟩ (by show _ < _; omega)
set_option maxHeartbeats 4000000 in
set_option maxRecDepth 100000 in
theorem s_X5_begin_86 (l : Launch) (G : va_G) {cy : Nat → ClassId} {L : List Nat} {M : Nat → va_E} {a : Nat → Nat} {act : Nat → Bool} {C0 : Nat → Nat → Int32} {D0 : Nat → Nat → Int64} {R : Nat → Nat → Option Nat} (F : WI L M a act (ent cy a C0 D0 R)) (I : Inv C0) (p0 : Int32) (p1 : Nat) (hp1a : 0 ≤ p1) (hp1b : p1 ≤ 60) (act86 : (baseact 86 || act 86) = true) (act87 : (baseact 87 || act 87) = true) : MV l G cy yX5_begin cX5_begin 3 none 1 0 0 [.ref (a 86), .int p0, .int (nI p1)] L M (fun L2 M2 => ∃ C2 D2, WI L2 M2 a act (ent cy a C2 D2 R) ∧ Inv C2 ∧ Kp [86, 87] C0 D0 C2 D2 ∧ True) := by
  refine MV.of (own := RX5) rfl (by decide) (Nat.le_of_ble_eq_true rfl) ?_
  intro p e s m below meth c A X hrt hnm
  obtain ⟨C, D, hC0, hD0, F, I, K⟩ : ∃ C D, C = C0 ∧ D = D0 ∧ WI L M a act (ent cy a C D R) ∧ Inv C ∧ Kp [86, 87] C0 D0 C D := ⟨C0, D0, rfl, rfl, F, I, Kp.rf⟩
  refine g_aload_n X dX5_begin_0 rfl (j := 0) rfl ?_
  refine g_iload_n X dX5_begin_1 rfl (j := 1) rfl ?_
  refine i_put X F I 86 (act86) rfl rfl fk_X5_15 dX5_begin_2 rfl rfl (Nat.le_of_ble_eq_true rfl) (fun h => absurd h (by decide)) (fun M C F I K1 hC => ?_)
  have K := K.step K1 (by decide)
  refine g_aload_n X dX5_begin_5 rfl (j := 0) rfl ?_
  refine g_iload_n X dX5_begin_6 rfl (j := 2) rfl ?_
  refine i_put X F I 86 (act86) rfl rfl fk_X5_19 dX5_begin_7 rfl rfl (Nat.le_of_ble_eq_true rfl) (fun _ => (rg_of (n := p1) (by omega) (by omega) (by omega))) (fun M C F I K1 hC => ?_)
  have K := K.step K1 (by decide)
  refine g_aload_n X dX5_begin_10 rfl (j := 0) rfl ?_
  refine i_get X F 86 (act86) rfl fk_X5_9 dX5_begin_11 rfl ?_
  refine g_lconst X dX5_begin_14 (v := 0) (by decide) ?_
  refine g_callSV X (s_J7_fill_d0a16_87 l G F I  act87) lk_X5_22 rfl rfl dX5_begin_15 (Nat.le_of_ble_eq_true rfl) ⟨by decide, by decide⟩ ⟨by decide, by decide⟩ (fun L M hp => ?_)
  obtain ⟨C, D, F, I, K1, hr⟩ := hp
  have K := K.step K1 (by decide)
  exact g_vret X hrt dX5_begin_18 (by decide) (by decide) ⟨C, D, F, I, K, trivial⟩
set_option maxHeartbeats 4000000 in
set_option maxRecDepth 100000 in
theorem s_X7_row (l : Launch) (G : va_G) {cy : Nat → ClassId} {L : List Nat} {M : Nat → va_E} {a : Nat → Nat} {act : Nat → Bool} {C0 : Nat → Nat → Int32} {D0 : Nat → Nat → Int64} {R : Nat → Nat → Option Nat} (F : WI L M a act (ent cy a C0 D0 R)) (I : Inv C0) (HA : AB act) (HR : RA a act R) (hN : NowOk (C0 3) (C0 27) (C0 29)) (p0 : Int32) (p1 : Int32) (p2 : Int32) : MI l G cy yX7_row cX7_row 4 (some .int) 2 2 63 [.ref (a 0), .int p0, .int p1, .int p2] L M (fun r L2 M2 => ∃ (a2 : Nat → Nat) (act2 : Nat → Bool) (C2 : Nat → Nat → Int32) (D2 : Nat → Nat → Int64) (R2 : Nat → Nat → Option Nat), WI L2 M2 a2 act2 (ent cy a2 C2 D2 R2) ∧ Inv C2 ∧ AB act2 ∧ RA a2 act2 R2 ∧ (∀ k, baseact k = true → a2 k = a k) ∧ NowOk (C2 3) (C2 27) (C2 29) ∧ Kp [80, 81, 82, 83, 84, 85, 86, 87] C0 D0 C2 D2 ∧ r = sp_row p0 p1 p2) := by
  refine MI.of (own := RX7) rfl (by decide) (Nat.le_of_ble_eq_true rfl) ?_
  intro p e s m below meth c A X hrt hnm
  obtain ⟨C, D, hC0, hD0, F, I, K⟩ : ∃ C D, C = C0 ∧ D = D0 ∧ WI L M a act (ent cy a C D R) ∧ Inv C ∧ Kp [80, 81, 82, 83, 84, 85, 86, 87] C0 D0 C D := ⟨C0, D0, rfl, rfl, F, I, Kp.rf⟩
  rw [← hC0] at hN
  have hst : ∀ k, baseact k = true → a k = a k := fun _ _ => rfl
  rcases sc4 p0 with hx1 | hx1 | rfl | rfl | rfl | rfl
  · skip
    have hno1 : p0 < 0 ∨ 4 ≤ p0 := Or.inl hx1
    refine g_iload_n X dX7_row_0 rfl (j := 1) rfl ?_
    refine g_callSI X (s_X7_isSlot_x l G F I p0 hno1) lk_X7_389 rfl rfl dX7_row_1 (Nat.le_of_ble_eq_true rfl) ⟨by decide, by decide⟩ ⟨by decide, by decide⟩ (fun r2 L M hp => ?_)
    obtain ⟨C, D, F, I, K1, hr⟩ := hp
    have K := K.step K1 (by decide)
    have hN : NowOk (C 3) (C 27) (C 29) := by rw [(K1 3 (by decide)).1, (K1 27 (by decide)).1, (K1 29 (by decide)).1]; exact hN
    subst hr
    refine g_if_eq X dX7_row_4 (tgt := 22) (by decide) (fun _ => ?_) (fun q => absurd (by decide) q)
    refine g_bipush X dX7_row_22 (v := -2) (by decide) ?_
    exact g_iret X hrt dX7_row_24 (by decide) (by decide) ⟨a, act, C, D, R, F, I, HA, HR, hst, hN, K, (row_o (by have z := not4 hno1; omega))⟩
  · skip
    have hno1 : p0 < 0 ∨ 4 ≤ p0 := Or.inr hx1
    refine g_iload_n X dX7_row_0 rfl (j := 1) rfl ?_
    refine g_callSI X (s_X7_isSlot_x l G F I p0 hno1) lk_X7_389 rfl rfl dX7_row_1 (Nat.le_of_ble_eq_true rfl) ⟨by decide, by decide⟩ ⟨by decide, by decide⟩ (fun r3 L M hp => ?_)
    obtain ⟨C, D, F, I, K1, hr⟩ := hp
    have K := K.step K1 (by decide)
    have hN : NowOk (C 3) (C 27) (C 29) := by rw [(K1 3 (by decide)).1, (K1 27 (by decide)).1, (K1 29 (by decide)).1]; exact hN
    subst hr
    refine g_if_eq X dX7_row_4 (tgt := 22) (by decide) (fun _ => ?_) (fun q => absurd (by decide) q)
    refine g_bipush X dX7_row_22 (v := -2) (by decide) ?_
    exact g_iret X hrt dX7_row_24 (by decide) (by decide) ⟨a, act, C, D, R, F, I, HA, HR, hst, hN, K, (row_o (by have z := not4 hno1; omega))⟩
  · skip
    refine g_iload_n X dX7_row_0 rfl (j := 1) rfl ?_
    refine g_callSI X (s_X7_isSlot_0 l G F I  ) lk_X7_389 rfl rfl dX7_row_1 (Nat.le_of_ble_eq_true rfl) ⟨by decide, by decide⟩ ⟨by decide, by decide⟩ (fun r4 L M hp => ?_)
    obtain ⟨C, D, F, I, K1, hr⟩ := hp
    have K := K.step K1 (by decide)
    have hN : NowOk (C 3) (C 27) (C 29) := by rw [(K1 3 (by decide)).1, (K1 27 (by decide)).1, (K1 29 (by decide)).1]; exact hN
    subst hr
    refine g_if_eq X dX7_row_4 (tgt := 22) (by decide) (fun q => absurd q (by decide)) (fun _ => ?_)
    refine g_iload_n X dX7_row_7 rfl (j := 2) rfl ?_
    refine g_if_lt X dX7_row_8 (tgt := 22) (by decide) (fun q5 => ?_) (fun q5 => ?_)
    · skip
      have q5t : p1.toInt < (0 : Int32).toInt := Int32.lt_iff_toInt_lt.mp q5
      have q5k : (0 : Int32).toInt = 0 := (by decide)
      have q5b := Int32.toInt_lt p1
      refine g_bipush X dX7_row_22 (v := -2) (by decide) ?_
      exact g_iret X hrt dX7_row_24 (by decide) (by decide) ⟨a, act, C, D, R, F, I, HA, HR, hst, hN, K, (row_o (by have tq : (0 : Int32).toInt = 0 := (by decide); omega))⟩
    · skip
      have q5t : ¬ p1.toInt < (0 : Int32).toInt := fun z => q5 (Int32.lt_iff_toInt_lt.mpr z)
      have q5k : (0 : Int32).toInt = 0 := (by decide)
      have q5b := Int32.toInt_lt p1
      obtain ⟨n6, hn6, rfl⟩ := nI_of (x := p1) (fun z => by have z2 := Int32.lt_iff_toInt_lt.mp z; have z3 : (0 : Int32).toInt = 0 := (by decide); omega)
      rw [nI_toInt (by omega)] at q5t
      have tn6 := nI_toInt (n := n6) (by omega)
      refine g_iload_n X dX7_row_11 rfl (j := 2) rfl ?_
      refine g_iconst X dX7_row_12 (v := 3) (by decide) ?_
      refine g_icmp_gt X dX7_row_13 (tgt := 22) (by decide) (fun q7 => ?_) (fun q7 => ?_)
      · skip
        have q7 : 3 < n6 := (nI_ltI (a := 3) (b := n6) (by omega) (by omega)).mp q7
        refine g_bipush X dX7_row_22 (v := -2) (by decide) ?_
        exact g_iret X hrt dX7_row_24 (by decide) (by decide) ⟨a, act, C, D, R, F, I, HA, HR, hst, hN, K, (row_o (by have tq : (0 : Int32).toInt = 0 := (by decide); omega))⟩
      · skip
        have q7 : ¬ 3 < n6 := fun z => q7 ((nI_ltI (a := 3) (b := n6) (by omega) (by omega)).mpr z)
        refine g_iload_n X dX7_row_16 rfl (j := 3) rfl ?_
        refine g_bipush X dX7_row_17 (v := 60) (by decide) ?_
        refine g_icmp_le X dX7_row_19 (tgt := 25) (by decide) (fun q8 => ?_) (fun q8 => ?_)
        · skip
          have q8t : p2.toInt ≤ (60 : Int32).toInt := Int32.le_iff_toInt_le.mp q8
          have q8k : (60 : Int32).toInt = 60 := (by decide)
          have q8b := Int32.toInt_lt p2
          refine g_iload_n X dX7_row_25 rfl (j := 3) rfl ?_
          refine g_if_ge X dX7_row_26 (tgt := 32) (by decide) (fun q9 => ?_) (fun q9 => ?_)
          · skip
            have q9t : (0 : Int32).toInt ≤ p2.toInt := Int32.le_iff_toInt_le.mp q9
            have q9k : (0 : Int32).toInt = 0 := (by decide)
            have q9b := Int32.toInt_lt p2
            obtain ⟨n10, hn10, rfl⟩ := nI_of (x := p2) (fun z => by have z2 := Int32.lt_iff_toInt_lt.mp z; have z3 : (0 : Int32).toInt = 0 := (by decide); omega)
            rw [nI_toInt (by omega)] at q9t
            have tn10 := nI_toInt (n := n10) (by omega)
            refine g_aload_n X dX7_row_32 rfl (j := 0) rfl ?_
            refine i_get X F 0 rfl rfl fk_X7_32 dX7_row_33 rfl ?_
            refine g_iload_n X dX7_row_36 rfl (j := 1) rfl ?_
            rcases (Bool.eq_false_or_eq_true (act 80)).symm with hA80 | hA80
            · skip
              refine i_aald X F 24 rfl (t0 := 5) rfl rfl dX7_row_37 (vp_in_iff.mpr (by decide)) (v := .null) (by show va_rf (R 24 0) = _; rw [HR.1 0 (by decide)]; rw [if_neg (by rw [hA80]; decide)]; rfl) ?_
              refine g_ifnonnullN X dX7_row_38 ?_
              refine g_aload_n X dX7_row_41 rfl (j := 0) rfl ?_
              refine i_get X F 0 rfl rfl fk_X7_32 dX7_row_42 rfl ?_
              refine g_iload_n X dX7_row_45 rfl (j := 1) rfl ?_
              refine g_new X clX5 wd1072 wd1096 wd633 (fs := [.null, .int 0, .int 0]) (by decide) (by decide) (by decide) dX7_row_46 (fun q hq => ?_)
              refine g_widen (k1 := 1) (k2 := 3) (by decide) (by decide) ?_
              refine g_dup X dX7_row_49 rfl ?_
              have FA := (FW.push (F.toFW ksA_act ksA_nd) hq (.inr (5, [.null, .int 0, .int 0]))).swap
              refine g_callI X (c_X5_init_s6 l G (h := q) FA) lk_X7_392 rfl rfl dX7_row_50 (Nat.le_of_ble_eq_true rfl) ⟨by decide, by decide⟩ ⟨by decide, by decide⟩ (fun L M hp => ?_)
              refine g_widen (k1 := 2) (k2 := 63) (by decide) (by decide) ?_
              clear FA
              obtain ⟨z86, FB⟩ := hp
              have FC : FW L M (((q, .inr (5, [.ref z86, .int 0, .int 0])) :: (z86, .inl (cy 2, 60, .inr (.inl (fun _ => 0)))) :: []) ++ (ksA act).map fun k => (a k, ent cy a C D R k)) := FW.selR (x := (z86, .inl (cy 2, 60, .inr (.inl (fun _ => 0)))) :: (q, .inr (5, [.ref z86, .int 0, .int 0])) :: []) FB [1, 0] (by decide) rfl
              have hno : ∀ k, 80 ≤ k ∧ k < 80 + 2 → (baseact k || act k) = false := noact80 HR hA80
              obtain ⟨a, act, C, D, F, I, HA, hold, hnew⟩ := grow (cy := cy) (a := a) (act := act) (C := C) (D := D) (R := R) I HA 80 2 [q, z86] (by decide) (by decide) blk_80.1 blk_80.2.1 blk_80.2.2 hno rfl FC
              have hq0 : q = a 80 := (hnew 80 ⟨by decide, by decide⟩).2.symm
              have e0 := (hold 0 (by decide)).1
              have eA := (hold 24 (by decide)).1
              rw [← e0] at X
              rw [hq0, ← e0, ← eA]
              have hst := fun (k : Nat) (hk : baseact k = true) => ((hold k (fun z => by have y := hno k z; rw [hk] at y; cases y)).1).trans (hst k hk)
              have K : Kp [80, 81, 82, 83, 84, 85, 86, 87] C0 D0 C D := fun k hk => by
                have z : ¬ (80 ≤ k ∧ k < 80 + 2) := fun z => hk (by simp only [List.mem_cons, List.not_mem_nil, or_false]; omega)
                exact ⟨((hold k z).2.2.1).trans (K k hk).1, ((hold k z).2.2.2).trans (K k hk).2⟩
              have hN : NowOk (C 3) (C 27) (C 29) := by rw [(hold 3 (by decide)).2.2.1, (hold 27 (by decide)).2.2.1, (hold 29 (by decide)).2.2.1]; exact hN
              have act80 : (baseact 80 || act 80) = true := by rw [(hnew 80 ⟨by decide, by decide⟩).1]; rfl
              have act81 : (baseact 81 || act 81) = true := by rw [(hnew 81 ⟨by decide, by decide⟩).1]; rfl
              have hA80 : act 80 = true := (hnew 80 ⟨by decide, by decide⟩).1
              refine i_aast X F 24 rfl 80 act80 (t0 := 5) rfl (ci := 5) rfl (fun _ => rfl) rfl dX7_row_53 (vp_in_iff.mpr (by decide)) (fun M R F hR hRc => ?_)
              have HR : RA a act R := RA_24 HR 0 (by decide) (fun k hk => ⟨(hold k hk).1, (hold k hk).2.1⟩) (fun k hk => (hnew k hk).1) hR hRc
              clear hold hnew hRc hR FC FB hno e0 eA
              refine g_aload_n X dX7_row_54 rfl (j := 0) rfl ?_
              refine i_get X F 0 rfl rfl fk_X7_32 dX7_row_55 rfl ?_
              refine g_iload_n X dX7_row_58 rfl (j := 1) rfl ?_
              refine i_aald X F 24 rfl (t0 := 5) rfl rfl dX7_row_59 (vp_in_iff.mpr (by decide)) (v := .ref (a 80)) (by show va_rf (R 24 0) = _; rw [HR.1 0 (by decide)]; rw [if_pos hA80]; rfl) ?_
              refine g_iload_n X dX7_row_60 rfl (j := 2) rfl ?_
              refine g_iload_n X dX7_row_61 rfl (j := 3) rfl ?_
              refine g_callVV X (s_X5_begin_80 l G F I (nI n6) n10 (by omega) (by omega) act80 act81) lk_X7_393 (F.1 80 (act80)).2 (F.1 80 (act80)).1 rfl rfl dX7_row_62 (Nat.le_of_ble_eq_true rfl) ⟨by decide, by decide⟩ ⟨by decide, by decide⟩ (fun L M hp => ?_)
              obtain ⟨C, D, F, I, K1, hr⟩ := hp
              have K := K.step K1 (by decide)
              have hN : NowOk (C 3) (C 27) (C 29) := by rw [(K1 3 (by decide)).1, (K1 27 (by decide)).1, (K1 29 (by decide)).1]; exact hN
              refine g_iconst X dX7_row_65 (v := 0) (by decide) ?_
              exact g_iret X hrt dX7_row_66 (by decide) (by decide) ⟨a, act, C, D, R, F, I, HA, HR, hst, hN, K, (row_k (by have tq : (0 : Int32).toInt = 0 := (by decide); omega))⟩
            · skip
              have act80 : (baseact 80 || act 80) = true := by rw [hA80]; rfl
              have act81 : (baseact 81 || act 81) = true := by rw [((HR.2.2.1 0 (by decide)).trans hA80)]; rfl
              refine i_aald X F 24 rfl (t0 := 5) rfl rfl dX7_row_37 (vp_in_iff.mpr (by decide)) (v := .ref (a 80)) (by show va_rf (R 24 0) = _; rw [HR.1 0 (by decide)]; rw [if_pos hA80]; rfl) ?_
              refine g_ifnonnull X dX7_row_38 (tgt := 54) (by decide) ?_
              refine g_aload_n X dX7_row_54 rfl (j := 0) rfl ?_
              refine i_get X F 0 rfl rfl fk_X7_32 dX7_row_55 rfl ?_
              refine g_iload_n X dX7_row_58 rfl (j := 1) rfl ?_
              refine i_aald X F 24 rfl (t0 := 5) rfl rfl dX7_row_59 (vp_in_iff.mpr (by decide)) (v := .ref (a 80)) (by show va_rf (R 24 0) = _; rw [HR.1 0 (by decide)]; rw [if_pos hA80]; rfl) ?_
              refine g_iload_n X dX7_row_60 rfl (j := 2) rfl ?_
              refine g_iload_n X dX7_row_61 rfl (j := 3) rfl ?_
              refine g_callVV X (s_X5_begin_80 l G F I (nI n6) n10 (by omega) (by omega) act80 act81) lk_X7_393 (F.1 80 (act80)).2 (F.1 80 (act80)).1 rfl rfl dX7_row_62 (Nat.le_of_ble_eq_true rfl) ⟨by decide, by decide⟩ ⟨by decide, by decide⟩ (fun L M hp => ?_)
              obtain ⟨C, D, F, I, K1, hr⟩ := hp
              have K := K.step K1 (by decide)
              have hN : NowOk (C 3) (C 27) (C 29) := by rw [(K1 3 (by decide)).1, (K1 27 (by decide)).1, (K1 29 (by decide)).1]; exact hN
              refine g_iconst X dX7_row_65 (v := 0) (by decide) ?_
              exact g_iret X hrt dX7_row_66 (by decide) (by decide) ⟨a, act, C, D, R, F, I, HA, HR, hst, hN, K, (row_k (by have tq : (0 : Int32).toInt = 0 := (by decide); omega))⟩
          · skip
            have q9t : ¬ (0 : Int32).toInt ≤ p2.toInt := fun z => q9 (Int32.le_iff_toInt_le.mpr z)
            have q9k : (0 : Int32).toInt = 0 := (by decide)
            have q9b := Int32.toInt_lt p2
            refine g_bipush X dX7_row_29 (v := -3) (by decide) ?_
            exact g_iret X hrt dX7_row_31 (by decide) (by decide) ⟨a, act, C, D, R, F, I, HA, HR, hst, hN, K, (row_n (by have tq : (0 : Int32).toInt = 0 := (by decide); omega))⟩
        · skip
          have q8t : ¬ p2.toInt ≤ (60 : Int32).toInt := fun z => q8 (Int32.le_iff_toInt_le.mpr z)
          have q8k : (60 : Int32).toInt = 60 := (by decide)
          have q8b := Int32.toInt_lt p2
          obtain ⟨n14, hn14, rfl⟩ := nI_of (x := p2) (fun z => by have z2 := Int32.lt_iff_toInt_lt.mp z; have z3 : (0 : Int32).toInt = 0 := (by decide); omega)
          rw [nI_toInt (by omega)] at q8t
          have tn14 := nI_toInt (n := n14) (by omega)
          refine g_bipush X dX7_row_22 (v := -2) (by decide) ?_
          exact g_iret X hrt dX7_row_24 (by decide) (by decide) ⟨a, act, C, D, R, F, I, HA, HR, hst, hN, K, (row_o (by have tq : (0 : Int32).toInt = 0 := (by decide); omega))⟩
  · skip
    refine g_iload_n X dX7_row_0 rfl (j := 1) rfl ?_
    refine g_callSI X (s_X7_isSlot_1 l G F I  ) lk_X7_389 rfl rfl dX7_row_1 (Nat.le_of_ble_eq_true rfl) ⟨by decide, by decide⟩ ⟨by decide, by decide⟩ (fun r15 L M hp => ?_)
    obtain ⟨C, D, F, I, K1, hr⟩ := hp
    have K := K.step K1 (by decide)
    have hN : NowOk (C 3) (C 27) (C 29) := by rw [(K1 3 (by decide)).1, (K1 27 (by decide)).1, (K1 29 (by decide)).1]; exact hN
    subst hr
    refine g_if_eq X dX7_row_4 (tgt := 22) (by decide) (fun q => absurd q (by decide)) (fun _ => ?_)
    refine g_iload_n X dX7_row_7 rfl (j := 2) rfl ?_
    refine g_if_lt X dX7_row_8 (tgt := 22) (by decide) (fun q16 => ?_) (fun q16 => ?_)
    · skip
      have q16t : p1.toInt < (0 : Int32).toInt := Int32.lt_iff_toInt_lt.mp q16
      have q16k : (0 : Int32).toInt = 0 := (by decide)
      have q16b := Int32.toInt_lt p1
      refine g_bipush X dX7_row_22 (v := -2) (by decide) ?_
      exact g_iret X hrt dX7_row_24 (by decide) (by decide) ⟨a, act, C, D, R, F, I, HA, HR, hst, hN, K, (row_o (by have tq : (1 : Int32).toInt = 1 := (by decide); omega))⟩
    · skip
      have q16t : ¬ p1.toInt < (0 : Int32).toInt := fun z => q16 (Int32.lt_iff_toInt_lt.mpr z)
      have q16k : (0 : Int32).toInt = 0 := (by decide)
      have q16b := Int32.toInt_lt p1
      obtain ⟨n17, hn17, rfl⟩ := nI_of (x := p1) (fun z => by have z2 := Int32.lt_iff_toInt_lt.mp z; have z3 : (0 : Int32).toInt = 0 := (by decide); omega)
      rw [nI_toInt (by omega)] at q16t
      have tn17 := nI_toInt (n := n17) (by omega)
      refine g_iload_n X dX7_row_11 rfl (j := 2) rfl ?_
      refine g_iconst X dX7_row_12 (v := 3) (by decide) ?_
      refine g_icmp_gt X dX7_row_13 (tgt := 22) (by decide) (fun q18 => ?_) (fun q18 => ?_)
      · skip
        have q18 : 3 < n17 := (nI_ltI (a := 3) (b := n17) (by omega) (by omega)).mp q18
        refine g_bipush X dX7_row_22 (v := -2) (by decide) ?_
        exact g_iret X hrt dX7_row_24 (by decide) (by decide) ⟨a, act, C, D, R, F, I, HA, HR, hst, hN, K, (row_o (by have tq : (1 : Int32).toInt = 1 := (by decide); omega))⟩
      · skip
        have q18 : ¬ 3 < n17 := fun z => q18 ((nI_ltI (a := 3) (b := n17) (by omega) (by omega)).mpr z)
        refine g_iload_n X dX7_row_16 rfl (j := 3) rfl ?_
        refine g_bipush X dX7_row_17 (v := 60) (by decide) ?_
        refine g_icmp_le X dX7_row_19 (tgt := 25) (by decide) (fun q19 => ?_) (fun q19 => ?_)
        · skip
          have q19t : p2.toInt ≤ (60 : Int32).toInt := Int32.le_iff_toInt_le.mp q19
          have q19k : (60 : Int32).toInt = 60 := (by decide)
          have q19b := Int32.toInt_lt p2
          refine g_iload_n X dX7_row_25 rfl (j := 3) rfl ?_
          refine g_if_ge X dX7_row_26 (tgt := 32) (by decide) (fun q20 => ?_) (fun q20 => ?_)
          · skip
            have q20t : (0 : Int32).toInt ≤ p2.toInt := Int32.le_iff_toInt_le.mp q20
            have q20k : (0 : Int32).toInt = 0 := (by decide)
            have q20b := Int32.toInt_lt p2
            obtain ⟨n21, hn21, rfl⟩ := nI_of (x := p2) (fun z => by have z2 := Int32.lt_iff_toInt_lt.mp z; have z3 : (0 : Int32).toInt = 0 := (by decide); omega)
            rw [nI_toInt (by omega)] at q20t
            have tn21 := nI_toInt (n := n21) (by omega)
            refine g_aload_n X dX7_row_32 rfl (j := 0) rfl ?_
            refine i_get X F 0 rfl rfl fk_X7_32 dX7_row_33 rfl ?_
            refine g_iload_n X dX7_row_36 rfl (j := 1) rfl ?_
            rcases (Bool.eq_false_or_eq_true (act 82)).symm with hA82 | hA82
            · skip
              refine i_aald X F 24 rfl (t0 := 5) rfl rfl dX7_row_37 (vp_in_iff.mpr (by decide)) (v := .null) (by show va_rf (R 24 1) = _; rw [HR.1 1 (by decide)]; rw [if_neg (by rw [hA82]; decide)]; rfl) ?_
              refine g_ifnonnullN X dX7_row_38 ?_
              refine g_aload_n X dX7_row_41 rfl (j := 0) rfl ?_
              refine i_get X F 0 rfl rfl fk_X7_32 dX7_row_42 rfl ?_
              refine g_iload_n X dX7_row_45 rfl (j := 1) rfl ?_
              refine g_new X clX5 wd1072 wd1096 wd633 (fs := [.null, .int 0, .int 0]) (by decide) (by decide) (by decide) dX7_row_46 (fun q hq => ?_)
              refine g_widen (k1 := 1) (k2 := 3) (by decide) (by decide) ?_
              refine g_dup X dX7_row_49 rfl ?_
              have FA := (FW.push (F.toFW ksA_act ksA_nd) hq (.inr (5, [.null, .int 0, .int 0]))).swap
              refine g_callI X (c_X5_init_s6 l G (h := q) FA) lk_X7_392 rfl rfl dX7_row_50 (Nat.le_of_ble_eq_true rfl) ⟨by decide, by decide⟩ ⟨by decide, by decide⟩ (fun L M hp => ?_)
              refine g_widen (k1 := 2) (k2 := 63) (by decide) (by decide) ?_
              clear FA
              obtain ⟨z86, FB⟩ := hp
              have FC : FW L M (((q, .inr (5, [.ref z86, .int 0, .int 0])) :: (z86, .inl (cy 2, 60, .inr (.inl (fun _ => 0)))) :: []) ++ (ksA act).map fun k => (a k, ent cy a C D R k)) := FW.selR (x := (z86, .inl (cy 2, 60, .inr (.inl (fun _ => 0)))) :: (q, .inr (5, [.ref z86, .int 0, .int 0])) :: []) FB [1, 0] (by decide) rfl
              have hno : ∀ k, 82 ≤ k ∧ k < 82 + 2 → (baseact k || act k) = false := noact82 HR hA82
              obtain ⟨a, act, C, D, F, I, HA, hold, hnew⟩ := grow (cy := cy) (a := a) (act := act) (C := C) (D := D) (R := R) I HA 82 2 [q, z86] (by decide) (by decide) blk_82.1 blk_82.2.1 blk_82.2.2 hno rfl FC
              have hq0 : q = a 82 := (hnew 82 ⟨by decide, by decide⟩).2.symm
              have e0 := (hold 0 (by decide)).1
              have eA := (hold 24 (by decide)).1
              rw [← e0] at X
              rw [hq0, ← e0, ← eA]
              have hst := fun (k : Nat) (hk : baseact k = true) => ((hold k (fun z => by have y := hno k z; rw [hk] at y; cases y)).1).trans (hst k hk)
              have K : Kp [80, 81, 82, 83, 84, 85, 86, 87] C0 D0 C D := fun k hk => by
                have z : ¬ (82 ≤ k ∧ k < 82 + 2) := fun z => hk (by simp only [List.mem_cons, List.not_mem_nil, or_false]; omega)
                exact ⟨((hold k z).2.2.1).trans (K k hk).1, ((hold k z).2.2.2).trans (K k hk).2⟩
              have hN : NowOk (C 3) (C 27) (C 29) := by rw [(hold 3 (by decide)).2.2.1, (hold 27 (by decide)).2.2.1, (hold 29 (by decide)).2.2.1]; exact hN
              have act82 : (baseact 82 || act 82) = true := by rw [(hnew 82 ⟨by decide, by decide⟩).1]; rfl
              have act83 : (baseact 83 || act 83) = true := by rw [(hnew 83 ⟨by decide, by decide⟩).1]; rfl
              have hA82 : act 82 = true := (hnew 82 ⟨by decide, by decide⟩).1
              refine i_aast X F 24 rfl 82 act82 (t0 := 5) rfl (ci := 5) rfl (fun _ => rfl) rfl dX7_row_53 (vp_in_iff.mpr (by decide)) (fun M R F hR hRc => ?_)
              have HR : RA a act R := RA_24 HR 1 (by decide) (fun k hk => ⟨(hold k hk).1, (hold k hk).2.1⟩) (fun k hk => (hnew k hk).1) hR hRc
              clear hold hnew hRc hR FC FB hno e0 eA
              refine g_aload_n X dX7_row_54 rfl (j := 0) rfl ?_
              refine i_get X F 0 rfl rfl fk_X7_32 dX7_row_55 rfl ?_
              refine g_iload_n X dX7_row_58 rfl (j := 1) rfl ?_
              refine i_aald X F 24 rfl (t0 := 5) rfl rfl dX7_row_59 (vp_in_iff.mpr (by decide)) (v := .ref (a 82)) (by show va_rf (R 24 1) = _; rw [HR.1 1 (by decide)]; rw [if_pos hA82]; rfl) ?_
              refine g_iload_n X dX7_row_60 rfl (j := 2) rfl ?_
              refine g_iload_n X dX7_row_61 rfl (j := 3) rfl ?_
              refine g_callVV X (s_X5_begin_82 l G F I (nI n17) n21 (by omega) (by omega) act82 act83) lk_X7_393 (F.1 82 (act82)).2 (F.1 82 (act82)).1 rfl rfl dX7_row_62 (Nat.le_of_ble_eq_true rfl) ⟨by decide, by decide⟩ ⟨by decide, by decide⟩ (fun L M hp => ?_)
              obtain ⟨C, D, F, I, K1, hr⟩ := hp
              have K := K.step K1 (by decide)
              have hN : NowOk (C 3) (C 27) (C 29) := by rw [(K1 3 (by decide)).1, (K1 27 (by decide)).1, (K1 29 (by decide)).1]; exact hN
              refine g_iconst X dX7_row_65 (v := 0) (by decide) ?_
              exact g_iret X hrt dX7_row_66 (by decide) (by decide) ⟨a, act, C, D, R, F, I, HA, HR, hst, hN, K, (row_k (by have tq : (1 : Int32).toInt = 1 := (by decide); omega))⟩
            · skip
              have act82 : (baseact 82 || act 82) = true := by rw [hA82]; rfl
              have act83 : (baseact 83 || act 83) = true := by rw [((HR.2.2.1 1 (by decide)).trans hA82)]; rfl
              refine i_aald X F 24 rfl (t0 := 5) rfl rfl dX7_row_37 (vp_in_iff.mpr (by decide)) (v := .ref (a 82)) (by show va_rf (R 24 1) = _; rw [HR.1 1 (by decide)]; rw [if_pos hA82]; rfl) ?_
              refine g_ifnonnull X dX7_row_38 (tgt := 54) (by decide) ?_
              refine g_aload_n X dX7_row_54 rfl (j := 0) rfl ?_
              refine i_get X F 0 rfl rfl fk_X7_32 dX7_row_55 rfl ?_
              refine g_iload_n X dX7_row_58 rfl (j := 1) rfl ?_
              refine i_aald X F 24 rfl (t0 := 5) rfl rfl dX7_row_59 (vp_in_iff.mpr (by decide)) (v := .ref (a 82)) (by show va_rf (R 24 1) = _; rw [HR.1 1 (by decide)]; rw [if_pos hA82]; rfl) ?_
              refine g_iload_n X dX7_row_60 rfl (j := 2) rfl ?_
              refine g_iload_n X dX7_row_61 rfl (j := 3) rfl ?_
              refine g_callVV X (s_X5_begin_82 l G F I (nI n17) n21 (by omega) (by omega) act82 act83) lk_X7_393 (F.1 82 (act82)).2 (F.1 82 (act82)).1 rfl rfl dX7_row_62 (Nat.le_of_ble_eq_true rfl) ⟨by decide, by decide⟩ ⟨by decide, by decide⟩ (fun L M hp => ?_)
              obtain ⟨C, D, F, I, K1, hr⟩ := hp
              have K := K.step K1 (by decide)
              have hN : NowOk (C 3) (C 27) (C 29) := by rw [(K1 3 (by decide)).1, (K1 27 (by decide)).1, (K1 29 (by decide)).1]; exact hN
              refine g_iconst X dX7_row_65 (v := 0) (by decide) ?_
              exact g_iret X hrt dX7_row_66 (by decide) (by decide) ⟨a, act, C, D, R, F, I, HA, HR, hst, hN, K, (row_k (by have tq : (1 : Int32).toInt = 1 := (by decide); omega))⟩
          · skip
            have q20t : ¬ (0 : Int32).toInt ≤ p2.toInt := fun z => q20 (Int32.le_iff_toInt_le.mpr z)
            have q20k : (0 : Int32).toInt = 0 := (by decide)
            have q20b := Int32.toInt_lt p2
            refine g_bipush X dX7_row_29 (v := -3) (by decide) ?_
            exact g_iret X hrt dX7_row_31 (by decide) (by decide) ⟨a, act, C, D, R, F, I, HA, HR, hst, hN, K, (row_n (by have tq : (1 : Int32).toInt = 1 := (by decide); omega))⟩
        · skip
          have q19t : ¬ p2.toInt ≤ (60 : Int32).toInt := fun z => q19 (Int32.le_iff_toInt_le.mpr z)
          have q19k : (60 : Int32).toInt = 60 := (by decide)
          have q19b := Int32.toInt_lt p2
          obtain ⟨n25, hn25, rfl⟩ := nI_of (x := p2) (fun z => by have z2 := Int32.lt_iff_toInt_lt.mp z; have z3 : (0 : Int32).toInt = 0 := (by decide); omega)
          rw [nI_toInt (by omega)] at q19t
          have tn25 := nI_toInt (n := n25) (by omega)
          refine g_bipush X dX7_row_22 (v := -2) (by decide) ?_
          exact g_iret X hrt dX7_row_24 (by decide) (by decide) ⟨a, act, C, D, R, F, I, HA, HR, hst, hN, K, (row_o (by have tq : (1 : Int32).toInt = 1 := (by decide); omega))⟩
  · skip
    refine g_iload_n X dX7_row_0 rfl (j := 1) rfl ?_
    refine g_callSI X (s_X7_isSlot_2 l G F I  ) lk_X7_389 rfl rfl dX7_row_1 (Nat.le_of_ble_eq_true rfl) ⟨by decide, by decide⟩ ⟨by decide, by decide⟩ (fun r26 L M hp => ?_)
    obtain ⟨C, D, F, I, K1, hr⟩ := hp
    have K := K.step K1 (by decide)
    have hN : NowOk (C 3) (C 27) (C 29) := by rw [(K1 3 (by decide)).1, (K1 27 (by decide)).1, (K1 29 (by decide)).1]; exact hN
    subst hr
    refine g_if_eq X dX7_row_4 (tgt := 22) (by decide) (fun q => absurd q (by decide)) (fun _ => ?_)
    refine g_iload_n X dX7_row_7 rfl (j := 2) rfl ?_
    refine g_if_lt X dX7_row_8 (tgt := 22) (by decide) (fun q27 => ?_) (fun q27 => ?_)
    · skip
      have q27t : p1.toInt < (0 : Int32).toInt := Int32.lt_iff_toInt_lt.mp q27
      have q27k : (0 : Int32).toInt = 0 := (by decide)
      have q27b := Int32.toInt_lt p1
      refine g_bipush X dX7_row_22 (v := -2) (by decide) ?_
      exact g_iret X hrt dX7_row_24 (by decide) (by decide) ⟨a, act, C, D, R, F, I, HA, HR, hst, hN, K, (row_o (by have tq : (2 : Int32).toInt = 2 := (by decide); omega))⟩
    · skip
      have q27t : ¬ p1.toInt < (0 : Int32).toInt := fun z => q27 (Int32.lt_iff_toInt_lt.mpr z)
      have q27k : (0 : Int32).toInt = 0 := (by decide)
      have q27b := Int32.toInt_lt p1
      obtain ⟨n28, hn28, rfl⟩ := nI_of (x := p1) (fun z => by have z2 := Int32.lt_iff_toInt_lt.mp z; have z3 : (0 : Int32).toInt = 0 := (by decide); omega)
      rw [nI_toInt (by omega)] at q27t
      have tn28 := nI_toInt (n := n28) (by omega)
      refine g_iload_n X dX7_row_11 rfl (j := 2) rfl ?_
      refine g_iconst X dX7_row_12 (v := 3) (by decide) ?_
      refine g_icmp_gt X dX7_row_13 (tgt := 22) (by decide) (fun q29 => ?_) (fun q29 => ?_)
      · skip
        have q29 : 3 < n28 := (nI_ltI (a := 3) (b := n28) (by omega) (by omega)).mp q29
        refine g_bipush X dX7_row_22 (v := -2) (by decide) ?_
        exact g_iret X hrt dX7_row_24 (by decide) (by decide) ⟨a, act, C, D, R, F, I, HA, HR, hst, hN, K, (row_o (by have tq : (2 : Int32).toInt = 2 := (by decide); omega))⟩
      · skip
        have q29 : ¬ 3 < n28 := fun z => q29 ((nI_ltI (a := 3) (b := n28) (by omega) (by omega)).mpr z)
        refine g_iload_n X dX7_row_16 rfl (j := 3) rfl ?_
        refine g_bipush X dX7_row_17 (v := 60) (by decide) ?_
        refine g_icmp_le X dX7_row_19 (tgt := 25) (by decide) (fun q30 => ?_) (fun q30 => ?_)
        · skip
          have q30t : p2.toInt ≤ (60 : Int32).toInt := Int32.le_iff_toInt_le.mp q30
          have q30k : (60 : Int32).toInt = 60 := (by decide)
          have q30b := Int32.toInt_lt p2
          refine g_iload_n X dX7_row_25 rfl (j := 3) rfl ?_
          refine g_if_ge X dX7_row_26 (tgt := 32) (by decide) (fun q31 => ?_) (fun q31 => ?_)
          · skip
            have q31t : (0 : Int32).toInt ≤ p2.toInt := Int32.le_iff_toInt_le.mp q31
            have q31k : (0 : Int32).toInt = 0 := (by decide)
            have q31b := Int32.toInt_lt p2
            obtain ⟨n32, hn32, rfl⟩ := nI_of (x := p2) (fun z => by have z2 := Int32.lt_iff_toInt_lt.mp z; have z3 : (0 : Int32).toInt = 0 := (by decide); omega)
            rw [nI_toInt (by omega)] at q31t
            have tn32 := nI_toInt (n := n32) (by omega)
            refine g_aload_n X dX7_row_32 rfl (j := 0) rfl ?_
            refine i_get X F 0 rfl rfl fk_X7_32 dX7_row_33 rfl ?_
            refine g_iload_n X dX7_row_36 rfl (j := 1) rfl ?_
            rcases (Bool.eq_false_or_eq_true (act 84)).symm with hA84 | hA84
            · skip
              refine i_aald X F 24 rfl (t0 := 5) rfl rfl dX7_row_37 (vp_in_iff.mpr (by decide)) (v := .null) (by show va_rf (R 24 2) = _; rw [HR.1 2 (by decide)]; rw [if_neg (by rw [hA84]; decide)]; rfl) ?_
              refine g_ifnonnullN X dX7_row_38 ?_
              refine g_aload_n X dX7_row_41 rfl (j := 0) rfl ?_
              refine i_get X F 0 rfl rfl fk_X7_32 dX7_row_42 rfl ?_
              refine g_iload_n X dX7_row_45 rfl (j := 1) rfl ?_
              refine g_new X clX5 wd1072 wd1096 wd633 (fs := [.null, .int 0, .int 0]) (by decide) (by decide) (by decide) dX7_row_46 (fun q hq => ?_)
              refine g_widen (k1 := 1) (k2 := 3) (by decide) (by decide) ?_
              refine g_dup X dX7_row_49 rfl ?_
              have FA := (FW.push (F.toFW ksA_act ksA_nd) hq (.inr (5, [.null, .int 0, .int 0]))).swap
              refine g_callI X (c_X5_init_s6 l G (h := q) FA) lk_X7_392 rfl rfl dX7_row_50 (Nat.le_of_ble_eq_true rfl) ⟨by decide, by decide⟩ ⟨by decide, by decide⟩ (fun L M hp => ?_)
              refine g_widen (k1 := 2) (k2 := 63) (by decide) (by decide) ?_
              clear FA
              obtain ⟨z86, FB⟩ := hp
              have FC : FW L M (((q, .inr (5, [.ref z86, .int 0, .int 0])) :: (z86, .inl (cy 2, 60, .inr (.inl (fun _ => 0)))) :: []) ++ (ksA act).map fun k => (a k, ent cy a C D R k)) := FW.selR (x := (z86, .inl (cy 2, 60, .inr (.inl (fun _ => 0)))) :: (q, .inr (5, [.ref z86, .int 0, .int 0])) :: []) FB [1, 0] (by decide) rfl
              have hno : ∀ k, 84 ≤ k ∧ k < 84 + 2 → (baseact k || act k) = false := noact84 HR hA84
              obtain ⟨a, act, C, D, F, I, HA, hold, hnew⟩ := grow (cy := cy) (a := a) (act := act) (C := C) (D := D) (R := R) I HA 84 2 [q, z86] (by decide) (by decide) blk_84.1 blk_84.2.1 blk_84.2.2 hno rfl FC
              have hq0 : q = a 84 := (hnew 84 ⟨by decide, by decide⟩).2.symm
              have e0 := (hold 0 (by decide)).1
              have eA := (hold 24 (by decide)).1
              rw [← e0] at X
              rw [hq0, ← e0, ← eA]
              have hst := fun (k : Nat) (hk : baseact k = true) => ((hold k (fun z => by have y := hno k z; rw [hk] at y; cases y)).1).trans (hst k hk)
              have K : Kp [80, 81, 82, 83, 84, 85, 86, 87] C0 D0 C D := fun k hk => by
                have z : ¬ (84 ≤ k ∧ k < 84 + 2) := fun z => hk (by simp only [List.mem_cons, List.not_mem_nil, or_false]; omega)
                exact ⟨((hold k z).2.2.1).trans (K k hk).1, ((hold k z).2.2.2).trans (K k hk).2⟩
              have hN : NowOk (C 3) (C 27) (C 29) := by rw [(hold 3 (by decide)).2.2.1, (hold 27 (by decide)).2.2.1, (hold 29 (by decide)).2.2.1]; exact hN
              have act84 : (baseact 84 || act 84) = true := by rw [(hnew 84 ⟨by decide, by decide⟩).1]; rfl
              have act85 : (baseact 85 || act 85) = true := by rw [(hnew 85 ⟨by decide, by decide⟩).1]; rfl
              have hA84 : act 84 = true := (hnew 84 ⟨by decide, by decide⟩).1
              refine i_aast X F 24 rfl 84 act84 (t0 := 5) rfl (ci := 5) rfl (fun _ => rfl) rfl dX7_row_53 (vp_in_iff.mpr (by decide)) (fun M R F hR hRc => ?_)
              have HR : RA a act R := RA_24 HR 2 (by decide) (fun k hk => ⟨(hold k hk).1, (hold k hk).2.1⟩) (fun k hk => (hnew k hk).1) hR hRc
              clear hold hnew hRc hR FC FB hno e0 eA
              refine g_aload_n X dX7_row_54 rfl (j := 0) rfl ?_
              refine i_get X F 0 rfl rfl fk_X7_32 dX7_row_55 rfl ?_
              refine g_iload_n X dX7_row_58 rfl (j := 1) rfl ?_
              refine i_aald X F 24 rfl (t0 := 5) rfl rfl dX7_row_59 (vp_in_iff.mpr (by decide)) (v := .ref (a 84)) (by show va_rf (R 24 2) = _; rw [HR.1 2 (by decide)]; rw [if_pos hA84]; rfl) ?_
              refine g_iload_n X dX7_row_60 rfl (j := 2) rfl ?_
              refine g_iload_n X dX7_row_61 rfl (j := 3) rfl ?_
              refine g_callVV X (s_X5_begin_84 l G F I (nI n28) n32 (by omega) (by omega) act84 act85) lk_X7_393 (F.1 84 (act84)).2 (F.1 84 (act84)).1 rfl rfl dX7_row_62 (Nat.le_of_ble_eq_true rfl) ⟨by decide, by decide⟩ ⟨by decide, by decide⟩ (fun L M hp => ?_)
              obtain ⟨C, D, F, I, K1, hr⟩ := hp
              have K := K.step K1 (by decide)
              have hN : NowOk (C 3) (C 27) (C 29) := by rw [(K1 3 (by decide)).1, (K1 27 (by decide)).1, (K1 29 (by decide)).1]; exact hN
              refine g_iconst X dX7_row_65 (v := 0) (by decide) ?_
              exact g_iret X hrt dX7_row_66 (by decide) (by decide) ⟨a, act, C, D, R, F, I, HA, HR, hst, hN, K, (row_k (by have tq : (2 : Int32).toInt = 2 := (by decide); omega))⟩
            · skip
              have act84 : (baseact 84 || act 84) = true := by rw [hA84]; rfl
              have act85 : (baseact 85 || act 85) = true := by rw [((HR.2.2.1 2 (by decide)).trans hA84)]; rfl
              refine i_aald X F 24 rfl (t0 := 5) rfl rfl dX7_row_37 (vp_in_iff.mpr (by decide)) (v := .ref (a 84)) (by show va_rf (R 24 2) = _; rw [HR.1 2 (by decide)]; rw [if_pos hA84]; rfl) ?_
              refine g_ifnonnull X dX7_row_38 (tgt := 54) (by decide) ?_
              refine g_aload_n X dX7_row_54 rfl (j := 0) rfl ?_
              refine i_get X F 0 rfl rfl fk_X7_32 dX7_row_55 rfl ?_
              refine g_iload_n X dX7_row_58 rfl (j := 1) rfl ?_
              refine i_aald X F 24 rfl (t0 := 5) rfl rfl dX7_row_59 (vp_in_iff.mpr (by decide)) (v := .ref (a 84)) (by show va_rf (R 24 2) = _; rw [HR.1 2 (by decide)]; rw [if_pos hA84]; rfl) ?_
              refine g_iload_n X dX7_row_60 rfl (j := 2) rfl ?_
              refine g_iload_n X dX7_row_61 rfl (j := 3) rfl ?_
              refine g_callVV X (s_X5_begin_84 l G F I (nI n28) n32 (by omega) (by omega) act84 act85) lk_X7_393 (F.1 84 (act84)).2 (F.1 84 (act84)).1 rfl rfl dX7_row_62 (Nat.le_of_ble_eq_true rfl) ⟨by decide, by decide⟩ ⟨by decide, by decide⟩ (fun L M hp => ?_)
              obtain ⟨C, D, F, I, K1, hr⟩ := hp
              have K := K.step K1 (by decide)
              have hN : NowOk (C 3) (C 27) (C 29) := by rw [(K1 3 (by decide)).1, (K1 27 (by decide)).1, (K1 29 (by decide)).1]; exact hN
              refine g_iconst X dX7_row_65 (v := 0) (by decide) ?_
              exact g_iret X hrt dX7_row_66 (by decide) (by decide) ⟨a, act, C, D, R, F, I, HA, HR, hst, hN, K, (row_k (by have tq : (2 : Int32).toInt = 2 := (by decide); omega))⟩
          · skip
            have q31t : ¬ (0 : Int32).toInt ≤ p2.toInt := fun z => q31 (Int32.le_iff_toInt_le.mpr z)
            have q31k : (0 : Int32).toInt = 0 := (by decide)
            have q31b := Int32.toInt_lt p2
            refine g_bipush X dX7_row_29 (v := -3) (by decide) ?_
            exact g_iret X hrt dX7_row_31 (by decide) (by decide) ⟨a, act, C, D, R, F, I, HA, HR, hst, hN, K, (row_n (by have tq : (2 : Int32).toInt = 2 := (by decide); omega))⟩
        · skip
          have q30t : ¬ p2.toInt ≤ (60 : Int32).toInt := fun z => q30 (Int32.le_iff_toInt_le.mpr z)
          have q30k : (60 : Int32).toInt = 60 := (by decide)
          have q30b := Int32.toInt_lt p2
          obtain ⟨n36, hn36, rfl⟩ := nI_of (x := p2) (fun z => by have z2 := Int32.lt_iff_toInt_lt.mp z; have z3 : (0 : Int32).toInt = 0 := (by decide); omega)
          rw [nI_toInt (by omega)] at q30t
          have tn36 := nI_toInt (n := n36) (by omega)
          refine g_bipush X dX7_row_22 (v := -2) (by decide) ?_
          exact g_iret X hrt dX7_row_24 (by decide) (by decide) ⟨a, act, C, D, R, F, I, HA, HR, hst, hN, K, (row_o (by have tq : (2 : Int32).toInt = 2 := (by decide); omega))⟩
  · skip
    refine g_iload_n X dX7_row_0 rfl (j := 1) rfl ?_
    refine g_callSI X (s_X7_isSlot_3 l G F I  ) lk_X7_389 rfl rfl dX7_row_1 (Nat.le_of_ble_eq_true rfl) ⟨by decide, by decide⟩ ⟨by decide, by decide⟩ (fun r37 L M hp => ?_)
    obtain ⟨C, D, F, I, K1, hr⟩ := hp
    have K := K.step K1 (by decide)
    have hN : NowOk (C 3) (C 27) (C 29) := by rw [(K1 3 (by decide)).1, (K1 27 (by decide)).1, (K1 29 (by decide)).1]; exact hN
    subst hr
    refine g_if_eq X dX7_row_4 (tgt := 22) (by decide) (fun q => absurd q (by decide)) (fun _ => ?_)
    refine g_iload_n X dX7_row_7 rfl (j := 2) rfl ?_
    refine g_if_lt X dX7_row_8 (tgt := 22) (by decide) (fun q38 => ?_) (fun q38 => ?_)
    · skip
      have q38t : p1.toInt < (0 : Int32).toInt := Int32.lt_iff_toInt_lt.mp q38
      have q38k : (0 : Int32).toInt = 0 := (by decide)
      have q38b := Int32.toInt_lt p1
      refine g_bipush X dX7_row_22 (v := -2) (by decide) ?_
      exact g_iret X hrt dX7_row_24 (by decide) (by decide) ⟨a, act, C, D, R, F, I, HA, HR, hst, hN, K, (row_o (by have tq : (3 : Int32).toInt = 3 := (by decide); omega))⟩
    · skip
      have q38t : ¬ p1.toInt < (0 : Int32).toInt := fun z => q38 (Int32.lt_iff_toInt_lt.mpr z)
      have q38k : (0 : Int32).toInt = 0 := (by decide)
      have q38b := Int32.toInt_lt p1
      obtain ⟨n39, hn39, rfl⟩ := nI_of (x := p1) (fun z => by have z2 := Int32.lt_iff_toInt_lt.mp z; have z3 : (0 : Int32).toInt = 0 := (by decide); omega)
      rw [nI_toInt (by omega)] at q38t
      have tn39 := nI_toInt (n := n39) (by omega)
      refine g_iload_n X dX7_row_11 rfl (j := 2) rfl ?_
      refine g_iconst X dX7_row_12 (v := 3) (by decide) ?_
      refine g_icmp_gt X dX7_row_13 (tgt := 22) (by decide) (fun q40 => ?_) (fun q40 => ?_)
      · skip
        have q40 : 3 < n39 := (nI_ltI (a := 3) (b := n39) (by omega) (by omega)).mp q40
        refine g_bipush X dX7_row_22 (v := -2) (by decide) ?_
        exact g_iret X hrt dX7_row_24 (by decide) (by decide) ⟨a, act, C, D, R, F, I, HA, HR, hst, hN, K, (row_o (by have tq : (3 : Int32).toInt = 3 := (by decide); omega))⟩
      · skip
        have q40 : ¬ 3 < n39 := fun z => q40 ((nI_ltI (a := 3) (b := n39) (by omega) (by omega)).mpr z)
        refine g_iload_n X dX7_row_16 rfl (j := 3) rfl ?_
        refine g_bipush X dX7_row_17 (v := 60) (by decide) ?_
        refine g_icmp_le X dX7_row_19 (tgt := 25) (by decide) (fun q41 => ?_) (fun q41 => ?_)
        · skip
          have q41t : p2.toInt ≤ (60 : Int32).toInt := Int32.le_iff_toInt_le.mp q41
          have q41k : (60 : Int32).toInt = 60 := (by decide)
          have q41b := Int32.toInt_lt p2
          refine g_iload_n X dX7_row_25 rfl (j := 3) rfl ?_
          refine g_if_ge X dX7_row_26 (tgt := 32) (by decide) (fun q42 => ?_) (fun q42 => ?_)
          · skip
            have q42t : (0 : Int32).toInt ≤ p2.toInt := Int32.le_iff_toInt_le.mp q42
            have q42k : (0 : Int32).toInt = 0 := (by decide)
            have q42b := Int32.toInt_lt p2
            obtain ⟨n43, hn43, rfl⟩ := nI_of (x := p2) (fun z => by have z2 := Int32.lt_iff_toInt_lt.mp z; have z3 : (0 : Int32).toInt = 0 := (by decide); omega)
            rw [nI_toInt (by omega)] at q42t
            have tn43 := nI_toInt (n := n43) (by omega)
            refine g_aload_n X dX7_row_32 rfl (j := 0) rfl ?_
            refine i_get X F 0 rfl rfl fk_X7_32 dX7_row_33 rfl ?_
            refine g_iload_n X dX7_row_36 rfl (j := 1) rfl ?_
            rcases (Bool.eq_false_or_eq_true (act 86)).symm with hA86 | hA86
            · skip
              refine i_aald X F 24 rfl (t0 := 5) rfl rfl dX7_row_37 (vp_in_iff.mpr (by decide)) (v := .null) (by show va_rf (R 24 3) = _; rw [HR.1 3 (by decide)]; rw [if_neg (by rw [hA86]; decide)]; rfl) ?_
              refine g_ifnonnullN X dX7_row_38 ?_
              refine g_aload_n X dX7_row_41 rfl (j := 0) rfl ?_
              refine i_get X F 0 rfl rfl fk_X7_32 dX7_row_42 rfl ?_
              refine g_iload_n X dX7_row_45 rfl (j := 1) rfl ?_
              refine g_new X clX5 wd1072 wd1096 wd633 (fs := [.null, .int 0, .int 0]) (by decide) (by decide) (by decide) dX7_row_46 (fun q hq => ?_)
              refine g_widen (k1 := 1) (k2 := 3) (by decide) (by decide) ?_
              refine g_dup X dX7_row_49 rfl ?_
              have FA := (FW.push (F.toFW ksA_act ksA_nd) hq (.inr (5, [.null, .int 0, .int 0]))).swap
              refine g_callI X (c_X5_init_s6 l G (h := q) FA) lk_X7_392 rfl rfl dX7_row_50 (Nat.le_of_ble_eq_true rfl) ⟨by decide, by decide⟩ ⟨by decide, by decide⟩ (fun L M hp => ?_)
              refine g_widen (k1 := 2) (k2 := 63) (by decide) (by decide) ?_
              clear FA
              obtain ⟨z86, FB⟩ := hp
              have FC : FW L M (((q, .inr (5, [.ref z86, .int 0, .int 0])) :: (z86, .inl (cy 2, 60, .inr (.inl (fun _ => 0)))) :: []) ++ (ksA act).map fun k => (a k, ent cy a C D R k)) := FW.selR (x := (z86, .inl (cy 2, 60, .inr (.inl (fun _ => 0)))) :: (q, .inr (5, [.ref z86, .int 0, .int 0])) :: []) FB [1, 0] (by decide) rfl
              have hno : ∀ k, 86 ≤ k ∧ k < 86 + 2 → (baseact k || act k) = false := noact86 HR hA86
              obtain ⟨a, act, C, D, F, I, HA, hold, hnew⟩ := grow (cy := cy) (a := a) (act := act) (C := C) (D := D) (R := R) I HA 86 2 [q, z86] (by decide) (by decide) blk_86.1 blk_86.2.1 blk_86.2.2 hno rfl FC
              have hq0 : q = a 86 := (hnew 86 ⟨by decide, by decide⟩).2.symm
              have e0 := (hold 0 (by decide)).1
              have eA := (hold 24 (by decide)).1
              rw [← e0] at X
              rw [hq0, ← e0, ← eA]
              have hst := fun (k : Nat) (hk : baseact k = true) => ((hold k (fun z => by have y := hno k z; rw [hk] at y; cases y)).1).trans (hst k hk)
              have K : Kp [80, 81, 82, 83, 84, 85, 86, 87] C0 D0 C D := fun k hk => by
                have z : ¬ (86 ≤ k ∧ k < 86 + 2) := fun z => hk (by simp only [List.mem_cons, List.not_mem_nil, or_false]; omega)
                exact ⟨((hold k z).2.2.1).trans (K k hk).1, ((hold k z).2.2.2).trans (K k hk).2⟩
              have hN : NowOk (C 3) (C 27) (C 29) := by rw [(hold 3 (by decide)).2.2.1, (hold 27 (by decide)).2.2.1, (hold 29 (by decide)).2.2.1]; exact hN
              have act86 : (baseact 86 || act 86) = true := by rw [(hnew 86 ⟨by decide, by decide⟩).1]; rfl
              have act87 : (baseact 87 || act 87) = true := by rw [(hnew 87 ⟨by decide, by decide⟩).1]; rfl
              have hA86 : act 86 = true := (hnew 86 ⟨by decide, by decide⟩).1
              refine i_aast X F 24 rfl 86 act86 (t0 := 5) rfl (ci := 5) rfl (fun _ => rfl) rfl dX7_row_53 (vp_in_iff.mpr (by decide)) (fun M R F hR hRc => ?_)
              have HR : RA a act R := RA_24 HR 3 (by decide) (fun k hk => ⟨(hold k hk).1, (hold k hk).2.1⟩) (fun k hk => (hnew k hk).1) hR hRc
              clear hold hnew hRc hR FC FB hno e0 eA
              refine g_aload_n X dX7_row_54 rfl (j := 0) rfl ?_
              refine i_get X F 0 rfl rfl fk_X7_32 dX7_row_55 rfl ?_
              refine g_iload_n X dX7_row_58 rfl (j := 1) rfl ?_
              refine i_aald X F 24 rfl (t0 := 5) rfl rfl dX7_row_59 (vp_in_iff.mpr (by decide)) (v := .ref (a 86)) (by show va_rf (R 24 3) = _; rw [HR.1 3 (by decide)]; rw [if_pos hA86]; rfl) ?_
              refine g_iload_n X dX7_row_60 rfl (j := 2) rfl ?_
              refine g_iload_n X dX7_row_61 rfl (j := 3) rfl ?_
              refine g_callVV X (s_X5_begin_86 l G F I (nI n39) n43 (by omega) (by omega) act86 act87) lk_X7_393 (F.1 86 (act86)).2 (F.1 86 (act86)).1 rfl rfl dX7_row_62 (Nat.le_of_ble_eq_true rfl) ⟨by decide, by decide⟩ ⟨by decide, by decide⟩ (fun L M hp => ?_)
              obtain ⟨C, D, F, I, K1, hr⟩ := hp
              have K := K.step K1 (by decide)
              have hN : NowOk (C 3) (C 27) (C 29) := by rw [(K1 3 (by decide)).1, (K1 27 (by decide)).1, (K1 29 (by decide)).1]; exact hN
              refine g_iconst X dX7_row_65 (v := 0) (by decide) ?_
              exact g_iret X hrt dX7_row_66 (by decide) (by decide) ⟨a, act, C, D, R, F, I, HA, HR, hst, hN, K, (row_k (by have tq : (3 : Int32).toInt = 3 := (by decide); omega))⟩
            · skip
              have act86 : (baseact 86 || act 86) = true := by rw [hA86]; rfl
              have act87 : (baseact 87 || act 87) = true := by rw [((HR.2.2.1 3 (by decide)).trans hA86)]; rfl
              refine i_aald X F 24 rfl (t0 := 5) rfl rfl dX7_row_37 (vp_in_iff.mpr (by decide)) (v := .ref (a 86)) (by show va_rf (R 24 3) = _; rw [HR.1 3 (by decide)]; rw [if_pos hA86]; rfl) ?_
              refine g_ifnonnull X dX7_row_38 (tgt := 54) (by decide) ?_
              refine g_aload_n X dX7_row_54 rfl (j := 0) rfl ?_
              refine i_get X F 0 rfl rfl fk_X7_32 dX7_row_55 rfl ?_
              refine g_iload_n X dX7_row_58 rfl (j := 1) rfl ?_
              refine i_aald X F 24 rfl (t0 := 5) rfl rfl dX7_row_59 (vp_in_iff.mpr (by decide)) (v := .ref (a 86)) (by show va_rf (R 24 3) = _; rw [HR.1 3 (by decide)]; rw [if_pos hA86]; rfl) ?_
              refine g_iload_n X dX7_row_60 rfl (j := 2) rfl ?_
              refine g_iload_n X dX7_row_61 rfl (j := 3) rfl ?_
              refine g_callVV X (s_X5_begin_86 l G F I (nI n39) n43 (by omega) (by omega) act86 act87) lk_X7_393 (F.1 86 (act86)).2 (F.1 86 (act86)).1 rfl rfl dX7_row_62 (Nat.le_of_ble_eq_true rfl) ⟨by decide, by decide⟩ ⟨by decide, by decide⟩ (fun L M hp => ?_)
              obtain ⟨C, D, F, I, K1, hr⟩ := hp
              have K := K.step K1 (by decide)
              have hN : NowOk (C 3) (C 27) (C 29) := by rw [(K1 3 (by decide)).1, (K1 27 (by decide)).1, (K1 29 (by decide)).1]; exact hN
              refine g_iconst X dX7_row_65 (v := 0) (by decide) ?_
              exact g_iret X hrt dX7_row_66 (by decide) (by decide) ⟨a, act, C, D, R, F, I, HA, HR, hst, hN, K, (row_k (by have tq : (3 : Int32).toInt = 3 := (by decide); omega))⟩
          · skip
            have q42t : ¬ (0 : Int32).toInt ≤ p2.toInt := fun z => q42 (Int32.le_iff_toInt_le.mpr z)
            have q42k : (0 : Int32).toInt = 0 := (by decide)
            have q42b := Int32.toInt_lt p2
            refine g_bipush X dX7_row_29 (v := -3) (by decide) ?_
            exact g_iret X hrt dX7_row_31 (by decide) (by decide) ⟨a, act, C, D, R, F, I, HA, HR, hst, hN, K, (row_n (by have tq : (3 : Int32).toInt = 3 := (by decide); omega))⟩
        · skip
          have q41t : ¬ p2.toInt ≤ (60 : Int32).toInt := fun z => q41 (Int32.le_iff_toInt_le.mpr z)
          have q41k : (60 : Int32).toInt = 60 := (by decide)
          have q41b := Int32.toInt_lt p2
          obtain ⟨n47, hn47, rfl⟩ := nI_of (x := p2) (fun z => by have z2 := Int32.lt_iff_toInt_lt.mp z; have z3 : (0 : Int32).toInt = 0 := (by decide); omega)
          rw [nI_toInt (by omega)] at q41t
          have tn47 := nI_toInt (n := n47) (by omega)
          refine g_bipush X dX7_row_22 (v := -2) (by decide) ?_
          exact g_iret X hrt dX7_row_24 (by decide) (by decide) ⟨a, act, C, D, R, F, I, HA, HR, hst, hN, K, (row_o (by have tq : (3 : Int32).toInt = 3 := (by decide); omega))⟩
