set_option maxHeartbeats 4000000 in
set_option maxRecDepth 100000 in
theorem s_X0_copyFrom_b0 (l : Launch) (G : va_G) {cy : Nat → ClassId} {L : List Nat} {M : Nat → va_E} {a : Nat → Nat} {act : Nat → Bool} {C0 : Nat → Nat → Int32} {D0 : Nat → Nat → Int64} {R : Nat → Nat → Option Nat} (F : WI L M a act (ent cy a C0 D0 R)) (I : Inv C0)  (act57 : (baseact 57 || act 57) = true) (act58 : (baseact 58 || act 58) = true) (act59 : (baseact 59 || act 59) = true) : MV l G cy yX0_copyFrom cX0_copyFrom 2 none 1 0 0 [.ref (a 10), .ref (a 57)] L M (fun L2 M2 => ∃ C2 D2, WI L2 M2 a act (ent cy a C2 D2 R) ∧ Inv C2 ∧ Kp [10, 11, 12] C0 D0 C2 D2 ∧ True) := by
  refine MV.of (own := RX0) rfl (by decide) (Nat.le_of_ble_eq_true rfl) ?_
  intro p e s m below meth c A X hrt hnm
  obtain ⟨C, D, hC0, hD0, F, I, K⟩ : ∃ C D, C = C0 ∧ D = D0 ∧ WI L M a act (ent cy a C D R) ∧ Inv C ∧ Kp [10, 11, 12] C0 D0 C D := ⟨C0, D0, rfl, rfl, F, I, Kp.rf⟩
  refine g_aload_n X dX0_copyFrom_0 rfl (j := 0) rfl ?_
  refine g_aload_n X dX0_copyFrom_1 rfl (j := 1) rfl ?_
  obtain ⟨n1, hn1, en1⟩ := rg_nat (I 57 0 rfl) (by decide)
  refine i_get X F 57 (act57) rfl fk_X0_9 dX0_copyFrom_2 (v := .int (nI n1)) (congrArg (fun z => some (Value.int z)) en1) ?_
  refine i_put X F I 10 rfl rfl rfl fk_X0_9 dX0_copyFrom_5 rfl rfl (Nat.le_of_ble_eq_true rfl) (fun _ => (rg_of (n := n1) (by omega) (by omega) (by omega))) (fun M C F I K1 hC => ?_)
  have K := K.step K1 (by decide)
  refine g_aload_n X dX0_copyFrom_8 rfl (j := 1) rfl ?_
  refine i_get X F 57 (act57) rfl fk_X0_15 dX0_copyFrom_9 rfl ?_
  refine g_iconst X dX0_copyFrom_12 (v := 0) (by decide) ?_
  refine g_aload_n X dX0_copyFrom_13 rfl (j := 0) rfl ?_
  refine i_get X F 10 rfl rfl fk_X0_15 dX0_copyFrom_14 rfl ?_
  refine g_iconst X dX0_copyFrom_17 (v := 0) (by decide) ?_
  refine g_bipush X dX0_copyFrom_18 (v := 30) (by decide) ?_
  refine i_copyi X F I 58 (act58) 11 rfl rfl (fun _ => rfl) (t0 := 1) rfl rfl wd163 wd87 wd88 wd89 (by decide) (by decide) (by decide) (by decide) (by decide) (fun _ _ => rfl) (by decide) (Nat.le_of_ble_eq_true rfl) dX0_copyFrom_20 (fun j => cpy_ok (P := okv 11) (fun j => I 58 j) (fun j => I 11 j) j) (fun M C F I K1 hC => ?_)
  have K := K.step K1 (by decide)
  refine g_aload_n X dX0_copyFrom_23 rfl (j := 1) rfl ?_
  refine i_get X F 57 (act57) rfl fk_X0_19 dX0_copyFrom_24 rfl ?_
  refine g_iconst X dX0_copyFrom_27 (v := 0) (by decide) ?_
  refine g_aload_n X dX0_copyFrom_28 rfl (j := 0) rfl ?_
  refine i_get X F 10 rfl rfl fk_X0_19 dX0_copyFrom_29 rfl ?_
  refine g_iconst X dX0_copyFrom_32 (v := 0) (by decide) ?_
  refine g_aload_n X dX0_copyFrom_33 rfl (j := 0) rfl ?_
  refine i_get X F 10 rfl rfl fk_X0_19 dX0_copyFrom_34 rfl ?_
  refine i_alen X F 12 rfl rfl (t0 := 1) rfl dX0_copyFrom_37 (v := 240) rfl ?_
  refine i_copyi X F I 59 (act59) 12 rfl rfl (fun _ => rfl) (t0 := 1) rfl rfl wd163 wd87 wd88 wd89 (by decide) (by decide) (by decide) (by decide) (by decide) (fun _ _ => rfl) (by decide) (Nat.le_of_ble_eq_true rfl) dX0_copyFrom_38 (fun j => trivial) (fun M C F I K1 hC => ?_)
  have K := K.step K1 (by decide)
  exact g_vret X hrt dX0_copyFrom_41 (by decide) (by decide) ⟨C, D, F, I, K, trivial⟩
set_option maxHeartbeats 4000000 in
set_option maxRecDepth 100000 in
theorem s_X2_copyFrom_b0 (l : Launch) (G : va_G) {cy : Nat → ClassId} {L : List Nat} {M : Nat → va_E} {a : Nat → Nat} {act : Nat → Bool} {C0 : Nat → Nat → Int32} {D0 : Nat → Nat → Int64} {R : Nat → Nat → Option Nat} (F : WI L M a act (ent cy a C0 D0 R)) (I : Inv C0)  (act50 : (baseact 50 || act 50) = true) (act51 : (baseact 51 || act 51) = true) (act52 : (baseact 52 || act 52) = true) (act53 : (baseact 53 || act 53) = true) (act54 : (baseact 54 || act 54) = true) (act55 : (baseact 55 || act 55) = true) (act56 : (baseact 56 || act 56) = true) (act57 : (baseact 57 || act 57) = true) (act58 : (baseact 58 || act 58) = true) (act59 : (baseact 59 || act 59) = true) : MV l G cy yX2_copyFrom cX2_copyFrom 2 none 2 0 0 [.ref (a 3), .ref (a 50)] L M (fun L2 M2 => ∃ C2 D2, WI L2 M2 a act (ent cy a C2 D2 R) ∧ Inv C2 ∧ Kp [3, 4, 5, 6, 7, 8, 9, 10, 11, 12] C0 D0 C2 D2 ∧ True) := by
  refine MV.of (own := RX2) rfl (by decide) (Nat.le_of_ble_eq_true rfl) ?_
  intro p e s m below meth c A X hrt hnm
  obtain ⟨C, D, hC0, hD0, F, I, K⟩ : ∃ C D, C = C0 ∧ D = D0 ∧ WI L M a act (ent cy a C D R) ∧ Inv C ∧ Kp [3, 4, 5, 6, 7, 8, 9, 10, 11, 12] C0 D0 C D := ⟨C0, D0, rfl, rfl, F, I, Kp.rf⟩
  refine g_aload_n X dX2_copyFrom_0 rfl (j := 0) rfl ?_
  refine g_aload_n X dX2_copyFrom_1 rfl (j := 1) rfl ?_
  refine i_get X F 50 (act50) rfl fk_X2_9 dX2_copyFrom_2 rfl ?_
  refine Go.gen (fun o1 => ?_)
  refine i_put X F I 3 rfl rfl rfl fk_X2_9 dX2_copyFrom_5 rfl rfl (Nat.le_of_ble_eq_true rfl) ⟨fun h => absurd h (by decide), fun h => absurd h (by decide), fun h => absurd h (by decide), fun h => absurd h (by decide)⟩ (fun M C F I K1 hC => ?_)
  have K := K.step K1 (by decide)
  refine g_aload_n X dX2_copyFrom_8 rfl (j := 0) rfl ?_
  refine g_aload_n X dX2_copyFrom_9 rfl (j := 1) rfl ?_
  obtain ⟨n2, hn2, en2⟩ := rg_nat ((I 50 1).1 rfl) (by decide)
  refine i_get X F 50 (act50) rfl fk_X2_15 dX2_copyFrom_10 (v := .int (nI n2)) (congrArg (fun z => some (Value.int z)) en2) ?_
  refine i_put X F I 3 rfl rfl rfl fk_X2_15 dX2_copyFrom_13 rfl rfl (Nat.le_of_ble_eq_true rfl) ⟨fun _ => (rg_of (n := n2) (by omega) (by omega) (by omega)), fun h => absurd h (by decide), fun h => absurd h (by decide), fun h => absurd h (by decide)⟩ (fun M C F I K1 hC => ?_)
  have K := K.step K1 (by decide)
  refine g_aload_n X dX2_copyFrom_16 rfl (j := 0) rfl ?_
  refine g_aload_n X dX2_copyFrom_17 rfl (j := 1) rfl ?_
  refine i_get X F 50 (act50) rfl fk_X2_18 dX2_copyFrom_18 rfl ?_
  refine Go.gen (fun o3 => ?_)
  refine i_put X F I 3 rfl rfl rfl fk_X2_18 dX2_copyFrom_21 rfl rfl (Nat.le_of_ble_eq_true rfl) ⟨fun h => absurd h (by decide), fun h => absurd h (by decide), fun h => absurd h (by decide), fun h => absurd h (by decide)⟩ (fun M C F I K1 hC => ?_)
  have K := K.step K1 (by decide)
  refine g_aload_n X dX2_copyFrom_24 rfl (j := 0) rfl ?_
  refine g_aload_n X dX2_copyFrom_25 rfl (j := 1) rfl ?_
  refine i_get X F 50 (act50) rfl fk_X2_21 dX2_copyFrom_26 rfl ?_
  refine Go.gen (fun o4 => ?_)
  refine i_put X F I 3 rfl rfl rfl fk_X2_21 dX2_copyFrom_29 rfl rfl (Nat.le_of_ble_eq_true rfl) ⟨fun h => absurd h (by decide), fun h => absurd h (by decide), fun h => absurd h (by decide), fun h => absurd h (by decide)⟩ (fun M C F I K1 hC => ?_)
  have K := K.step K1 (by decide)
  refine g_aload_n X dX2_copyFrom_32 rfl (j := 0) rfl ?_
  refine g_aload_n X dX2_copyFrom_33 rfl (j := 1) rfl ?_
  obtain ⟨n5, hn5, en5⟩ := rg_nat ((I 50 4).2.1 rfl) (by decide)
  refine i_get X F 50 (act50) rfl fk_X2_24 dX2_copyFrom_34 (v := .int (nI n5)) (congrArg (fun z => some (Value.int z)) en5) ?_
  refine i_put X F I 3 rfl rfl rfl fk_X2_24 dX2_copyFrom_37 rfl rfl (Nat.le_of_ble_eq_true rfl) ⟨fun h => absurd h (by decide), fun _ => (rg_of (n := n5) (by omega) (by omega) (by omega)), fun h => absurd h (by decide), fun h => absurd h (by decide)⟩ (fun M C F I K1 hC => ?_)
  have K := K.step K1 (by decide)
  refine g_aload_n X dX2_copyFrom_40 rfl (j := 0) rfl ?_
  refine g_aload_n X dX2_copyFrom_41 rfl (j := 1) rfl ?_
  obtain ⟨n6, hn6, en6⟩ := rg_nat ((I 50 5).2.2.1 rfl) (by decide)
  refine i_get X F 50 (act50) rfl fk_X2_27 dX2_copyFrom_42 (v := .int (nI n6)) (congrArg (fun z => some (Value.int z)) en6) ?_
  refine i_put X F I 3 rfl rfl rfl fk_X2_27 dX2_copyFrom_45 rfl rfl (Nat.le_of_ble_eq_true rfl) ⟨fun h => absurd h (by decide), fun h => absurd h (by decide), fun _ => (rg_of (n := n6) (by omega) (by omega) (by omega)), fun h => absurd h (by decide)⟩ (fun M C F I K1 hC => ?_)
  have K := K.step K1 (by decide)
  refine g_aload_n X dX2_copyFrom_48 rfl (j := 0) rfl ?_
  refine g_aload_n X dX2_copyFrom_49 rfl (j := 1) rfl ?_
  refine i_get X F 50 (act50) rfl fk_X2_30 dX2_copyFrom_50 rfl ?_
  refine Go.gen (fun o7 => ?_)
  refine i_put X F I 3 rfl rfl rfl fk_X2_30 dX2_copyFrom_53 rfl rfl (Nat.le_of_ble_eq_true rfl) ⟨fun h => absurd h (by decide), fun h => absurd h (by decide), fun h => absurd h (by decide), fun h => absurd h (by decide)⟩ (fun M C F I K1 hC => ?_)
  have K := K.step K1 (by decide)
  refine g_aload_n X dX2_copyFrom_56 rfl (j := 0) rfl ?_
  refine g_aload_n X dX2_copyFrom_57 rfl (j := 1) rfl ?_
  refine i_get X F 50 (act50) rfl fk_X2_33 dX2_copyFrom_58 rfl ?_
  refine Go.gen (fun o8 => ?_)
  refine i_put X F I 3 rfl rfl rfl fk_X2_33 dX2_copyFrom_61 rfl rfl (Nat.le_of_ble_eq_true rfl) ⟨fun h => absurd h (by decide), fun h => absurd h (by decide), fun h => absurd h (by decide), fun h => absurd h (by decide)⟩ (fun M C F I K1 hC => ?_)
  have K := K.step K1 (by decide)
  refine g_aload_n X dX2_copyFrom_64 rfl (j := 0) rfl ?_
  refine g_aload_n X dX2_copyFrom_65 rfl (j := 1) rfl ?_
  obtain ⟨n9, hn9, en9⟩ := rg_nat ((I 50 8).2.2.2 rfl) (by decide)
  refine i_get X F 50 (act50) rfl fk_X2_36 dX2_copyFrom_66 (v := .int (nI n9)) (congrArg (fun z => some (Value.int z)) en9) ?_
  refine i_put X F I 3 rfl rfl rfl fk_X2_36 dX2_copyFrom_69 rfl rfl (Nat.le_of_ble_eq_true rfl) ⟨fun h => absurd h (by decide), fun h => absurd h (by decide), fun h => absurd h (by decide), fun _ => (rg_of (n := n9) (by omega) (by omega) (by omega))⟩ (fun M C F I K1 hC => ?_)
  have K := K.step K1 (by decide)
  refine g_aload_n X dX2_copyFrom_72 rfl (j := 1) rfl ?_
  refine i_get X F 50 (act50) rfl fk_X2_39 dX2_copyFrom_73 rfl ?_
  refine g_iconst X dX2_copyFrom_76 (v := 0) (by decide) ?_
  refine g_aload_n X dX2_copyFrom_77 rfl (j := 0) rfl ?_
  refine i_get X F 3 rfl rfl fk_X2_39 dX2_copyFrom_78 rfl ?_
  refine g_iconst X dX2_copyFrom_81 (v := 0) (by decide) ?_
  refine g_iconst X dX2_copyFrom_82 (v := 4) (by decide) ?_
  refine i_copyi X F I 51 (act51) 4 rfl rfl (fun _ => rfl) (t0 := 1) rfl rfl wd169 wd87 wd88 wd89 (by decide) (by decide) (by decide) (by decide) (by decide) (fun _ _ => rfl) (by decide) (Nat.le_of_ble_eq_true rfl) dX2_copyFrom_83 (fun j => trivial) (fun M C F I K1 hC => ?_)
  have K := K.step K1 (by decide)
  refine g_aload_n X dX2_copyFrom_86 rfl (j := 1) rfl ?_
  refine i_get X F 50 (act50) rfl fk_X2_43 dX2_copyFrom_87 rfl ?_
  refine g_iconst X dX2_copyFrom_90 (v := 0) (by decide) ?_
  refine g_aload_n X dX2_copyFrom_91 rfl (j := 0) rfl ?_
  refine i_get X F 3 rfl rfl fk_X2_43 dX2_copyFrom_92 rfl ?_
  refine g_iconst X dX2_copyFrom_95 (v := 0) (by decide) ?_
  refine g_bipush X dX2_copyFrom_96 (v := 7) (by decide) ?_
  refine i_copyi X F I 52 (act52) 5 rfl rfl (fun _ => rfl) (t0 := 1) rfl rfl wd169 wd87 wd88 wd89 (by decide) (by decide) (by decide) (by decide) (by decide) (fun _ _ => rfl) (by decide) (Nat.le_of_ble_eq_true rfl) dX2_copyFrom_98 (fun j => cpy_ok (P := okv 5) (fun j => I 52 j) (fun j => I 5 j) j) (fun M C F I K1 hC => ?_)
  have K := K.step K1 (by decide)
  refine g_aload_n X dX2_copyFrom_101 rfl (j := 1) rfl ?_
  refine i_get X F 50 (act50) rfl fk_X2_46 dX2_copyFrom_102 rfl ?_
  refine g_iconst X dX2_copyFrom_105 (v := 0) (by decide) ?_
  refine g_aload_n X dX2_copyFrom_106 rfl (j := 0) rfl ?_
  refine i_get X F 3 rfl rfl fk_X2_46 dX2_copyFrom_107 rfl ?_
  refine g_iconst X dX2_copyFrom_110 (v := 0) (by decide) ?_
  refine g_aload_n X dX2_copyFrom_111 rfl (j := 0) rfl ?_
  refine i_get X F 3 rfl rfl fk_X2_46 dX2_copyFrom_112 rfl ?_
  refine i_alen X F 6 rfl rfl (t0 := 1) rfl dX2_copyFrom_115 (v := 28) rfl ?_
  refine i_copyi X F I 53 (act53) 6 rfl rfl (fun _ => rfl) (t0 := 1) rfl rfl wd169 wd87 wd88 wd89 (by decide) (by decide) (by decide) (by decide) (by decide) (fun _ _ => rfl) (by decide) (Nat.le_of_ble_eq_true rfl) dX2_copyFrom_116 (fun j => cpy_ok (P := okv 6) (fun j => I 53 j) (fun j => I 6 j) j) (fun M C F I K1 hC => ?_)
  have K := K.step K1 (by decide)
  refine g_aload_n X dX2_copyFrom_119 rfl (j := 1) rfl ?_
  refine i_get X F 50 (act50) rfl fk_X2_49 dX2_copyFrom_120 rfl ?_
  refine g_iconst X dX2_copyFrom_123 (v := 0) (by decide) ?_
  refine g_aload_n X dX2_copyFrom_124 rfl (j := 0) rfl ?_
  refine i_get X F 3 rfl rfl fk_X2_49 dX2_copyFrom_125 rfl ?_
  refine g_iconst X dX2_copyFrom_128 (v := 0) (by decide) ?_
  refine g_bipush X dX2_copyFrom_129 (v := 7) (by decide) ?_
  refine i_copyi X F I 54 (act54) 7 rfl rfl (fun _ => rfl) (t0 := 1) rfl rfl wd169 wd87 wd88 wd89 (by decide) (by decide) (by decide) (by decide) (by decide) (fun _ _ => rfl) (by decide) (Nat.le_of_ble_eq_true rfl) dX2_copyFrom_131 (fun j => cpy_ok (P := okv 7) (fun j => I 54 j) (fun j => I 7 j) j) (fun M C F I K1 hC => ?_)
  have K := K.step K1 (by decide)
  refine g_aload_n X dX2_copyFrom_134 rfl (j := 1) rfl ?_
  refine i_get X F 50 (act50) rfl fk_X2_52 dX2_copyFrom_135 rfl ?_
  refine g_iconst X dX2_copyFrom_138 (v := 0) (by decide) ?_
  refine g_aload_n X dX2_copyFrom_139 rfl (j := 0) rfl ?_
  refine i_get X F 3 rfl rfl fk_X2_52 dX2_copyFrom_140 rfl ?_
  refine g_iconst X dX2_copyFrom_143 (v := 0) (by decide) ?_
  refine g_bipush X dX2_copyFrom_144 (v := 8) (by decide) ?_
  refine i_copyi X F I 55 (act55) 8 rfl rfl (fun _ => rfl) (t0 := 1) rfl rfl wd169 wd87 wd88 wd89 (by decide) (by decide) (by decide) (by decide) (by decide) (fun _ _ => rfl) (by decide) (Nat.le_of_ble_eq_true rfl) dX2_copyFrom_146 (fun j => cpy_ok (P := okv 8) (fun j => I 55 j) (fun j => I 8 j) j) (fun M C F I K1 hC => ?_)
  have K := K.step K1 (by decide)
  refine g_aload_n X dX2_copyFrom_149 rfl (j := 1) rfl ?_
  refine i_get X F 50 (act50) rfl fk_X2_55 dX2_copyFrom_150 rfl ?_
  refine g_iconst X dX2_copyFrom_153 (v := 0) (by decide) ?_
  refine g_aload_n X dX2_copyFrom_154 rfl (j := 0) rfl ?_
  refine i_get X F 3 rfl rfl fk_X2_55 dX2_copyFrom_155 rfl ?_
  refine g_iconst X dX2_copyFrom_158 (v := 0) (by decide) ?_
  refine g_bipush X dX2_copyFrom_159 (v := 8) (by decide) ?_
  refine i_copyi X F I 56 (act56) 9 rfl rfl (fun _ => rfl) (t0 := 1) rfl rfl wd169 wd87 wd88 wd89 (by decide) (by decide) (by decide) (by decide) (by decide) (fun _ _ => rfl) (by decide) (Nat.le_of_ble_eq_true rfl) dX2_copyFrom_161 (fun j => trivial) (fun M C F I K1 hC => ?_)
  have K := K.step K1 (by decide)
  refine g_aload_n X dX2_copyFrom_164 rfl (j := 0) rfl ?_
  refine i_get X F 3 rfl rfl fk_X2_61 dX2_copyFrom_165 rfl ?_
  refine g_aload_n X dX2_copyFrom_168 rfl (j := 1) rfl ?_
  refine i_get X F 50 (act50) rfl fk_X2_61 dX2_copyFrom_169 rfl ?_
  refine g_callVV X (s_X0_copyFrom_b0 l G F I  act57 act58 act59) lk_X2_80 (F.1 10 rfl).2 (F.1 10 rfl).1 rfl rfl dX2_copyFrom_172 (Nat.le_of_ble_eq_true rfl) ⟨by decide, by decide⟩ ⟨by decide, by decide⟩ (fun L M hp => ?_)
  obtain ⟨C, D, F, I, K1, hr⟩ := hp
  have K := K.step K1 (by decide)
  exact g_vret X hrt dX2_copyFrom_175 (by decide) (by decide) ⟨C, D, F, I, K, trivial⟩
set_option maxHeartbeats 4000000 in
set_option maxRecDepth 100000 in
theorem s_X0_copyFrom_b1 (l : Launch) (G : va_G) {cy : Nat → ClassId} {L : List Nat} {M : Nat → va_E} {a : Nat → Nat} {act : Nat → Bool} {C0 : Nat → Nat → Int32} {D0 : Nat → Nat → Int64} {R : Nat → Nat → Option Nat} (F : WI L M a act (ent cy a C0 D0 R)) (I : Inv C0)  (act67 : (baseact 67 || act 67) = true) (act68 : (baseact 68 || act 68) = true) (act69 : (baseact 69 || act 69) = true) : MV l G cy yX0_copyFrom cX0_copyFrom 2 none 1 0 0 [.ref (a 10), .ref (a 67)] L M (fun L2 M2 => ∃ C2 D2, WI L2 M2 a act (ent cy a C2 D2 R) ∧ Inv C2 ∧ Kp [10, 11, 12] C0 D0 C2 D2 ∧ True) := by
  refine MV.of (own := RX0) rfl (by decide) (Nat.le_of_ble_eq_true rfl) ?_
  intro p e s m below meth c A X hrt hnm
  obtain ⟨C, D, hC0, hD0, F, I, K⟩ : ∃ C D, C = C0 ∧ D = D0 ∧ WI L M a act (ent cy a C D R) ∧ Inv C ∧ Kp [10, 11, 12] C0 D0 C D := ⟨C0, D0, rfl, rfl, F, I, Kp.rf⟩
  refine g_aload_n X dX0_copyFrom_0 rfl (j := 0) rfl ?_
  refine g_aload_n X dX0_copyFrom_1 rfl (j := 1) rfl ?_
  obtain ⟨n1, hn1, en1⟩ := rg_nat (I 67 0 rfl) (by decide)
  refine i_get X F 67 (act67) rfl fk_X0_9 dX0_copyFrom_2 (v := .int (nI n1)) (congrArg (fun z => some (Value.int z)) en1) ?_
  refine i_put X F I 10 rfl rfl rfl fk_X0_9 dX0_copyFrom_5 rfl rfl (Nat.le_of_ble_eq_true rfl) (fun _ => (rg_of (n := n1) (by omega) (by omega) (by omega))) (fun M C F I K1 hC => ?_)
  have K := K.step K1 (by decide)
  refine g_aload_n X dX0_copyFrom_8 rfl (j := 1) rfl ?_
  refine i_get X F 67 (act67) rfl fk_X0_15 dX0_copyFrom_9 rfl ?_
  refine g_iconst X dX0_copyFrom_12 (v := 0) (by decide) ?_
  refine g_aload_n X dX0_copyFrom_13 rfl (j := 0) rfl ?_
  refine i_get X F 10 rfl rfl fk_X0_15 dX0_copyFrom_14 rfl ?_
  refine g_iconst X dX0_copyFrom_17 (v := 0) (by decide) ?_
  refine g_bipush X dX0_copyFrom_18 (v := 30) (by decide) ?_
  refine i_copyi X F I 68 (act68) 11 rfl rfl (fun _ => rfl) (t0 := 1) rfl rfl wd163 wd87 wd88 wd89 (by decide) (by decide) (by decide) (by decide) (by decide) (fun _ _ => rfl) (by decide) (Nat.le_of_ble_eq_true rfl) dX0_copyFrom_20 (fun j => cpy_ok (P := okv 11) (fun j => I 68 j) (fun j => I 11 j) j) (fun M C F I K1 hC => ?_)
  have K := K.step K1 (by decide)
  refine g_aload_n X dX0_copyFrom_23 rfl (j := 1) rfl ?_
  refine i_get X F 67 (act67) rfl fk_X0_19 dX0_copyFrom_24 rfl ?_
  refine g_iconst X dX0_copyFrom_27 (v := 0) (by decide) ?_
  refine g_aload_n X dX0_copyFrom_28 rfl (j := 0) rfl ?_
  refine i_get X F 10 rfl rfl fk_X0_19 dX0_copyFrom_29 rfl ?_
  refine g_iconst X dX0_copyFrom_32 (v := 0) (by decide) ?_
  refine g_aload_n X dX0_copyFrom_33 rfl (j := 0) rfl ?_
  refine i_get X F 10 rfl rfl fk_X0_19 dX0_copyFrom_34 rfl ?_
  refine i_alen X F 12 rfl rfl (t0 := 1) rfl dX0_copyFrom_37 (v := 240) rfl ?_
  refine i_copyi X F I 69 (act69) 12 rfl rfl (fun _ => rfl) (t0 := 1) rfl rfl wd163 wd87 wd88 wd89 (by decide) (by decide) (by decide) (by decide) (by decide) (fun _ _ => rfl) (by decide) (Nat.le_of_ble_eq_true rfl) dX0_copyFrom_38 (fun j => trivial) (fun M C F I K1 hC => ?_)
  have K := K.step K1 (by decide)
  exact g_vret X hrt dX0_copyFrom_41 (by decide) (by decide) ⟨C, D, F, I, K, trivial⟩
set_option maxHeartbeats 4000000 in
set_option maxRecDepth 100000 in
theorem s_X2_copyFrom_b1 (l : Launch) (G : va_G) {cy : Nat → ClassId} {L : List Nat} {M : Nat → va_E} {a : Nat → Nat} {act : Nat → Bool} {C0 : Nat → Nat → Int32} {D0 : Nat → Nat → Int64} {R : Nat → Nat → Option Nat} (F : WI L M a act (ent cy a C0 D0 R)) (I : Inv C0)  (act60 : (baseact 60 || act 60) = true) (act61 : (baseact 61 || act 61) = true) (act62 : (baseact 62 || act 62) = true) (act63 : (baseact 63 || act 63) = true) (act64 : (baseact 64 || act 64) = true) (act65 : (baseact 65 || act 65) = true) (act66 : (baseact 66 || act 66) = true) (act67 : (baseact 67 || act 67) = true) (act68 : (baseact 68 || act 68) = true) (act69 : (baseact 69 || act 69) = true) : MV l G cy yX2_copyFrom cX2_copyFrom 2 none 2 0 0 [.ref (a 3), .ref (a 60)] L M (fun L2 M2 => ∃ C2 D2, WI L2 M2 a act (ent cy a C2 D2 R) ∧ Inv C2 ∧ Kp [3, 4, 5, 6, 7, 8, 9, 10, 11, 12] C0 D0 C2 D2 ∧ True) := by
  refine MV.of (own := RX2) rfl (by decide) (Nat.le_of_ble_eq_true rfl) ?_
  intro p e s m below meth c A X hrt hnm
  obtain ⟨C, D, hC0, hD0, F, I, K⟩ : ∃ C D, C = C0 ∧ D = D0 ∧ WI L M a act (ent cy a C D R) ∧ Inv C ∧ Kp [3, 4, 5, 6, 7, 8, 9, 10, 11, 12] C0 D0 C D := ⟨C0, D0, rfl, rfl, F, I, Kp.rf⟩
  refine g_aload_n X dX2_copyFrom_0 rfl (j := 0) rfl ?_
  refine g_aload_n X dX2_copyFrom_1 rfl (j := 1) rfl ?_
  refine i_get X F 60 (act60) rfl fk_X2_9 dX2_copyFrom_2 rfl ?_
  refine Go.gen (fun o1 => ?_)
  refine i_put X F I 3 rfl rfl rfl fk_X2_9 dX2_copyFrom_5 rfl rfl (Nat.le_of_ble_eq_true rfl) ⟨fun h => absurd h (by decide), fun h => absurd h (by decide), fun h => absurd h (by decide), fun h => absurd h (by decide)⟩ (fun M C F I K1 hC => ?_)
  have K := K.step K1 (by decide)
  refine g_aload_n X dX2_copyFrom_8 rfl (j := 0) rfl ?_
  refine g_aload_n X dX2_copyFrom_9 rfl (j := 1) rfl ?_
  obtain ⟨n2, hn2, en2⟩ := rg_nat ((I 60 1).1 rfl) (by decide)
  refine i_get X F 60 (act60) rfl fk_X2_15 dX2_copyFrom_10 (v := .int (nI n2)) (congrArg (fun z => some (Value.int z)) en2) ?_
  refine i_put X F I 3 rfl rfl rfl fk_X2_15 dX2_copyFrom_13 rfl rfl (Nat.le_of_ble_eq_true rfl) ⟨fun _ => (rg_of (n := n2) (by omega) (by omega) (by omega)), fun h => absurd h (by decide), fun h => absurd h (by decide), fun h => absurd h (by decide)⟩ (fun M C F I K1 hC => ?_)
  have K := K.step K1 (by decide)
  refine g_aload_n X dX2_copyFrom_16 rfl (j := 0) rfl ?_
  refine g_aload_n X dX2_copyFrom_17 rfl (j := 1) rfl ?_
  refine i_get X F 60 (act60) rfl fk_X2_18 dX2_copyFrom_18 rfl ?_
  refine Go.gen (fun o3 => ?_)
  refine i_put X F I 3 rfl rfl rfl fk_X2_18 dX2_copyFrom_21 rfl rfl (Nat.le_of_ble_eq_true rfl) ⟨fun h => absurd h (by decide), fun h => absurd h (by decide), fun h => absurd h (by decide), fun h => absurd h (by decide)⟩ (fun M C F I K1 hC => ?_)
  have K := K.step K1 (by decide)
  refine g_aload_n X dX2_copyFrom_24 rfl (j := 0) rfl ?_
  refine g_aload_n X dX2_copyFrom_25 rfl (j := 1) rfl ?_
  refine i_get X F 60 (act60) rfl fk_X2_21 dX2_copyFrom_26 rfl ?_
  refine Go.gen (fun o4 => ?_)
  refine i_put X F I 3 rfl rfl rfl fk_X2_21 dX2_copyFrom_29 rfl rfl (Nat.le_of_ble_eq_true rfl) ⟨fun h => absurd h (by decide), fun h => absurd h (by decide), fun h => absurd h (by decide), fun h => absurd h (by decide)⟩ (fun M C F I K1 hC => ?_)
  have K := K.step K1 (by decide)
  refine g_aload_n X dX2_copyFrom_32 rfl (j := 0) rfl ?_
  refine g_aload_n X dX2_copyFrom_33 rfl (j := 1) rfl ?_
  obtain ⟨n5, hn5, en5⟩ := rg_nat ((I 60 4).2.1 rfl) (by decide)
  refine i_get X F 60 (act60) rfl fk_X2_24 dX2_copyFrom_34 (v := .int (nI n5)) (congrArg (fun z => some (Value.int z)) en5) ?_
  refine i_put X F I 3 rfl rfl rfl fk_X2_24 dX2_copyFrom_37 rfl rfl (Nat.le_of_ble_eq_true rfl) ⟨fun h => absurd h (by decide), fun _ => (rg_of (n := n5) (by omega) (by omega) (by omega)), fun h => absurd h (by decide), fun h => absurd h (by decide)⟩ (fun M C F I K1 hC => ?_)
  have K := K.step K1 (by decide)
  refine g_aload_n X dX2_copyFrom_40 rfl (j := 0) rfl ?_
  refine g_aload_n X dX2_copyFrom_41 rfl (j := 1) rfl ?_
  obtain ⟨n6, hn6, en6⟩ := rg_nat ((I 60 5).2.2.1 rfl) (by decide)
  refine i_get X F 60 (act60) rfl fk_X2_27 dX2_copyFrom_42 (v := .int (nI n6)) (congrArg (fun z => some (Value.int z)) en6) ?_
  refine i_put X F I 3 rfl rfl rfl fk_X2_27 dX2_copyFrom_45 rfl rfl (Nat.le_of_ble_eq_true rfl) ⟨fun h => absurd h (by decide), fun h => absurd h (by decide), fun _ => (rg_of (n := n6) (by omega) (by omega) (by omega)), fun h => absurd h (by decide)⟩ (fun M C F I K1 hC => ?_)
  have K := K.step K1 (by decide)
  refine g_aload_n X dX2_copyFrom_48 rfl (j := 0) rfl ?_
  refine g_aload_n X dX2_copyFrom_49 rfl (j := 1) rfl ?_
  refine i_get X F 60 (act60) rfl fk_X2_30 dX2_copyFrom_50 rfl ?_
  refine Go.gen (fun o7 => ?_)
  refine i_put X F I 3 rfl rfl rfl fk_X2_30 dX2_copyFrom_53 rfl rfl (Nat.le_of_ble_eq_true rfl) ⟨fun h => absurd h (by decide), fun h => absurd h (by decide), fun h => absurd h (by decide), fun h => absurd h (by decide)⟩ (fun M C F I K1 hC => ?_)
  have K := K.step K1 (by decide)
  refine g_aload_n X dX2_copyFrom_56 rfl (j := 0) rfl ?_
  refine g_aload_n X dX2_copyFrom_57 rfl (j := 1) rfl ?_
  refine i_get X F 60 (act60) rfl fk_X2_33 dX2_copyFrom_58 rfl ?_
  refine Go.gen (fun o8 => ?_)
  refine i_put X F I 3 rfl rfl rfl fk_X2_33 dX2_copyFrom_61 rfl rfl (Nat.le_of_ble_eq_true rfl) ⟨fun h => absurd h (by decide), fun h => absurd h (by decide), fun h => absurd h (by decide), fun h => absurd h (by decide)⟩ (fun M C F I K1 hC => ?_)
  have K := K.step K1 (by decide)
  refine g_aload_n X dX2_copyFrom_64 rfl (j := 0) rfl ?_
  refine g_aload_n X dX2_copyFrom_65 rfl (j := 1) rfl ?_
  obtain ⟨n9, hn9, en9⟩ := rg_nat ((I 60 8).2.2.2 rfl) (by decide)
  refine i_get X F 60 (act60) rfl fk_X2_36 dX2_copyFrom_66 (v := .int (nI n9)) (congrArg (fun z => some (Value.int z)) en9) ?_
  refine i_put X F I 3 rfl rfl rfl fk_X2_36 dX2_copyFrom_69 rfl rfl (Nat.le_of_ble_eq_true rfl) ⟨fun h => absurd h (by decide), fun h => absurd h (by decide), fun h => absurd h (by decide), fun _ => (rg_of (n := n9) (by omega) (by omega) (by omega))⟩ (fun M C F I K1 hC => ?_)
  have K := K.step K1 (by decide)
  refine g_aload_n X dX2_copyFrom_72 rfl (j := 1) rfl ?_
  refine i_get X F 60 (act60) rfl fk_X2_39 dX2_copyFrom_73 rfl ?_
  refine g_iconst X dX2_copyFrom_76 (v := 0) (by decide) ?_
  refine g_aload_n X dX2_copyFrom_77 rfl (j := 0) rfl ?_
  refine i_get X F 3 rfl rfl fk_X2_39 dX2_copyFrom_78 rfl ?_
  refine g_iconst X dX2_copyFrom_81 (v := 0) (by decide) ?_
  refine g_iconst X dX2_copyFrom_82 (v := 4) (by decide) ?_
  refine i_copyi X F I 61 (act61) 4 rfl rfl (fun _ => rfl) (t0 := 1) rfl rfl wd169 wd87 wd88 wd89 (by decide) (by decide) (by decide) (by decide) (by decide) (fun _ _ => rfl) (by decide) (Nat.le_of_ble_eq_true rfl) dX2_copyFrom_83 (fun j => trivial) (fun M C F I K1 hC => ?_)
  have K := K.step K1 (by decide)
  refine g_aload_n X dX2_copyFrom_86 rfl (j := 1) rfl ?_
  refine i_get X F 60 (act60) rfl fk_X2_43 dX2_copyFrom_87 rfl ?_
  refine g_iconst X dX2_copyFrom_90 (v := 0) (by decide) ?_
  refine g_aload_n X dX2_copyFrom_91 rfl (j := 0) rfl ?_
  refine i_get X F 3 rfl rfl fk_X2_43 dX2_copyFrom_92 rfl ?_
  refine g_iconst X dX2_copyFrom_95 (v := 0) (by decide) ?_
  refine g_bipush X dX2_copyFrom_96 (v := 7) (by decide) ?_
  refine i_copyi X F I 62 (act62) 5 rfl rfl (fun _ => rfl) (t0 := 1) rfl rfl wd169 wd87 wd88 wd89 (by decide) (by decide) (by decide) (by decide) (by decide) (fun _ _ => rfl) (by decide) (Nat.le_of_ble_eq_true rfl) dX2_copyFrom_98 (fun j => cpy_ok (P := okv 5) (fun j => I 62 j) (fun j => I 5 j) j) (fun M C F I K1 hC => ?_)
  have K := K.step K1 (by decide)
  refine g_aload_n X dX2_copyFrom_101 rfl (j := 1) rfl ?_
  refine i_get X F 60 (act60) rfl fk_X2_46 dX2_copyFrom_102 rfl ?_
  refine g_iconst X dX2_copyFrom_105 (v := 0) (by decide) ?_
  refine g_aload_n X dX2_copyFrom_106 rfl (j := 0) rfl ?_
  refine i_get X F 3 rfl rfl fk_X2_46 dX2_copyFrom_107 rfl ?_
  refine g_iconst X dX2_copyFrom_110 (v := 0) (by decide) ?_
  refine g_aload_n X dX2_copyFrom_111 rfl (j := 0) rfl ?_
  refine i_get X F 3 rfl rfl fk_X2_46 dX2_copyFrom_112 rfl ?_
  refine i_alen X F 6 rfl rfl (t0 := 1) rfl dX2_copyFrom_115 (v := 28) rfl ?_
  refine i_copyi X F I 63 (act63) 6 rfl rfl (fun _ => rfl) (t0 := 1) rfl rfl wd169 wd87 wd88 wd89 (by decide) (by decide) (by decide) (by decide) (by decide) (fun _ _ => rfl) (by decide) (Nat.le_of_ble_eq_true rfl) dX2_copyFrom_116 (fun j => cpy_ok (P := okv 6) (fun j => I 63 j) (fun j => I 6 j) j) (fun M C F I K1 hC => ?_)
  have K := K.step K1 (by decide)
  refine g_aload_n X dX2_copyFrom_119 rfl (j := 1) rfl ?_
  refine i_get X F 60 (act60) rfl fk_X2_49 dX2_copyFrom_120 rfl ?_
  refine g_iconst X dX2_copyFrom_123 (v := 0) (by decide) ?_
  refine g_aload_n X dX2_copyFrom_124 rfl (j := 0) rfl ?_
  refine i_get X F 3 rfl rfl fk_X2_49 dX2_copyFrom_125 rfl ?_
  refine g_iconst X dX2_copyFrom_128 (v := 0) (by decide) ?_
  refine g_bipush X dX2_copyFrom_129 (v := 7) (by decide) ?_
  refine i_copyi X F I 64 (act64) 7 rfl rfl (fun _ => rfl) (t0 := 1) rfl rfl wd169 wd87 wd88 wd89 (by decide) (by decide) (by decide) (by decide) (by decide) (fun _ _ => rfl) (by decide) (Nat.le_of_ble_eq_true rfl) dX2_copyFrom_131 (fun j => cpy_ok (P := okv 7) (fun j => I 64 j) (fun j => I 7 j) j) (fun M C F I K1 hC => ?_)
  have K := K.step K1 (by decide)
  refine g_aload_n X dX2_copyFrom_134 rfl (j := 1) rfl ?_
  refine i_get X F 60 (act60) rfl fk_X2_52 dX2_copyFrom_135 rfl ?_
  refine g_iconst X dX2_copyFrom_138 (v := 0) (by decide) ?_
  refine g_aload_n X dX2_copyFrom_139 rfl (j := 0) rfl ?_
  refine i_get X F 3 rfl rfl fk_X2_52 dX2_copyFrom_140 rfl ?_
  refine g_iconst X dX2_copyFrom_143 (v := 0) (by decide) ?_
  refine g_bipush X dX2_copyFrom_144 (v := 8) (by decide) ?_
  refine i_copyi X F I 65 (act65) 8 rfl rfl (fun _ => rfl) (t0 := 1) rfl rfl wd169 wd87 wd88 wd89 (by decide) (by decide) (by decide) (by decide) (by decide) (fun _ _ => rfl) (by decide) (Nat.le_of_ble_eq_true rfl) dX2_copyFrom_146 (fun j => cpy_ok (P := okv 8) (fun j => I 65 j) (fun j => I 8 j) j) (fun M C F I K1 hC => ?_)
  have K := K.step K1 (by decide)
  refine g_aload_n X dX2_copyFrom_149 rfl (j := 1) rfl ?_
  refine i_get X F 60 (act60) rfl fk_X2_55 dX2_copyFrom_150 rfl ?_
  refine g_iconst X dX2_copyFrom_153 (v := 0) (by decide) ?_
  refine g_aload_n X dX2_copyFrom_154 rfl (j := 0) rfl ?_
  refine i_get X F 3 rfl rfl fk_X2_55 dX2_copyFrom_155 rfl ?_
  refine g_iconst X dX2_copyFrom_158 (v := 0) (by decide) ?_
  refine g_bipush X dX2_copyFrom_159 (v := 8) (by decide) ?_
  refine i_copyi X F I 66 (act66) 9 rfl rfl (fun _ => rfl) (t0 := 1) rfl rfl wd169 wd87 wd88 wd89 (by decide) (by decide) (by decide) (by decide) (by decide) (fun _ _ => rfl) (by decide) (Nat.le_of_ble_eq_true rfl) dX2_copyFrom_161 (fun j => trivial) (fun M C F I K1 hC => ?_)
  have K := K.step K1 (by decide)
  refine g_aload_n X dX2_copyFrom_164 rfl (j := 0) rfl ?_
  refine i_get X F 3 rfl rfl fk_X2_61 dX2_copyFrom_165 rfl ?_
  refine g_aload_n X dX2_copyFrom_168 rfl (j := 1) rfl ?_
  refine i_get X F 60 (act60) rfl fk_X2_61 dX2_copyFrom_169 rfl ?_
  refine g_callVV X (s_X0_copyFrom_b1 l G F I  act67 act68 act69) lk_X2_80 (F.1 10 rfl).2 (F.1 10 rfl).1 rfl rfl dX2_copyFrom_172 (Nat.le_of_ble_eq_true rfl) ⟨by decide, by decide⟩ ⟨by decide, by decide⟩ (fun L M hp => ?_)
  obtain ⟨C, D, F, I, K1, hr⟩ := hp
  have K := K.step K1 (by decide)
  exact g_vret X hrt dX2_copyFrom_175 (by decide) (by decide) ⟨C, D, F, I, K, trivial⟩
set_option maxHeartbeats 4000000 in
set_option maxRecDepth 100000 in
theorem s_X0_copyFrom_b2 (l : Launch) (G : va_G) {cy : Nat → ClassId} {L : List Nat} {M : Nat → va_E} {a : Nat → Nat} {act : Nat → Bool} {C0 : Nat → Nat → Int32} {D0 : Nat → Nat → Int64} {R : Nat → Nat → Option Nat} (F : WI L M a act (ent cy a C0 D0 R)) (I : Inv C0)  (act77 : (baseact 77 || act 77) = true) (act78 : (baseact 78 || act 78) = true) (act79 : (baseact 79 || act 79) = true) : MV l G cy yX0_copyFrom cX0_copyFrom 2 none 1 0 0 [.ref (a 10), .ref (a 77)] L M (fun L2 M2 => ∃ C2 D2, WI L2 M2 a act (ent cy a C2 D2 R) ∧ Inv C2 ∧ Kp [10, 11, 12] C0 D0 C2 D2 ∧ True) := by
  refine MV.of (own := RX0) rfl (by decide) (Nat.le_of_ble_eq_true rfl) ?_
  intro p e s m below meth c A X hrt hnm
  obtain ⟨C, D, hC0, hD0, F, I, K⟩ : ∃ C D, C = C0 ∧ D = D0 ∧ WI L M a act (ent cy a C D R) ∧ Inv C ∧ Kp [10, 11, 12] C0 D0 C D := ⟨C0, D0, rfl, rfl, F, I, Kp.rf⟩
  refine g_aload_n X dX0_copyFrom_0 rfl (j := 0) rfl ?_
  refine g_aload_n X dX0_copyFrom_1 rfl (j := 1) rfl ?_
  obtain ⟨n1, hn1, en1⟩ := rg_nat (I 77 0 rfl) (by decide)
  refine i_get X F 77 (act77) rfl fk_X0_9 dX0_copyFrom_2 (v := .int (nI n1)) (congrArg (fun z => some (Value.int z)) en1) ?_
  refine i_put X F I 10 rfl rfl rfl fk_X0_9 dX0_copyFrom_5 rfl rfl (Nat.le_of_ble_eq_true rfl) (fun _ => (rg_of (n := n1) (by omega) (by omega) (by omega))) (fun M C F I K1 hC => ?_)
  have K := K.step K1 (by decide)
  refine g_aload_n X dX0_copyFrom_8 rfl (j := 1) rfl ?_
  refine i_get X F 77 (act77) rfl fk_X0_15 dX0_copyFrom_9 rfl ?_
  refine g_iconst X dX0_copyFrom_12 (v := 0) (by decide) ?_
  refine g_aload_n X dX0_copyFrom_13 rfl (j := 0) rfl ?_
  refine i_get X F 10 rfl rfl fk_X0_15 dX0_copyFrom_14 rfl ?_
  refine g_iconst X dX0_copyFrom_17 (v := 0) (by decide) ?_
  refine g_bipush X dX0_copyFrom_18 (v := 30) (by decide) ?_
  refine i_copyi X F I 78 (act78) 11 rfl rfl (fun _ => rfl) (t0 := 1) rfl rfl wd163 wd87 wd88 wd89 (by decide) (by decide) (by decide) (by decide) (by decide) (fun _ _ => rfl) (by decide) (Nat.le_of_ble_eq_true rfl) dX0_copyFrom_20 (fun j => cpy_ok (P := okv 11) (fun j => I 78 j) (fun j => I 11 j) j) (fun M C F I K1 hC => ?_)
  have K := K.step K1 (by decide)
  refine g_aload_n X dX0_copyFrom_23 rfl (j := 1) rfl ?_
  refine i_get X F 77 (act77) rfl fk_X0_19 dX0_copyFrom_24 rfl ?_
  refine g_iconst X dX0_copyFrom_27 (v := 0) (by decide) ?_
  refine g_aload_n X dX0_copyFrom_28 rfl (j := 0) rfl ?_
  refine i_get X F 10 rfl rfl fk_X0_19 dX0_copyFrom_29 rfl ?_
  refine g_iconst X dX0_copyFrom_32 (v := 0) (by decide) ?_
  refine g_aload_n X dX0_copyFrom_33 rfl (j := 0) rfl ?_
  refine i_get X F 10 rfl rfl fk_X0_19 dX0_copyFrom_34 rfl ?_
  refine i_alen X F 12 rfl rfl (t0 := 1) rfl dX0_copyFrom_37 (v := 240) rfl ?_
  refine i_copyi X F I 79 (act79) 12 rfl rfl (fun _ => rfl) (t0 := 1) rfl rfl wd163 wd87 wd88 wd89 (by decide) (by decide) (by decide) (by decide) (by decide) (fun _ _ => rfl) (by decide) (Nat.le_of_ble_eq_true rfl) dX0_copyFrom_38 (fun j => trivial) (fun M C F I K1 hC => ?_)
  have K := K.step K1 (by decide)
  exact g_vret X hrt dX0_copyFrom_41 (by decide) (by decide) ⟨C, D, F, I, K, trivial⟩
set_option maxHeartbeats 4000000 in
set_option maxRecDepth 100000 in
theorem s_X2_copyFrom_b2 (l : Launch) (G : va_G) {cy : Nat → ClassId} {L : List Nat} {M : Nat → va_E} {a : Nat → Nat} {act : Nat → Bool} {C0 : Nat → Nat → Int32} {D0 : Nat → Nat → Int64} {R : Nat → Nat → Option Nat} (F : WI L M a act (ent cy a C0 D0 R)) (I : Inv C0)  (act70 : (baseact 70 || act 70) = true) (act71 : (baseact 71 || act 71) = true) (act72 : (baseact 72 || act 72) = true) (act73 : (baseact 73 || act 73) = true) (act74 : (baseact 74 || act 74) = true) (act75 : (baseact 75 || act 75) = true) (act76 : (baseact 76 || act 76) = true) (act77 : (baseact 77 || act 77) = true) (act78 : (baseact 78 || act 78) = true) (act79 : (baseact 79 || act 79) = true) : MV l G cy yX2_copyFrom cX2_copyFrom 2 none 2 0 0 [.ref (a 3), .ref (a 70)] L M (fun L2 M2 => ∃ C2 D2, WI L2 M2 a act (ent cy a C2 D2 R) ∧ Inv C2 ∧ Kp [3, 4, 5, 6, 7, 8, 9, 10, 11, 12] C0 D0 C2 D2 ∧ True) := by
  refine MV.of (own := RX2) rfl (by decide) (Nat.le_of_ble_eq_true rfl) ?_
  intro p e s m below meth c A X hrt hnm
  obtain ⟨C, D, hC0, hD0, F, I, K⟩ : ∃ C D, C = C0 ∧ D = D0 ∧ WI L M a act (ent cy a C D R) ∧ Inv C ∧ Kp [3, 4, 5, 6, 7, 8, 9, 10, 11, 12] C0 D0 C D := ⟨C0, D0, rfl, rfl, F, I, Kp.rf⟩
  refine g_aload_n X dX2_copyFrom_0 rfl (j := 0) rfl ?_
  refine g_aload_n X dX2_copyFrom_1 rfl (j := 1) rfl ?_
  refine i_get X F 70 (act70) rfl fk_X2_9 dX2_copyFrom_2 rfl ?_
  refine Go.gen (fun o1 => ?_)
  refine i_put X F I 3 rfl rfl rfl fk_X2_9 dX2_copyFrom_5 rfl rfl (Nat.le_of_ble_eq_true rfl) ⟨fun h => absurd h (by decide), fun h => absurd h (by decide), fun h => absurd h (by decide), fun h => absurd h (by decide)⟩ (fun M C F I K1 hC => ?_)
  have K := K.step K1 (by decide)
  refine g_aload_n X dX2_copyFrom_8 rfl (j := 0) rfl ?_
  refine g_aload_n X dX2_copyFrom_9 rfl (j := 1) rfl ?_
  obtain ⟨n2, hn2, en2⟩ := rg_nat ((I 70 1).1 rfl) (by decide)
  refine i_get X F 70 (act70) rfl fk_X2_15 dX2_copyFrom_10 (v := .int (nI n2)) (congrArg (fun z => some (Value.int z)) en2) ?_
  refine i_put X F I 3 rfl rfl rfl fk_X2_15 dX2_copyFrom_13 rfl rfl (Nat.le_of_ble_eq_true rfl) ⟨fun _ => (rg_of (n := n2) (by omega) (by omega) (by omega)), fun h => absurd h (by decide), fun h => absurd h (by decide), fun h => absurd h (by decide)⟩ (fun M C F I K1 hC => ?_)
  have K := K.step K1 (by decide)
  refine g_aload_n X dX2_copyFrom_16 rfl (j := 0) rfl ?_
  refine g_aload_n X dX2_copyFrom_17 rfl (j := 1) rfl ?_
  refine i_get X F 70 (act70) rfl fk_X2_18 dX2_copyFrom_18 rfl ?_
  refine Go.gen (fun o3 => ?_)
  refine i_put X F I 3 rfl rfl rfl fk_X2_18 dX2_copyFrom_21 rfl rfl (Nat.le_of_ble_eq_true rfl) ⟨fun h => absurd h (by decide), fun h => absurd h (by decide), fun h => absurd h (by decide), fun h => absurd h (by decide)⟩ (fun M C F I K1 hC => ?_)
  have K := K.step K1 (by decide)
  refine g_aload_n X dX2_copyFrom_24 rfl (j := 0) rfl ?_
  refine g_aload_n X dX2_copyFrom_25 rfl (j := 1) rfl ?_
  refine i_get X F 70 (act70) rfl fk_X2_21 dX2_copyFrom_26 rfl ?_
  refine Go.gen (fun o4 => ?_)
  refine i_put X F I 3 rfl rfl rfl fk_X2_21 dX2_copyFrom_29 rfl rfl (Nat.le_of_ble_eq_true rfl) ⟨fun h => absurd h (by decide), fun h => absurd h (by decide), fun h => absurd h (by decide), fun h => absurd h (by decide)⟩ (fun M C F I K1 hC => ?_)
  have K := K.step K1 (by decide)
  refine g_aload_n X dX2_copyFrom_32 rfl (j := 0) rfl ?_
  refine g_aload_n X dX2_copyFrom_33 rfl (j := 1) rfl ?_
  obtain ⟨n5, hn5, en5⟩ := rg_nat ((I 70 4).2.1 rfl) (by decide)
  refine i_get X F 70 (act70) rfl fk_X2_24 dX2_copyFrom_34 (v := .int (nI n5)) (congrArg (fun z => some (Value.int z)) en5) ?_
  refine i_put X F I 3 rfl rfl rfl fk_X2_24 dX2_copyFrom_37 rfl rfl (Nat.le_of_ble_eq_true rfl) ⟨fun h => absurd h (by decide), fun _ => (rg_of (n := n5) (by omega) (by omega) (by omega)), fun h => absurd h (by decide), fun h => absurd h (by decide)⟩ (fun M C F I K1 hC => ?_)
  have K := K.step K1 (by decide)
  refine g_aload_n X dX2_copyFrom_40 rfl (j := 0) rfl ?_
  refine g_aload_n X dX2_copyFrom_41 rfl (j := 1) rfl ?_
  obtain ⟨n6, hn6, en6⟩ := rg_nat ((I 70 5).2.2.1 rfl) (by decide)
  refine i_get X F 70 (act70) rfl fk_X2_27 dX2_copyFrom_42 (v := .int (nI n6)) (congrArg (fun z => some (Value.int z)) en6) ?_
  refine i_put X F I 3 rfl rfl rfl fk_X2_27 dX2_copyFrom_45 rfl rfl (Nat.le_of_ble_eq_true rfl) ⟨fun h => absurd h (by decide), fun h => absurd h (by decide), fun _ => (rg_of (n := n6) (by omega) (by omega) (by omega)), fun h => absurd h (by decide)⟩ (fun M C F I K1 hC => ?_)
  have K := K.step K1 (by decide)
  refine g_aload_n X dX2_copyFrom_48 rfl (j := 0) rfl ?_
  refine g_aload_n X dX2_copyFrom_49 rfl (j := 1) rfl ?_
  refine i_get X F 70 (act70) rfl fk_X2_30 dX2_copyFrom_50 rfl ?_
  refine Go.gen (fun o7 => ?_)
  refine i_put X F I 3 rfl rfl rfl fk_X2_30 dX2_copyFrom_53 rfl rfl (Nat.le_of_ble_eq_true rfl) ⟨fun h => absurd h (by decide), fun h => absurd h (by decide), fun h => absurd h (by decide), fun h => absurd h (by decide)⟩ (fun M C F I K1 hC => ?_)
  have K := K.step K1 (by decide)
  refine g_aload_n X dX2_copyFrom_56 rfl (j := 0) rfl ?_
  refine g_aload_n X dX2_copyFrom_57 rfl (j := 1) rfl ?_
  refine i_get X F 70 (act70) rfl fk_X2_33 dX2_copyFrom_58 rfl ?_
  refine Go.gen (fun o8 => ?_)
  refine i_put X F I 3 rfl rfl rfl fk_X2_33 dX2_copyFrom_61 rfl rfl (Nat.le_of_ble_eq_true rfl) ⟨fun h => absurd h (by decide), fun h => absurd h (by decide), fun h => absurd h (by decide), fun h => absurd h (by decide)⟩ (fun M C F I K1 hC => ?_)
  have K := K.step K1 (by decide)
  refine g_aload_n X dX2_copyFrom_64 rfl (j := 0) rfl ?_
  refine g_aload_n X dX2_copyFrom_65 rfl (j := 1) rfl ?_
  obtain ⟨n9, hn9, en9⟩ := rg_nat ((I 70 8).2.2.2 rfl) (by decide)
  refine i_get X F 70 (act70) rfl fk_X2_36 dX2_copyFrom_66 (v := .int (nI n9)) (congrArg (fun z => some (Value.int z)) en9) ?_
  refine i_put X F I 3 rfl rfl rfl fk_X2_36 dX2_copyFrom_69 rfl rfl (Nat.le_of_ble_eq_true rfl) ⟨fun h => absurd h (by decide), fun h => absurd h (by decide), fun h => absurd h (by decide), fun _ => (rg_of (n := n9) (by omega) (by omega) (by omega))⟩ (fun M C F I K1 hC => ?_)
  have K := K.step K1 (by decide)
  refine g_aload_n X dX2_copyFrom_72 rfl (j := 1) rfl ?_
  refine i_get X F 70 (act70) rfl fk_X2_39 dX2_copyFrom_73 rfl ?_
  refine g_iconst X dX2_copyFrom_76 (v := 0) (by decide) ?_
  refine g_aload_n X dX2_copyFrom_77 rfl (j := 0) rfl ?_
  refine i_get X F 3 rfl rfl fk_X2_39 dX2_copyFrom_78 rfl ?_
  refine g_iconst X dX2_copyFrom_81 (v := 0) (by decide) ?_
  refine g_iconst X dX2_copyFrom_82 (v := 4) (by decide) ?_
  refine i_copyi X F I 71 (act71) 4 rfl rfl (fun _ => rfl) (t0 := 1) rfl rfl wd169 wd87 wd88 wd89 (by decide) (by decide) (by decide) (by decide) (by decide) (fun _ _ => rfl) (by decide) (Nat.le_of_ble_eq_true rfl) dX2_copyFrom_83 (fun j => trivial) (fun M C F I K1 hC => ?_)
  have K := K.step K1 (by decide)
  refine g_aload_n X dX2_copyFrom_86 rfl (j := 1) rfl ?_
  refine i_get X F 70 (act70) rfl fk_X2_43 dX2_copyFrom_87 rfl ?_
  refine g_iconst X dX2_copyFrom_90 (v := 0) (by decide) ?_
  refine g_aload_n X dX2_copyFrom_91 rfl (j := 0) rfl ?_
  refine i_get X F 3 rfl rfl fk_X2_43 dX2_copyFrom_92 rfl ?_
  refine g_iconst X dX2_copyFrom_95 (v := 0) (by decide) ?_
  refine g_bipush X dX2_copyFrom_96 (v := 7) (by decide) ?_
  refine i_copyi X F I 72 (act72) 5 rfl rfl (fun _ => rfl) (t0 := 1) rfl rfl wd169 wd87 wd88 wd89 (by decide) (by decide) (by decide) (by decide) (by decide) (fun _ _ => rfl) (by decide) (Nat.le_of_ble_eq_true rfl) dX2_copyFrom_98 (fun j => cpy_ok (P := okv 5) (fun j => I 72 j) (fun j => I 5 j) j) (fun M C F I K1 hC => ?_)
  have K := K.step K1 (by decide)
  refine g_aload_n X dX2_copyFrom_101 rfl (j := 1) rfl ?_
  refine i_get X F 70 (act70) rfl fk_X2_46 dX2_copyFrom_102 rfl ?_
  refine g_iconst X dX2_copyFrom_105 (v := 0) (by decide) ?_
  refine g_aload_n X dX2_copyFrom_106 rfl (j := 0) rfl ?_
  refine i_get X F 3 rfl rfl fk_X2_46 dX2_copyFrom_107 rfl ?_
  refine g_iconst X dX2_copyFrom_110 (v := 0) (by decide) ?_
  refine g_aload_n X dX2_copyFrom_111 rfl (j := 0) rfl ?_
  refine i_get X F 3 rfl rfl fk_X2_46 dX2_copyFrom_112 rfl ?_
  refine i_alen X F 6 rfl rfl (t0 := 1) rfl dX2_copyFrom_115 (v := 28) rfl ?_
  refine i_copyi X F I 73 (act73) 6 rfl rfl (fun _ => rfl) (t0 := 1) rfl rfl wd169 wd87 wd88 wd89 (by decide) (by decide) (by decide) (by decide) (by decide) (fun _ _ => rfl) (by decide) (Nat.le_of_ble_eq_true rfl) dX2_copyFrom_116 (fun j => cpy_ok (P := okv 6) (fun j => I 73 j) (fun j => I 6 j) j) (fun M C F I K1 hC => ?_)
  have K := K.step K1 (by decide)
  refine g_aload_n X dX2_copyFrom_119 rfl (j := 1) rfl ?_
  refine i_get X F 70 (act70) rfl fk_X2_49 dX2_copyFrom_120 rfl ?_
  refine g_iconst X dX2_copyFrom_123 (v := 0) (by decide) ?_
  refine g_aload_n X dX2_copyFrom_124 rfl (j := 0) rfl ?_
  refine i_get X F 3 rfl rfl fk_X2_49 dX2_copyFrom_125 rfl ?_
  refine g_iconst X dX2_copyFrom_128 (v := 0) (by decide) ?_
  refine g_bipush X dX2_copyFrom_129 (v := 7) (by decide) ?_
  refine i_copyi X F I 74 (act74) 7 rfl rfl (fun _ => rfl) (t0 := 1) rfl rfl wd169 wd87 wd88 wd89 (by decide) (by decide) (by decide) (by decide) (by decide) (fun _ _ => rfl) (by decide) (Nat.le_of_ble_eq_true rfl) dX2_copyFrom_131 (fun j => cpy_ok (P := okv 7) (fun j => I 74 j) (fun j => I 7 j) j) (fun M C F I K1 hC => ?_)
  have K := K.step K1 (by decide)
  refine g_aload_n X dX2_copyFrom_134 rfl (j := 1) rfl ?_
  refine i_get X F 70 (act70) rfl fk_X2_52 dX2_copyFrom_135 rfl ?_
  refine g_iconst X dX2_copyFrom_138 (v := 0) (by decide) ?_
  refine g_aload_n X dX2_copyFrom_139 rfl (j := 0) rfl ?_
  refine i_get X F 3 rfl rfl fk_X2_52 dX2_copyFrom_140 rfl ?_
  refine g_iconst X dX2_copyFrom_143 (v := 0) (by decide) ?_
  refine g_bipush X dX2_copyFrom_144 (v := 8) (by decide) ?_
  refine i_copyi X F I 75 (act75) 8 rfl rfl (fun _ => rfl) (t0 := 1) rfl rfl wd169 wd87 wd88 wd89 (by decide) (by decide) (by decide) (by decide) (by decide) (fun _ _ => rfl) (by decide) (Nat.le_of_ble_eq_true rfl) dX2_copyFrom_146 (fun j => cpy_ok (P := okv 8) (fun j => I 75 j) (fun j => I 8 j) j) (fun M C F I K1 hC => ?_)
  have K := K.step K1 (by decide)
  refine g_aload_n X dX2_copyFrom_149 rfl (j := 1) rfl ?_
  refine i_get X F 70 (act70) rfl fk_X2_55 dX2_copyFrom_150 rfl ?_
  refine g_iconst X dX2_copyFrom_153 (v := 0) (by decide) ?_
  refine g_aload_n X dX2_copyFrom_154 rfl (j := 0) rfl ?_
  refine i_get X F 3 rfl rfl fk_X2_55 dX2_copyFrom_155 rfl ?_
  refine g_iconst X dX2_copyFrom_158 (v := 0) (by decide) ?_
  refine g_bipush X dX2_copyFrom_159 (v := 8) (by decide) ?_
  refine i_copyi X F I 76 (act76) 9 rfl rfl (fun _ => rfl) (t0 := 1) rfl rfl wd169 wd87 wd88 wd89 (by decide) (by decide) (by decide) (by decide) (by decide) (fun _ _ => rfl) (by decide) (Nat.le_of_ble_eq_true rfl) dX2_copyFrom_161 (fun j => trivial) (fun M C F I K1 hC => ?_)
  have K := K.step K1 (by decide)
  refine g_aload_n X dX2_copyFrom_164 rfl (j := 0) rfl ?_
  refine i_get X F 3 rfl rfl fk_X2_61 dX2_copyFrom_165 rfl ?_
  refine g_aload_n X dX2_copyFrom_168 rfl (j := 1) rfl ?_
  refine i_get X F 70 (act70) rfl fk_X2_61 dX2_copyFrom_169 rfl ?_
  refine g_callVV X (s_X0_copyFrom_b2 l G F I  act77 act78 act79) lk_X2_80 (F.1 10 rfl).2 (F.1 10 rfl).1 rfl rfl dX2_copyFrom_172 (Nat.le_of_ble_eq_true rfl) ⟨by decide, by decide⟩ ⟨by decide, by decide⟩ (fun L M hp => ?_)
  obtain ⟨C, D, F, I, K1, hr⟩ := hp
  have K := K.step K1 (by decide)
  exact g_vret X hrt dX2_copyFrom_175 (by decide) (by decide) ⟨C, D, F, I, K, trivial⟩
set_option maxHeartbeats 4000000 in
set_option maxRecDepth 100000 in
theorem s_X7_back (l : Launch) (G : va_G) {cy : Nat → ClassId} {L : List Nat} {M : Nat → va_E} {a : Nat → Nat} {act : Nat → Bool} {C0 : Nat → Nat → Int32} {D0 : Nat → Nat → Int64} {R : Nat → Nat → Option Nat} (F : WI L M a act (ent cy a C0 D0 R)) (I : Inv C0) (p0 : Int32) (hN : NowOk (C0 3) (C0 27) (C0 29)) (HR : RA a act R) : MI l G cy yX7_back cX7_back 2 (some .int) 5 0 0 [.ref (a 0), .int p0] L M (fun r L2 M2 => ∃ C2 D2, WI L2 M2 a act (ent cy a C2 D2 R) ∧ Inv C2 ∧ Kp [0, 3, 4, 5, 6, 7, 8, 9, 10, 11, 12, 25, 26, 27, 28, 29, 30, 39] C0 D0 C2 D2 ∧ NowOk (C2 3) (C2 27) (C2 29)) := by
  refine MI.of (own := RX7) rfl (by decide) (Nat.le_of_ble_eq_true rfl) ?_
  intro p e s m below meth c A X hrt hnm
  obtain ⟨C, D, hC0, hD0, F, I, K⟩ : ∃ C D, C = C0 ∧ D = D0 ∧ WI L M a act (ent cy a C D R) ∧ Inv C ∧ Kp [0, 3, 4, 5, 6, 7, 8, 9, 10, 11, 12, 25, 26, 27, 28, 29, 30, 39] C0 D0 C D := ⟨C0, D0, rfl, rfl, F, I, Kp.rf⟩
  rw [← hC0] at hN
  rcases sc3 p0 with hx1 | hx1 | rfl | rfl | rfl
  · skip
    have hno1 : p0 < 0 ∨ 3 ≤ p0 := Or.inl hx1
    refine g_iload_n X dX7_back_0 rfl (j := 1) rfl ?_
    refine g_if_lt X dX7_back_1 (tgt := 9) (by decide) (fun q2 => ?_) (fun q2 => ?_)
    · skip
      have q2t : p0.toInt < (0 : Int32).toInt := Int32.lt_iff_toInt_lt.mp q2
      have q2k : (0 : Int32).toInt = 0 := (by decide)
      have q2b := Int32.toInt_lt p0
      refine g_bipush X dX7_back_9 (v := -2) (by decide) ?_
      exact g_iret X hrt dX7_back_11 (by decide) (by decide) ⟨C, D, F, I, K, hN⟩
    · skip
      have q2t : ¬ p0.toInt < (0 : Int32).toInt := fun z => q2 (Int32.lt_iff_toInt_lt.mpr z)
      have q2k : (0 : Int32).toInt = 0 := (by decide)
      have q2b := Int32.toInt_lt p0
      obtain ⟨n3, hn3, rfl⟩ := nI_of (x := p0) (fun z => by have z2 := Int32.lt_iff_toInt_lt.mp z; have z3 : (0 : Int32).toInt = 0 := (by decide); omega)
      rw [nI_toInt (by omega)] at q2t
      have tn3 := nI_toInt (n := n3) (by omega)
      refine g_iload_n X dX7_back_4 rfl (j := 1) rfl ?_
      refine g_iconst X dX7_back_5 (v := 3) (by decide) ?_
      refine g_icmp_lt X dX7_back_6 (tgt := 12) (by decide) (fun q4 => ?_) (fun q4 => ?_)
      · skip
        have q4 : n3 < 3 := (nI_ltI (a := n3) (b := 3) (by omega) (by omega)).mp q4
        exact absurd hno1 (no3 (by omega))
      · skip
        have q4 : ¬ n3 < 3 := fun z => q4 ((nI_ltI (a := n3) (b := 3) (by omega) (by omega)).mpr z)
        refine g_bipush X dX7_back_9 (v := -2) (by decide) ?_
        exact g_iret X hrt dX7_back_11 (by decide) (by decide) ⟨C, D, F, I, K, hN⟩
  · skip
    have hno1 : p0 < 0 ∨ 3 ≤ p0 := Or.inr hx1
    refine g_iload_n X dX7_back_0 rfl (j := 1) rfl ?_
    refine g_if_lt X dX7_back_1 (tgt := 9) (by decide) (fun q5 => ?_) (fun q5 => ?_)
    · skip
      have q5t : p0.toInt < (0 : Int32).toInt := Int32.lt_iff_toInt_lt.mp q5
      have q5k : (0 : Int32).toInt = 0 := (by decide)
      have q5b := Int32.toInt_lt p0
      refine g_bipush X dX7_back_9 (v := -2) (by decide) ?_
      exact g_iret X hrt dX7_back_11 (by decide) (by decide) ⟨C, D, F, I, K, hN⟩
    · skip
      have q5t : ¬ p0.toInt < (0 : Int32).toInt := fun z => q5 (Int32.lt_iff_toInt_lt.mpr z)
      have q5k : (0 : Int32).toInt = 0 := (by decide)
      have q5b := Int32.toInt_lt p0
      obtain ⟨n6, hn6, rfl⟩ := nI_of (x := p0) (fun z => by have z2 := Int32.lt_iff_toInt_lt.mp z; have z3 : (0 : Int32).toInt = 0 := (by decide); omega)
      rw [nI_toInt (by omega)] at q5t
      have tn6 := nI_toInt (n := n6) (by omega)
      refine g_iload_n X dX7_back_4 rfl (j := 1) rfl ?_
      refine g_iconst X dX7_back_5 (v := 3) (by decide) ?_
      refine g_icmp_lt X dX7_back_6 (tgt := 12) (by decide) (fun q7 => ?_) (fun q7 => ?_)
      · skip
        have q7 : n6 < 3 := (nI_ltI (a := n6) (b := 3) (by omega) (by omega)).mp q7
        exact absurd hno1 (no3 (by omega))
      · skip
        have q7 : ¬ n6 < 3 := fun z => q7 ((nI_ltI (a := n6) (b := 3) (by omega) (by omega)).mpr z)
        refine g_bipush X dX7_back_9 (v := -2) (by decide) ?_
        exact g_iret X hrt dX7_back_11 (by decide) (by decide) ⟨C, D, F, I, K, hN⟩
  · skip
    refine g_iload_n X dX7_back_0 rfl (j := 1) rfl ?_
    refine g_if_lt X dX7_back_1 (tgt := 9) (by decide) (fun q => absurd q (by decide)) (fun _ => ?_)
    refine g_iload_n X dX7_back_4 rfl (j := 1) rfl ?_
    refine g_iconst X dX7_back_5 (v := 3) (by decide) ?_
    refine g_icmp_lt X dX7_back_6 (tgt := 12) (by decide) (fun _ => ?_) (fun q => absurd (by decide) q)
    refine g_aload_n X dX7_back_12 rfl (j := 0) rfl ?_
    refine i_get X F 0 rfl rfl fk_X7_26 dX7_back_13 rfl ?_
    refine g_iload_n X dX7_back_16 rfl (j := 1) rfl ?_
    rcases (Bool.eq_false_or_eq_true (act 50)).symm with hA50 | hA50
    · skip
      refine i_aald X F 23 rfl (t0 := 4) rfl rfl dX7_back_17 (vp_in_iff.mpr (by decide)) (v := .null) (by show va_rf (R 23 0) = _; rw [HR.2.1 0 (by decide)]; rw [if_neg (by rw [hA50]; decide)]; rfl) ?_
      refine g_ifnonnullN X dX7_back_18 ?_
      refine g_bipush X dX7_back_21 (v := -6) (by decide) ?_
      exact g_iret X hrt dX7_back_23 (by decide) (by decide) ⟨C, D, F, I, K, hN⟩
    · skip
      have act50 : (baseact 50 || act 50) = true := by rw [hA50]; rfl
      have act51 : (baseact 51 || act 51) = true := by rw [((HR.2.2.2 0 (by decide) 1 (by decide)).trans hA50)]; rfl
      have act52 : (baseact 52 || act 52) = true := by rw [((HR.2.2.2 0 (by decide) 2 (by decide)).trans hA50)]; rfl
      have act53 : (baseact 53 || act 53) = true := by rw [((HR.2.2.2 0 (by decide) 3 (by decide)).trans hA50)]; rfl
      have act54 : (baseact 54 || act 54) = true := by rw [((HR.2.2.2 0 (by decide) 4 (by decide)).trans hA50)]; rfl
      have act55 : (baseact 55 || act 55) = true := by rw [((HR.2.2.2 0 (by decide) 5 (by decide)).trans hA50)]; rfl
      have act56 : (baseact 56 || act 56) = true := by rw [((HR.2.2.2 0 (by decide) 6 (by decide)).trans hA50)]; rfl
      have act57 : (baseact 57 || act 57) = true := by rw [((HR.2.2.2 0 (by decide) 7 (by decide)).trans hA50)]; rfl
      have act58 : (baseact 58 || act 58) = true := by rw [((HR.2.2.2 0 (by decide) 8 (by decide)).trans hA50)]; rfl
      have act59 : (baseact 59 || act 59) = true := by rw [((HR.2.2.2 0 (by decide) 9 (by decide)).trans hA50)]; rfl
      refine i_aald X F 23 rfl (t0 := 4) rfl rfl dX7_back_17 (vp_in_iff.mpr (by decide)) (v := .ref (a 50)) (by show va_rf (R 23 0) = _; rw [HR.2.1 0 (by decide)]; rw [if_pos hA50]; rfl) ?_
      refine g_ifnonnull X dX7_back_18 (tgt := 24) (by decide) ?_
      refine g_aload_n X dX7_back_24 rfl (j := 0) rfl ?_
      refine i_get X F 0 rfl rfl fk_X7_19 dX7_back_25 rfl ?_
      refine g_aload_n X dX7_back_28 rfl (j := 0) rfl ?_
      refine i_get X F 0 rfl rfl fk_X7_26 dX7_back_29 rfl ?_
      refine g_iload_n X dX7_back_32 rfl (j := 1) rfl ?_
      refine i_aald X F 23 rfl (t0 := 4) rfl rfl dX7_back_33 (vp_in_iff.mpr (by decide)) (v := .ref (a 50)) (by show va_rf (R 23 0) = _; rw [HR.2.1 0 (by decide)]; rw [if_pos hA50]; rfl) ?_
      refine g_callVV X (s_X2_copyFrom_b0 l G F I  act50 act51 act52 act53 act54 act55 act56 act57 act58 act59) lk_X7_87 (F.1 3 rfl).2 (F.1 3 rfl).1 rfl rfl dX7_back_34 (Nat.le_of_ble_eq_true rfl) ⟨by decide, by decide⟩ ⟨by decide, by decide⟩ (fun L M hp => ?_)
      obtain ⟨C, D, F, I, K1, hr⟩ := hp
      have K := K.step K1 (by decide)
      refine g_aload_n X dX7_back_37 rfl (j := 0) rfl ?_
      refine g_callVV X (s_X7_changed l G F I  ) lk_X7_90 (F.1 0 rfl).2 (F.1 0 rfl).1 rfl rfl dX7_back_38 (Nat.le_of_ble_eq_true rfl) ⟨by decide, by decide⟩ ⟨by decide, by decide⟩ (fun L M hp => ?_)
      obtain ⟨C, D, F, I, K1, hr⟩ := hp
      have K := K.step K1 (by decide)
      have hN := hr
      refine g_iconst X dX7_back_41 (v := 0) (by decide) ?_
      exact g_iret X hrt dX7_back_42 (by decide) (by decide) ⟨C, D, F, I, K, hN⟩
  · skip
    refine g_iload_n X dX7_back_0 rfl (j := 1) rfl ?_
    refine g_if_lt X dX7_back_1 (tgt := 9) (by decide) (fun q => absurd q (by decide)) (fun _ => ?_)
    refine g_iload_n X dX7_back_4 rfl (j := 1) rfl ?_
    refine g_iconst X dX7_back_5 (v := 3) (by decide) ?_
    refine g_icmp_lt X dX7_back_6 (tgt := 12) (by decide) (fun _ => ?_) (fun q => absurd (by decide) q)
    refine g_aload_n X dX7_back_12 rfl (j := 0) rfl ?_
    refine i_get X F 0 rfl rfl fk_X7_26 dX7_back_13 rfl ?_
    refine g_iload_n X dX7_back_16 rfl (j := 1) rfl ?_
    rcases (Bool.eq_false_or_eq_true (act 60)).symm with hA60 | hA60
    · skip
      refine i_aald X F 23 rfl (t0 := 4) rfl rfl dX7_back_17 (vp_in_iff.mpr (by decide)) (v := .null) (by show va_rf (R 23 1) = _; rw [HR.2.1 1 (by decide)]; rw [if_neg (by rw [hA60]; decide)]; rfl) ?_
      refine g_ifnonnullN X dX7_back_18 ?_
      refine g_bipush X dX7_back_21 (v := -6) (by decide) ?_
      exact g_iret X hrt dX7_back_23 (by decide) (by decide) ⟨C, D, F, I, K, hN⟩
    · skip
      have act60 : (baseact 60 || act 60) = true := by rw [hA60]; rfl
      have act61 : (baseact 61 || act 61) = true := by rw [((HR.2.2.2 1 (by decide) 1 (by decide)).trans hA60)]; rfl
      have act62 : (baseact 62 || act 62) = true := by rw [((HR.2.2.2 1 (by decide) 2 (by decide)).trans hA60)]; rfl
      have act63 : (baseact 63 || act 63) = true := by rw [((HR.2.2.2 1 (by decide) 3 (by decide)).trans hA60)]; rfl
      have act64 : (baseact 64 || act 64) = true := by rw [((HR.2.2.2 1 (by decide) 4 (by decide)).trans hA60)]; rfl
      have act65 : (baseact 65 || act 65) = true := by rw [((HR.2.2.2 1 (by decide) 5 (by decide)).trans hA60)]; rfl
      have act66 : (baseact 66 || act 66) = true := by rw [((HR.2.2.2 1 (by decide) 6 (by decide)).trans hA60)]; rfl
      have act67 : (baseact 67 || act 67) = true := by rw [((HR.2.2.2 1 (by decide) 7 (by decide)).trans hA60)]; rfl
      have act68 : (baseact 68 || act 68) = true := by rw [((HR.2.2.2 1 (by decide) 8 (by decide)).trans hA60)]; rfl
      have act69 : (baseact 69 || act 69) = true := by rw [((HR.2.2.2 1 (by decide) 9 (by decide)).trans hA60)]; rfl
      refine i_aald X F 23 rfl (t0 := 4) rfl rfl dX7_back_17 (vp_in_iff.mpr (by decide)) (v := .ref (a 60)) (by show va_rf (R 23 1) = _; rw [HR.2.1 1 (by decide)]; rw [if_pos hA60]; rfl) ?_
      refine g_ifnonnull X dX7_back_18 (tgt := 24) (by decide) ?_
      refine g_aload_n X dX7_back_24 rfl (j := 0) rfl ?_
      refine i_get X F 0 rfl rfl fk_X7_19 dX7_back_25 rfl ?_
      refine g_aload_n X dX7_back_28 rfl (j := 0) rfl ?_
      refine i_get X F 0 rfl rfl fk_X7_26 dX7_back_29 rfl ?_
      refine g_iload_n X dX7_back_32 rfl (j := 1) rfl ?_
      refine i_aald X F 23 rfl (t0 := 4) rfl rfl dX7_back_33 (vp_in_iff.mpr (by decide)) (v := .ref (a 60)) (by show va_rf (R 23 1) = _; rw [HR.2.1 1 (by decide)]; rw [if_pos hA60]; rfl) ?_
      refine g_callVV X (s_X2_copyFrom_b1 l G F I  act60 act61 act62 act63 act64 act65 act66 act67 act68 act69) lk_X7_87 (F.1 3 rfl).2 (F.1 3 rfl).1 rfl rfl dX7_back_34 (Nat.le_of_ble_eq_true rfl) ⟨by decide, by decide⟩ ⟨by decide, by decide⟩ (fun L M hp => ?_)
      obtain ⟨C, D, F, I, K1, hr⟩ := hp
      have K := K.step K1 (by decide)
      refine g_aload_n X dX7_back_37 rfl (j := 0) rfl ?_
      refine g_callVV X (s_X7_changed l G F I  ) lk_X7_90 (F.1 0 rfl).2 (F.1 0 rfl).1 rfl rfl dX7_back_38 (Nat.le_of_ble_eq_true rfl) ⟨by decide, by decide⟩ ⟨by decide, by decide⟩ (fun L M hp => ?_)
      obtain ⟨C, D, F, I, K1, hr⟩ := hp
      have K := K.step K1 (by decide)
      have hN := hr
      refine g_iconst X dX7_back_41 (v := 0) (by decide) ?_
      exact g_iret X hrt dX7_back_42 (by decide) (by decide) ⟨C, D, F, I, K, hN⟩
  · skip
    refine g_iload_n X dX7_back_0 rfl (j := 1) rfl ?_
    refine g_if_lt X dX7_back_1 (tgt := 9) (by decide) (fun q => absurd q (by decide)) (fun _ => ?_)
    refine g_iload_n X dX7_back_4 rfl (j := 1) rfl ?_
    refine g_iconst X dX7_back_5 (v := 3) (by decide) ?_
    refine g_icmp_lt X dX7_back_6 (tgt := 12) (by decide) (fun _ => ?_) (fun q => absurd (by decide) q)
    refine g_aload_n X dX7_back_12 rfl (j := 0) rfl ?_
    refine i_get X F 0 rfl rfl fk_X7_26 dX7_back_13 rfl ?_
    refine g_iload_n X dX7_back_16 rfl (j := 1) rfl ?_
    rcases (Bool.eq_false_or_eq_true (act 70)).symm with hA70 | hA70
    · skip
      refine i_aald X F 23 rfl (t0 := 4) rfl rfl dX7_back_17 (vp_in_iff.mpr (by decide)) (v := .null) (by show va_rf (R 23 2) = _; rw [HR.2.1 2 (by decide)]; rw [if_neg (by rw [hA70]; decide)]; rfl) ?_
      refine g_ifnonnullN X dX7_back_18 ?_
      refine g_bipush X dX7_back_21 (v := -6) (by decide) ?_
      exact g_iret X hrt dX7_back_23 (by decide) (by decide) ⟨C, D, F, I, K, hN⟩
    · skip
      have act70 : (baseact 70 || act 70) = true := by rw [hA70]; rfl
      have act71 : (baseact 71 || act 71) = true := by rw [((HR.2.2.2 2 (by decide) 1 (by decide)).trans hA70)]; rfl
      have act72 : (baseact 72 || act 72) = true := by rw [((HR.2.2.2 2 (by decide) 2 (by decide)).trans hA70)]; rfl
      have act73 : (baseact 73 || act 73) = true := by rw [((HR.2.2.2 2 (by decide) 3 (by decide)).trans hA70)]; rfl
      have act74 : (baseact 74 || act 74) = true := by rw [((HR.2.2.2 2 (by decide) 4 (by decide)).trans hA70)]; rfl
      have act75 : (baseact 75 || act 75) = true := by rw [((HR.2.2.2 2 (by decide) 5 (by decide)).trans hA70)]; rfl
      have act76 : (baseact 76 || act 76) = true := by rw [((HR.2.2.2 2 (by decide) 6 (by decide)).trans hA70)]; rfl
      have act77 : (baseact 77 || act 77) = true := by rw [((HR.2.2.2 2 (by decide) 7 (by decide)).trans hA70)]; rfl
      have act78 : (baseact 78 || act 78) = true := by rw [((HR.2.2.2 2 (by decide) 8 (by decide)).trans hA70)]; rfl
      have act79 : (baseact 79 || act 79) = true := by rw [((HR.2.2.2 2 (by decide) 9 (by decide)).trans hA70)]; rfl
      refine i_aald X F 23 rfl (t0 := 4) rfl rfl dX7_back_17 (vp_in_iff.mpr (by decide)) (v := .ref (a 70)) (by show va_rf (R 23 2) = _; rw [HR.2.1 2 (by decide)]; rw [if_pos hA70]; rfl) ?_
      refine g_ifnonnull X dX7_back_18 (tgt := 24) (by decide) ?_
      refine g_aload_n X dX7_back_24 rfl (j := 0) rfl ?_
      refine i_get X F 0 rfl rfl fk_X7_19 dX7_back_25 rfl ?_
      refine g_aload_n X dX7_back_28 rfl (j := 0) rfl ?_
      refine i_get X F 0 rfl rfl fk_X7_26 dX7_back_29 rfl ?_
      refine g_iload_n X dX7_back_32 rfl (j := 1) rfl ?_
      refine i_aald X F 23 rfl (t0 := 4) rfl rfl dX7_back_33 (vp_in_iff.mpr (by decide)) (v := .ref (a 70)) (by show va_rf (R 23 2) = _; rw [HR.2.1 2 (by decide)]; rw [if_pos hA70]; rfl) ?_
      refine g_callVV X (s_X2_copyFrom_b2 l G F I  act70 act71 act72 act73 act74 act75 act76 act77 act78 act79) lk_X7_87 (F.1 3 rfl).2 (F.1 3 rfl).1 rfl rfl dX7_back_34 (Nat.le_of_ble_eq_true rfl) ⟨by decide, by decide⟩ ⟨by decide, by decide⟩ (fun L M hp => ?_)
      obtain ⟨C, D, F, I, K1, hr⟩ := hp
      have K := K.step K1 (by decide)
      refine g_aload_n X dX7_back_37 rfl (j := 0) rfl ?_
      refine g_callVV X (s_X7_changed l G F I  ) lk_X7_90 (F.1 0 rfl).2 (F.1 0 rfl).1 rfl rfl dX7_back_38 (Nat.le_of_ble_eq_true rfl) ⟨by decide, by decide⟩ ⟨by decide, by decide⟩ (fun L M hp => ?_)
      obtain ⟨C, D, F, I, K1, hr⟩ := hp
      have K := K.step K1 (by decide)
      have hN := hr
      refine g_iconst X dX7_back_41 (v := 0) (by decide) ?_
      exact g_iret X hrt dX7_back_42 (by decide) (by decide) ⟨C, D, F, I, K, hN⟩
set_option maxHeartbeats 4000000 in
set_option maxRecDepth 100000 in
theorem s_X7_write (l : Launch) (G : va_G) {cy : Nat → ClassId} {L : List Nat} {M : Nat → va_E} {a : Nat → Nat} {act : Nat → Bool} {C0 : Nat → Nat → Int32} {D0 : Nat → Nat → Int64} {R : Nat → Nat → Option Nat} (F : WI L M a act (ent cy a C0 D0 R)) (I : Inv C0) (p0 : Int32) (p1 : Int32) (p2 : Int64) (HR : RA a act R) : MI l G cy yX7_write cX7_write 5 (some .int) 2 0 0 [.ref (a 0), .int p0, .int p1, .long p2] L M (fun r L2 M2 => ∃ C2 D2, WI L2 M2 a act (ent cy a C2 D2 R) ∧ Inv C2 ∧ Kp [81, 83, 85, 87] C0 D0 C2 D2 ∧ True) := by
  refine MI.of (own := RX7) rfl (by decide) (Nat.le_of_ble_eq_true rfl) ?_
  intro p e s m below meth c A X hrt hnm
  obtain ⟨C, D, hC0, hD0, F, I, K⟩ : ∃ C D, C = C0 ∧ D = D0 ∧ WI L M a act (ent cy a C D R) ∧ Inv C ∧ Kp [81, 83, 85, 87] C0 D0 C D := ⟨C0, D0, rfl, rfl, F, I, Kp.rf⟩
  rcases sc4 p0 with hx1 | hx1 | rfl | rfl | rfl | rfl
  · skip
    have hno1 : p0 < 0 ∨ 4 ≤ p0 := Or.inl hx1
    refine g_iload_n X dX7_write_0 rfl (j := 1) rfl ?_
    refine g_callSI X (s_X7_isSlot_x l G F I p0 hno1) lk_X7_389 rfl rfl dX7_write_1 (Nat.le_of_ble_eq_true rfl) ⟨by decide, by decide⟩ ⟨by decide, by decide⟩ (fun r2 L M hp => ?_)
    obtain ⟨C, D, F, I, K1, hr⟩ := hp
    have K := K.step K1 (by decide)
    subst hr
    refine g_if_ne X dX7_write_4 (tgt := 10) (by decide) (fun q => absurd (by decide) q) (fun _ => ?_)
    refine g_bipush X dX7_write_7 (v := -2) (by decide) ?_
    exact g_iret X hrt dX7_write_9 (by decide) (by decide) ⟨C, D, F, I, K, trivial⟩
  · skip
    have hno1 : p0 < 0 ∨ 4 ≤ p0 := Or.inr hx1
    refine g_iload_n X dX7_write_0 rfl (j := 1) rfl ?_
    refine g_callSI X (s_X7_isSlot_x l G F I p0 hno1) lk_X7_389 rfl rfl dX7_write_1 (Nat.le_of_ble_eq_true rfl) ⟨by decide, by decide⟩ ⟨by decide, by decide⟩ (fun r3 L M hp => ?_)
    obtain ⟨C, D, F, I, K1, hr⟩ := hp
    have K := K.step K1 (by decide)
    subst hr
    refine g_if_ne X dX7_write_4 (tgt := 10) (by decide) (fun q => absurd (by decide) q) (fun _ => ?_)
    refine g_bipush X dX7_write_7 (v := -2) (by decide) ?_
    exact g_iret X hrt dX7_write_9 (by decide) (by decide) ⟨C, D, F, I, K, trivial⟩
  · skip
    refine g_iload_n X dX7_write_0 rfl (j := 1) rfl ?_
    refine g_callSI X (s_X7_isSlot_0 l G F I  ) lk_X7_389 rfl rfl dX7_write_1 (Nat.le_of_ble_eq_true rfl) ⟨by decide, by decide⟩ ⟨by decide, by decide⟩ (fun r4 L M hp => ?_)
    obtain ⟨C, D, F, I, K1, hr⟩ := hp
    have K := K.step K1 (by decide)
    subst hr
    refine g_if_ne X dX7_write_4 (tgt := 10) (by decide) (fun _ => ?_) (fun q => absurd q (by decide))
    refine g_aload_n X dX7_write_10 rfl (j := 0) rfl ?_
    refine i_get X F 0 rfl rfl fk_X7_32 dX7_write_11 rfl ?_
    refine g_iload_n X dX7_write_14 rfl (j := 1) rfl ?_
    rcases (Bool.eq_false_or_eq_true (act 80)).symm with hA80 | hA80
    · skip
      refine i_aald X F 24 rfl (t0 := 5) rfl rfl dX7_write_15 (vp_in_iff.mpr (by decide)) (v := .null) (by show va_rf (R 24 0) = _; rw [HR.1 0 (by decide)]; rw [if_neg (by rw [hA80]; decide)]; rfl) ?_
      refine g_ifnonnullN X dX7_write_16 ?_
      refine g_bipush X dX7_write_19 (v := -6) (by decide) ?_
      exact g_iret X hrt dX7_write_21 (by decide) (by decide) ⟨C, D, F, I, K, trivial⟩
    · skip
      have act80 : (baseact 80 || act 80) = true := by rw [hA80]; rfl
      have act81 : (baseact 81 || act 81) = true := by rw [((HR.2.2.1 0 (by decide)).trans hA80)]; rfl
      refine i_aald X F 24 rfl (t0 := 5) rfl rfl dX7_write_15 (vp_in_iff.mpr (by decide)) (v := .ref (a 80)) (by show va_rf (R 24 0) = _; rw [HR.1 0 (by decide)]; rw [if_pos hA80]; rfl) ?_
      refine g_ifnonnull X dX7_write_16 (tgt := 22) (by decide) ?_
      refine g_iload_n X dX7_write_22 rfl (j := 2) rfl ?_
      refine g_if_lt X dX7_write_23 (tgt := 39) (by decide) (fun q6 => ?_) (fun q6 => ?_)
      · skip
        have q6t : p1.toInt < (0 : Int32).toInt := Int32.lt_iff_toInt_lt.mp q6
        have q6k : (0 : Int32).toInt = 0 := (by decide)
        have q6b := Int32.toInt_lt p1
        refine g_bipush X dX7_write_39 (v := -7) (by decide) ?_
        exact g_iret X hrt dX7_write_41 (by decide) (by decide) ⟨C, D, F, I, K, trivial⟩
      · skip
        have q6t : ¬ p1.toInt < (0 : Int32).toInt := fun z => q6 (Int32.lt_iff_toInt_lt.mpr z)
        have q6k : (0 : Int32).toInt = 0 := (by decide)
        have q6b := Int32.toInt_lt p1
        obtain ⟨n7, hn7, rfl⟩ := nI_of (x := p1) (fun z => by have z2 := Int32.lt_iff_toInt_lt.mp z; have z3 : (0 : Int32).toInt = 0 := (by decide); omega)
        rw [nI_toInt (by omega)] at q6t
        have tn7 := nI_toInt (n := n7) (by omega)
        refine g_iload_n X dX7_write_26 rfl (j := 2) rfl ?_
        refine g_aload_n X dX7_write_27 rfl (j := 0) rfl ?_
        refine i_get X F 0 rfl rfl fk_X7_32 dX7_write_28 rfl ?_
        refine g_iload_n X dX7_write_31 rfl (j := 1) rfl ?_
        refine i_aald X F 24 rfl (t0 := 5) rfl rfl dX7_write_32 (vp_in_iff.mpr (by decide)) (v := .ref (a 80)) (by show va_rf (R 24 0) = _; rw [HR.1 0 (by decide)]; rw [if_pos hA80]; rfl) ?_
        obtain ⟨n9, hn9, en9⟩ := rg_nat (I 80 2 rfl) (by decide)
        refine i_get X F 80 (act80) rfl fk_X7_395 dX7_write_33 (v := .int (nI n9)) (congrArg (fun z => some (Value.int z)) en9) ?_
        refine g_icmp_lt X dX7_write_36 (tgt := 42) (by decide) (fun q10 => ?_) (fun q10 => ?_)
        · skip
          have q10 : n7 < n9 := (nI_ltI (a := n7) (b := n9) (by omega) (by omega)).mp q10
          refine g_aload_n X dX7_write_42 rfl (j := 0) rfl ?_
          refine i_get X F 0 rfl rfl fk_X7_32 dX7_write_43 rfl ?_
          refine g_iload_n X dX7_write_46 rfl (j := 1) rfl ?_
          refine i_aald X F 24 rfl (t0 := 5) rfl rfl dX7_write_47 (vp_in_iff.mpr (by decide)) (v := .ref (a 80)) (by show va_rf (R 24 0) = _; rw [HR.1 0 (by decide)]; rw [if_pos hA80]; rfl) ?_
          refine g_iload_n X dX7_write_48 rfl (j := 2) rfl ?_
          refine g_lload_n X dX7_write_49 rfl (j := 3) rfl ?_
          refine g_callVV X (s_X5_put_80 l G F I n7 (by omega) (by omega) p2 act80 act81) lk_X7_396 (F.1 80 (act80)).2 (F.1 80 (act80)).1 rfl rfl dX7_write_50 (Nat.le_of_ble_eq_true rfl) ⟨by decide, by decide⟩ ⟨by decide, by decide⟩ (fun L M hp => ?_)
          obtain ⟨C, D, F, I, K1, hr⟩ := hp
          have K := K.step K1 (by decide)
          refine g_iconst X dX7_write_53 (v := 0) (by decide) ?_
          exact g_iret X hrt dX7_write_54 (by decide) (by decide) ⟨C, D, F, I, K, trivial⟩
        · skip
          have q10 : ¬ n7 < n9 := fun z => q10 ((nI_ltI (a := n7) (b := n9) (by omega) (by omega)).mpr z)
          refine g_bipush X dX7_write_39 (v := -7) (by decide) ?_
          exact g_iret X hrt dX7_write_41 (by decide) (by decide) ⟨C, D, F, I, K, trivial⟩
  · skip
    refine g_iload_n X dX7_write_0 rfl (j := 1) rfl ?_
    refine g_callSI X (s_X7_isSlot_1 l G F I  ) lk_X7_389 rfl rfl dX7_write_1 (Nat.le_of_ble_eq_true rfl) ⟨by decide, by decide⟩ ⟨by decide, by decide⟩ (fun r12 L M hp => ?_)
    obtain ⟨C, D, F, I, K1, hr⟩ := hp
    have K := K.step K1 (by decide)
    subst hr
    refine g_if_ne X dX7_write_4 (tgt := 10) (by decide) (fun _ => ?_) (fun q => absurd q (by decide))
    refine g_aload_n X dX7_write_10 rfl (j := 0) rfl ?_
    refine i_get X F 0 rfl rfl fk_X7_32 dX7_write_11 rfl ?_
    refine g_iload_n X dX7_write_14 rfl (j := 1) rfl ?_
    rcases (Bool.eq_false_or_eq_true (act 82)).symm with hA82 | hA82
    · skip
      refine i_aald X F 24 rfl (t0 := 5) rfl rfl dX7_write_15 (vp_in_iff.mpr (by decide)) (v := .null) (by show va_rf (R 24 1) = _; rw [HR.1 1 (by decide)]; rw [if_neg (by rw [hA82]; decide)]; rfl) ?_
      refine g_ifnonnullN X dX7_write_16 ?_
      refine g_bipush X dX7_write_19 (v := -6) (by decide) ?_
      exact g_iret X hrt dX7_write_21 (by decide) (by decide) ⟨C, D, F, I, K, trivial⟩
    · skip
      have act82 : (baseact 82 || act 82) = true := by rw [hA82]; rfl
      have act83 : (baseact 83 || act 83) = true := by rw [((HR.2.2.1 1 (by decide)).trans hA82)]; rfl
      refine i_aald X F 24 rfl (t0 := 5) rfl rfl dX7_write_15 (vp_in_iff.mpr (by decide)) (v := .ref (a 82)) (by show va_rf (R 24 1) = _; rw [HR.1 1 (by decide)]; rw [if_pos hA82]; rfl) ?_
      refine g_ifnonnull X dX7_write_16 (tgt := 22) (by decide) ?_
      refine g_iload_n X dX7_write_22 rfl (j := 2) rfl ?_
      refine g_if_lt X dX7_write_23 (tgt := 39) (by decide) (fun q14 => ?_) (fun q14 => ?_)
      · skip
        have q14t : p1.toInt < (0 : Int32).toInt := Int32.lt_iff_toInt_lt.mp q14
        have q14k : (0 : Int32).toInt = 0 := (by decide)
        have q14b := Int32.toInt_lt p1
        refine g_bipush X dX7_write_39 (v := -7) (by decide) ?_
        exact g_iret X hrt dX7_write_41 (by decide) (by decide) ⟨C, D, F, I, K, trivial⟩
      · skip
        have q14t : ¬ p1.toInt < (0 : Int32).toInt := fun z => q14 (Int32.lt_iff_toInt_lt.mpr z)
        have q14k : (0 : Int32).toInt = 0 := (by decide)
        have q14b := Int32.toInt_lt p1
        obtain ⟨n15, hn15, rfl⟩ := nI_of (x := p1) (fun z => by have z2 := Int32.lt_iff_toInt_lt.mp z; have z3 : (0 : Int32).toInt = 0 := (by decide); omega)
        rw [nI_toInt (by omega)] at q14t
        have tn15 := nI_toInt (n := n15) (by omega)
        refine g_iload_n X dX7_write_26 rfl (j := 2) rfl ?_
        refine g_aload_n X dX7_write_27 rfl (j := 0) rfl ?_
        refine i_get X F 0 rfl rfl fk_X7_32 dX7_write_28 rfl ?_
        refine g_iload_n X dX7_write_31 rfl (j := 1) rfl ?_
        refine i_aald X F 24 rfl (t0 := 5) rfl rfl dX7_write_32 (vp_in_iff.mpr (by decide)) (v := .ref (a 82)) (by show va_rf (R 24 1) = _; rw [HR.1 1 (by decide)]; rw [if_pos hA82]; rfl) ?_
        obtain ⟨n17, hn17, en17⟩ := rg_nat (I 82 2 rfl) (by decide)
        refine i_get X F 82 (act82) rfl fk_X7_395 dX7_write_33 (v := .int (nI n17)) (congrArg (fun z => some (Value.int z)) en17) ?_
        refine g_icmp_lt X dX7_write_36 (tgt := 42) (by decide) (fun q18 => ?_) (fun q18 => ?_)
        · skip
          have q18 : n15 < n17 := (nI_ltI (a := n15) (b := n17) (by omega) (by omega)).mp q18
          refine g_aload_n X dX7_write_42 rfl (j := 0) rfl ?_
          refine i_get X F 0 rfl rfl fk_X7_32 dX7_write_43 rfl ?_
          refine g_iload_n X dX7_write_46 rfl (j := 1) rfl ?_
          refine i_aald X F 24 rfl (t0 := 5) rfl rfl dX7_write_47 (vp_in_iff.mpr (by decide)) (v := .ref (a 82)) (by show va_rf (R 24 1) = _; rw [HR.1 1 (by decide)]; rw [if_pos hA82]; rfl) ?_
          refine g_iload_n X dX7_write_48 rfl (j := 2) rfl ?_
          refine g_lload_n X dX7_write_49 rfl (j := 3) rfl ?_
          refine g_callVV X (s_X5_put_82 l G F I n15 (by omega) (by omega) p2 act82 act83) lk_X7_396 (F.1 82 (act82)).2 (F.1 82 (act82)).1 rfl rfl dX7_write_50 (Nat.le_of_ble_eq_true rfl) ⟨by decide, by decide⟩ ⟨by decide, by decide⟩ (fun L M hp => ?_)
          obtain ⟨C, D, F, I, K1, hr⟩ := hp
          have K := K.step K1 (by decide)
          refine g_iconst X dX7_write_53 (v := 0) (by decide) ?_
          exact g_iret X hrt dX7_write_54 (by decide) (by decide) ⟨C, D, F, I, K, trivial⟩
        · skip
          have q18 : ¬ n15 < n17 := fun z => q18 ((nI_ltI (a := n15) (b := n17) (by omega) (by omega)).mpr z)
          refine g_bipush X dX7_write_39 (v := -7) (by decide) ?_
          exact g_iret X hrt dX7_write_41 (by decide) (by decide) ⟨C, D, F, I, K, trivial⟩
  · skip
    refine g_iload_n X dX7_write_0 rfl (j := 1) rfl ?_
    refine g_callSI X (s_X7_isSlot_2 l G F I  ) lk_X7_389 rfl rfl dX7_write_1 (Nat.le_of_ble_eq_true rfl) ⟨by decide, by decide⟩ ⟨by decide, by decide⟩ (fun r20 L M hp => ?_)
    obtain ⟨C, D, F, I, K1, hr⟩ := hp
    have K := K.step K1 (by decide)
    subst hr
    refine g_if_ne X dX7_write_4 (tgt := 10) (by decide) (fun _ => ?_) (fun q => absurd q (by decide))
    refine g_aload_n X dX7_write_10 rfl (j := 0) rfl ?_
    refine i_get X F 0 rfl rfl fk_X7_32 dX7_write_11 rfl ?_
    refine g_iload_n X dX7_write_14 rfl (j := 1) rfl ?_
    rcases (Bool.eq_false_or_eq_true (act 84)).symm with hA84 | hA84
    · skip
      refine i_aald X F 24 rfl (t0 := 5) rfl rfl dX7_write_15 (vp_in_iff.mpr (by decide)) (v := .null) (by show va_rf (R 24 2) = _; rw [HR.1 2 (by decide)]; rw [if_neg (by rw [hA84]; decide)]; rfl) ?_
      refine g_ifnonnullN X dX7_write_16 ?_
      refine g_bipush X dX7_write_19 (v := -6) (by decide) ?_
      exact g_iret X hrt dX7_write_21 (by decide) (by decide) ⟨C, D, F, I, K, trivial⟩
    · skip
      have act84 : (baseact 84 || act 84) = true := by rw [hA84]; rfl
      have act85 : (baseact 85 || act 85) = true := by rw [((HR.2.2.1 2 (by decide)).trans hA84)]; rfl
      refine i_aald X F 24 rfl (t0 := 5) rfl rfl dX7_write_15 (vp_in_iff.mpr (by decide)) (v := .ref (a 84)) (by show va_rf (R 24 2) = _; rw [HR.1 2 (by decide)]; rw [if_pos hA84]; rfl) ?_
      refine g_ifnonnull X dX7_write_16 (tgt := 22) (by decide) ?_
      refine g_iload_n X dX7_write_22 rfl (j := 2) rfl ?_
      refine g_if_lt X dX7_write_23 (tgt := 39) (by decide) (fun q22 => ?_) (fun q22 => ?_)
      · skip
        have q22t : p1.toInt < (0 : Int32).toInt := Int32.lt_iff_toInt_lt.mp q22
        have q22k : (0 : Int32).toInt = 0 := (by decide)
        have q22b := Int32.toInt_lt p1
        refine g_bipush X dX7_write_39 (v := -7) (by decide) ?_
        exact g_iret X hrt dX7_write_41 (by decide) (by decide) ⟨C, D, F, I, K, trivial⟩
      · skip
        have q22t : ¬ p1.toInt < (0 : Int32).toInt := fun z => q22 (Int32.lt_iff_toInt_lt.mpr z)
        have q22k : (0 : Int32).toInt = 0 := (by decide)
        have q22b := Int32.toInt_lt p1
        obtain ⟨n23, hn23, rfl⟩ := nI_of (x := p1) (fun z => by have z2 := Int32.lt_iff_toInt_lt.mp z; have z3 : (0 : Int32).toInt = 0 := (by decide); omega)
        rw [nI_toInt (by omega)] at q22t
        have tn23 := nI_toInt (n := n23) (by omega)
        refine g_iload_n X dX7_write_26 rfl (j := 2) rfl ?_
        refine g_aload_n X dX7_write_27 rfl (j := 0) rfl ?_
        refine i_get X F 0 rfl rfl fk_X7_32 dX7_write_28 rfl ?_
        refine g_iload_n X dX7_write_31 rfl (j := 1) rfl ?_
        refine i_aald X F 24 rfl (t0 := 5) rfl rfl dX7_write_32 (vp_in_iff.mpr (by decide)) (v := .ref (a 84)) (by show va_rf (R 24 2) = _; rw [HR.1 2 (by decide)]; rw [if_pos hA84]; rfl) ?_
        obtain ⟨n25, hn25, en25⟩ := rg_nat (I 84 2 rfl) (by decide)
        refine i_get X F 84 (act84) rfl fk_X7_395 dX7_write_33 (v := .int (nI n25)) (congrArg (fun z => some (Value.int z)) en25) ?_
        refine g_icmp_lt X dX7_write_36 (tgt := 42) (by decide) (fun q26 => ?_) (fun q26 => ?_)
        · skip
          have q26 : n23 < n25 := (nI_ltI (a := n23) (b := n25) (by omega) (by omega)).mp q26
          refine g_aload_n X dX7_write_42 rfl (j := 0) rfl ?_
          refine i_get X F 0 rfl rfl fk_X7_32 dX7_write_43 rfl ?_
          refine g_iload_n X dX7_write_46 rfl (j := 1) rfl ?_
          refine i_aald X F 24 rfl (t0 := 5) rfl rfl dX7_write_47 (vp_in_iff.mpr (by decide)) (v := .ref (a 84)) (by show va_rf (R 24 2) = _; rw [HR.1 2 (by decide)]; rw [if_pos hA84]; rfl) ?_
          refine g_iload_n X dX7_write_48 rfl (j := 2) rfl ?_
          refine g_lload_n X dX7_write_49 rfl (j := 3) rfl ?_
          refine g_callVV X (s_X5_put_84 l G F I n23 (by omega) (by omega) p2 act84 act85) lk_X7_396 (F.1 84 (act84)).2 (F.1 84 (act84)).1 rfl rfl dX7_write_50 (Nat.le_of_ble_eq_true rfl) ⟨by decide, by decide⟩ ⟨by decide, by decide⟩ (fun L M hp => ?_)
          obtain ⟨C, D, F, I, K1, hr⟩ := hp
          have K := K.step K1 (by decide)
          refine g_iconst X dX7_write_53 (v := 0) (by decide) ?_
          exact g_iret X hrt dX7_write_54 (by decide) (by decide) ⟨C, D, F, I, K, trivial⟩
        · skip
          have q26 : ¬ n23 < n25 := fun z => q26 ((nI_ltI (a := n23) (b := n25) (by omega) (by omega)).mpr z)
          refine g_bipush X dX7_write_39 (v := -7) (by decide) ?_
          exact g_iret X hrt dX7_write_41 (by decide) (by decide) ⟨C, D, F, I, K, trivial⟩
  · skip
    refine g_iload_n X dX7_write_0 rfl (j := 1) rfl ?_
    refine g_callSI X (s_X7_isSlot_3 l G F I  ) lk_X7_389 rfl rfl dX7_write_1 (Nat.le_of_ble_eq_true rfl) ⟨by decide, by decide⟩ ⟨by decide, by decide⟩ (fun r28 L M hp => ?_)
    obtain ⟨C, D, F, I, K1, hr⟩ := hp
    have K := K.step K1 (by decide)
    subst hr
    refine g_if_ne X dX7_write_4 (tgt := 10) (by decide) (fun _ => ?_) (fun q => absurd q (by decide))
    refine g_aload_n X dX7_write_10 rfl (j := 0) rfl ?_
    refine i_get X F 0 rfl rfl fk_X7_32 dX7_write_11 rfl ?_
    refine g_iload_n X dX7_write_14 rfl (j := 1) rfl ?_
    rcases (Bool.eq_false_or_eq_true (act 86)).symm with hA86 | hA86
    · skip
      refine i_aald X F 24 rfl (t0 := 5) rfl rfl dX7_write_15 (vp_in_iff.mpr (by decide)) (v := .null) (by show va_rf (R 24 3) = _; rw [HR.1 3 (by decide)]; rw [if_neg (by rw [hA86]; decide)]; rfl) ?_
      refine g_ifnonnullN X dX7_write_16 ?_
      refine g_bipush X dX7_write_19 (v := -6) (by decide) ?_
      exact g_iret X hrt dX7_write_21 (by decide) (by decide) ⟨C, D, F, I, K, trivial⟩
    · skip
      have act86 : (baseact 86 || act 86) = true := by rw [hA86]; rfl
      have act87 : (baseact 87 || act 87) = true := by rw [((HR.2.2.1 3 (by decide)).trans hA86)]; rfl
      refine i_aald X F 24 rfl (t0 := 5) rfl rfl dX7_write_15 (vp_in_iff.mpr (by decide)) (v := .ref (a 86)) (by show va_rf (R 24 3) = _; rw [HR.1 3 (by decide)]; rw [if_pos hA86]; rfl) ?_
      refine g_ifnonnull X dX7_write_16 (tgt := 22) (by decide) ?_
      refine g_iload_n X dX7_write_22 rfl (j := 2) rfl ?_
      refine g_if_lt X dX7_write_23 (tgt := 39) (by decide) (fun q30 => ?_) (fun q30 => ?_)
      · skip
        have q30t : p1.toInt < (0 : Int32).toInt := Int32.lt_iff_toInt_lt.mp q30
        have q30k : (0 : Int32).toInt = 0 := (by decide)
        have q30b := Int32.toInt_lt p1
        refine g_bipush X dX7_write_39 (v := -7) (by decide) ?_
        exact g_iret X hrt dX7_write_41 (by decide) (by decide) ⟨C, D, F, I, K, trivial⟩
      · skip
        have q30t : ¬ p1.toInt < (0 : Int32).toInt := fun z => q30 (Int32.lt_iff_toInt_lt.mpr z)
        have q30k : (0 : Int32).toInt = 0 := (by decide)
        have q30b := Int32.toInt_lt p1
        obtain ⟨n31, hn31, rfl⟩ := nI_of (x := p1) (fun z => by have z2 := Int32.lt_iff_toInt_lt.mp z; have z3 : (0 : Int32).toInt = 0 := (by decide); omega)
        rw [nI_toInt (by omega)] at q30t
        have tn31 := nI_toInt (n := n31) (by omega)
        refine g_iload_n X dX7_write_26 rfl (j := 2) rfl ?_
        refine g_aload_n X dX7_write_27 rfl (j := 0) rfl ?_
        refine i_get X F 0 rfl rfl fk_X7_32 dX7_write_28 rfl ?_
        refine g_iload_n X dX7_write_31 rfl (j := 1) rfl ?_
        refine i_aald X F 24 rfl (t0 := 5) rfl rfl dX7_write_32 (vp_in_iff.mpr (by decide)) (v := .ref (a 86)) (by show va_rf (R 24 3) = _; rw [HR.1 3 (by decide)]; rw [if_pos hA86]; rfl) ?_
        obtain ⟨n33, hn33, en33⟩ := rg_nat (I 86 2 rfl) (by decide)
        refine i_get X F 86 (act86) rfl fk_X7_395 dX7_write_33 (v := .int (nI n33)) (congrArg (fun z => some (Value.int z)) en33) ?_
        refine g_icmp_lt X dX7_write_36 (tgt := 42) (by decide) (fun q34 => ?_) (fun q34 => ?_)
        · skip
          have q34 : n31 < n33 := (nI_ltI (a := n31) (b := n33) (by omega) (by omega)).mp q34
          refine g_aload_n X dX7_write_42 rfl (j := 0) rfl ?_
          refine i_get X F 0 rfl rfl fk_X7_32 dX7_write_43 rfl ?_
          refine g_iload_n X dX7_write_46 rfl (j := 1) rfl ?_
          refine i_aald X F 24 rfl (t0 := 5) rfl rfl dX7_write_47 (vp_in_iff.mpr (by decide)) (v := .ref (a 86)) (by show va_rf (R 24 3) = _; rw [HR.1 3 (by decide)]; rw [if_pos hA86]; rfl) ?_
          refine g_iload_n X dX7_write_48 rfl (j := 2) rfl ?_
          refine g_lload_n X dX7_write_49 rfl (j := 3) rfl ?_
          refine g_callVV X (s_X5_put_86 l G F I n31 (by omega) (by omega) p2 act86 act87) lk_X7_396 (F.1 86 (act86)).2 (F.1 86 (act86)).1 rfl rfl dX7_write_50 (Nat.le_of_ble_eq_true rfl) ⟨by decide, by decide⟩ ⟨by decide, by decide⟩ (fun L M hp => ?_)
          obtain ⟨C, D, F, I, K1, hr⟩ := hp
          have K := K.step K1 (by decide)
          refine g_iconst X dX7_write_53 (v := 0) (by decide) ?_
          exact g_iret X hrt dX7_write_54 (by decide) (by decide) ⟨C, D, F, I, K, trivial⟩
        · skip
          have q34 : ¬ n31 < n33 := fun z => q34 ((nI_ltI (a := n31) (b := n33) (by omega) (by omega)).mpr z)
          refine g_bipush X dX7_write_39 (v := -7) (by decide) ?_
          exact g_iret X hrt dX7_write_41 (by decide) (by decide) ⟨C, D, F, I, K, trivial⟩
set_option maxHeartbeats 4000000 in
set_option maxRecDepth 100000 in
theorem s_X7_paste (l : Launch) (G : va_G) {cy : Nat → ClassId} {L : List Nat} {M : Nat → va_E} {a : Nat → Nat} {act : Nat → Bool} {C0 : Nat → Nat → Int32} {D0 : Nat → Nat → Int64} {R : Nat → Nat → Option Nat} (F : WI L M a act (ent cy a C0 D0 R)) (I : Inv C0) (p0 : Int32) (p1 : Int32) (p2 : Int32) (p3 : Int32) (p4 : Int32) (HR : RA a act R) : MI l G cy yX7_paste cX7_paste 8 (some .int) 1 0 0 [.ref (a 0), .int p0, .int p1, .int p2, .int p3, .int p4] L M (fun r L2 M2 => ∃ C2 D2, WI L2 M2 a act (ent cy a C2 D2 R) ∧ Inv C2 ∧ Kp [81, 83, 85, 87] C0 D0 C2 D2 ∧ True) := by
  refine MI.of (own := RX7) rfl (by decide) (Nat.le_of_ble_eq_true rfl) ?_
  intro p e s m below meth c A X hrt hnm
  obtain ⟨C, D, hC0, hD0, F, I, K⟩ : ∃ C D, C = C0 ∧ D = D0 ∧ WI L M a act (ent cy a C D R) ∧ Inv C ∧ Kp [81, 83, 85, 87] C0 D0 C D := ⟨C0, D0, rfl, rfl, F, I, Kp.rf⟩
  rcases sc4 p0 with hx1 | hx1 | rfl | rfl | rfl | rfl
  · skip
    have hno1 : p0 < 0 ∨ 4 ≤ p0 := Or.inl hx1
    rcases sc4 p2 with hx2 | hx2 | rfl | rfl | rfl | rfl
    · skip
      have hno3 : p2 < 0 ∨ 4 ≤ p2 := Or.inl hx2
      refine g_iload_n X dX7_paste_0 rfl (j := 1) rfl ?_
      refine g_callSI X (s_X7_isSlot_x l G F I p0 hno1) lk_X7_389 rfl rfl dX7_paste_1 (Nat.le_of_ble_eq_true rfl) ⟨by decide, by decide⟩ ⟨by decide, by decide⟩ (fun r3 L M hp => ?_)
      obtain ⟨C, D, F, I, K1, hr⟩ := hp
      have K := K.step K1 (by decide)
      subst hr
      refine g_if_eq X dX7_paste_4 (tgt := 14) (by decide) (fun _ => ?_) (fun q => absurd (by decide) q)
      refine g_bipush X dX7_paste_14 (v := -2) (by decide) ?_
      exact g_iret X hrt dX7_paste_16 (by decide) (by decide) ⟨C, D, F, I, K, trivial⟩
    · skip
      have hno3 : p2 < 0 ∨ 4 ≤ p2 := Or.inr hx2
      refine g_iload_n X dX7_paste_0 rfl (j := 1) rfl ?_
      refine g_callSI X (s_X7_isSlot_x l G F I p0 hno1) lk_X7_389 rfl rfl dX7_paste_1 (Nat.le_of_ble_eq_true rfl) ⟨by decide, by decide⟩ ⟨by decide, by decide⟩ (fun r4 L M hp => ?_)
      obtain ⟨C, D, F, I, K1, hr⟩ := hp
      have K := K.step K1 (by decide)
      subst hr
      refine g_if_eq X dX7_paste_4 (tgt := 14) (by decide) (fun _ => ?_) (fun q => absurd (by decide) q)
      refine g_bipush X dX7_paste_14 (v := -2) (by decide) ?_
      exact g_iret X hrt dX7_paste_16 (by decide) (by decide) ⟨C, D, F, I, K, trivial⟩
    · skip
      refine g_iload_n X dX7_paste_0 rfl (j := 1) rfl ?_
      refine g_callSI X (s_X7_isSlot_x l G F I p0 hno1) lk_X7_389 rfl rfl dX7_paste_1 (Nat.le_of_ble_eq_true rfl) ⟨by decide, by decide⟩ ⟨by decide, by decide⟩ (fun r5 L M hp => ?_)
      obtain ⟨C, D, F, I, K1, hr⟩ := hp
      have K := K.step K1 (by decide)
      subst hr
      refine g_if_eq X dX7_paste_4 (tgt := 14) (by decide) (fun _ => ?_) (fun q => absurd (by decide) q)
      refine g_bipush X dX7_paste_14 (v := -2) (by decide) ?_
      exact g_iret X hrt dX7_paste_16 (by decide) (by decide) ⟨C, D, F, I, K, trivial⟩
    · skip
      refine g_iload_n X dX7_paste_0 rfl (j := 1) rfl ?_
      refine g_callSI X (s_X7_isSlot_x l G F I p0 hno1) lk_X7_389 rfl rfl dX7_paste_1 (Nat.le_of_ble_eq_true rfl) ⟨by decide, by decide⟩ ⟨by decide, by decide⟩ (fun r6 L M hp => ?_)
      obtain ⟨C, D, F, I, K1, hr⟩ := hp
      have K := K.step K1 (by decide)
      subst hr
      refine g_if_eq X dX7_paste_4 (tgt := 14) (by decide) (fun _ => ?_) (fun q => absurd (by decide) q)
      refine g_bipush X dX7_paste_14 (v := -2) (by decide) ?_
      exact g_iret X hrt dX7_paste_16 (by decide) (by decide) ⟨C, D, F, I, K, trivial⟩
    · skip
      refine g_iload_n X dX7_paste_0 rfl (j := 1) rfl ?_
      refine g_callSI X (s_X7_isSlot_x l G F I p0 hno1) lk_X7_389 rfl rfl dX7_paste_1 (Nat.le_of_ble_eq_true rfl) ⟨by decide, by decide⟩ ⟨by decide, by decide⟩ (fun r7 L M hp => ?_)
      obtain ⟨C, D, F, I, K1, hr⟩ := hp
      have K := K.step K1 (by decide)
      subst hr
      refine g_if_eq X dX7_paste_4 (tgt := 14) (by decide) (fun _ => ?_) (fun q => absurd (by decide) q)
      refine g_bipush X dX7_paste_14 (v := -2) (by decide) ?_
      exact g_iret X hrt dX7_paste_16 (by decide) (by decide) ⟨C, D, F, I, K, trivial⟩
    · skip
      refine g_iload_n X dX7_paste_0 rfl (j := 1) rfl ?_
      refine g_callSI X (s_X7_isSlot_x l G F I p0 hno1) lk_X7_389 rfl rfl dX7_paste_1 (Nat.le_of_ble_eq_true rfl) ⟨by decide, by decide⟩ ⟨by decide, by decide⟩ (fun r8 L M hp => ?_)
      obtain ⟨C, D, F, I, K1, hr⟩ := hp
      have K := K.step K1 (by decide)
      subst hr
      refine g_if_eq X dX7_paste_4 (tgt := 14) (by decide) (fun _ => ?_) (fun q => absurd (by decide) q)
      refine g_bipush X dX7_paste_14 (v := -2) (by decide) ?_
      exact g_iret X hrt dX7_paste_16 (by decide) (by decide) ⟨C, D, F, I, K, trivial⟩
  · skip
    have hno1 : p0 < 0 ∨ 4 ≤ p0 := Or.inr hx1
    rcases sc4 p2 with hx9 | hx9 | rfl | rfl | rfl | rfl
    · skip
      have hno3 : p2 < 0 ∨ 4 ≤ p2 := Or.inl hx9
      refine g_iload_n X dX7_paste_0 rfl (j := 1) rfl ?_
      refine g_callSI X (s_X7_isSlot_x l G F I p0 hno1) lk_X7_389 rfl rfl dX7_paste_1 (Nat.le_of_ble_eq_true rfl) ⟨by decide, by decide⟩ ⟨by decide, by decide⟩ (fun r10 L M hp => ?_)
      obtain ⟨C, D, F, I, K1, hr⟩ := hp
      have K := K.step K1 (by decide)
      subst hr
      refine g_if_eq X dX7_paste_4 (tgt := 14) (by decide) (fun _ => ?_) (fun q => absurd (by decide) q)
      refine g_bipush X dX7_paste_14 (v := -2) (by decide) ?_
      exact g_iret X hrt dX7_paste_16 (by decide) (by decide) ⟨C, D, F, I, K, trivial⟩
    · skip
      have hno3 : p2 < 0 ∨ 4 ≤ p2 := Or.inr hx9
      refine g_iload_n X dX7_paste_0 rfl (j := 1) rfl ?_
      refine g_callSI X (s_X7_isSlot_x l G F I p0 hno1) lk_X7_389 rfl rfl dX7_paste_1 (Nat.le_of_ble_eq_true rfl) ⟨by decide, by decide⟩ ⟨by decide, by decide⟩ (fun r11 L M hp => ?_)
      obtain ⟨C, D, F, I, K1, hr⟩ := hp
      have K := K.step K1 (by decide)
      subst hr
      refine g_if_eq X dX7_paste_4 (tgt := 14) (by decide) (fun _ => ?_) (fun q => absurd (by decide) q)
      refine g_bipush X dX7_paste_14 (v := -2) (by decide) ?_
      exact g_iret X hrt dX7_paste_16 (by decide) (by decide) ⟨C, D, F, I, K, trivial⟩
    · skip
      refine g_iload_n X dX7_paste_0 rfl (j := 1) rfl ?_
      refine g_callSI X (s_X7_isSlot_x l G F I p0 hno1) lk_X7_389 rfl rfl dX7_paste_1 (Nat.le_of_ble_eq_true rfl) ⟨by decide, by decide⟩ ⟨by decide, by decide⟩ (fun r12 L M hp => ?_)
      obtain ⟨C, D, F, I, K1, hr⟩ := hp
      have K := K.step K1 (by decide)
      subst hr
      refine g_if_eq X dX7_paste_4 (tgt := 14) (by decide) (fun _ => ?_) (fun q => absurd (by decide) q)
      refine g_bipush X dX7_paste_14 (v := -2) (by decide) ?_
      exact g_iret X hrt dX7_paste_16 (by decide) (by decide) ⟨C, D, F, I, K, trivial⟩
    · skip
      refine g_iload_n X dX7_paste_0 rfl (j := 1) rfl ?_
      refine g_callSI X (s_X7_isSlot_x l G F I p0 hno1) lk_X7_389 rfl rfl dX7_paste_1 (Nat.le_of_ble_eq_true rfl) ⟨by decide, by decide⟩ ⟨by decide, by decide⟩ (fun r13 L M hp => ?_)
      obtain ⟨C, D, F, I, K1, hr⟩ := hp
      have K := K.step K1 (by decide)
      subst hr
      refine g_if_eq X dX7_paste_4 (tgt := 14) (by decide) (fun _ => ?_) (fun q => absurd (by decide) q)
      refine g_bipush X dX7_paste_14 (v := -2) (by decide) ?_
      exact g_iret X hrt dX7_paste_16 (by decide) (by decide) ⟨C, D, F, I, K, trivial⟩
    · skip
      refine g_iload_n X dX7_paste_0 rfl (j := 1) rfl ?_
      refine g_callSI X (s_X7_isSlot_x l G F I p0 hno1) lk_X7_389 rfl rfl dX7_paste_1 (Nat.le_of_ble_eq_true rfl) ⟨by decide, by decide⟩ ⟨by decide, by decide⟩ (fun r14 L M hp => ?_)
      obtain ⟨C, D, F, I, K1, hr⟩ := hp
      have K := K.step K1 (by decide)
      subst hr
      refine g_if_eq X dX7_paste_4 (tgt := 14) (by decide) (fun _ => ?_) (fun q => absurd (by decide) q)
      refine g_bipush X dX7_paste_14 (v := -2) (by decide) ?_
      exact g_iret X hrt dX7_paste_16 (by decide) (by decide) ⟨C, D, F, I, K, trivial⟩
    · skip
      refine g_iload_n X dX7_paste_0 rfl (j := 1) rfl ?_
      refine g_callSI X (s_X7_isSlot_x l G F I p0 hno1) lk_X7_389 rfl rfl dX7_paste_1 (Nat.le_of_ble_eq_true rfl) ⟨by decide, by decide⟩ ⟨by decide, by decide⟩ (fun r15 L M hp => ?_)
      obtain ⟨C, D, F, I, K1, hr⟩ := hp
      have K := K.step K1 (by decide)
      subst hr
      refine g_if_eq X dX7_paste_4 (tgt := 14) (by decide) (fun _ => ?_) (fun q => absurd (by decide) q)
      refine g_bipush X dX7_paste_14 (v := -2) (by decide) ?_
      exact g_iret X hrt dX7_paste_16 (by decide) (by decide) ⟨C, D, F, I, K, trivial⟩
  · skip
    rcases sc4 p2 with hx16 | hx16 | rfl | rfl | rfl | rfl
    · skip
      have hno3 : p2 < 0 ∨ 4 ≤ p2 := Or.inl hx16
      refine g_iload_n X dX7_paste_0 rfl (j := 1) rfl ?_
      refine g_callSI X (s_X7_isSlot_0 l G F I  ) lk_X7_389 rfl rfl dX7_paste_1 (Nat.le_of_ble_eq_true rfl) ⟨by decide, by decide⟩ ⟨by decide, by decide⟩ (fun r17 L M hp => ?_)
      obtain ⟨C, D, F, I, K1, hr⟩ := hp
      have K := K.step K1 (by decide)
      subst hr
      refine g_if_eq X dX7_paste_4 (tgt := 14) (by decide) (fun q => absurd q (by decide)) (fun _ => ?_)
      refine g_iload_n X dX7_paste_7 rfl (j := 3) rfl ?_
      refine g_callSI X (s_X7_isSlot_x l G F I p2 hno3) lk_X7_389 rfl rfl dX7_paste_8 (Nat.le_of_ble_eq_true rfl) ⟨by decide, by decide⟩ ⟨by decide, by decide⟩ (fun r18 L M hp => ?_)
      obtain ⟨C, D, F, I, K1, hr⟩ := hp
      have K := K.step K1 (by decide)
      subst hr
      refine g_if_ne X dX7_paste_11 (tgt := 17) (by decide) (fun q => absurd (by decide) q) (fun _ => ?_)
      refine g_bipush X dX7_paste_14 (v := -2) (by decide) ?_
      exact g_iret X hrt dX7_paste_16 (by decide) (by decide) ⟨C, D, F, I, K, trivial⟩
    · skip
      have hno3 : p2 < 0 ∨ 4 ≤ p2 := Or.inr hx16
      refine g_iload_n X dX7_paste_0 rfl (j := 1) rfl ?_
      refine g_callSI X (s_X7_isSlot_0 l G F I  ) lk_X7_389 rfl rfl dX7_paste_1 (Nat.le_of_ble_eq_true rfl) ⟨by decide, by decide⟩ ⟨by decide, by decide⟩ (fun r19 L M hp => ?_)
      obtain ⟨C, D, F, I, K1, hr⟩ := hp
      have K := K.step K1 (by decide)
      subst hr
      refine g_if_eq X dX7_paste_4 (tgt := 14) (by decide) (fun q => absurd q (by decide)) (fun _ => ?_)
      refine g_iload_n X dX7_paste_7 rfl (j := 3) rfl ?_
      refine g_callSI X (s_X7_isSlot_x l G F I p2 hno3) lk_X7_389 rfl rfl dX7_paste_8 (Nat.le_of_ble_eq_true rfl) ⟨by decide, by decide⟩ ⟨by decide, by decide⟩ (fun r20 L M hp => ?_)
      obtain ⟨C, D, F, I, K1, hr⟩ := hp
      have K := K.step K1 (by decide)
      subst hr
      refine g_if_ne X dX7_paste_11 (tgt := 17) (by decide) (fun q => absurd (by decide) q) (fun _ => ?_)
      refine g_bipush X dX7_paste_14 (v := -2) (by decide) ?_
      exact g_iret X hrt dX7_paste_16 (by decide) (by decide) ⟨C, D, F, I, K, trivial⟩
    · skip
      refine g_iload_n X dX7_paste_0 rfl (j := 1) rfl ?_
      refine g_callSI X (s_X7_isSlot_0 l G F I  ) lk_X7_389 rfl rfl dX7_paste_1 (Nat.le_of_ble_eq_true rfl) ⟨by decide, by decide⟩ ⟨by decide, by decide⟩ (fun r21 L M hp => ?_)
      obtain ⟨C, D, F, I, K1, hr⟩ := hp
      have K := K.step K1 (by decide)
      subst hr
      refine g_if_eq X dX7_paste_4 (tgt := 14) (by decide) (fun q => absurd q (by decide)) (fun _ => ?_)
      refine g_iload_n X dX7_paste_7 rfl (j := 3) rfl ?_
      refine g_callSI X (s_X7_isSlot_0 l G F I  ) lk_X7_389 rfl rfl dX7_paste_8 (Nat.le_of_ble_eq_true rfl) ⟨by decide, by decide⟩ ⟨by decide, by decide⟩ (fun r22 L M hp => ?_)
      obtain ⟨C, D, F, I, K1, hr⟩ := hp
      have K := K.step K1 (by decide)
      subst hr
      refine g_if_ne X dX7_paste_11 (tgt := 17) (by decide) (fun _ => ?_) (fun q => absurd q (by decide))
      refine g_aload_n X dX7_paste_17 rfl (j := 0) rfl ?_
      refine i_get X F 0 rfl rfl fk_X7_32 dX7_paste_18 rfl ?_
      refine g_iload_n X dX7_paste_21 rfl (j := 1) rfl ?_
      rcases (Bool.eq_false_or_eq_true (act 80)).symm with hA80 | hA80
      · skip
        refine i_aald X F 24 rfl (t0 := 5) rfl rfl dX7_paste_22 (vp_in_iff.mpr (by decide)) (v := .null) (by show va_rf (R 24 0) = _; rw [HR.1 0 (by decide)]; rw [if_neg (by rw [hA80]; decide)]; rfl) ?_
        refine g_astoreN X dX7_paste_23 (by decide) (lv2 := [(6, .null), (0, .ref (a 0)), (1, .int 0), (2, .int p1), (3, .int 0), (4, .int p3), (5, .int p4)]) rfl ?_
        refine g_aload_n X dX7_paste_25 rfl (j := 1) rfl ?_
        refine i_get X F 0 rfl rfl fk_X7_32 dX7_paste_26 rfl ?_
        refine g_iload_n X dX7_paste_29 rfl (j := 4) rfl ?_
        refine i_aald X F 24 rfl (t0 := 5) rfl rfl dX7_paste_30 (vp_in_iff.mpr (by decide)) (v := .null) (by show va_rf (R 24 0) = _; rw [HR.1 0 (by decide)]; rw [if_neg (by rw [hA80]; decide)]; rfl) ?_
        refine g_astoreN X dX7_paste_31 (by decide) (lv2 := [(7, .null), (6, .null), (0, .ref (a 0)), (1, .int 0), (2, .int p1), (3, .int 0), (4, .int p3), (5, .int p4)]) rfl ?_
        refine g_aloadN X dX7_paste_33 (j := 1) rfl ?_
        refine g_ifnullN X dX7_paste_35 (tgt := 43) (by decide) ?_
        refine g_bipush X dX7_paste_43 (v := -6) (by decide) ?_
        exact g_iret X hrt dX7_paste_45 (by decide) (by decide) ⟨C, D, F, I, K, trivial⟩
      · skip
        have act80 : (baseact 80 || act 80) = true := by rw [hA80]; rfl
        have act81 : (baseact 81 || act 81) = true := by rw [((HR.2.2.1 0 (by decide)).trans hA80)]; rfl
        refine i_aald X F 24 rfl (t0 := 5) rfl rfl dX7_paste_22 (vp_in_iff.mpr (by decide)) (v := .ref (a 80)) (by show va_rf (R 24 0) = _; rw [HR.1 0 (by decide)]; rw [if_pos hA80]; rfl) ?_
        refine g_astore X dX7_paste_23 (by decide) (lv2 := [(6, .ref (a 80)), (0, .ref (a 0)), (1, .int 0), (2, .int p1), (3, .int 0), (4, .int p3), (5, .int p4)]) rfl ?_
        refine g_aload_n X dX7_paste_25 rfl (j := 1) rfl ?_
        refine i_get X F 0 rfl rfl fk_X7_32 dX7_paste_26 rfl ?_
        refine g_iload_n X dX7_paste_29 rfl (j := 4) rfl ?_
        refine i_aald X F 24 rfl (t0 := 5) rfl rfl dX7_paste_30 (vp_in_iff.mpr (by decide)) (v := .ref (a 80)) (by show va_rf (R 24 0) = _; rw [HR.1 0 (by decide)]; rw [if_pos hA80]; rfl) ?_
        refine g_astore X dX7_paste_31 (by decide) (lv2 := [(7, .ref (a 80)), (6, .ref (a 80)), (0, .ref (a 0)), (1, .int 0), (2, .int p1), (3, .int 0), (4, .int p3), (5, .int p4)]) rfl ?_
        refine g_aload X dX7_paste_33 (j := 1) rfl ?_
        refine g_ifnull X dX7_paste_35 ?_
        refine g_aload X dX7_paste_38 (j := 0) rfl ?_
        refine g_ifnonnull X dX7_paste_40 (tgt := 46) (by decide) ?_
        refine g_aload X dX7_paste_46 (j := 1) rfl ?_
        refine i_get X F 80 (act80) rfl fk_X7_400 dX7_paste_48 rfl ?_
        refine Go.gen (fun o26 => ?_)
        refine g_aload X dX7_paste_51 (j := 0) rfl ?_
        refine i_get X F 80 (act80) rfl fk_X7_400 dX7_paste_53 rfl ?_
        refine Go.gen (fun o27 => ?_)
        refine g_icmp_eq X dX7_paste_56 (tgt := 62) (by decide) (fun q28 => ?_) (fun q28 => ?_)
        · skip
          refine g_aload X dX7_paste_62 (j := 1) rfl ?_
          refine g_iload_n X dX7_paste_64 rfl (j := 4) rfl ?_
          refine g_iload X dX7_paste_65 (j := 7) rfl ?_
          refine g_callVI X (s_X5_hasPart_80 l G F I p1 p4 act80) lk_X7_403 (F.1 80 (act80)).2 (F.1 80 (act80)).1 rfl rfl dX7_paste_67 (Nat.le_of_ble_eq_true rfl) ⟨by decide, by decide⟩ ⟨by decide, by decide⟩ (fun r29 L M hp => ?_)
          obtain ⟨C, D, F, I, K1, hr⟩ := hp
          have K := K.step K1 (by decide)
          rcases hr with ⟨rfl, hp30⟩ | ⟨rfl, hp30⟩
          · skip
            rw [(K 80 (by decide)).1] at hp30
            refine g_if_eq X dX7_paste_70 (tgt := 85) (by decide) (fun _ => ?_) (fun q => absurd (by decide) q)
            refine g_bipush X dX7_paste_85 (v := -7) (by decide) ?_
            exact g_iret X hrt dX7_paste_87 (by decide) (by decide) ⟨C, D, F, I, K, trivial⟩
          · skip
            rw [(K 80 (by decide)).1] at hp30
            refine g_if_eq X dX7_paste_70 (tgt := 85) (by decide) (fun q => absurd q (by decide)) (fun _ => ?_)
            refine g_aload X dX7_paste_73 (j := 0) rfl ?_
            refine g_iload X dX7_paste_75 (j := 6) rfl ?_
            refine g_iload X dX7_paste_77 (j := 7) rfl ?_
            refine g_callVI X (s_X5_hasPart_80 l G F I p3 p4 act80) lk_X7_403 (F.1 80 (act80)).2 (F.1 80 (act80)).1 rfl rfl dX7_paste_79 (Nat.le_of_ble_eq_true rfl) ⟨by decide, by decide⟩ ⟨by decide, by decide⟩ (fun r31 L M hp => ?_)
            obtain ⟨C, D, F, I, K1, hr⟩ := hp
            have K := K.step K1 (by decide)
            rcases hr with ⟨rfl, hp32⟩ | ⟨rfl, hp32⟩
            · skip
              rw [(K 80 (by decide)).1] at hp32
              refine g_if_ne X dX7_paste_82 (tgt := 88) (by decide) (fun q => absurd (by decide) q) (fun _ => ?_)
              refine g_bipush X dX7_paste_85 (v := -7) (by decide) ?_
              exact g_iret X hrt dX7_paste_87 (by decide) (by decide) ⟨C, D, F, I, K, trivial⟩
            · skip
              rw [(K 80 (by decide)).1] at hp32
              refine g_if_ne X dX7_paste_82 (tgt := 88) (by decide) (fun _ => ?_) (fun q => absurd q (by decide))
              have hz80 := (show (C0 80 2).toInt ≤ 60 from (by have z := I 80 2 rfl; rw [(K 80 (by decide)).1] at z; exact z.2))
              have hz80 := (show (C0 80 2).toInt ≤ 60 from (by have z := I 80 2 rfl; rw [(K 80 (by decide)).1] at z; exact z.2))
              obtain ⟨n33, hn33a, hn33b, en33⟩ := nI_ofInt (x := p1) (lo := 0) (hi := 60) (by omega) (by omega) (by decide)
              subst en33
              have tn33 := nI_toInt (n := n33) (by omega)
              obtain ⟨n34, hn34a, hn34b, en34⟩ := nI_ofInt (x := p3) (lo := 0) (hi := 60) (by omega) (by omega) (by decide)
              subst en34
              have tn34 := nI_toInt (n := n34) (by omega)
              obtain ⟨n35, hn35a, hn35b, en35⟩ := nI_ofInt (x := p4) (lo := 0) (hi := 60) (by omega) (by omega) (by decide)
              subst en35
              have tn35 := nI_toInt (n := n35) (by omega)
              refine g_aload X dX7_paste_88 (j := 1) rfl ?_
              refine i_get X F 80 (act80) rfl fk_X7_406 dX7_paste_90 rfl ?_
              refine g_iload_n X dX7_paste_93 rfl (j := 4) rfl ?_
              refine g_aload X dX7_paste_94 (j := 0) rfl ?_
              refine i_get X F 80 (act80) rfl fk_X7_406 dX7_paste_96 rfl ?_
              refine g_iload X dX7_paste_99 (j := 6) rfl ?_
              refine g_iload X dX7_paste_101 (j := 7) rfl ?_
              refine i_copyl X F 81 (act81) 81 (act81) rfl (fun _ => rfl) (t0 := 2) rfl rfl wd604 wd87 wd88 wd89 (nI_pos (by omega)) (nI_pos (by omega)) (nI_pos (by omega)) (by rw [nI_clamp (show n33 < 2 ^ 31 by omega), nI_clamp (show n35 < 2 ^ 31 by omega)]; omega) (by rw [nI_clamp (show n34 < 2 ^ 31 by omega), nI_clamp (show n35 < 2 ^ 31 by omega)]; omega) (fun _ _ => rfl) (by decide) (Nat.le_of_ble_eq_true rfl) dX7_paste_103 (fun M D F K1 => ?_)
              have K := K.step K1 (by decide)
              refine g_iconst X dX7_paste_106 (v := 0) (by decide) ?_
              exact g_iret X hrt dX7_paste_107 (by decide) (by decide) ⟨C, D, F, I, K, trivial⟩
        · skip
          refine g_bipush X dX7_paste_59 (v := -8) (by decide) ?_
          exact g_iret X hrt dX7_paste_61 (by decide) (by decide) ⟨C, D, F, I, K, trivial⟩
    · skip
      refine g_iload_n X dX7_paste_0 rfl (j := 1) rfl ?_
      refine g_callSI X (s_X7_isSlot_0 l G F I  ) lk_X7_389 rfl rfl dX7_paste_1 (Nat.le_of_ble_eq_true rfl) ⟨by decide, by decide⟩ ⟨by decide, by decide⟩ (fun r36 L M hp => ?_)
      obtain ⟨C, D, F, I, K1, hr⟩ := hp
      have K := K.step K1 (by decide)
      subst hr
      refine g_if_eq X dX7_paste_4 (tgt := 14) (by decide) (fun q => absurd q (by decide)) (fun _ => ?_)
      refine g_iload_n X dX7_paste_7 rfl (j := 3) rfl ?_
      refine g_callSI X (s_X7_isSlot_1 l G F I  ) lk_X7_389 rfl rfl dX7_paste_8 (Nat.le_of_ble_eq_true rfl) ⟨by decide, by decide⟩ ⟨by decide, by decide⟩ (fun r37 L M hp => ?_)
      obtain ⟨C, D, F, I, K1, hr⟩ := hp
      have K := K.step K1 (by decide)
      subst hr
      refine g_if_ne X dX7_paste_11 (tgt := 17) (by decide) (fun _ => ?_) (fun q => absurd q (by decide))
      refine g_aload_n X dX7_paste_17 rfl (j := 0) rfl ?_
      refine i_get X F 0 rfl rfl fk_X7_32 dX7_paste_18 rfl ?_
      refine g_iload_n X dX7_paste_21 rfl (j := 1) rfl ?_
      rcases (Bool.eq_false_or_eq_true (act 80)).symm with hA80 | hA80
      · skip
        refine i_aald X F 24 rfl (t0 := 5) rfl rfl dX7_paste_22 (vp_in_iff.mpr (by decide)) (v := .null) (by show va_rf (R 24 0) = _; rw [HR.1 0 (by decide)]; rw [if_neg (by rw [hA80]; decide)]; rfl) ?_
        refine g_astoreN X dX7_paste_23 (by decide) (lv2 := [(6, .null), (0, .ref (a 0)), (1, .int 0), (2, .int p1), (3, .int 1), (4, .int p3), (5, .int p4)]) rfl ?_
        refine g_aload_n X dX7_paste_25 rfl (j := 1) rfl ?_
        refine i_get X F 0 rfl rfl fk_X7_32 dX7_paste_26 rfl ?_
        refine g_iload_n X dX7_paste_29 rfl (j := 4) rfl ?_
        rcases (Bool.eq_false_or_eq_true (act 82)).symm with hA82 | hA82
        · skip
          refine i_aald X F 24 rfl (t0 := 5) rfl rfl dX7_paste_30 (vp_in_iff.mpr (by decide)) (v := .null) (by show va_rf (R 24 1) = _; rw [HR.1 1 (by decide)]; rw [if_neg (by rw [hA82]; decide)]; rfl) ?_
          refine g_astoreN X dX7_paste_31 (by decide) (lv2 := [(7, .null), (6, .null), (0, .ref (a 0)), (1, .int 0), (2, .int p1), (3, .int 1), (4, .int p3), (5, .int p4)]) rfl ?_
          refine g_aloadN X dX7_paste_33 (j := 1) rfl ?_
          refine g_ifnullN X dX7_paste_35 (tgt := 43) (by decide) ?_
          refine g_bipush X dX7_paste_43 (v := -6) (by decide) ?_
          exact g_iret X hrt dX7_paste_45 (by decide) (by decide) ⟨C, D, F, I, K, trivial⟩
        · skip
          have act82 : (baseact 82 || act 82) = true := by rw [hA82]; rfl
          have act83 : (baseact 83 || act 83) = true := by rw [((HR.2.2.1 1 (by decide)).trans hA82)]; rfl
          refine i_aald X F 24 rfl (t0 := 5) rfl rfl dX7_paste_30 (vp_in_iff.mpr (by decide)) (v := .ref (a 82)) (by show va_rf (R 24 1) = _; rw [HR.1 1 (by decide)]; rw [if_pos hA82]; rfl) ?_
          refine g_astore X dX7_paste_31 (by decide) (lv2 := [(7, .ref (a 82)), (6, .null), (0, .ref (a 0)), (1, .int 0), (2, .int p1), (3, .int 1), (4, .int p3), (5, .int p4)]) rfl ?_
          refine g_aloadN X dX7_paste_33 (j := 1) rfl ?_
          refine g_ifnullN X dX7_paste_35 (tgt := 43) (by decide) ?_
          refine g_bipush X dX7_paste_43 (v := -6) (by decide) ?_
          exact g_iret X hrt dX7_paste_45 (by decide) (by decide) ⟨C, D, F, I, K, trivial⟩
      · skip
        have act80 : (baseact 80 || act 80) = true := by rw [hA80]; rfl
        have act81 : (baseact 81 || act 81) = true := by rw [((HR.2.2.1 0 (by decide)).trans hA80)]; rfl
        refine i_aald X F 24 rfl (t0 := 5) rfl rfl dX7_paste_22 (vp_in_iff.mpr (by decide)) (v := .ref (a 80)) (by show va_rf (R 24 0) = _; rw [HR.1 0 (by decide)]; rw [if_pos hA80]; rfl) ?_
        refine g_astore X dX7_paste_23 (by decide) (lv2 := [(6, .ref (a 80)), (0, .ref (a 0)), (1, .int 0), (2, .int p1), (3, .int 1), (4, .int p3), (5, .int p4)]) rfl ?_
        refine g_aload_n X dX7_paste_25 rfl (j := 1) rfl ?_
        refine i_get X F 0 rfl rfl fk_X7_32 dX7_paste_26 rfl ?_
        refine g_iload_n X dX7_paste_29 rfl (j := 4) rfl ?_
        rcases (Bool.eq_false_or_eq_true (act 82)).symm with hA82 | hA82
        · skip
          refine i_aald X F 24 rfl (t0 := 5) rfl rfl dX7_paste_30 (vp_in_iff.mpr (by decide)) (v := .null) (by show va_rf (R 24 1) = _; rw [HR.1 1 (by decide)]; rw [if_neg (by rw [hA82]; decide)]; rfl) ?_
          refine g_astoreN X dX7_paste_31 (by decide) (lv2 := [(7, .null), (6, .ref (a 80)), (0, .ref (a 0)), (1, .int 0), (2, .int p1), (3, .int 1), (4, .int p3), (5, .int p4)]) rfl ?_
          refine g_aload X dX7_paste_33 (j := 1) rfl ?_
          refine g_ifnull X dX7_paste_35 ?_
          refine g_aloadN X dX7_paste_38 (j := 0) rfl ?_
          refine g_ifnonnullN X dX7_paste_40 ?_
          refine g_bipush X dX7_paste_43 (v := -6) (by decide) ?_
          exact g_iret X hrt dX7_paste_45 (by decide) (by decide) ⟨C, D, F, I, K, trivial⟩
        · skip
          have act82 : (baseact 82 || act 82) = true := by rw [hA82]; rfl
          have act83 : (baseact 83 || act 83) = true := by rw [((HR.2.2.1 1 (by decide)).trans hA82)]; rfl
          refine i_aald X F 24 rfl (t0 := 5) rfl rfl dX7_paste_30 (vp_in_iff.mpr (by decide)) (v := .ref (a 82)) (by show va_rf (R 24 1) = _; rw [HR.1 1 (by decide)]; rw [if_pos hA82]; rfl) ?_
          refine g_astore X dX7_paste_31 (by decide) (lv2 := [(7, .ref (a 82)), (6, .ref (a 80)), (0, .ref (a 0)), (1, .int 0), (2, .int p1), (3, .int 1), (4, .int p3), (5, .int p4)]) rfl ?_
          refine g_aload X dX7_paste_33 (j := 1) rfl ?_
          refine g_ifnull X dX7_paste_35 ?_
          refine g_aload X dX7_paste_38 (j := 0) rfl ?_
          refine g_ifnonnull X dX7_paste_40 (tgt := 46) (by decide) ?_
          refine g_aload X dX7_paste_46 (j := 1) rfl ?_
          refine i_get X F 80 (act80) rfl fk_X7_400 dX7_paste_48 rfl ?_
          refine Go.gen (fun o41 => ?_)
          refine g_aload X dX7_paste_51 (j := 0) rfl ?_
          refine i_get X F 82 (act82) rfl fk_X7_400 dX7_paste_53 rfl ?_
          refine Go.gen (fun o42 => ?_)
          refine g_icmp_eq X dX7_paste_56 (tgt := 62) (by decide) (fun q43 => ?_) (fun q43 => ?_)
          · skip
            refine g_aload X dX7_paste_62 (j := 1) rfl ?_
            refine g_iload_n X dX7_paste_64 rfl (j := 4) rfl ?_
            refine g_iload X dX7_paste_65 (j := 7) rfl ?_
            refine g_callVI X (s_X5_hasPart_80 l G F I p1 p4 act80) lk_X7_403 (F.1 80 (act80)).2 (F.1 80 (act80)).1 rfl rfl dX7_paste_67 (Nat.le_of_ble_eq_true rfl) ⟨by decide, by decide⟩ ⟨by decide, by decide⟩ (fun r44 L M hp => ?_)
            obtain ⟨C, D, F, I, K1, hr⟩ := hp
            have K := K.step K1 (by decide)
            rcases hr with ⟨rfl, hp45⟩ | ⟨rfl, hp45⟩
            · skip
              rw [(K 80 (by decide)).1] at hp45
              refine g_if_eq X dX7_paste_70 (tgt := 85) (by decide) (fun _ => ?_) (fun q => absurd (by decide) q)
              refine g_bipush X dX7_paste_85 (v := -7) (by decide) ?_
              exact g_iret X hrt dX7_paste_87 (by decide) (by decide) ⟨C, D, F, I, K, trivial⟩
            · skip
              rw [(K 80 (by decide)).1] at hp45
              refine g_if_eq X dX7_paste_70 (tgt := 85) (by decide) (fun q => absurd q (by decide)) (fun _ => ?_)
              refine g_aload X dX7_paste_73 (j := 0) rfl ?_
              refine g_iload X dX7_paste_75 (j := 6) rfl ?_
              refine g_iload X dX7_paste_77 (j := 7) rfl ?_
              refine g_callVI X (s_X5_hasPart_82 l G F I p3 p4 act82) lk_X7_403 (F.1 82 (act82)).2 (F.1 82 (act82)).1 rfl rfl dX7_paste_79 (Nat.le_of_ble_eq_true rfl) ⟨by decide, by decide⟩ ⟨by decide, by decide⟩ (fun r46 L M hp => ?_)
              obtain ⟨C, D, F, I, K1, hr⟩ := hp
              have K := K.step K1 (by decide)
              rcases hr with ⟨rfl, hp47⟩ | ⟨rfl, hp47⟩
              · skip
                rw [(K 82 (by decide)).1] at hp47
                refine g_if_ne X dX7_paste_82 (tgt := 88) (by decide) (fun q => absurd (by decide) q) (fun _ => ?_)
                refine g_bipush X dX7_paste_85 (v := -7) (by decide) ?_
                exact g_iret X hrt dX7_paste_87 (by decide) (by decide) ⟨C, D, F, I, K, trivial⟩
              · skip
                rw [(K 82 (by decide)).1] at hp47
                refine g_if_ne X dX7_paste_82 (tgt := 88) (by decide) (fun _ => ?_) (fun q => absurd q (by decide))
                have hz80 := (show (C0 80 2).toInt ≤ 60 from (by have z := I 80 2 rfl; rw [(K 80 (by decide)).1] at z; exact z.2))
                have hz82 := (show (C0 82 2).toInt ≤ 60 from (by have z := I 82 2 rfl; rw [(K 82 (by decide)).1] at z; exact z.2))
                obtain ⟨n48, hn48a, hn48b, en48⟩ := nI_ofInt (x := p1) (lo := 0) (hi := 60) (by omega) (by omega) (by decide)
                subst en48
                have tn48 := nI_toInt (n := n48) (by omega)
                obtain ⟨n49, hn49a, hn49b, en49⟩ := nI_ofInt (x := p3) (lo := 0) (hi := 60) (by omega) (by omega) (by decide)
                subst en49
                have tn49 := nI_toInt (n := n49) (by omega)
                obtain ⟨n50, hn50a, hn50b, en50⟩ := nI_ofInt (x := p4) (lo := 0) (hi := 60) (by omega) (by omega) (by decide)
                subst en50
                have tn50 := nI_toInt (n := n50) (by omega)
                refine g_aload X dX7_paste_88 (j := 1) rfl ?_
                refine i_get X F 80 (act80) rfl fk_X7_406 dX7_paste_90 rfl ?_
                refine g_iload_n X dX7_paste_93 rfl (j := 4) rfl ?_
                refine g_aload X dX7_paste_94 (j := 0) rfl ?_
                refine i_get X F 82 (act82) rfl fk_X7_406 dX7_paste_96 rfl ?_
                refine g_iload X dX7_paste_99 (j := 6) rfl ?_
                refine g_iload X dX7_paste_101 (j := 7) rfl ?_
                refine i_copyl X F 81 (act81) 83 (act83) rfl (fun _ => rfl) (t0 := 2) rfl rfl wd604 wd87 wd88 wd89 (nI_pos (by omega)) (nI_pos (by omega)) (nI_pos (by omega)) (by rw [nI_clamp (show n48 < 2 ^ 31 by omega), nI_clamp (show n50 < 2 ^ 31 by omega)]; omega) (by rw [nI_clamp (show n49 < 2 ^ 31 by omega), nI_clamp (show n50 < 2 ^ 31 by omega)]; omega) (fun _ _ => rfl) (by decide) (Nat.le_of_ble_eq_true rfl) dX7_paste_103 (fun M D F K1 => ?_)
                have K := K.step K1 (by decide)
                refine g_iconst X dX7_paste_106 (v := 0) (by decide) ?_
                exact g_iret X hrt dX7_paste_107 (by decide) (by decide) ⟨C, D, F, I, K, trivial⟩
          · skip
            refine g_bipush X dX7_paste_59 (v := -8) (by decide) ?_
            exact g_iret X hrt dX7_paste_61 (by decide) (by decide) ⟨C, D, F, I, K, trivial⟩
    · skip
      refine g_iload_n X dX7_paste_0 rfl (j := 1) rfl ?_
      refine g_callSI X (s_X7_isSlot_0 l G F I  ) lk_X7_389 rfl rfl dX7_paste_1 (Nat.le_of_ble_eq_true rfl) ⟨by decide, by decide⟩ ⟨by decide, by decide⟩ (fun r51 L M hp => ?_)
      obtain ⟨C, D, F, I, K1, hr⟩ := hp
      have K := K.step K1 (by decide)
      subst hr
      refine g_if_eq X dX7_paste_4 (tgt := 14) (by decide) (fun q => absurd q (by decide)) (fun _ => ?_)
      refine g_iload_n X dX7_paste_7 rfl (j := 3) rfl ?_
      refine g_callSI X (s_X7_isSlot_2 l G F I  ) lk_X7_389 rfl rfl dX7_paste_8 (Nat.le_of_ble_eq_true rfl) ⟨by decide, by decide⟩ ⟨by decide, by decide⟩ (fun r52 L M hp => ?_)
      obtain ⟨C, D, F, I, K1, hr⟩ := hp
      have K := K.step K1 (by decide)
      subst hr
      refine g_if_ne X dX7_paste_11 (tgt := 17) (by decide) (fun _ => ?_) (fun q => absurd q (by decide))
      refine g_aload_n X dX7_paste_17 rfl (j := 0) rfl ?_
      refine i_get X F 0 rfl rfl fk_X7_32 dX7_paste_18 rfl ?_
      refine g_iload_n X dX7_paste_21 rfl (j := 1) rfl ?_
      rcases (Bool.eq_false_or_eq_true (act 80)).symm with hA80 | hA80
      · skip
        refine i_aald X F 24 rfl (t0 := 5) rfl rfl dX7_paste_22 (vp_in_iff.mpr (by decide)) (v := .null) (by show va_rf (R 24 0) = _; rw [HR.1 0 (by decide)]; rw [if_neg (by rw [hA80]; decide)]; rfl) ?_
        refine g_astoreN X dX7_paste_23 (by decide) (lv2 := [(6, .null), (0, .ref (a 0)), (1, .int 0), (2, .int p1), (3, .int 2), (4, .int p3), (5, .int p4)]) rfl ?_
        refine g_aload_n X dX7_paste_25 rfl (j := 1) rfl ?_
        refine i_get X F 0 rfl rfl fk_X7_32 dX7_paste_26 rfl ?_
        refine g_iload_n X dX7_paste_29 rfl (j := 4) rfl ?_
        rcases (Bool.eq_false_or_eq_true (act 84)).symm with hA84 | hA84
        · skip
          refine i_aald X F 24 rfl (t0 := 5) rfl rfl dX7_paste_30 (vp_in_iff.mpr (by decide)) (v := .null) (by show va_rf (R 24 2) = _; rw [HR.1 2 (by decide)]; rw [if_neg (by rw [hA84]; decide)]; rfl) ?_
          refine g_astoreN X dX7_paste_31 (by decide) (lv2 := [(7, .null), (6, .null), (0, .ref (a 0)), (1, .int 0), (2, .int p1), (3, .int 2), (4, .int p3), (5, .int p4)]) rfl ?_
          refine g_aloadN X dX7_paste_33 (j := 1) rfl ?_
          refine g_ifnullN X dX7_paste_35 (tgt := 43) (by decide) ?_
          refine g_bipush X dX7_paste_43 (v := -6) (by decide) ?_
          exact g_iret X hrt dX7_paste_45 (by decide) (by decide) ⟨C, D, F, I, K, trivial⟩
        · skip
          have act84 : (baseact 84 || act 84) = true := by rw [hA84]; rfl
          have act85 : (baseact 85 || act 85) = true := by rw [((HR.2.2.1 2 (by decide)).trans hA84)]; rfl
          refine i_aald X F 24 rfl (t0 := 5) rfl rfl dX7_paste_30 (vp_in_iff.mpr (by decide)) (v := .ref (a 84)) (by show va_rf (R 24 2) = _; rw [HR.1 2 (by decide)]; rw [if_pos hA84]; rfl) ?_
          refine g_astore X dX7_paste_31 (by decide) (lv2 := [(7, .ref (a 84)), (6, .null), (0, .ref (a 0)), (1, .int 0), (2, .int p1), (3, .int 2), (4, .int p3), (5, .int p4)]) rfl ?_
          refine g_aloadN X dX7_paste_33 (j := 1) rfl ?_
          refine g_ifnullN X dX7_paste_35 (tgt := 43) (by decide) ?_
          refine g_bipush X dX7_paste_43 (v := -6) (by decide) ?_
          exact g_iret X hrt dX7_paste_45 (by decide) (by decide) ⟨C, D, F, I, K, trivial⟩
      · skip
        have act80 : (baseact 80 || act 80) = true := by rw [hA80]; rfl
        have act81 : (baseact 81 || act 81) = true := by rw [((HR.2.2.1 0 (by decide)).trans hA80)]; rfl
        refine i_aald X F 24 rfl (t0 := 5) rfl rfl dX7_paste_22 (vp_in_iff.mpr (by decide)) (v := .ref (a 80)) (by show va_rf (R 24 0) = _; rw [HR.1 0 (by decide)]; rw [if_pos hA80]; rfl) ?_
        refine g_astore X dX7_paste_23 (by decide) (lv2 := [(6, .ref (a 80)), (0, .ref (a 0)), (1, .int 0), (2, .int p1), (3, .int 2), (4, .int p3), (5, .int p4)]) rfl ?_
        refine g_aload_n X dX7_paste_25 rfl (j := 1) rfl ?_
        refine i_get X F 0 rfl rfl fk_X7_32 dX7_paste_26 rfl ?_
        refine g_iload_n X dX7_paste_29 rfl (j := 4) rfl ?_
        rcases (Bool.eq_false_or_eq_true (act 84)).symm with hA84 | hA84
        · skip
          refine i_aald X F 24 rfl (t0 := 5) rfl rfl dX7_paste_30 (vp_in_iff.mpr (by decide)) (v := .null) (by show va_rf (R 24 2) = _; rw [HR.1 2 (by decide)]; rw [if_neg (by rw [hA84]; decide)]; rfl) ?_
          refine g_astoreN X dX7_paste_31 (by decide) (lv2 := [(7, .null), (6, .ref (a 80)), (0, .ref (a 0)), (1, .int 0), (2, .int p1), (3, .int 2), (4, .int p3), (5, .int p4)]) rfl ?_
          refine g_aload X dX7_paste_33 (j := 1) rfl ?_
          refine g_ifnull X dX7_paste_35 ?_
          refine g_aloadN X dX7_paste_38 (j := 0) rfl ?_
          refine g_ifnonnullN X dX7_paste_40 ?_
          refine g_bipush X dX7_paste_43 (v := -6) (by decide) ?_
          exact g_iret X hrt dX7_paste_45 (by decide) (by decide) ⟨C, D, F, I, K, trivial⟩
        · skip
          have act84 : (baseact 84 || act 84) = true := by rw [hA84]; rfl
          have act85 : (baseact 85 || act 85) = true := by rw [((HR.2.2.1 2 (by decide)).trans hA84)]; rfl
          refine i_aald X F 24 rfl (t0 := 5) rfl rfl dX7_paste_30 (vp_in_iff.mpr (by decide)) (v := .ref (a 84)) (by show va_rf (R 24 2) = _; rw [HR.1 2 (by decide)]; rw [if_pos hA84]; rfl) ?_
          refine g_astore X dX7_paste_31 (by decide) (lv2 := [(7, .ref (a 84)), (6, .ref (a 80)), (0, .ref (a 0)), (1, .int 0), (2, .int p1), (3, .int 2), (4, .int p3), (5, .int p4)]) rfl ?_
          refine g_aload X dX7_paste_33 (j := 1) rfl ?_
          refine g_ifnull X dX7_paste_35 ?_
          refine g_aload X dX7_paste_38 (j := 0) rfl ?_
          refine g_ifnonnull X dX7_paste_40 (tgt := 46) (by decide) ?_
          refine g_aload X dX7_paste_46 (j := 1) rfl ?_
          refine i_get X F 80 (act80) rfl fk_X7_400 dX7_paste_48 rfl ?_
          refine Go.gen (fun o56 => ?_)
          refine g_aload X dX7_paste_51 (j := 0) rfl ?_
          refine i_get X F 84 (act84) rfl fk_X7_400 dX7_paste_53 rfl ?_
          refine Go.gen (fun o57 => ?_)
          refine g_icmp_eq X dX7_paste_56 (tgt := 62) (by decide) (fun q58 => ?_) (fun q58 => ?_)
          · skip
            refine g_aload X dX7_paste_62 (j := 1) rfl ?_
            refine g_iload_n X dX7_paste_64 rfl (j := 4) rfl ?_
            refine g_iload X dX7_paste_65 (j := 7) rfl ?_
            refine g_callVI X (s_X5_hasPart_80 l G F I p1 p4 act80) lk_X7_403 (F.1 80 (act80)).2 (F.1 80 (act80)).1 rfl rfl dX7_paste_67 (Nat.le_of_ble_eq_true rfl) ⟨by decide, by decide⟩ ⟨by decide, by decide⟩ (fun r59 L M hp => ?_)
            obtain ⟨C, D, F, I, K1, hr⟩ := hp
            have K := K.step K1 (by decide)
            rcases hr with ⟨rfl, hp60⟩ | ⟨rfl, hp60⟩
            · skip
              rw [(K 80 (by decide)).1] at hp60
              refine g_if_eq X dX7_paste_70 (tgt := 85) (by decide) (fun _ => ?_) (fun q => absurd (by decide) q)
              refine g_bipush X dX7_paste_85 (v := -7) (by decide) ?_
              exact g_iret X hrt dX7_paste_87 (by decide) (by decide) ⟨C, D, F, I, K, trivial⟩
            · skip
              rw [(K 80 (by decide)).1] at hp60
              refine g_if_eq X dX7_paste_70 (tgt := 85) (by decide) (fun q => absurd q (by decide)) (fun _ => ?_)
              refine g_aload X dX7_paste_73 (j := 0) rfl ?_
              refine g_iload X dX7_paste_75 (j := 6) rfl ?_
              refine g_iload X dX7_paste_77 (j := 7) rfl ?_
              refine g_callVI X (s_X5_hasPart_84 l G F I p3 p4 act84) lk_X7_403 (F.1 84 (act84)).2 (F.1 84 (act84)).1 rfl rfl dX7_paste_79 (Nat.le_of_ble_eq_true rfl) ⟨by decide, by decide⟩ ⟨by decide, by decide⟩ (fun r61 L M hp => ?_)
              obtain ⟨C, D, F, I, K1, hr⟩ := hp
              have K := K.step K1 (by decide)
              rcases hr with ⟨rfl, hp62⟩ | ⟨rfl, hp62⟩
              · skip
                rw [(K 84 (by decide)).1] at hp62
                refine g_if_ne X dX7_paste_82 (tgt := 88) (by decide) (fun q => absurd (by decide) q) (fun _ => ?_)
                refine g_bipush X dX7_paste_85 (v := -7) (by decide) ?_
                exact g_iret X hrt dX7_paste_87 (by decide) (by decide) ⟨C, D, F, I, K, trivial⟩
              · skip
                rw [(K 84 (by decide)).1] at hp62
                refine g_if_ne X dX7_paste_82 (tgt := 88) (by decide) (fun _ => ?_) (fun q => absurd q (by decide))
                have hz80 := (show (C0 80 2).toInt ≤ 60 from (by have z := I 80 2 rfl; rw [(K 80 (by decide)).1] at z; exact z.2))
                have hz84 := (show (C0 84 2).toInt ≤ 60 from (by have z := I 84 2 rfl; rw [(K 84 (by decide)).1] at z; exact z.2))
                obtain ⟨n63, hn63a, hn63b, en63⟩ := nI_ofInt (x := p1) (lo := 0) (hi := 60) (by omega) (by omega) (by decide)
                subst en63
                have tn63 := nI_toInt (n := n63) (by omega)
                obtain ⟨n64, hn64a, hn64b, en64⟩ := nI_ofInt (x := p3) (lo := 0) (hi := 60) (by omega) (by omega) (by decide)
                subst en64
                have tn64 := nI_toInt (n := n64) (by omega)
                obtain ⟨n65, hn65a, hn65b, en65⟩ := nI_ofInt (x := p4) (lo := 0) (hi := 60) (by omega) (by omega) (by decide)
                subst en65
                have tn65 := nI_toInt (n := n65) (by omega)
                refine g_aload X dX7_paste_88 (j := 1) rfl ?_
                refine i_get X F 80 (act80) rfl fk_X7_406 dX7_paste_90 rfl ?_
                refine g_iload_n X dX7_paste_93 rfl (j := 4) rfl ?_
                refine g_aload X dX7_paste_94 (j := 0) rfl ?_
                refine i_get X F 84 (act84) rfl fk_X7_406 dX7_paste_96 rfl ?_
                refine g_iload X dX7_paste_99 (j := 6) rfl ?_
                refine g_iload X dX7_paste_101 (j := 7) rfl ?_
                refine i_copyl X F 81 (act81) 85 (act85) rfl (fun _ => rfl) (t0 := 2) rfl rfl wd604 wd87 wd88 wd89 (nI_pos (by omega)) (nI_pos (by omega)) (nI_pos (by omega)) (by rw [nI_clamp (show n63 < 2 ^ 31 by omega), nI_clamp (show n65 < 2 ^ 31 by omega)]; omega) (by rw [nI_clamp (show n64 < 2 ^ 31 by omega), nI_clamp (show n65 < 2 ^ 31 by omega)]; omega) (fun _ _ => rfl) (by decide) (Nat.le_of_ble_eq_true rfl) dX7_paste_103 (fun M D F K1 => ?_)
                have K := K.step K1 (by decide)
                refine g_iconst X dX7_paste_106 (v := 0) (by decide) ?_
                exact g_iret X hrt dX7_paste_107 (by decide) (by decide) ⟨C, D, F, I, K, trivial⟩
          · skip
            refine g_bipush X dX7_paste_59 (v := -8) (by decide) ?_
            exact g_iret X hrt dX7_paste_61 (by decide) (by decide) ⟨C, D, F, I, K, trivial⟩
    · skip
      refine g_iload_n X dX7_paste_0 rfl (j := 1) rfl ?_
      refine g_callSI X (s_X7_isSlot_0 l G F I  ) lk_X7_389 rfl rfl dX7_paste_1 (Nat.le_of_ble_eq_true rfl) ⟨by decide, by decide⟩ ⟨by decide, by decide⟩ (fun r66 L M hp => ?_)
      obtain ⟨C, D, F, I, K1, hr⟩ := hp
      have K := K.step K1 (by decide)
      subst hr
      refine g_if_eq X dX7_paste_4 (tgt := 14) (by decide) (fun q => absurd q (by decide)) (fun _ => ?_)
      refine g_iload_n X dX7_paste_7 rfl (j := 3) rfl ?_
      refine g_callSI X (s_X7_isSlot_3 l G F I  ) lk_X7_389 rfl rfl dX7_paste_8 (Nat.le_of_ble_eq_true rfl) ⟨by decide, by decide⟩ ⟨by decide, by decide⟩ (fun r67 L M hp => ?_)
      obtain ⟨C, D, F, I, K1, hr⟩ := hp
      have K := K.step K1 (by decide)
      subst hr
      refine g_if_ne X dX7_paste_11 (tgt := 17) (by decide) (fun _ => ?_) (fun q => absurd q (by decide))
      refine g_aload_n X dX7_paste_17 rfl (j := 0) rfl ?_
      refine i_get X F 0 rfl rfl fk_X7_32 dX7_paste_18 rfl ?_
      refine g_iload_n X dX7_paste_21 rfl (j := 1) rfl ?_
      rcases (Bool.eq_false_or_eq_true (act 80)).symm with hA80 | hA80
      · skip
        refine i_aald X F 24 rfl (t0 := 5) rfl rfl dX7_paste_22 (vp_in_iff.mpr (by decide)) (v := .null) (by show va_rf (R 24 0) = _; rw [HR.1 0 (by decide)]; rw [if_neg (by rw [hA80]; decide)]; rfl) ?_
        refine g_astoreN X dX7_paste_23 (by decide) (lv2 := [(6, .null), (0, .ref (a 0)), (1, .int 0), (2, .int p1), (3, .int 3), (4, .int p3), (5, .int p4)]) rfl ?_
        refine g_aload_n X dX7_paste_25 rfl (j := 1) rfl ?_
        refine i_get X F 0 rfl rfl fk_X7_32 dX7_paste_26 rfl ?_
        refine g_iload_n X dX7_paste_29 rfl (j := 4) rfl ?_
        rcases (Bool.eq_false_or_eq_true (act 86)).symm with hA86 | hA86
        · skip
          refine i_aald X F 24 rfl (t0 := 5) rfl rfl dX7_paste_30 (vp_in_iff.mpr (by decide)) (v := .null) (by show va_rf (R 24 3) = _; rw [HR.1 3 (by decide)]; rw [if_neg (by rw [hA86]; decide)]; rfl) ?_
          refine g_astoreN X dX7_paste_31 (by decide) (lv2 := [(7, .null), (6, .null), (0, .ref (a 0)), (1, .int 0), (2, .int p1), (3, .int 3), (4, .int p3), (5, .int p4)]) rfl ?_
          refine g_aloadN X dX7_paste_33 (j := 1) rfl ?_
          refine g_ifnullN X dX7_paste_35 (tgt := 43) (by decide) ?_
          refine g_bipush X dX7_paste_43 (v := -6) (by decide) ?_
          exact g_iret X hrt dX7_paste_45 (by decide) (by decide) ⟨C, D, F, I, K, trivial⟩
        · skip
          have act86 : (baseact 86 || act 86) = true := by rw [hA86]; rfl
          have act87 : (baseact 87 || act 87) = true := by rw [((HR.2.2.1 3 (by decide)).trans hA86)]; rfl
          refine i_aald X F 24 rfl (t0 := 5) rfl rfl dX7_paste_30 (vp_in_iff.mpr (by decide)) (v := .ref (a 86)) (by show va_rf (R 24 3) = _; rw [HR.1 3 (by decide)]; rw [if_pos hA86]; rfl) ?_
          refine g_astore X dX7_paste_31 (by decide) (lv2 := [(7, .ref (a 86)), (6, .null), (0, .ref (a 0)), (1, .int 0), (2, .int p1), (3, .int 3), (4, .int p3), (5, .int p4)]) rfl ?_
          refine g_aloadN X dX7_paste_33 (j := 1) rfl ?_
          refine g_ifnullN X dX7_paste_35 (tgt := 43) (by decide) ?_
          refine g_bipush X dX7_paste_43 (v := -6) (by decide) ?_
          exact g_iret X hrt dX7_paste_45 (by decide) (by decide) ⟨C, D, F, I, K, trivial⟩
      · skip
        have act80 : (baseact 80 || act 80) = true := by rw [hA80]; rfl
        have act81 : (baseact 81 || act 81) = true := by rw [((HR.2.2.1 0 (by decide)).trans hA80)]; rfl
        refine i_aald X F 24 rfl (t0 := 5) rfl rfl dX7_paste_22 (vp_in_iff.mpr (by decide)) (v := .ref (a 80)) (by show va_rf (R 24 0) = _; rw [HR.1 0 (by decide)]; rw [if_pos hA80]; rfl) ?_
        refine g_astore X dX7_paste_23 (by decide) (lv2 := [(6, .ref (a 80)), (0, .ref (a 0)), (1, .int 0), (2, .int p1), (3, .int 3), (4, .int p3), (5, .int p4)]) rfl ?_
        refine g_aload_n X dX7_paste_25 rfl (j := 1) rfl ?_
        refine i_get X F 0 rfl rfl fk_X7_32 dX7_paste_26 rfl ?_
        refine g_iload_n X dX7_paste_29 rfl (j := 4) rfl ?_
        rcases (Bool.eq_false_or_eq_true (act 86)).symm with hA86 | hA86
        · skip
          refine i_aald X F 24 rfl (t0 := 5) rfl rfl dX7_paste_30 (vp_in_iff.mpr (by decide)) (v := .null) (by show va_rf (R 24 3) = _; rw [HR.1 3 (by decide)]; rw [if_neg (by rw [hA86]; decide)]; rfl) ?_
          refine g_astoreN X dX7_paste_31 (by decide) (lv2 := [(7, .null), (6, .ref (a 80)), (0, .ref (a 0)), (1, .int 0), (2, .int p1), (3, .int 3), (4, .int p3), (5, .int p4)]) rfl ?_
          refine g_aload X dX7_paste_33 (j := 1) rfl ?_
          refine g_ifnull X dX7_paste_35 ?_
          refine g_aloadN X dX7_paste_38 (j := 0) rfl ?_
          refine g_ifnonnullN X dX7_paste_40 ?_
          refine g_bipush X dX7_paste_43 (v := -6) (by decide) ?_
          exact g_iret X hrt dX7_paste_45 (by decide) (by decide) ⟨C, D, F, I, K, trivial⟩
        · skip
          have act86 : (baseact 86 || act 86) = true := by rw [hA86]; rfl
          have act87 : (baseact 87 || act 87) = true := by rw [((HR.2.2.1 3 (by decide)).trans hA86)]; rfl
          refine i_aald X F 24 rfl (t0 := 5) rfl rfl dX7_paste_30 (vp_in_iff.mpr (by decide)) (v := .ref (a 86)) (by show va_rf (R 24 3) = _; rw [HR.1 3 (by decide)]; rw [if_pos hA86]; rfl) ?_
          refine g_astore X dX7_paste_31 (by decide) (lv2 := [(7, .ref (a 86)), (6, .ref (a 80)), (0, .ref (a 0)), (1, .int 0), (2, .int p1), (3, .int 3), (4, .int p3), (5, .int p4)]) rfl ?_
          refine g_aload X dX7_paste_33 (j := 1) rfl ?_
          refine g_ifnull X dX7_paste_35 ?_
          refine g_aload X dX7_paste_38 (j := 0) rfl ?_
          refine g_ifnonnull X dX7_paste_40 (tgt := 46) (by decide) ?_
          refine g_aload X dX7_paste_46 (j := 1) rfl ?_
          refine i_get X F 80 (act80) rfl fk_X7_400 dX7_paste_48 rfl ?_
          refine Go.gen (fun o71 => ?_)
          refine g_aload X dX7_paste_51 (j := 0) rfl ?_
          refine i_get X F 86 (act86) rfl fk_X7_400 dX7_paste_53 rfl ?_
          refine Go.gen (fun o72 => ?_)
          refine g_icmp_eq X dX7_paste_56 (tgt := 62) (by decide) (fun q73 => ?_) (fun q73 => ?_)
          · skip
            refine g_aload X dX7_paste_62 (j := 1) rfl ?_
            refine g_iload_n X dX7_paste_64 rfl (j := 4) rfl ?_
            refine g_iload X dX7_paste_65 (j := 7) rfl ?_
            refine g_callVI X (s_X5_hasPart_80 l G F I p1 p4 act80) lk_X7_403 (F.1 80 (act80)).2 (F.1 80 (act80)).1 rfl rfl dX7_paste_67 (Nat.le_of_ble_eq_true rfl) ⟨by decide, by decide⟩ ⟨by decide, by decide⟩ (fun r74 L M hp => ?_)
            obtain ⟨C, D, F, I, K1, hr⟩ := hp
            have K := K.step K1 (by decide)
            rcases hr with ⟨rfl, hp75⟩ | ⟨rfl, hp75⟩
            · skip
              rw [(K 80 (by decide)).1] at hp75
              refine g_if_eq X dX7_paste_70 (tgt := 85) (by decide) (fun _ => ?_) (fun q => absurd (by decide) q)
              refine g_bipush X dX7_paste_85 (v := -7) (by decide) ?_
              exact g_iret X hrt dX7_paste_87 (by decide) (by decide) ⟨C, D, F, I, K, trivial⟩
            · skip
              rw [(K 80 (by decide)).1] at hp75
              refine g_if_eq X dX7_paste_70 (tgt := 85) (by decide) (fun q => absurd q (by decide)) (fun _ => ?_)
              refine g_aload X dX7_paste_73 (j := 0) rfl ?_
              refine g_iload X dX7_paste_75 (j := 6) rfl ?_
              refine g_iload X dX7_paste_77 (j := 7) rfl ?_
              refine g_callVI X (s_X5_hasPart_86 l G F I p3 p4 act86) lk_X7_403 (F.1 86 (act86)).2 (F.1 86 (act86)).1 rfl rfl dX7_paste_79 (Nat.le_of_ble_eq_true rfl) ⟨by decide, by decide⟩ ⟨by decide, by decide⟩ (fun r76 L M hp => ?_)
              obtain ⟨C, D, F, I, K1, hr⟩ := hp
              have K := K.step K1 (by decide)
              rcases hr with ⟨rfl, hp77⟩ | ⟨rfl, hp77⟩
              · skip
                rw [(K 86 (by decide)).1] at hp77
                refine g_if_ne X dX7_paste_82 (tgt := 88) (by decide) (fun q => absurd (by decide) q) (fun _ => ?_)
                refine g_bipush X dX7_paste_85 (v := -7) (by decide) ?_
                exact g_iret X hrt dX7_paste_87 (by decide) (by decide) ⟨C, D, F, I, K, trivial⟩
              · skip
                rw [(K 86 (by decide)).1] at hp77
                refine g_if_ne X dX7_paste_82 (tgt := 88) (by decide) (fun _ => ?_) (fun q => absurd q (by decide))
                have hz80 := (show (C0 80 2).toInt ≤ 60 from (by have z := I 80 2 rfl; rw [(K 80 (by decide)).1] at z; exact z.2))
                have hz86 := (show (C0 86 2).toInt ≤ 60 from (by have z := I 86 2 rfl; rw [(K 86 (by decide)).1] at z; exact z.2))
                obtain ⟨n78, hn78a, hn78b, en78⟩ := nI_ofInt (x := p1) (lo := 0) (hi := 60) (by omega) (by omega) (by decide)
                subst en78
                have tn78 := nI_toInt (n := n78) (by omega)
                obtain ⟨n79, hn79a, hn79b, en79⟩ := nI_ofInt (x := p3) (lo := 0) (hi := 60) (by omega) (by omega) (by decide)
                subst en79
                have tn79 := nI_toInt (n := n79) (by omega)
                obtain ⟨n80, hn80a, hn80b, en80⟩ := nI_ofInt (x := p4) (lo := 0) (hi := 60) (by omega) (by omega) (by decide)
                subst en80
                have tn80 := nI_toInt (n := n80) (by omega)
                refine g_aload X dX7_paste_88 (j := 1) rfl ?_
                refine i_get X F 80 (act80) rfl fk_X7_406 dX7_paste_90 rfl ?_
                refine g_iload_n X dX7_paste_93 rfl (j := 4) rfl ?_
                refine g_aload X dX7_paste_94 (j := 0) rfl ?_
                refine i_get X F 86 (act86) rfl fk_X7_406 dX7_paste_96 rfl ?_
                refine g_iload X dX7_paste_99 (j := 6) rfl ?_
                refine g_iload X dX7_paste_101 (j := 7) rfl ?_
                refine i_copyl X F 81 (act81) 87 (act87) rfl (fun _ => rfl) (t0 := 2) rfl rfl wd604 wd87 wd88 wd89 (nI_pos (by omega)) (nI_pos (by omega)) (nI_pos (by omega)) (by rw [nI_clamp (show n78 < 2 ^ 31 by omega), nI_clamp (show n80 < 2 ^ 31 by omega)]; omega) (by rw [nI_clamp (show n79 < 2 ^ 31 by omega), nI_clamp (show n80 < 2 ^ 31 by omega)]; omega) (fun _ _ => rfl) (by decide) (Nat.le_of_ble_eq_true rfl) dX7_paste_103 (fun M D F K1 => ?_)
                have K := K.step K1 (by decide)
                refine g_iconst X dX7_paste_106 (v := 0) (by decide) ?_
                exact g_iret X hrt dX7_paste_107 (by decide) (by decide) ⟨C, D, F, I, K, trivial⟩
          · skip
            refine g_bipush X dX7_paste_59 (v := -8) (by decide) ?_
            exact g_iret X hrt dX7_paste_61 (by decide) (by decide) ⟨C, D, F, I, K, trivial⟩
  · skip
    rcases sc4 p2 with hx81 | hx81 | rfl | rfl | rfl | rfl
    · skip
      have hno3 : p2 < 0 ∨ 4 ≤ p2 := Or.inl hx81
      refine g_iload_n X dX7_paste_0 rfl (j := 1) rfl ?_
      refine g_callSI X (s_X7_isSlot_1 l G F I  ) lk_X7_389 rfl rfl dX7_paste_1 (Nat.le_of_ble_eq_true rfl) ⟨by decide, by decide⟩ ⟨by decide, by decide⟩ (fun r82 L M hp => ?_)
      obtain ⟨C, D, F, I, K1, hr⟩ := hp
      have K := K.step K1 (by decide)
      subst hr
      refine g_if_eq X dX7_paste_4 (tgt := 14) (by decide) (fun q => absurd q (by decide)) (fun _ => ?_)
      refine g_iload_n X dX7_paste_7 rfl (j := 3) rfl ?_
      refine g_callSI X (s_X7_isSlot_x l G F I p2 hno3) lk_X7_389 rfl rfl dX7_paste_8 (Nat.le_of_ble_eq_true rfl) ⟨by decide, by decide⟩ ⟨by decide, by decide⟩ (fun r83 L M hp => ?_)
      obtain ⟨C, D, F, I, K1, hr⟩ := hp
      have K := K.step K1 (by decide)
      subst hr
      refine g_if_ne X dX7_paste_11 (tgt := 17) (by decide) (fun q => absurd (by decide) q) (fun _ => ?_)
      refine g_bipush X dX7_paste_14 (v := -2) (by decide) ?_
      exact g_iret X hrt dX7_paste_16 (by decide) (by decide) ⟨C, D, F, I, K, trivial⟩
    · skip
      have hno3 : p2 < 0 ∨ 4 ≤ p2 := Or.inr hx81
      refine g_iload_n X dX7_paste_0 rfl (j := 1) rfl ?_
      refine g_callSI X (s_X7_isSlot_1 l G F I  ) lk_X7_389 rfl rfl dX7_paste_1 (Nat.le_of_ble_eq_true rfl) ⟨by decide, by decide⟩ ⟨by decide, by decide⟩ (fun r84 L M hp => ?_)
      obtain ⟨C, D, F, I, K1, hr⟩ := hp
      have K := K.step K1 (by decide)
      subst hr
      refine g_if_eq X dX7_paste_4 (tgt := 14) (by decide) (fun q => absurd q (by decide)) (fun _ => ?_)
      refine g_iload_n X dX7_paste_7 rfl (j := 3) rfl ?_
      refine g_callSI X (s_X7_isSlot_x l G F I p2 hno3) lk_X7_389 rfl rfl dX7_paste_8 (Nat.le_of_ble_eq_true rfl) ⟨by decide, by decide⟩ ⟨by decide, by decide⟩ (fun r85 L M hp => ?_)
      obtain ⟨C, D, F, I, K1, hr⟩ := hp
      have K := K.step K1 (by decide)
      subst hr
      refine g_if_ne X dX7_paste_11 (tgt := 17) (by decide) (fun q => absurd (by decide) q) (fun _ => ?_)
      refine g_bipush X dX7_paste_14 (v := -2) (by decide) ?_
      exact g_iret X hrt dX7_paste_16 (by decide) (by decide) ⟨C, D, F, I, K, trivial⟩
    · skip
      refine g_iload_n X dX7_paste_0 rfl (j := 1) rfl ?_
      refine g_callSI X (s_X7_isSlot_1 l G F I  ) lk_X7_389 rfl rfl dX7_paste_1 (Nat.le_of_ble_eq_true rfl) ⟨by decide, by decide⟩ ⟨by decide, by decide⟩ (fun r86 L M hp => ?_)
      obtain ⟨C, D, F, I, K1, hr⟩ := hp
      have K := K.step K1 (by decide)
      subst hr
      refine g_if_eq X dX7_paste_4 (tgt := 14) (by decide) (fun q => absurd q (by decide)) (fun _ => ?_)
      refine g_iload_n X dX7_paste_7 rfl (j := 3) rfl ?_
      refine g_callSI X (s_X7_isSlot_0 l G F I  ) lk_X7_389 rfl rfl dX7_paste_8 (Nat.le_of_ble_eq_true rfl) ⟨by decide, by decide⟩ ⟨by decide, by decide⟩ (fun r87 L M hp => ?_)
      obtain ⟨C, D, F, I, K1, hr⟩ := hp
      have K := K.step K1 (by decide)
      subst hr
      refine g_if_ne X dX7_paste_11 (tgt := 17) (by decide) (fun _ => ?_) (fun q => absurd q (by decide))
      refine g_aload_n X dX7_paste_17 rfl (j := 0) rfl ?_
      refine i_get X F 0 rfl rfl fk_X7_32 dX7_paste_18 rfl ?_
      refine g_iload_n X dX7_paste_21 rfl (j := 1) rfl ?_
      rcases (Bool.eq_false_or_eq_true (act 82)).symm with hA82 | hA82
      · skip
        refine i_aald X F 24 rfl (t0 := 5) rfl rfl dX7_paste_22 (vp_in_iff.mpr (by decide)) (v := .null) (by show va_rf (R 24 1) = _; rw [HR.1 1 (by decide)]; rw [if_neg (by rw [hA82]; decide)]; rfl) ?_
        refine g_astoreN X dX7_paste_23 (by decide) (lv2 := [(6, .null), (0, .ref (a 0)), (1, .int 1), (2, .int p1), (3, .int 0), (4, .int p3), (5, .int p4)]) rfl ?_
        refine g_aload_n X dX7_paste_25 rfl (j := 1) rfl ?_
        refine i_get X F 0 rfl rfl fk_X7_32 dX7_paste_26 rfl ?_
        refine g_iload_n X dX7_paste_29 rfl (j := 4) rfl ?_
        rcases (Bool.eq_false_or_eq_true (act 80)).symm with hA80 | hA80
        · skip
          refine i_aald X F 24 rfl (t0 := 5) rfl rfl dX7_paste_30 (vp_in_iff.mpr (by decide)) (v := .null) (by show va_rf (R 24 0) = _; rw [HR.1 0 (by decide)]; rw [if_neg (by rw [hA80]; decide)]; rfl) ?_
          refine g_astoreN X dX7_paste_31 (by decide) (lv2 := [(7, .null), (6, .null), (0, .ref (a 0)), (1, .int 1), (2, .int p1), (3, .int 0), (4, .int p3), (5, .int p4)]) rfl ?_
          refine g_aloadN X dX7_paste_33 (j := 1) rfl ?_
          refine g_ifnullN X dX7_paste_35 (tgt := 43) (by decide) ?_
          refine g_bipush X dX7_paste_43 (v := -6) (by decide) ?_
          exact g_iret X hrt dX7_paste_45 (by decide) (by decide) ⟨C, D, F, I, K, trivial⟩
        · skip
          have act80 : (baseact 80 || act 80) = true := by rw [hA80]; rfl
          have act81 : (baseact 81 || act 81) = true := by rw [((HR.2.2.1 0 (by decide)).trans hA80)]; rfl
          refine i_aald X F 24 rfl (t0 := 5) rfl rfl dX7_paste_30 (vp_in_iff.mpr (by decide)) (v := .ref (a 80)) (by show va_rf (R 24 0) = _; rw [HR.1 0 (by decide)]; rw [if_pos hA80]; rfl) ?_
          refine g_astore X dX7_paste_31 (by decide) (lv2 := [(7, .ref (a 80)), (6, .null), (0, .ref (a 0)), (1, .int 1), (2, .int p1), (3, .int 0), (4, .int p3), (5, .int p4)]) rfl ?_
          refine g_aloadN X dX7_paste_33 (j := 1) rfl ?_
          refine g_ifnullN X dX7_paste_35 (tgt := 43) (by decide) ?_
          refine g_bipush X dX7_paste_43 (v := -6) (by decide) ?_
          exact g_iret X hrt dX7_paste_45 (by decide) (by decide) ⟨C, D, F, I, K, trivial⟩
      · skip
        have act82 : (baseact 82 || act 82) = true := by rw [hA82]; rfl
        have act83 : (baseact 83 || act 83) = true := by rw [((HR.2.2.1 1 (by decide)).trans hA82)]; rfl
        refine i_aald X F 24 rfl (t0 := 5) rfl rfl dX7_paste_22 (vp_in_iff.mpr (by decide)) (v := .ref (a 82)) (by show va_rf (R 24 1) = _; rw [HR.1 1 (by decide)]; rw [if_pos hA82]; rfl) ?_
        refine g_astore X dX7_paste_23 (by decide) (lv2 := [(6, .ref (a 82)), (0, .ref (a 0)), (1, .int 1), (2, .int p1), (3, .int 0), (4, .int p3), (5, .int p4)]) rfl ?_
        refine g_aload_n X dX7_paste_25 rfl (j := 1) rfl ?_
        refine i_get X F 0 rfl rfl fk_X7_32 dX7_paste_26 rfl ?_
        refine g_iload_n X dX7_paste_29 rfl (j := 4) rfl ?_
        rcases (Bool.eq_false_or_eq_true (act 80)).symm with hA80 | hA80
        · skip
          refine i_aald X F 24 rfl (t0 := 5) rfl rfl dX7_paste_30 (vp_in_iff.mpr (by decide)) (v := .null) (by show va_rf (R 24 0) = _; rw [HR.1 0 (by decide)]; rw [if_neg (by rw [hA80]; decide)]; rfl) ?_
          refine g_astoreN X dX7_paste_31 (by decide) (lv2 := [(7, .null), (6, .ref (a 82)), (0, .ref (a 0)), (1, .int 1), (2, .int p1), (3, .int 0), (4, .int p3), (5, .int p4)]) rfl ?_
          refine g_aload X dX7_paste_33 (j := 1) rfl ?_
          refine g_ifnull X dX7_paste_35 ?_
          refine g_aloadN X dX7_paste_38 (j := 0) rfl ?_
          refine g_ifnonnullN X dX7_paste_40 ?_
          refine g_bipush X dX7_paste_43 (v := -6) (by decide) ?_
          exact g_iret X hrt dX7_paste_45 (by decide) (by decide) ⟨C, D, F, I, K, trivial⟩
        · skip
          have act80 : (baseact 80 || act 80) = true := by rw [hA80]; rfl
          have act81 : (baseact 81 || act 81) = true := by rw [((HR.2.2.1 0 (by decide)).trans hA80)]; rfl
          refine i_aald X F 24 rfl (t0 := 5) rfl rfl dX7_paste_30 (vp_in_iff.mpr (by decide)) (v := .ref (a 80)) (by show va_rf (R 24 0) = _; rw [HR.1 0 (by decide)]; rw [if_pos hA80]; rfl) ?_
          refine g_astore X dX7_paste_31 (by decide) (lv2 := [(7, .ref (a 80)), (6, .ref (a 82)), (0, .ref (a 0)), (1, .int 1), (2, .int p1), (3, .int 0), (4, .int p3), (5, .int p4)]) rfl ?_
          refine g_aload X dX7_paste_33 (j := 1) rfl ?_
          refine g_ifnull X dX7_paste_35 ?_
          refine g_aload X dX7_paste_38 (j := 0) rfl ?_
          refine g_ifnonnull X dX7_paste_40 (tgt := 46) (by decide) ?_
          refine g_aload X dX7_paste_46 (j := 1) rfl ?_
          refine i_get X F 82 (act82) rfl fk_X7_400 dX7_paste_48 rfl ?_
          refine Go.gen (fun o91 => ?_)
          refine g_aload X dX7_paste_51 (j := 0) rfl ?_
          refine i_get X F 80 (act80) rfl fk_X7_400 dX7_paste_53 rfl ?_
          refine Go.gen (fun o92 => ?_)
          refine g_icmp_eq X dX7_paste_56 (tgt := 62) (by decide) (fun q93 => ?_) (fun q93 => ?_)
          · skip
            refine g_aload X dX7_paste_62 (j := 1) rfl ?_
            refine g_iload_n X dX7_paste_64 rfl (j := 4) rfl ?_
            refine g_iload X dX7_paste_65 (j := 7) rfl ?_
            refine g_callVI X (s_X5_hasPart_82 l G F I p1 p4 act82) lk_X7_403 (F.1 82 (act82)).2 (F.1 82 (act82)).1 rfl rfl dX7_paste_67 (Nat.le_of_ble_eq_true rfl) ⟨by decide, by decide⟩ ⟨by decide, by decide⟩ (fun r94 L M hp => ?_)
            obtain ⟨C, D, F, I, K1, hr⟩ := hp
            have K := K.step K1 (by decide)
            rcases hr with ⟨rfl, hp95⟩ | ⟨rfl, hp95⟩
            · skip
              rw [(K 82 (by decide)).1] at hp95
              refine g_if_eq X dX7_paste_70 (tgt := 85) (by decide) (fun _ => ?_) (fun q => absurd (by decide) q)
              refine g_bipush X dX7_paste_85 (v := -7) (by decide) ?_
              exact g_iret X hrt dX7_paste_87 (by decide) (by decide) ⟨C, D, F, I, K, trivial⟩
            · skip
              rw [(K 82 (by decide)).1] at hp95
              refine g_if_eq X dX7_paste_70 (tgt := 85) (by decide) (fun q => absurd q (by decide)) (fun _ => ?_)
              refine g_aload X dX7_paste_73 (j := 0) rfl ?_
              refine g_iload X dX7_paste_75 (j := 6) rfl ?_
              refine g_iload X dX7_paste_77 (j := 7) rfl ?_
              refine g_callVI X (s_X5_hasPart_80 l G F I p3 p4 act80) lk_X7_403 (F.1 80 (act80)).2 (F.1 80 (act80)).1 rfl rfl dX7_paste_79 (Nat.le_of_ble_eq_true rfl) ⟨by decide, by decide⟩ ⟨by decide, by decide⟩ (fun r96 L M hp => ?_)
              obtain ⟨C, D, F, I, K1, hr⟩ := hp
              have K := K.step K1 (by decide)
              rcases hr with ⟨rfl, hp97⟩ | ⟨rfl, hp97⟩
              · skip
                rw [(K 80 (by decide)).1] at hp97
                refine g_if_ne X dX7_paste_82 (tgt := 88) (by decide) (fun q => absurd (by decide) q) (fun _ => ?_)
                refine g_bipush X dX7_paste_85 (v := -7) (by decide) ?_
                exact g_iret X hrt dX7_paste_87 (by decide) (by decide) ⟨C, D, F, I, K, trivial⟩
              · skip
                rw [(K 80 (by decide)).1] at hp97
                refine g_if_ne X dX7_paste_82 (tgt := 88) (by decide) (fun _ => ?_) (fun q => absurd q (by decide))
                have hz82 := (show (C0 82 2).toInt ≤ 60 from (by have z := I 82 2 rfl; rw [(K 82 (by decide)).1] at z; exact z.2))
                have hz80 := (show (C0 80 2).toInt ≤ 60 from (by have z := I 80 2 rfl; rw [(K 80 (by decide)).1] at z; exact z.2))
                obtain ⟨n98, hn98a, hn98b, en98⟩ := nI_ofInt (x := p1) (lo := 0) (hi := 60) (by omega) (by omega) (by decide)
                subst en98
                have tn98 := nI_toInt (n := n98) (by omega)
                obtain ⟨n99, hn99a, hn99b, en99⟩ := nI_ofInt (x := p3) (lo := 0) (hi := 60) (by omega) (by omega) (by decide)
                subst en99
                have tn99 := nI_toInt (n := n99) (by omega)
                obtain ⟨n100, hn100a, hn100b, en100⟩ := nI_ofInt (x := p4) (lo := 0) (hi := 60) (by omega) (by omega) (by decide)
                subst en100
                have tn100 := nI_toInt (n := n100) (by omega)
                refine g_aload X dX7_paste_88 (j := 1) rfl ?_
                refine i_get X F 82 (act82) rfl fk_X7_406 dX7_paste_90 rfl ?_
                refine g_iload_n X dX7_paste_93 rfl (j := 4) rfl ?_
                refine g_aload X dX7_paste_94 (j := 0) rfl ?_
                refine i_get X F 80 (act80) rfl fk_X7_406 dX7_paste_96 rfl ?_
                refine g_iload X dX7_paste_99 (j := 6) rfl ?_
                refine g_iload X dX7_paste_101 (j := 7) rfl ?_
                refine i_copyl X F 83 (act83) 81 (act81) rfl (fun _ => rfl) (t0 := 2) rfl rfl wd604 wd87 wd88 wd89 (nI_pos (by omega)) (nI_pos (by omega)) (nI_pos (by omega)) (by rw [nI_clamp (show n98 < 2 ^ 31 by omega), nI_clamp (show n100 < 2 ^ 31 by omega)]; omega) (by rw [nI_clamp (show n99 < 2 ^ 31 by omega), nI_clamp (show n100 < 2 ^ 31 by omega)]; omega) (fun _ _ => rfl) (by decide) (Nat.le_of_ble_eq_true rfl) dX7_paste_103 (fun M D F K1 => ?_)
                have K := K.step K1 (by decide)
                refine g_iconst X dX7_paste_106 (v := 0) (by decide) ?_
                exact g_iret X hrt dX7_paste_107 (by decide) (by decide) ⟨C, D, F, I, K, trivial⟩
          · skip
            refine g_bipush X dX7_paste_59 (v := -8) (by decide) ?_
            exact g_iret X hrt dX7_paste_61 (by decide) (by decide) ⟨C, D, F, I, K, trivial⟩
    · skip
      refine g_iload_n X dX7_paste_0 rfl (j := 1) rfl ?_
      refine g_callSI X (s_X7_isSlot_1 l G F I  ) lk_X7_389 rfl rfl dX7_paste_1 (Nat.le_of_ble_eq_true rfl) ⟨by decide, by decide⟩ ⟨by decide, by decide⟩ (fun r101 L M hp => ?_)
      obtain ⟨C, D, F, I, K1, hr⟩ := hp
      have K := K.step K1 (by decide)
      subst hr
      refine g_if_eq X dX7_paste_4 (tgt := 14) (by decide) (fun q => absurd q (by decide)) (fun _ => ?_)
      refine g_iload_n X dX7_paste_7 rfl (j := 3) rfl ?_
      refine g_callSI X (s_X7_isSlot_1 l G F I  ) lk_X7_389 rfl rfl dX7_paste_8 (Nat.le_of_ble_eq_true rfl) ⟨by decide, by decide⟩ ⟨by decide, by decide⟩ (fun r102 L M hp => ?_)
      obtain ⟨C, D, F, I, K1, hr⟩ := hp
      have K := K.step K1 (by decide)
      subst hr
      refine g_if_ne X dX7_paste_11 (tgt := 17) (by decide) (fun _ => ?_) (fun q => absurd q (by decide))
      refine g_aload_n X dX7_paste_17 rfl (j := 0) rfl ?_
      refine i_get X F 0 rfl rfl fk_X7_32 dX7_paste_18 rfl ?_
      refine g_iload_n X dX7_paste_21 rfl (j := 1) rfl ?_
      rcases (Bool.eq_false_or_eq_true (act 82)).symm with hA82 | hA82
      · skip
        refine i_aald X F 24 rfl (t0 := 5) rfl rfl dX7_paste_22 (vp_in_iff.mpr (by decide)) (v := .null) (by show va_rf (R 24 1) = _; rw [HR.1 1 (by decide)]; rw [if_neg (by rw [hA82]; decide)]; rfl) ?_
        refine g_astoreN X dX7_paste_23 (by decide) (lv2 := [(6, .null), (0, .ref (a 0)), (1, .int 1), (2, .int p1), (3, .int 1), (4, .int p3), (5, .int p4)]) rfl ?_
        refine g_aload_n X dX7_paste_25 rfl (j := 1) rfl ?_
        refine i_get X F 0 rfl rfl fk_X7_32 dX7_paste_26 rfl ?_
        refine g_iload_n X dX7_paste_29 rfl (j := 4) rfl ?_
        refine i_aald X F 24 rfl (t0 := 5) rfl rfl dX7_paste_30 (vp_in_iff.mpr (by decide)) (v := .null) (by show va_rf (R 24 1) = _; rw [HR.1 1 (by decide)]; rw [if_neg (by rw [hA82]; decide)]; rfl) ?_
        refine g_astoreN X dX7_paste_31 (by decide) (lv2 := [(7, .null), (6, .null), (0, .ref (a 0)), (1, .int 1), (2, .int p1), (3, .int 1), (4, .int p3), (5, .int p4)]) rfl ?_
        refine g_aloadN X dX7_paste_33 (j := 1) rfl ?_
        refine g_ifnullN X dX7_paste_35 (tgt := 43) (by decide) ?_
        refine g_bipush X dX7_paste_43 (v := -6) (by decide) ?_
        exact g_iret X hrt dX7_paste_45 (by decide) (by decide) ⟨C, D, F, I, K, trivial⟩
      · skip
        have act82 : (baseact 82 || act 82) = true := by rw [hA82]; rfl
        have act83 : (baseact 83 || act 83) = true := by rw [((HR.2.2.1 1 (by decide)).trans hA82)]; rfl
        refine i_aald X F 24 rfl (t0 := 5) rfl rfl dX7_paste_22 (vp_in_iff.mpr (by decide)) (v := .ref (a 82)) (by show va_rf (R 24 1) = _; rw [HR.1 1 (by decide)]; rw [if_pos hA82]; rfl) ?_
        refine g_astore X dX7_paste_23 (by decide) (lv2 := [(6, .ref (a 82)), (0, .ref (a 0)), (1, .int 1), (2, .int p1), (3, .int 1), (4, .int p3), (5, .int p4)]) rfl ?_
        refine g_aload_n X dX7_paste_25 rfl (j := 1) rfl ?_
        refine i_get X F 0 rfl rfl fk_X7_32 dX7_paste_26 rfl ?_
        refine g_iload_n X dX7_paste_29 rfl (j := 4) rfl ?_
        refine i_aald X F 24 rfl (t0 := 5) rfl rfl dX7_paste_30 (vp_in_iff.mpr (by decide)) (v := .ref (a 82)) (by show va_rf (R 24 1) = _; rw [HR.1 1 (by decide)]; rw [if_pos hA82]; rfl) ?_
        refine g_astore X dX7_paste_31 (by decide) (lv2 := [(7, .ref (a 82)), (6, .ref (a 82)), (0, .ref (a 0)), (1, .int 1), (2, .int p1), (3, .int 1), (4, .int p3), (5, .int p4)]) rfl ?_
        refine g_aload X dX7_paste_33 (j := 1) rfl ?_
        refine g_ifnull X dX7_paste_35 ?_
        refine g_aload X dX7_paste_38 (j := 0) rfl ?_
        refine g_ifnonnull X dX7_paste_40 (tgt := 46) (by decide) ?_
        refine g_aload X dX7_paste_46 (j := 1) rfl ?_
        refine i_get X F 82 (act82) rfl fk_X7_400 dX7_paste_48 rfl ?_
        refine Go.gen (fun o106 => ?_)
        refine g_aload X dX7_paste_51 (j := 0) rfl ?_
        refine i_get X F 82 (act82) rfl fk_X7_400 dX7_paste_53 rfl ?_
        refine Go.gen (fun o107 => ?_)
        refine g_icmp_eq X dX7_paste_56 (tgt := 62) (by decide) (fun q108 => ?_) (fun q108 => ?_)
        · skip
          refine g_aload X dX7_paste_62 (j := 1) rfl ?_
          refine g_iload_n X dX7_paste_64 rfl (j := 4) rfl ?_
          refine g_iload X dX7_paste_65 (j := 7) rfl ?_
          refine g_callVI X (s_X5_hasPart_82 l G F I p1 p4 act82) lk_X7_403 (F.1 82 (act82)).2 (F.1 82 (act82)).1 rfl rfl dX7_paste_67 (Nat.le_of_ble_eq_true rfl) ⟨by decide, by decide⟩ ⟨by decide, by decide⟩ (fun r109 L M hp => ?_)
          obtain ⟨C, D, F, I, K1, hr⟩ := hp
          have K := K.step K1 (by decide)
          rcases hr with ⟨rfl, hp110⟩ | ⟨rfl, hp110⟩
          · skip
            rw [(K 82 (by decide)).1] at hp110
            refine g_if_eq X dX7_paste_70 (tgt := 85) (by decide) (fun _ => ?_) (fun q => absurd (by decide) q)
            refine g_bipush X dX7_paste_85 (v := -7) (by decide) ?_
            exact g_iret X hrt dX7_paste_87 (by decide) (by decide) ⟨C, D, F, I, K, trivial⟩
          · skip
            rw [(K 82 (by decide)).1] at hp110
            refine g_if_eq X dX7_paste_70 (tgt := 85) (by decide) (fun q => absurd q (by decide)) (fun _ => ?_)
            refine g_aload X dX7_paste_73 (j := 0) rfl ?_
            refine g_iload X dX7_paste_75 (j := 6) rfl ?_
            refine g_iload X dX7_paste_77 (j := 7) rfl ?_
            refine g_callVI X (s_X5_hasPart_82 l G F I p3 p4 act82) lk_X7_403 (F.1 82 (act82)).2 (F.1 82 (act82)).1 rfl rfl dX7_paste_79 (Nat.le_of_ble_eq_true rfl) ⟨by decide, by decide⟩ ⟨by decide, by decide⟩ (fun r111 L M hp => ?_)
            obtain ⟨C, D, F, I, K1, hr⟩ := hp
            have K := K.step K1 (by decide)
            rcases hr with ⟨rfl, hp112⟩ | ⟨rfl, hp112⟩
            · skip
              rw [(K 82 (by decide)).1] at hp112
              refine g_if_ne X dX7_paste_82 (tgt := 88) (by decide) (fun q => absurd (by decide) q) (fun _ => ?_)
              refine g_bipush X dX7_paste_85 (v := -7) (by decide) ?_
              exact g_iret X hrt dX7_paste_87 (by decide) (by decide) ⟨C, D, F, I, K, trivial⟩
            · skip
              rw [(K 82 (by decide)).1] at hp112
              refine g_if_ne X dX7_paste_82 (tgt := 88) (by decide) (fun _ => ?_) (fun q => absurd q (by decide))
              have hz82 := (show (C0 82 2).toInt ≤ 60 from (by have z := I 82 2 rfl; rw [(K 82 (by decide)).1] at z; exact z.2))
              have hz82 := (show (C0 82 2).toInt ≤ 60 from (by have z := I 82 2 rfl; rw [(K 82 (by decide)).1] at z; exact z.2))
              obtain ⟨n113, hn113a, hn113b, en113⟩ := nI_ofInt (x := p1) (lo := 0) (hi := 60) (by omega) (by omega) (by decide)
              subst en113
              have tn113 := nI_toInt (n := n113) (by omega)
              obtain ⟨n114, hn114a, hn114b, en114⟩ := nI_ofInt (x := p3) (lo := 0) (hi := 60) (by omega) (by omega) (by decide)
              subst en114
              have tn114 := nI_toInt (n := n114) (by omega)
              obtain ⟨n115, hn115a, hn115b, en115⟩ := nI_ofInt (x := p4) (lo := 0) (hi := 60) (by omega) (by omega) (by decide)
              subst en115
              have tn115 := nI_toInt (n := n115) (by omega)
              refine g_aload X dX7_paste_88 (j := 1) rfl ?_
              refine i_get X F 82 (act82) rfl fk_X7_406 dX7_paste_90 rfl ?_
              refine g_iload_n X dX7_paste_93 rfl (j := 4) rfl ?_
              refine g_aload X dX7_paste_94 (j := 0) rfl ?_
              refine i_get X F 82 (act82) rfl fk_X7_406 dX7_paste_96 rfl ?_
              refine g_iload X dX7_paste_99 (j := 6) rfl ?_
              refine g_iload X dX7_paste_101 (j := 7) rfl ?_
              refine i_copyl X F 83 (act83) 83 (act83) rfl (fun _ => rfl) (t0 := 2) rfl rfl wd604 wd87 wd88 wd89 (nI_pos (by omega)) (nI_pos (by omega)) (nI_pos (by omega)) (by rw [nI_clamp (show n113 < 2 ^ 31 by omega), nI_clamp (show n115 < 2 ^ 31 by omega)]; omega) (by rw [nI_clamp (show n114 < 2 ^ 31 by omega), nI_clamp (show n115 < 2 ^ 31 by omega)]; omega) (fun _ _ => rfl) (by decide) (Nat.le_of_ble_eq_true rfl) dX7_paste_103 (fun M D F K1 => ?_)
              have K := K.step K1 (by decide)
              refine g_iconst X dX7_paste_106 (v := 0) (by decide) ?_
              exact g_iret X hrt dX7_paste_107 (by decide) (by decide) ⟨C, D, F, I, K, trivial⟩
        · skip
          refine g_bipush X dX7_paste_59 (v := -8) (by decide) ?_
          exact g_iret X hrt dX7_paste_61 (by decide) (by decide) ⟨C, D, F, I, K, trivial⟩
    · skip
      refine g_iload_n X dX7_paste_0 rfl (j := 1) rfl ?_
      refine g_callSI X (s_X7_isSlot_1 l G F I  ) lk_X7_389 rfl rfl dX7_paste_1 (Nat.le_of_ble_eq_true rfl) ⟨by decide, by decide⟩ ⟨by decide, by decide⟩ (fun r116 L M hp => ?_)
      obtain ⟨C, D, F, I, K1, hr⟩ := hp
      have K := K.step K1 (by decide)
      subst hr
      refine g_if_eq X dX7_paste_4 (tgt := 14) (by decide) (fun q => absurd q (by decide)) (fun _ => ?_)
      refine g_iload_n X dX7_paste_7 rfl (j := 3) rfl ?_
      refine g_callSI X (s_X7_isSlot_2 l G F I  ) lk_X7_389 rfl rfl dX7_paste_8 (Nat.le_of_ble_eq_true rfl) ⟨by decide, by decide⟩ ⟨by decide, by decide⟩ (fun r117 L M hp => ?_)
      obtain ⟨C, D, F, I, K1, hr⟩ := hp
      have K := K.step K1 (by decide)
      subst hr
      refine g_if_ne X dX7_paste_11 (tgt := 17) (by decide) (fun _ => ?_) (fun q => absurd q (by decide))
      refine g_aload_n X dX7_paste_17 rfl (j := 0) rfl ?_
      refine i_get X F 0 rfl rfl fk_X7_32 dX7_paste_18 rfl ?_
      refine g_iload_n X dX7_paste_21 rfl (j := 1) rfl ?_
      rcases (Bool.eq_false_or_eq_true (act 82)).symm with hA82 | hA82
      · skip
        refine i_aald X F 24 rfl (t0 := 5) rfl rfl dX7_paste_22 (vp_in_iff.mpr (by decide)) (v := .null) (by show va_rf (R 24 1) = _; rw [HR.1 1 (by decide)]; rw [if_neg (by rw [hA82]; decide)]; rfl) ?_
        refine g_astoreN X dX7_paste_23 (by decide) (lv2 := [(6, .null), (0, .ref (a 0)), (1, .int 1), (2, .int p1), (3, .int 2), (4, .int p3), (5, .int p4)]) rfl ?_
        refine g_aload_n X dX7_paste_25 rfl (j := 1) rfl ?_
        refine i_get X F 0 rfl rfl fk_X7_32 dX7_paste_26 rfl ?_
        refine g_iload_n X dX7_paste_29 rfl (j := 4) rfl ?_
        rcases (Bool.eq_false_or_eq_true (act 84)).symm with hA84 | hA84
        · skip
          refine i_aald X F 24 rfl (t0 := 5) rfl rfl dX7_paste_30 (vp_in_iff.mpr (by decide)) (v := .null) (by show va_rf (R 24 2) = _; rw [HR.1 2 (by decide)]; rw [if_neg (by rw [hA84]; decide)]; rfl) ?_
          refine g_astoreN X dX7_paste_31 (by decide) (lv2 := [(7, .null), (6, .null), (0, .ref (a 0)), (1, .int 1), (2, .int p1), (3, .int 2), (4, .int p3), (5, .int p4)]) rfl ?_
          refine g_aloadN X dX7_paste_33 (j := 1) rfl ?_
          refine g_ifnullN X dX7_paste_35 (tgt := 43) (by decide) ?_
          refine g_bipush X dX7_paste_43 (v := -6) (by decide) ?_
          exact g_iret X hrt dX7_paste_45 (by decide) (by decide) ⟨C, D, F, I, K, trivial⟩
        · skip
          have act84 : (baseact 84 || act 84) = true := by rw [hA84]; rfl
          have act85 : (baseact 85 || act 85) = true := by rw [((HR.2.2.1 2 (by decide)).trans hA84)]; rfl
          refine i_aald X F 24 rfl (t0 := 5) rfl rfl dX7_paste_30 (vp_in_iff.mpr (by decide)) (v := .ref (a 84)) (by show va_rf (R 24 2) = _; rw [HR.1 2 (by decide)]; rw [if_pos hA84]; rfl) ?_
          refine g_astore X dX7_paste_31 (by decide) (lv2 := [(7, .ref (a 84)), (6, .null), (0, .ref (a 0)), (1, .int 1), (2, .int p1), (3, .int 2), (4, .int p3), (5, .int p4)]) rfl ?_
          refine g_aloadN X dX7_paste_33 (j := 1) rfl ?_
          refine g_ifnullN X dX7_paste_35 (tgt := 43) (by decide) ?_
          refine g_bipush X dX7_paste_43 (v := -6) (by decide) ?_
          exact g_iret X hrt dX7_paste_45 (by decide) (by decide) ⟨C, D, F, I, K, trivial⟩
      · skip
        have act82 : (baseact 82 || act 82) = true := by rw [hA82]; rfl
        have act83 : (baseact 83 || act 83) = true := by rw [((HR.2.2.1 1 (by decide)).trans hA82)]; rfl
        refine i_aald X F 24 rfl (t0 := 5) rfl rfl dX7_paste_22 (vp_in_iff.mpr (by decide)) (v := .ref (a 82)) (by show va_rf (R 24 1) = _; rw [HR.1 1 (by decide)]; rw [if_pos hA82]; rfl) ?_
        refine g_astore X dX7_paste_23 (by decide) (lv2 := [(6, .ref (a 82)), (0, .ref (a 0)), (1, .int 1), (2, .int p1), (3, .int 2), (4, .int p3), (5, .int p4)]) rfl ?_
        refine g_aload_n X dX7_paste_25 rfl (j := 1) rfl ?_
        refine i_get X F 0 rfl rfl fk_X7_32 dX7_paste_26 rfl ?_
        refine g_iload_n X dX7_paste_29 rfl (j := 4) rfl ?_
        rcases (Bool.eq_false_or_eq_true (act 84)).symm with hA84 | hA84
        · skip
          refine i_aald X F 24 rfl (t0 := 5) rfl rfl dX7_paste_30 (vp_in_iff.mpr (by decide)) (v := .null) (by show va_rf (R 24 2) = _; rw [HR.1 2 (by decide)]; rw [if_neg (by rw [hA84]; decide)]; rfl) ?_
          refine g_astoreN X dX7_paste_31 (by decide) (lv2 := [(7, .null), (6, .ref (a 82)), (0, .ref (a 0)), (1, .int 1), (2, .int p1), (3, .int 2), (4, .int p3), (5, .int p4)]) rfl ?_
          refine g_aload X dX7_paste_33 (j := 1) rfl ?_
          refine g_ifnull X dX7_paste_35 ?_
          refine g_aloadN X dX7_paste_38 (j := 0) rfl ?_
          refine g_ifnonnullN X dX7_paste_40 ?_
          refine g_bipush X dX7_paste_43 (v := -6) (by decide) ?_
          exact g_iret X hrt dX7_paste_45 (by decide) (by decide) ⟨C, D, F, I, K, trivial⟩
        · skip
          have act84 : (baseact 84 || act 84) = true := by rw [hA84]; rfl
          have act85 : (baseact 85 || act 85) = true := by rw [((HR.2.2.1 2 (by decide)).trans hA84)]; rfl
          refine i_aald X F 24 rfl (t0 := 5) rfl rfl dX7_paste_30 (vp_in_iff.mpr (by decide)) (v := .ref (a 84)) (by show va_rf (R 24 2) = _; rw [HR.1 2 (by decide)]; rw [if_pos hA84]; rfl) ?_
          refine g_astore X dX7_paste_31 (by decide) (lv2 := [(7, .ref (a 84)), (6, .ref (a 82)), (0, .ref (a 0)), (1, .int 1), (2, .int p1), (3, .int 2), (4, .int p3), (5, .int p4)]) rfl ?_
          refine g_aload X dX7_paste_33 (j := 1) rfl ?_
          refine g_ifnull X dX7_paste_35 ?_
          refine g_aload X dX7_paste_38 (j := 0) rfl ?_
          refine g_ifnonnull X dX7_paste_40 (tgt := 46) (by decide) ?_
          refine g_aload X dX7_paste_46 (j := 1) rfl ?_
          refine i_get X F 82 (act82) rfl fk_X7_400 dX7_paste_48 rfl ?_
          refine Go.gen (fun o121 => ?_)
          refine g_aload X dX7_paste_51 (j := 0) rfl ?_
          refine i_get X F 84 (act84) rfl fk_X7_400 dX7_paste_53 rfl ?_
          refine Go.gen (fun o122 => ?_)
          refine g_icmp_eq X dX7_paste_56 (tgt := 62) (by decide) (fun q123 => ?_) (fun q123 => ?_)
          · skip
            refine g_aload X dX7_paste_62 (j := 1) rfl ?_
            refine g_iload_n X dX7_paste_64 rfl (j := 4) rfl ?_
            refine g_iload X dX7_paste_65 (j := 7) rfl ?_
            refine g_callVI X (s_X5_hasPart_82 l G F I p1 p4 act82) lk_X7_403 (F.1 82 (act82)).2 (F.1 82 (act82)).1 rfl rfl dX7_paste_67 (Nat.le_of_ble_eq_true rfl) ⟨by decide, by decide⟩ ⟨by decide, by decide⟩ (fun r124 L M hp => ?_)
            obtain ⟨C, D, F, I, K1, hr⟩ := hp
            have K := K.step K1 (by decide)
            rcases hr with ⟨rfl, hp125⟩ | ⟨rfl, hp125⟩
            · skip
              rw [(K 82 (by decide)).1] at hp125
              refine g_if_eq X dX7_paste_70 (tgt := 85) (by decide) (fun _ => ?_) (fun q => absurd (by decide) q)
              refine g_bipush X dX7_paste_85 (v := -7) (by decide) ?_
              exact g_iret X hrt dX7_paste_87 (by decide) (by decide) ⟨C, D, F, I, K, trivial⟩
            · skip
              rw [(K 82 (by decide)).1] at hp125
              refine g_if_eq X dX7_paste_70 (tgt := 85) (by decide) (fun q => absurd q (by decide)) (fun _ => ?_)
              refine g_aload X dX7_paste_73 (j := 0) rfl ?_
              refine g_iload X dX7_paste_75 (j := 6) rfl ?_
              refine g_iload X dX7_paste_77 (j := 7) rfl ?_
              refine g_callVI X (s_X5_hasPart_84 l G F I p3 p4 act84) lk_X7_403 (F.1 84 (act84)).2 (F.1 84 (act84)).1 rfl rfl dX7_paste_79 (Nat.le_of_ble_eq_true rfl) ⟨by decide, by decide⟩ ⟨by decide, by decide⟩ (fun r126 L M hp => ?_)
              obtain ⟨C, D, F, I, K1, hr⟩ := hp
              have K := K.step K1 (by decide)
              rcases hr with ⟨rfl, hp127⟩ | ⟨rfl, hp127⟩
              · skip
                rw [(K 84 (by decide)).1] at hp127
                refine g_if_ne X dX7_paste_82 (tgt := 88) (by decide) (fun q => absurd (by decide) q) (fun _ => ?_)
                refine g_bipush X dX7_paste_85 (v := -7) (by decide) ?_
                exact g_iret X hrt dX7_paste_87 (by decide) (by decide) ⟨C, D, F, I, K, trivial⟩
              · skip
                rw [(K 84 (by decide)).1] at hp127
                refine g_if_ne X dX7_paste_82 (tgt := 88) (by decide) (fun _ => ?_) (fun q => absurd q (by decide))
                have hz82 := (show (C0 82 2).toInt ≤ 60 from (by have z := I 82 2 rfl; rw [(K 82 (by decide)).1] at z; exact z.2))
                have hz84 := (show (C0 84 2).toInt ≤ 60 from (by have z := I 84 2 rfl; rw [(K 84 (by decide)).1] at z; exact z.2))
                obtain ⟨n128, hn128a, hn128b, en128⟩ := nI_ofInt (x := p1) (lo := 0) (hi := 60) (by omega) (by omega) (by decide)
                subst en128
                have tn128 := nI_toInt (n := n128) (by omega)
                obtain ⟨n129, hn129a, hn129b, en129⟩ := nI_ofInt (x := p3) (lo := 0) (hi := 60) (by omega) (by omega) (by decide)
                subst en129
                have tn129 := nI_toInt (n := n129) (by omega)
                obtain ⟨n130, hn130a, hn130b, en130⟩ := nI_ofInt (x := p4) (lo := 0) (hi := 60) (by omega) (by omega) (by decide)
                subst en130
                have tn130 := nI_toInt (n := n130) (by omega)
                refine g_aload X dX7_paste_88 (j := 1) rfl ?_
                refine i_get X F 82 (act82) rfl fk_X7_406 dX7_paste_90 rfl ?_
                refine g_iload_n X dX7_paste_93 rfl (j := 4) rfl ?_
                refine g_aload X dX7_paste_94 (j := 0) rfl ?_
                refine i_get X F 84 (act84) rfl fk_X7_406 dX7_paste_96 rfl ?_
                refine g_iload X dX7_paste_99 (j := 6) rfl ?_
                refine g_iload X dX7_paste_101 (j := 7) rfl ?_
                refine i_copyl X F 83 (act83) 85 (act85) rfl (fun _ => rfl) (t0 := 2) rfl rfl wd604 wd87 wd88 wd89 (nI_pos (by omega)) (nI_pos (by omega)) (nI_pos (by omega)) (by rw [nI_clamp (show n128 < 2 ^ 31 by omega), nI_clamp (show n130 < 2 ^ 31 by omega)]; omega) (by rw [nI_clamp (show n129 < 2 ^ 31 by omega), nI_clamp (show n130 < 2 ^ 31 by omega)]; omega) (fun _ _ => rfl) (by decide) (Nat.le_of_ble_eq_true rfl) dX7_paste_103 (fun M D F K1 => ?_)
                have K := K.step K1 (by decide)
                refine g_iconst X dX7_paste_106 (v := 0) (by decide) ?_
                exact g_iret X hrt dX7_paste_107 (by decide) (by decide) ⟨C, D, F, I, K, trivial⟩
          · skip
            refine g_bipush X dX7_paste_59 (v := -8) (by decide) ?_
            exact g_iret X hrt dX7_paste_61 (by decide) (by decide) ⟨C, D, F, I, K, trivial⟩
    · skip
      refine g_iload_n X dX7_paste_0 rfl (j := 1) rfl ?_
      refine g_callSI X (s_X7_isSlot_1 l G F I  ) lk_X7_389 rfl rfl dX7_paste_1 (Nat.le_of_ble_eq_true rfl) ⟨by decide, by decide⟩ ⟨by decide, by decide⟩ (fun r131 L M hp => ?_)
      obtain ⟨C, D, F, I, K1, hr⟩ := hp
      have K := K.step K1 (by decide)
      subst hr
      refine g_if_eq X dX7_paste_4 (tgt := 14) (by decide) (fun q => absurd q (by decide)) (fun _ => ?_)
      refine g_iload_n X dX7_paste_7 rfl (j := 3) rfl ?_
      refine g_callSI X (s_X7_isSlot_3 l G F I  ) lk_X7_389 rfl rfl dX7_paste_8 (Nat.le_of_ble_eq_true rfl) ⟨by decide, by decide⟩ ⟨by decide, by decide⟩ (fun r132 L M hp => ?_)
      obtain ⟨C, D, F, I, K1, hr⟩ := hp
      have K := K.step K1 (by decide)
      subst hr
      refine g_if_ne X dX7_paste_11 (tgt := 17) (by decide) (fun _ => ?_) (fun q => absurd q (by decide))
      refine g_aload_n X dX7_paste_17 rfl (j := 0) rfl ?_
      refine i_get X F 0 rfl rfl fk_X7_32 dX7_paste_18 rfl ?_
      refine g_iload_n X dX7_paste_21 rfl (j := 1) rfl ?_
      rcases (Bool.eq_false_or_eq_true (act 82)).symm with hA82 | hA82
      · skip
        refine i_aald X F 24 rfl (t0 := 5) rfl rfl dX7_paste_22 (vp_in_iff.mpr (by decide)) (v := .null) (by show va_rf (R 24 1) = _; rw [HR.1 1 (by decide)]; rw [if_neg (by rw [hA82]; decide)]; rfl) ?_
        refine g_astoreN X dX7_paste_23 (by decide) (lv2 := [(6, .null), (0, .ref (a 0)), (1, .int 1), (2, .int p1), (3, .int 3), (4, .int p3), (5, .int p4)]) rfl ?_
        refine g_aload_n X dX7_paste_25 rfl (j := 1) rfl ?_
        refine i_get X F 0 rfl rfl fk_X7_32 dX7_paste_26 rfl ?_
        refine g_iload_n X dX7_paste_29 rfl (j := 4) rfl ?_
        rcases (Bool.eq_false_or_eq_true (act 86)).symm with hA86 | hA86
        · skip
          refine i_aald X F 24 rfl (t0 := 5) rfl rfl dX7_paste_30 (vp_in_iff.mpr (by decide)) (v := .null) (by show va_rf (R 24 3) = _; rw [HR.1 3 (by decide)]; rw [if_neg (by rw [hA86]; decide)]; rfl) ?_
          refine g_astoreN X dX7_paste_31 (by decide) (lv2 := [(7, .null), (6, .null), (0, .ref (a 0)), (1, .int 1), (2, .int p1), (3, .int 3), (4, .int p3), (5, .int p4)]) rfl ?_
          refine g_aloadN X dX7_paste_33 (j := 1) rfl ?_
          refine g_ifnullN X dX7_paste_35 (tgt := 43) (by decide) ?_
          refine g_bipush X dX7_paste_43 (v := -6) (by decide) ?_
          exact g_iret X hrt dX7_paste_45 (by decide) (by decide) ⟨C, D, F, I, K, trivial⟩
        · skip
          have act86 : (baseact 86 || act 86) = true := by rw [hA86]; rfl
          have act87 : (baseact 87 || act 87) = true := by rw [((HR.2.2.1 3 (by decide)).trans hA86)]; rfl
          refine i_aald X F 24 rfl (t0 := 5) rfl rfl dX7_paste_30 (vp_in_iff.mpr (by decide)) (v := .ref (a 86)) (by show va_rf (R 24 3) = _; rw [HR.1 3 (by decide)]; rw [if_pos hA86]; rfl) ?_
          refine g_astore X dX7_paste_31 (by decide) (lv2 := [(7, .ref (a 86)), (6, .null), (0, .ref (a 0)), (1, .int 1), (2, .int p1), (3, .int 3), (4, .int p3), (5, .int p4)]) rfl ?_
          refine g_aloadN X dX7_paste_33 (j := 1) rfl ?_
          refine g_ifnullN X dX7_paste_35 (tgt := 43) (by decide) ?_
          refine g_bipush X dX7_paste_43 (v := -6) (by decide) ?_
          exact g_iret X hrt dX7_paste_45 (by decide) (by decide) ⟨C, D, F, I, K, trivial⟩
      · skip
        have act82 : (baseact 82 || act 82) = true := by rw [hA82]; rfl
        have act83 : (baseact 83 || act 83) = true := by rw [((HR.2.2.1 1 (by decide)).trans hA82)]; rfl
        refine i_aald X F 24 rfl (t0 := 5) rfl rfl dX7_paste_22 (vp_in_iff.mpr (by decide)) (v := .ref (a 82)) (by show va_rf (R 24 1) = _; rw [HR.1 1 (by decide)]; rw [if_pos hA82]; rfl) ?_
        refine g_astore X dX7_paste_23 (by decide) (lv2 := [(6, .ref (a 82)), (0, .ref (a 0)), (1, .int 1), (2, .int p1), (3, .int 3), (4, .int p3), (5, .int p4)]) rfl ?_
        refine g_aload_n X dX7_paste_25 rfl (j := 1) rfl ?_
        refine i_get X F 0 rfl rfl fk_X7_32 dX7_paste_26 rfl ?_
        refine g_iload_n X dX7_paste_29 rfl (j := 4) rfl ?_
        rcases (Bool.eq_false_or_eq_true (act 86)).symm with hA86 | hA86
        · skip
          refine i_aald X F 24 rfl (t0 := 5) rfl rfl dX7_paste_30 (vp_in_iff.mpr (by decide)) (v := .null) (by show va_rf (R 24 3) = _; rw [HR.1 3 (by decide)]; rw [if_neg (by rw [hA86]; decide)]; rfl) ?_
          refine g_astoreN X dX7_paste_31 (by decide) (lv2 := [(7, .null), (6, .ref (a 82)), (0, .ref (a 0)), (1, .int 1), (2, .int p1), (3, .int 3), (4, .int p3), (5, .int p4)]) rfl ?_
          refine g_aload X dX7_paste_33 (j := 1) rfl ?_
          refine g_ifnull X dX7_paste_35 ?_
          refine g_aloadN X dX7_paste_38 (j := 0) rfl ?_
          refine g_ifnonnullN X dX7_paste_40 ?_
          refine g_bipush X dX7_paste_43 (v := -6) (by decide) ?_
          exact g_iret X hrt dX7_paste_45 (by decide) (by decide) ⟨C, D, F, I, K, trivial⟩
        · skip
          have act86 : (baseact 86 || act 86) = true := by rw [hA86]; rfl
          have act87 : (baseact 87 || act 87) = true := by rw [((HR.2.2.1 3 (by decide)).trans hA86)]; rfl
          refine i_aald X F 24 rfl (t0 := 5) rfl rfl dX7_paste_30 (vp_in_iff.mpr (by decide)) (v := .ref (a 86)) (by show va_rf (R 24 3) = _; rw [HR.1 3 (by decide)]; rw [if_pos hA86]; rfl) ?_
          refine g_astore X dX7_paste_31 (by decide) (lv2 := [(7, .ref (a 86)), (6, .ref (a 82)), (0, .ref (a 0)), (1, .int 1), (2, .int p1), (3, .int 3), (4, .int p3), (5, .int p4)]) rfl ?_
          refine g_aload X dX7_paste_33 (j := 1) rfl ?_
          refine g_ifnull X dX7_paste_35 ?_
          refine g_aload X dX7_paste_38 (j := 0) rfl ?_
          refine g_ifnonnull X dX7_paste_40 (tgt := 46) (by decide) ?_
          refine g_aload X dX7_paste_46 (j := 1) rfl ?_
          refine i_get X F 82 (act82) rfl fk_X7_400 dX7_paste_48 rfl ?_
          refine Go.gen (fun o136 => ?_)
          refine g_aload X dX7_paste_51 (j := 0) rfl ?_
          refine i_get X F 86 (act86) rfl fk_X7_400 dX7_paste_53 rfl ?_
          refine Go.gen (fun o137 => ?_)
          refine g_icmp_eq X dX7_paste_56 (tgt := 62) (by decide) (fun q138 => ?_) (fun q138 => ?_)
          · skip
            refine g_aload X dX7_paste_62 (j := 1) rfl ?_
            refine g_iload_n X dX7_paste_64 rfl (j := 4) rfl ?_
            refine g_iload X dX7_paste_65 (j := 7) rfl ?_
            refine g_callVI X (s_X5_hasPart_82 l G F I p1 p4 act82) lk_X7_403 (F.1 82 (act82)).2 (F.1 82 (act82)).1 rfl rfl dX7_paste_67 (Nat.le_of_ble_eq_true rfl) ⟨by decide, by decide⟩ ⟨by decide, by decide⟩ (fun r139 L M hp => ?_)
            obtain ⟨C, D, F, I, K1, hr⟩ := hp
            have K := K.step K1 (by decide)
            rcases hr with ⟨rfl, hp140⟩ | ⟨rfl, hp140⟩
            · skip
              rw [(K 82 (by decide)).1] at hp140
              refine g_if_eq X dX7_paste_70 (tgt := 85) (by decide) (fun _ => ?_) (fun q => absurd (by decide) q)
              refine g_bipush X dX7_paste_85 (v := -7) (by decide) ?_
              exact g_iret X hrt dX7_paste_87 (by decide) (by decide) ⟨C, D, F, I, K, trivial⟩
            · skip
              rw [(K 82 (by decide)).1] at hp140
              refine g_if_eq X dX7_paste_70 (tgt := 85) (by decide) (fun q => absurd q (by decide)) (fun _ => ?_)
              refine g_aload X dX7_paste_73 (j := 0) rfl ?_
              refine g_iload X dX7_paste_75 (j := 6) rfl ?_
              refine g_iload X dX7_paste_77 (j := 7) rfl ?_
              refine g_callVI X (s_X5_hasPart_86 l G F I p3 p4 act86) lk_X7_403 (F.1 86 (act86)).2 (F.1 86 (act86)).1 rfl rfl dX7_paste_79 (Nat.le_of_ble_eq_true rfl) ⟨by decide, by decide⟩ ⟨by decide, by decide⟩ (fun r141 L M hp => ?_)
              obtain ⟨C, D, F, I, K1, hr⟩ := hp
              have K := K.step K1 (by decide)
              rcases hr with ⟨rfl, hp142⟩ | ⟨rfl, hp142⟩
              · skip
                rw [(K 86 (by decide)).1] at hp142
                refine g_if_ne X dX7_paste_82 (tgt := 88) (by decide) (fun q => absurd (by decide) q) (fun _ => ?_)
                refine g_bipush X dX7_paste_85 (v := -7) (by decide) ?_
                exact g_iret X hrt dX7_paste_87 (by decide) (by decide) ⟨C, D, F, I, K, trivial⟩
              · skip
                rw [(K 86 (by decide)).1] at hp142
                refine g_if_ne X dX7_paste_82 (tgt := 88) (by decide) (fun _ => ?_) (fun q => absurd q (by decide))
                have hz82 := (show (C0 82 2).toInt ≤ 60 from (by have z := I 82 2 rfl; rw [(K 82 (by decide)).1] at z; exact z.2))
                have hz86 := (show (C0 86 2).toInt ≤ 60 from (by have z := I 86 2 rfl; rw [(K 86 (by decide)).1] at z; exact z.2))
                obtain ⟨n143, hn143a, hn143b, en143⟩ := nI_ofInt (x := p1) (lo := 0) (hi := 60) (by omega) (by omega) (by decide)
                subst en143
                have tn143 := nI_toInt (n := n143) (by omega)
                obtain ⟨n144, hn144a, hn144b, en144⟩ := nI_ofInt (x := p3) (lo := 0) (hi := 60) (by omega) (by omega) (by decide)
                subst en144
                have tn144 := nI_toInt (n := n144) (by omega)
                obtain ⟨n145, hn145a, hn145b, en145⟩ := nI_ofInt (x := p4) (lo := 0) (hi := 60) (by omega) (by omega) (by decide)
                subst en145
                have tn145 := nI_toInt (n := n145) (by omega)
                refine g_aload X dX7_paste_88 (j := 1) rfl ?_
                refine i_get X F 82 (act82) rfl fk_X7_406 dX7_paste_90 rfl ?_
                refine g_iload_n X dX7_paste_93 rfl (j := 4) rfl ?_
                refine g_aload X dX7_paste_94 (j := 0) rfl ?_
                refine i_get X F 86 (act86) rfl fk_X7_406 dX7_paste_96 rfl ?_
                refine g_iload X dX7_paste_99 (j := 6) rfl ?_
                refine g_iload X dX7_paste_101 (j := 7) rfl ?_
                refine i_copyl X F 83 (act83) 87 (act87) rfl (fun _ => rfl) (t0 := 2) rfl rfl wd604 wd87 wd88 wd89 (nI_pos (by omega)) (nI_pos (by omega)) (nI_pos (by omega)) (by rw [nI_clamp (show n143 < 2 ^ 31 by omega), nI_clamp (show n145 < 2 ^ 31 by omega)]; omega) (by rw [nI_clamp (show n144 < 2 ^ 31 by omega), nI_clamp (show n145 < 2 ^ 31 by omega)]; omega) (fun _ _ => rfl) (by decide) (Nat.le_of_ble_eq_true rfl) dX7_paste_103 (fun M D F K1 => ?_)
                have K := K.step K1 (by decide)
                refine g_iconst X dX7_paste_106 (v := 0) (by decide) ?_
                exact g_iret X hrt dX7_paste_107 (by decide) (by decide) ⟨C, D, F, I, K, trivial⟩
          · skip
            refine g_bipush X dX7_paste_59 (v := -8) (by decide) ?_
            exact g_iret X hrt dX7_paste_61 (by decide) (by decide) ⟨C, D, F, I, K, trivial⟩
  · skip
    rcases sc4 p2 with hx146 | hx146 | rfl | rfl | rfl | rfl
    · skip
      have hno3 : p2 < 0 ∨ 4 ≤ p2 := Or.inl hx146
      refine g_iload_n X dX7_paste_0 rfl (j := 1) rfl ?_
      refine g_callSI X (s_X7_isSlot_2 l G F I  ) lk_X7_389 rfl rfl dX7_paste_1 (Nat.le_of_ble_eq_true rfl) ⟨by decide, by decide⟩ ⟨by decide, by decide⟩ (fun r147 L M hp => ?_)
      obtain ⟨C, D, F, I, K1, hr⟩ := hp
      have K := K.step K1 (by decide)
      subst hr
      refine g_if_eq X dX7_paste_4 (tgt := 14) (by decide) (fun q => absurd q (by decide)) (fun _ => ?_)
      refine g_iload_n X dX7_paste_7 rfl (j := 3) rfl ?_
      refine g_callSI X (s_X7_isSlot_x l G F I p2 hno3) lk_X7_389 rfl rfl dX7_paste_8 (Nat.le_of_ble_eq_true rfl) ⟨by decide, by decide⟩ ⟨by decide, by decide⟩ (fun r148 L M hp => ?_)
      obtain ⟨C, D, F, I, K1, hr⟩ := hp
      have K := K.step K1 (by decide)
      subst hr
      refine g_if_ne X dX7_paste_11 (tgt := 17) (by decide) (fun q => absurd (by decide) q) (fun _ => ?_)
      refine g_bipush X dX7_paste_14 (v := -2) (by decide) ?_
      exact g_iret X hrt dX7_paste_16 (by decide) (by decide) ⟨C, D, F, I, K, trivial⟩
    · skip
      have hno3 : p2 < 0 ∨ 4 ≤ p2 := Or.inr hx146
      refine g_iload_n X dX7_paste_0 rfl (j := 1) rfl ?_
      refine g_callSI X (s_X7_isSlot_2 l G F I  ) lk_X7_389 rfl rfl dX7_paste_1 (Nat.le_of_ble_eq_true rfl) ⟨by decide, by decide⟩ ⟨by decide, by decide⟩ (fun r149 L M hp => ?_)
      obtain ⟨C, D, F, I, K1, hr⟩ := hp
      have K := K.step K1 (by decide)
      subst hr
      refine g_if_eq X dX7_paste_4 (tgt := 14) (by decide) (fun q => absurd q (by decide)) (fun _ => ?_)
      refine g_iload_n X dX7_paste_7 rfl (j := 3) rfl ?_
      refine g_callSI X (s_X7_isSlot_x l G F I p2 hno3) lk_X7_389 rfl rfl dX7_paste_8 (Nat.le_of_ble_eq_true rfl) ⟨by decide, by decide⟩ ⟨by decide, by decide⟩ (fun r150 L M hp => ?_)
      obtain ⟨C, D, F, I, K1, hr⟩ := hp
      have K := K.step K1 (by decide)
      subst hr
      refine g_if_ne X dX7_paste_11 (tgt := 17) (by decide) (fun q => absurd (by decide) q) (fun _ => ?_)
      refine g_bipush X dX7_paste_14 (v := -2) (by decide) ?_
      exact g_iret X hrt dX7_paste_16 (by decide) (by decide) ⟨C, D, F, I, K, trivial⟩
    · skip
      refine g_iload_n X dX7_paste_0 rfl (j := 1) rfl ?_
      refine g_callSI X (s_X7_isSlot_2 l G F I  ) lk_X7_389 rfl rfl dX7_paste_1 (Nat.le_of_ble_eq_true rfl) ⟨by decide, by decide⟩ ⟨by decide, by decide⟩ (fun r151 L M hp => ?_)
      obtain ⟨C, D, F, I, K1, hr⟩ := hp
      have K := K.step K1 (by decide)
      subst hr
      refine g_if_eq X dX7_paste_4 (tgt := 14) (by decide) (fun q => absurd q (by decide)) (fun _ => ?_)
      refine g_iload_n X dX7_paste_7 rfl (j := 3) rfl ?_
      refine g_callSI X (s_X7_isSlot_0 l G F I  ) lk_X7_389 rfl rfl dX7_paste_8 (Nat.le_of_ble_eq_true rfl) ⟨by decide, by decide⟩ ⟨by decide, by decide⟩ (fun r152 L M hp => ?_)
      obtain ⟨C, D, F, I, K1, hr⟩ := hp
      have K := K.step K1 (by decide)
      subst hr
      refine g_if_ne X dX7_paste_11 (tgt := 17) (by decide) (fun _ => ?_) (fun q => absurd q (by decide))
      refine g_aload_n X dX7_paste_17 rfl (j := 0) rfl ?_
      refine i_get X F 0 rfl rfl fk_X7_32 dX7_paste_18 rfl ?_
      refine g_iload_n X dX7_paste_21 rfl (j := 1) rfl ?_
      rcases (Bool.eq_false_or_eq_true (act 84)).symm with hA84 | hA84
      · skip
        refine i_aald X F 24 rfl (t0 := 5) rfl rfl dX7_paste_22 (vp_in_iff.mpr (by decide)) (v := .null) (by show va_rf (R 24 2) = _; rw [HR.1 2 (by decide)]; rw [if_neg (by rw [hA84]; decide)]; rfl) ?_
        refine g_astoreN X dX7_paste_23 (by decide) (lv2 := [(6, .null), (0, .ref (a 0)), (1, .int 2), (2, .int p1), (3, .int 0), (4, .int p3), (5, .int p4)]) rfl ?_
        refine g_aload_n X dX7_paste_25 rfl (j := 1) rfl ?_
        refine i_get X F 0 rfl rfl fk_X7_32 dX7_paste_26 rfl ?_
        refine g_iload_n X dX7_paste_29 rfl (j := 4) rfl ?_
        rcases (Bool.eq_false_or_eq_true (act 80)).symm with hA80 | hA80
        · skip
          refine i_aald X F 24 rfl (t0 := 5) rfl rfl dX7_paste_30 (vp_in_iff.mpr (by decide)) (v := .null) (by show va_rf (R 24 0) = _; rw [HR.1 0 (by decide)]; rw [if_neg (by rw [hA80]; decide)]; rfl) ?_
          refine g_astoreN X dX7_paste_31 (by decide) (lv2 := [(7, .null), (6, .null), (0, .ref (a 0)), (1, .int 2), (2, .int p1), (3, .int 0), (4, .int p3), (5, .int p4)]) rfl ?_
          refine g_aloadN X dX7_paste_33 (j := 1) rfl ?_
          refine g_ifnullN X dX7_paste_35 (tgt := 43) (by decide) ?_
          refine g_bipush X dX7_paste_43 (v := -6) (by decide) ?_
          exact g_iret X hrt dX7_paste_45 (by decide) (by decide) ⟨C, D, F, I, K, trivial⟩
        · skip
          have act80 : (baseact 80 || act 80) = true := by rw [hA80]; rfl
          have act81 : (baseact 81 || act 81) = true := by rw [((HR.2.2.1 0 (by decide)).trans hA80)]; rfl
          refine i_aald X F 24 rfl (t0 := 5) rfl rfl dX7_paste_30 (vp_in_iff.mpr (by decide)) (v := .ref (a 80)) (by show va_rf (R 24 0) = _; rw [HR.1 0 (by decide)]; rw [if_pos hA80]; rfl) ?_
          refine g_astore X dX7_paste_31 (by decide) (lv2 := [(7, .ref (a 80)), (6, .null), (0, .ref (a 0)), (1, .int 2), (2, .int p1), (3, .int 0), (4, .int p3), (5, .int p4)]) rfl ?_
          refine g_aloadN X dX7_paste_33 (j := 1) rfl ?_
          refine g_ifnullN X dX7_paste_35 (tgt := 43) (by decide) ?_
          refine g_bipush X dX7_paste_43 (v := -6) (by decide) ?_
          exact g_iret X hrt dX7_paste_45 (by decide) (by decide) ⟨C, D, F, I, K, trivial⟩
      · skip
        have act84 : (baseact 84 || act 84) = true := by rw [hA84]; rfl
        have act85 : (baseact 85 || act 85) = true := by rw [((HR.2.2.1 2 (by decide)).trans hA84)]; rfl
        refine i_aald X F 24 rfl (t0 := 5) rfl rfl dX7_paste_22 (vp_in_iff.mpr (by decide)) (v := .ref (a 84)) (by show va_rf (R 24 2) = _; rw [HR.1 2 (by decide)]; rw [if_pos hA84]; rfl) ?_
        refine g_astore X dX7_paste_23 (by decide) (lv2 := [(6, .ref (a 84)), (0, .ref (a 0)), (1, .int 2), (2, .int p1), (3, .int 0), (4, .int p3), (5, .int p4)]) rfl ?_
        refine g_aload_n X dX7_paste_25 rfl (j := 1) rfl ?_
        refine i_get X F 0 rfl rfl fk_X7_32 dX7_paste_26 rfl ?_
        refine g_iload_n X dX7_paste_29 rfl (j := 4) rfl ?_
        rcases (Bool.eq_false_or_eq_true (act 80)).symm with hA80 | hA80
        · skip
          refine i_aald X F 24 rfl (t0 := 5) rfl rfl dX7_paste_30 (vp_in_iff.mpr (by decide)) (v := .null) (by show va_rf (R 24 0) = _; rw [HR.1 0 (by decide)]; rw [if_neg (by rw [hA80]; decide)]; rfl) ?_
          refine g_astoreN X dX7_paste_31 (by decide) (lv2 := [(7, .null), (6, .ref (a 84)), (0, .ref (a 0)), (1, .int 2), (2, .int p1), (3, .int 0), (4, .int p3), (5, .int p4)]) rfl ?_
          refine g_aload X dX7_paste_33 (j := 1) rfl ?_
          refine g_ifnull X dX7_paste_35 ?_
          refine g_aloadN X dX7_paste_38 (j := 0) rfl ?_
          refine g_ifnonnullN X dX7_paste_40 ?_
          refine g_bipush X dX7_paste_43 (v := -6) (by decide) ?_
          exact g_iret X hrt dX7_paste_45 (by decide) (by decide) ⟨C, D, F, I, K, trivial⟩
        · skip
          have act80 : (baseact 80 || act 80) = true := by rw [hA80]; rfl
          have act81 : (baseact 81 || act 81) = true := by rw [((HR.2.2.1 0 (by decide)).trans hA80)]; rfl
          refine i_aald X F 24 rfl (t0 := 5) rfl rfl dX7_paste_30 (vp_in_iff.mpr (by decide)) (v := .ref (a 80)) (by show va_rf (R 24 0) = _; rw [HR.1 0 (by decide)]; rw [if_pos hA80]; rfl) ?_
          refine g_astore X dX7_paste_31 (by decide) (lv2 := [(7, .ref (a 80)), (6, .ref (a 84)), (0, .ref (a 0)), (1, .int 2), (2, .int p1), (3, .int 0), (4, .int p3), (5, .int p4)]) rfl ?_
          refine g_aload X dX7_paste_33 (j := 1) rfl ?_
          refine g_ifnull X dX7_paste_35 ?_
          refine g_aload X dX7_paste_38 (j := 0) rfl ?_
          refine g_ifnonnull X dX7_paste_40 (tgt := 46) (by decide) ?_
          refine g_aload X dX7_paste_46 (j := 1) rfl ?_
          refine i_get X F 84 (act84) rfl fk_X7_400 dX7_paste_48 rfl ?_
          refine Go.gen (fun o156 => ?_)
          refine g_aload X dX7_paste_51 (j := 0) rfl ?_
          refine i_get X F 80 (act80) rfl fk_X7_400 dX7_paste_53 rfl ?_
          refine Go.gen (fun o157 => ?_)
          refine g_icmp_eq X dX7_paste_56 (tgt := 62) (by decide) (fun q158 => ?_) (fun q158 => ?_)
          · skip
            refine g_aload X dX7_paste_62 (j := 1) rfl ?_
            refine g_iload_n X dX7_paste_64 rfl (j := 4) rfl ?_
            refine g_iload X dX7_paste_65 (j := 7) rfl ?_
            refine g_callVI X (s_X5_hasPart_84 l G F I p1 p4 act84) lk_X7_403 (F.1 84 (act84)).2 (F.1 84 (act84)).1 rfl rfl dX7_paste_67 (Nat.le_of_ble_eq_true rfl) ⟨by decide, by decide⟩ ⟨by decide, by decide⟩ (fun r159 L M hp => ?_)
            obtain ⟨C, D, F, I, K1, hr⟩ := hp
            have K := K.step K1 (by decide)
            rcases hr with ⟨rfl, hp160⟩ | ⟨rfl, hp160⟩
            · skip
              rw [(K 84 (by decide)).1] at hp160
              refine g_if_eq X dX7_paste_70 (tgt := 85) (by decide) (fun _ => ?_) (fun q => absurd (by decide) q)
              refine g_bipush X dX7_paste_85 (v := -7) (by decide) ?_
              exact g_iret X hrt dX7_paste_87 (by decide) (by decide) ⟨C, D, F, I, K, trivial⟩
            · skip
              rw [(K 84 (by decide)).1] at hp160
              refine g_if_eq X dX7_paste_70 (tgt := 85) (by decide) (fun q => absurd q (by decide)) (fun _ => ?_)
              refine g_aload X dX7_paste_73 (j := 0) rfl ?_
              refine g_iload X dX7_paste_75 (j := 6) rfl ?_
              refine g_iload X dX7_paste_77 (j := 7) rfl ?_
              refine g_callVI X (s_X5_hasPart_80 l G F I p3 p4 act80) lk_X7_403 (F.1 80 (act80)).2 (F.1 80 (act80)).1 rfl rfl dX7_paste_79 (Nat.le_of_ble_eq_true rfl) ⟨by decide, by decide⟩ ⟨by decide, by decide⟩ (fun r161 L M hp => ?_)
              obtain ⟨C, D, F, I, K1, hr⟩ := hp
              have K := K.step K1 (by decide)
              rcases hr with ⟨rfl, hp162⟩ | ⟨rfl, hp162⟩
              · skip
                rw [(K 80 (by decide)).1] at hp162
                refine g_if_ne X dX7_paste_82 (tgt := 88) (by decide) (fun q => absurd (by decide) q) (fun _ => ?_)
                refine g_bipush X dX7_paste_85 (v := -7) (by decide) ?_
                exact g_iret X hrt dX7_paste_87 (by decide) (by decide) ⟨C, D, F, I, K, trivial⟩
              · skip
                rw [(K 80 (by decide)).1] at hp162
                refine g_if_ne X dX7_paste_82 (tgt := 88) (by decide) (fun _ => ?_) (fun q => absurd q (by decide))
                have hz84 := (show (C0 84 2).toInt ≤ 60 from (by have z := I 84 2 rfl; rw [(K 84 (by decide)).1] at z; exact z.2))
                have hz80 := (show (C0 80 2).toInt ≤ 60 from (by have z := I 80 2 rfl; rw [(K 80 (by decide)).1] at z; exact z.2))
                obtain ⟨n163, hn163a, hn163b, en163⟩ := nI_ofInt (x := p1) (lo := 0) (hi := 60) (by omega) (by omega) (by decide)
                subst en163
                have tn163 := nI_toInt (n := n163) (by omega)
                obtain ⟨n164, hn164a, hn164b, en164⟩ := nI_ofInt (x := p3) (lo := 0) (hi := 60) (by omega) (by omega) (by decide)
                subst en164
                have tn164 := nI_toInt (n := n164) (by omega)
                obtain ⟨n165, hn165a, hn165b, en165⟩ := nI_ofInt (x := p4) (lo := 0) (hi := 60) (by omega) (by omega) (by decide)
                subst en165
                have tn165 := nI_toInt (n := n165) (by omega)
                refine g_aload X dX7_paste_88 (j := 1) rfl ?_
                refine i_get X F 84 (act84) rfl fk_X7_406 dX7_paste_90 rfl ?_
                refine g_iload_n X dX7_paste_93 rfl (j := 4) rfl ?_
                refine g_aload X dX7_paste_94 (j := 0) rfl ?_
                refine i_get X F 80 (act80) rfl fk_X7_406 dX7_paste_96 rfl ?_
                refine g_iload X dX7_paste_99 (j := 6) rfl ?_
                refine g_iload X dX7_paste_101 (j := 7) rfl ?_
                refine i_copyl X F 85 (act85) 81 (act81) rfl (fun _ => rfl) (t0 := 2) rfl rfl wd604 wd87 wd88 wd89 (nI_pos (by omega)) (nI_pos (by omega)) (nI_pos (by omega)) (by rw [nI_clamp (show n163 < 2 ^ 31 by omega), nI_clamp (show n165 < 2 ^ 31 by omega)]; omega) (by rw [nI_clamp (show n164 < 2 ^ 31 by omega), nI_clamp (show n165 < 2 ^ 31 by omega)]; omega) (fun _ _ => rfl) (by decide) (Nat.le_of_ble_eq_true rfl) dX7_paste_103 (fun M D F K1 => ?_)
                have K := K.step K1 (by decide)
                refine g_iconst X dX7_paste_106 (v := 0) (by decide) ?_
                exact g_iret X hrt dX7_paste_107 (by decide) (by decide) ⟨C, D, F, I, K, trivial⟩
          · skip
            refine g_bipush X dX7_paste_59 (v := -8) (by decide) ?_
            exact g_iret X hrt dX7_paste_61 (by decide) (by decide) ⟨C, D, F, I, K, trivial⟩
    · skip
      refine g_iload_n X dX7_paste_0 rfl (j := 1) rfl ?_
      refine g_callSI X (s_X7_isSlot_2 l G F I  ) lk_X7_389 rfl rfl dX7_paste_1 (Nat.le_of_ble_eq_true rfl) ⟨by decide, by decide⟩ ⟨by decide, by decide⟩ (fun r166 L M hp => ?_)
      obtain ⟨C, D, F, I, K1, hr⟩ := hp
      have K := K.step K1 (by decide)
      subst hr
      refine g_if_eq X dX7_paste_4 (tgt := 14) (by decide) (fun q => absurd q (by decide)) (fun _ => ?_)
      refine g_iload_n X dX7_paste_7 rfl (j := 3) rfl ?_
      refine g_callSI X (s_X7_isSlot_1 l G F I  ) lk_X7_389 rfl rfl dX7_paste_8 (Nat.le_of_ble_eq_true rfl) ⟨by decide, by decide⟩ ⟨by decide, by decide⟩ (fun r167 L M hp => ?_)
      obtain ⟨C, D, F, I, K1, hr⟩ := hp
      have K := K.step K1 (by decide)
      subst hr
      refine g_if_ne X dX7_paste_11 (tgt := 17) (by decide) (fun _ => ?_) (fun q => absurd q (by decide))
      refine g_aload_n X dX7_paste_17 rfl (j := 0) rfl ?_
      refine i_get X F 0 rfl rfl fk_X7_32 dX7_paste_18 rfl ?_
      refine g_iload_n X dX7_paste_21 rfl (j := 1) rfl ?_
      rcases (Bool.eq_false_or_eq_true (act 84)).symm with hA84 | hA84
      · skip
        refine i_aald X F 24 rfl (t0 := 5) rfl rfl dX7_paste_22 (vp_in_iff.mpr (by decide)) (v := .null) (by show va_rf (R 24 2) = _; rw [HR.1 2 (by decide)]; rw [if_neg (by rw [hA84]; decide)]; rfl) ?_
        refine g_astoreN X dX7_paste_23 (by decide) (lv2 := [(6, .null), (0, .ref (a 0)), (1, .int 2), (2, .int p1), (3, .int 1), (4, .int p3), (5, .int p4)]) rfl ?_
        refine g_aload_n X dX7_paste_25 rfl (j := 1) rfl ?_
        refine i_get X F 0 rfl rfl fk_X7_32 dX7_paste_26 rfl ?_
        refine g_iload_n X dX7_paste_29 rfl (j := 4) rfl ?_
        rcases (Bool.eq_false_or_eq_true (act 82)).symm with hA82 | hA82
        · skip
          refine i_aald X F 24 rfl (t0 := 5) rfl rfl dX7_paste_30 (vp_in_iff.mpr (by decide)) (v := .null) (by show va_rf (R 24 1) = _; rw [HR.1 1 (by decide)]; rw [if_neg (by rw [hA82]; decide)]; rfl) ?_
          refine g_astoreN X dX7_paste_31 (by decide) (lv2 := [(7, .null), (6, .null), (0, .ref (a 0)), (1, .int 2), (2, .int p1), (3, .int 1), (4, .int p3), (5, .int p4)]) rfl ?_
          refine g_aloadN X dX7_paste_33 (j := 1) rfl ?_
          refine g_ifnullN X dX7_paste_35 (tgt := 43) (by decide) ?_
          refine g_bipush X dX7_paste_43 (v := -6) (by decide) ?_
          exact g_iret X hrt dX7_paste_45 (by decide) (by decide) ⟨C, D, F, I, K, trivial⟩
        · skip
          have act82 : (baseact 82 || act 82) = true := by rw [hA82]; rfl
          have act83 : (baseact 83 || act 83) = true := by rw [((HR.2.2.1 1 (by decide)).trans hA82)]; rfl
          refine i_aald X F 24 rfl (t0 := 5) rfl rfl dX7_paste_30 (vp_in_iff.mpr (by decide)) (v := .ref (a 82)) (by show va_rf (R 24 1) = _; rw [HR.1 1 (by decide)]; rw [if_pos hA82]; rfl) ?_
          refine g_astore X dX7_paste_31 (by decide) (lv2 := [(7, .ref (a 82)), (6, .null), (0, .ref (a 0)), (1, .int 2), (2, .int p1), (3, .int 1), (4, .int p3), (5, .int p4)]) rfl ?_
          refine g_aloadN X dX7_paste_33 (j := 1) rfl ?_
          refine g_ifnullN X dX7_paste_35 (tgt := 43) (by decide) ?_
          refine g_bipush X dX7_paste_43 (v := -6) (by decide) ?_
          exact g_iret X hrt dX7_paste_45 (by decide) (by decide) ⟨C, D, F, I, K, trivial⟩
      · skip
        have act84 : (baseact 84 || act 84) = true := by rw [hA84]; rfl
        have act85 : (baseact 85 || act 85) = true := by rw [((HR.2.2.1 2 (by decide)).trans hA84)]; rfl
        refine i_aald X F 24 rfl (t0 := 5) rfl rfl dX7_paste_22 (vp_in_iff.mpr (by decide)) (v := .ref (a 84)) (by show va_rf (R 24 2) = _; rw [HR.1 2 (by decide)]; rw [if_pos hA84]; rfl) ?_
        refine g_astore X dX7_paste_23 (by decide) (lv2 := [(6, .ref (a 84)), (0, .ref (a 0)), (1, .int 2), (2, .int p1), (3, .int 1), (4, .int p3), (5, .int p4)]) rfl ?_
        refine g_aload_n X dX7_paste_25 rfl (j := 1) rfl ?_
        refine i_get X F 0 rfl rfl fk_X7_32 dX7_paste_26 rfl ?_
        refine g_iload_n X dX7_paste_29 rfl (j := 4) rfl ?_
        rcases (Bool.eq_false_or_eq_true (act 82)).symm with hA82 | hA82
        · skip
          refine i_aald X F 24 rfl (t0 := 5) rfl rfl dX7_paste_30 (vp_in_iff.mpr (by decide)) (v := .null) (by show va_rf (R 24 1) = _; rw [HR.1 1 (by decide)]; rw [if_neg (by rw [hA82]; decide)]; rfl) ?_
          refine g_astoreN X dX7_paste_31 (by decide) (lv2 := [(7, .null), (6, .ref (a 84)), (0, .ref (a 0)), (1, .int 2), (2, .int p1), (3, .int 1), (4, .int p3), (5, .int p4)]) rfl ?_
          refine g_aload X dX7_paste_33 (j := 1) rfl ?_
          refine g_ifnull X dX7_paste_35 ?_
          refine g_aloadN X dX7_paste_38 (j := 0) rfl ?_
          refine g_ifnonnullN X dX7_paste_40 ?_
          refine g_bipush X dX7_paste_43 (v := -6) (by decide) ?_
          exact g_iret X hrt dX7_paste_45 (by decide) (by decide) ⟨C, D, F, I, K, trivial⟩
        · skip
          have act82 : (baseact 82 || act 82) = true := by rw [hA82]; rfl
          have act83 : (baseact 83 || act 83) = true := by rw [((HR.2.2.1 1 (by decide)).trans hA82)]; rfl
          refine i_aald X F 24 rfl (t0 := 5) rfl rfl dX7_paste_30 (vp_in_iff.mpr (by decide)) (v := .ref (a 82)) (by show va_rf (R 24 1) = _; rw [HR.1 1 (by decide)]; rw [if_pos hA82]; rfl) ?_
          refine g_astore X dX7_paste_31 (by decide) (lv2 := [(7, .ref (a 82)), (6, .ref (a 84)), (0, .ref (a 0)), (1, .int 2), (2, .int p1), (3, .int 1), (4, .int p3), (5, .int p4)]) rfl ?_
          refine g_aload X dX7_paste_33 (j := 1) rfl ?_
          refine g_ifnull X dX7_paste_35 ?_
          refine g_aload X dX7_paste_38 (j := 0) rfl ?_
          refine g_ifnonnull X dX7_paste_40 (tgt := 46) (by decide) ?_
          refine g_aload X dX7_paste_46 (j := 1) rfl ?_
          refine i_get X F 84 (act84) rfl fk_X7_400 dX7_paste_48 rfl ?_
          refine Go.gen (fun o171 => ?_)
          refine g_aload X dX7_paste_51 (j := 0) rfl ?_
          refine i_get X F 82 (act82) rfl fk_X7_400 dX7_paste_53 rfl ?_
          refine Go.gen (fun o172 => ?_)
          refine g_icmp_eq X dX7_paste_56 (tgt := 62) (by decide) (fun q173 => ?_) (fun q173 => ?_)
          · skip
            refine g_aload X dX7_paste_62 (j := 1) rfl ?_
            refine g_iload_n X dX7_paste_64 rfl (j := 4) rfl ?_
            refine g_iload X dX7_paste_65 (j := 7) rfl ?_
            refine g_callVI X (s_X5_hasPart_84 l G F I p1 p4 act84) lk_X7_403 (F.1 84 (act84)).2 (F.1 84 (act84)).1 rfl rfl dX7_paste_67 (Nat.le_of_ble_eq_true rfl) ⟨by decide, by decide⟩ ⟨by decide, by decide⟩ (fun r174 L M hp => ?_)
            obtain ⟨C, D, F, I, K1, hr⟩ := hp
            have K := K.step K1 (by decide)
            rcases hr with ⟨rfl, hp175⟩ | ⟨rfl, hp175⟩
            · skip
              rw [(K 84 (by decide)).1] at hp175
              refine g_if_eq X dX7_paste_70 (tgt := 85) (by decide) (fun _ => ?_) (fun q => absurd (by decide) q)
              refine g_bipush X dX7_paste_85 (v := -7) (by decide) ?_
              exact g_iret X hrt dX7_paste_87 (by decide) (by decide) ⟨C, D, F, I, K, trivial⟩
            · skip
              rw [(K 84 (by decide)).1] at hp175
              refine g_if_eq X dX7_paste_70 (tgt := 85) (by decide) (fun q => absurd q (by decide)) (fun _ => ?_)
              refine g_aload X dX7_paste_73 (j := 0) rfl ?_
              refine g_iload X dX7_paste_75 (j := 6) rfl ?_
              refine g_iload X dX7_paste_77 (j := 7) rfl ?_
              refine g_callVI X (s_X5_hasPart_82 l G F I p3 p4 act82) lk_X7_403 (F.1 82 (act82)).2 (F.1 82 (act82)).1 rfl rfl dX7_paste_79 (Nat.le_of_ble_eq_true rfl) ⟨by decide, by decide⟩ ⟨by decide, by decide⟩ (fun r176 L M hp => ?_)
              obtain ⟨C, D, F, I, K1, hr⟩ := hp
              have K := K.step K1 (by decide)
              rcases hr with ⟨rfl, hp177⟩ | ⟨rfl, hp177⟩
              · skip
                rw [(K 82 (by decide)).1] at hp177
                refine g_if_ne X dX7_paste_82 (tgt := 88) (by decide) (fun q => absurd (by decide) q) (fun _ => ?_)
                refine g_bipush X dX7_paste_85 (v := -7) (by decide) ?_
                exact g_iret X hrt dX7_paste_87 (by decide) (by decide) ⟨C, D, F, I, K, trivial⟩
              · skip
                rw [(K 82 (by decide)).1] at hp177
                refine g_if_ne X dX7_paste_82 (tgt := 88) (by decide) (fun _ => ?_) (fun q => absurd q (by decide))
                have hz84 := (show (C0 84 2).toInt ≤ 60 from (by have z := I 84 2 rfl; rw [(K 84 (by decide)).1] at z; exact z.2))
                have hz82 := (show (C0 82 2).toInt ≤ 60 from (by have z := I 82 2 rfl; rw [(K 82 (by decide)).1] at z; exact z.2))
                obtain ⟨n178, hn178a, hn178b, en178⟩ := nI_ofInt (x := p1) (lo := 0) (hi := 60) (by omega) (by omega) (by decide)
                subst en178
                have tn178 := nI_toInt (n := n178) (by omega)
                obtain ⟨n179, hn179a, hn179b, en179⟩ := nI_ofInt (x := p3) (lo := 0) (hi := 60) (by omega) (by omega) (by decide)
                subst en179
                have tn179 := nI_toInt (n := n179) (by omega)
                obtain ⟨n180, hn180a, hn180b, en180⟩ := nI_ofInt (x := p4) (lo := 0) (hi := 60) (by omega) (by omega) (by decide)
                subst en180
                have tn180 := nI_toInt (n := n180) (by omega)
                refine g_aload X dX7_paste_88 (j := 1) rfl ?_
                refine i_get X F 84 (act84) rfl fk_X7_406 dX7_paste_90 rfl ?_
                refine g_iload_n X dX7_paste_93 rfl (j := 4) rfl ?_
                refine g_aload X dX7_paste_94 (j := 0) rfl ?_
                refine i_get X F 82 (act82) rfl fk_X7_406 dX7_paste_96 rfl ?_
                refine g_iload X dX7_paste_99 (j := 6) rfl ?_
                refine g_iload X dX7_paste_101 (j := 7) rfl ?_
                refine i_copyl X F 85 (act85) 83 (act83) rfl (fun _ => rfl) (t0 := 2) rfl rfl wd604 wd87 wd88 wd89 (nI_pos (by omega)) (nI_pos (by omega)) (nI_pos (by omega)) (by rw [nI_clamp (show n178 < 2 ^ 31 by omega), nI_clamp (show n180 < 2 ^ 31 by omega)]; omega) (by rw [nI_clamp (show n179 < 2 ^ 31 by omega), nI_clamp (show n180 < 2 ^ 31 by omega)]; omega) (fun _ _ => rfl) (by decide) (Nat.le_of_ble_eq_true rfl) dX7_paste_103 (fun M D F K1 => ?_)
                have K := K.step K1 (by decide)
                refine g_iconst X dX7_paste_106 (v := 0) (by decide) ?_
                exact g_iret X hrt dX7_paste_107 (by decide) (by decide) ⟨C, D, F, I, K, trivial⟩
          · skip
            refine g_bipush X dX7_paste_59 (v := -8) (by decide) ?_
            exact g_iret X hrt dX7_paste_61 (by decide) (by decide) ⟨C, D, F, I, K, trivial⟩
    · skip
      refine g_iload_n X dX7_paste_0 rfl (j := 1) rfl ?_
      refine g_callSI X (s_X7_isSlot_2 l G F I  ) lk_X7_389 rfl rfl dX7_paste_1 (Nat.le_of_ble_eq_true rfl) ⟨by decide, by decide⟩ ⟨by decide, by decide⟩ (fun r181 L M hp => ?_)
      obtain ⟨C, D, F, I, K1, hr⟩ := hp
      have K := K.step K1 (by decide)
      subst hr
      refine g_if_eq X dX7_paste_4 (tgt := 14) (by decide) (fun q => absurd q (by decide)) (fun _ => ?_)
      refine g_iload_n X dX7_paste_7 rfl (j := 3) rfl ?_
      refine g_callSI X (s_X7_isSlot_2 l G F I  ) lk_X7_389 rfl rfl dX7_paste_8 (Nat.le_of_ble_eq_true rfl) ⟨by decide, by decide⟩ ⟨by decide, by decide⟩ (fun r182 L M hp => ?_)
      obtain ⟨C, D, F, I, K1, hr⟩ := hp
      have K := K.step K1 (by decide)
      subst hr
      refine g_if_ne X dX7_paste_11 (tgt := 17) (by decide) (fun _ => ?_) (fun q => absurd q (by decide))
      refine g_aload_n X dX7_paste_17 rfl (j := 0) rfl ?_
      refine i_get X F 0 rfl rfl fk_X7_32 dX7_paste_18 rfl ?_
      refine g_iload_n X dX7_paste_21 rfl (j := 1) rfl ?_
      rcases (Bool.eq_false_or_eq_true (act 84)).symm with hA84 | hA84
      · skip
        refine i_aald X F 24 rfl (t0 := 5) rfl rfl dX7_paste_22 (vp_in_iff.mpr (by decide)) (v := .null) (by show va_rf (R 24 2) = _; rw [HR.1 2 (by decide)]; rw [if_neg (by rw [hA84]; decide)]; rfl) ?_
        refine g_astoreN X dX7_paste_23 (by decide) (lv2 := [(6, .null), (0, .ref (a 0)), (1, .int 2), (2, .int p1), (3, .int 2), (4, .int p3), (5, .int p4)]) rfl ?_
        refine g_aload_n X dX7_paste_25 rfl (j := 1) rfl ?_
        refine i_get X F 0 rfl rfl fk_X7_32 dX7_paste_26 rfl ?_
        refine g_iload_n X dX7_paste_29 rfl (j := 4) rfl ?_
        refine i_aald X F 24 rfl (t0 := 5) rfl rfl dX7_paste_30 (vp_in_iff.mpr (by decide)) (v := .null) (by show va_rf (R 24 2) = _; rw [HR.1 2 (by decide)]; rw [if_neg (by rw [hA84]; decide)]; rfl) ?_
        refine g_astoreN X dX7_paste_31 (by decide) (lv2 := [(7, .null), (6, .null), (0, .ref (a 0)), (1, .int 2), (2, .int p1), (3, .int 2), (4, .int p3), (5, .int p4)]) rfl ?_
        refine g_aloadN X dX7_paste_33 (j := 1) rfl ?_
        refine g_ifnullN X dX7_paste_35 (tgt := 43) (by decide) ?_
        refine g_bipush X dX7_paste_43 (v := -6) (by decide) ?_
        exact g_iret X hrt dX7_paste_45 (by decide) (by decide) ⟨C, D, F, I, K, trivial⟩
      · skip
        have act84 : (baseact 84 || act 84) = true := by rw [hA84]; rfl
        have act85 : (baseact 85 || act 85) = true := by rw [((HR.2.2.1 2 (by decide)).trans hA84)]; rfl
        refine i_aald X F 24 rfl (t0 := 5) rfl rfl dX7_paste_22 (vp_in_iff.mpr (by decide)) (v := .ref (a 84)) (by show va_rf (R 24 2) = _; rw [HR.1 2 (by decide)]; rw [if_pos hA84]; rfl) ?_
        refine g_astore X dX7_paste_23 (by decide) (lv2 := [(6, .ref (a 84)), (0, .ref (a 0)), (1, .int 2), (2, .int p1), (3, .int 2), (4, .int p3), (5, .int p4)]) rfl ?_
        refine g_aload_n X dX7_paste_25 rfl (j := 1) rfl ?_
        refine i_get X F 0 rfl rfl fk_X7_32 dX7_paste_26 rfl ?_
        refine g_iload_n X dX7_paste_29 rfl (j := 4) rfl ?_
        refine i_aald X F 24 rfl (t0 := 5) rfl rfl dX7_paste_30 (vp_in_iff.mpr (by decide)) (v := .ref (a 84)) (by show va_rf (R 24 2) = _; rw [HR.1 2 (by decide)]; rw [if_pos hA84]; rfl) ?_
        refine g_astore X dX7_paste_31 (by decide) (lv2 := [(7, .ref (a 84)), (6, .ref (a 84)), (0, .ref (a 0)), (1, .int 2), (2, .int p1), (3, .int 2), (4, .int p3), (5, .int p4)]) rfl ?_
        refine g_aload X dX7_paste_33 (j := 1) rfl ?_
        refine g_ifnull X dX7_paste_35 ?_
        refine g_aload X dX7_paste_38 (j := 0) rfl ?_
        refine g_ifnonnull X dX7_paste_40 (tgt := 46) (by decide) ?_
        refine g_aload X dX7_paste_46 (j := 1) rfl ?_
        refine i_get X F 84 (act84) rfl fk_X7_400 dX7_paste_48 rfl ?_
        refine Go.gen (fun o186 => ?_)
        refine g_aload X dX7_paste_51 (j := 0) rfl ?_
        refine i_get X F 84 (act84) rfl fk_X7_400 dX7_paste_53 rfl ?_
        refine Go.gen (fun o187 => ?_)
        refine g_icmp_eq X dX7_paste_56 (tgt := 62) (by decide) (fun q188 => ?_) (fun q188 => ?_)
        · skip
          refine g_aload X dX7_paste_62 (j := 1) rfl ?_
          refine g_iload_n X dX7_paste_64 rfl (j := 4) rfl ?_
          refine g_iload X dX7_paste_65 (j := 7) rfl ?_
          refine g_callVI X (s_X5_hasPart_84 l G F I p1 p4 act84) lk_X7_403 (F.1 84 (act84)).2 (F.1 84 (act84)).1 rfl rfl dX7_paste_67 (Nat.le_of_ble_eq_true rfl) ⟨by decide, by decide⟩ ⟨by decide, by decide⟩ (fun r189 L M hp => ?_)
          obtain ⟨C, D, F, I, K1, hr⟩ := hp
          have K := K.step K1 (by decide)
          rcases hr with ⟨rfl, hp190⟩ | ⟨rfl, hp190⟩
          · skip
            rw [(K 84 (by decide)).1] at hp190
            refine g_if_eq X dX7_paste_70 (tgt := 85) (by decide) (fun _ => ?_) (fun q => absurd (by decide) q)
            refine g_bipush X dX7_paste_85 (v := -7) (by decide) ?_
            exact g_iret X hrt dX7_paste_87 (by decide) (by decide) ⟨C, D, F, I, K, trivial⟩
          · skip
            rw [(K 84 (by decide)).1] at hp190
            refine g_if_eq X dX7_paste_70 (tgt := 85) (by decide) (fun q => absurd q (by decide)) (fun _ => ?_)
            refine g_aload X dX7_paste_73 (j := 0) rfl ?_
            refine g_iload X dX7_paste_75 (j := 6) rfl ?_
            refine g_iload X dX7_paste_77 (j := 7) rfl ?_
            refine g_callVI X (s_X5_hasPart_84 l G F I p3 p4 act84) lk_X7_403 (F.1 84 (act84)).2 (F.1 84 (act84)).1 rfl rfl dX7_paste_79 (Nat.le_of_ble_eq_true rfl) ⟨by decide, by decide⟩ ⟨by decide, by decide⟩ (fun r191 L M hp => ?_)
            obtain ⟨C, D, F, I, K1, hr⟩ := hp
            have K := K.step K1 (by decide)
            rcases hr with ⟨rfl, hp192⟩ | ⟨rfl, hp192⟩
            · skip
              rw [(K 84 (by decide)).1] at hp192
              refine g_if_ne X dX7_paste_82 (tgt := 88) (by decide) (fun q => absurd (by decide) q) (fun _ => ?_)
              refine g_bipush X dX7_paste_85 (v := -7) (by decide) ?_
              exact g_iret X hrt dX7_paste_87 (by decide) (by decide) ⟨C, D, F, I, K, trivial⟩
            · skip
              rw [(K 84 (by decide)).1] at hp192
              refine g_if_ne X dX7_paste_82 (tgt := 88) (by decide) (fun _ => ?_) (fun q => absurd q (by decide))
              have hz84 := (show (C0 84 2).toInt ≤ 60 from (by have z := I 84 2 rfl; rw [(K 84 (by decide)).1] at z; exact z.2))
              have hz84 := (show (C0 84 2).toInt ≤ 60 from (by have z := I 84 2 rfl; rw [(K 84 (by decide)).1] at z; exact z.2))
              obtain ⟨n193, hn193a, hn193b, en193⟩ := nI_ofInt (x := p1) (lo := 0) (hi := 60) (by omega) (by omega) (by decide)
              subst en193
              have tn193 := nI_toInt (n := n193) (by omega)
              obtain ⟨n194, hn194a, hn194b, en194⟩ := nI_ofInt (x := p3) (lo := 0) (hi := 60) (by omega) (by omega) (by decide)
              subst en194
              have tn194 := nI_toInt (n := n194) (by omega)
              obtain ⟨n195, hn195a, hn195b, en195⟩ := nI_ofInt (x := p4) (lo := 0) (hi := 60) (by omega) (by omega) (by decide)
              subst en195
              have tn195 := nI_toInt (n := n195) (by omega)
              refine g_aload X dX7_paste_88 (j := 1) rfl ?_
              refine i_get X F 84 (act84) rfl fk_X7_406 dX7_paste_90 rfl ?_
              refine g_iload_n X dX7_paste_93 rfl (j := 4) rfl ?_
              refine g_aload X dX7_paste_94 (j := 0) rfl ?_
              refine i_get X F 84 (act84) rfl fk_X7_406 dX7_paste_96 rfl ?_
              refine g_iload X dX7_paste_99 (j := 6) rfl ?_
              refine g_iload X dX7_paste_101 (j := 7) rfl ?_
              refine i_copyl X F 85 (act85) 85 (act85) rfl (fun _ => rfl) (t0 := 2) rfl rfl wd604 wd87 wd88 wd89 (nI_pos (by omega)) (nI_pos (by omega)) (nI_pos (by omega)) (by rw [nI_clamp (show n193 < 2 ^ 31 by omega), nI_clamp (show n195 < 2 ^ 31 by omega)]; omega) (by rw [nI_clamp (show n194 < 2 ^ 31 by omega), nI_clamp (show n195 < 2 ^ 31 by omega)]; omega) (fun _ _ => rfl) (by decide) (Nat.le_of_ble_eq_true rfl) dX7_paste_103 (fun M D F K1 => ?_)
              have K := K.step K1 (by decide)
              refine g_iconst X dX7_paste_106 (v := 0) (by decide) ?_
              exact g_iret X hrt dX7_paste_107 (by decide) (by decide) ⟨C, D, F, I, K, trivial⟩
        · skip
          refine g_bipush X dX7_paste_59 (v := -8) (by decide) ?_
          exact g_iret X hrt dX7_paste_61 (by decide) (by decide) ⟨C, D, F, I, K, trivial⟩
    · skip
      refine g_iload_n X dX7_paste_0 rfl (j := 1) rfl ?_
      refine g_callSI X (s_X7_isSlot_2 l G F I  ) lk_X7_389 rfl rfl dX7_paste_1 (Nat.le_of_ble_eq_true rfl) ⟨by decide, by decide⟩ ⟨by decide, by decide⟩ (fun r196 L M hp => ?_)
      obtain ⟨C, D, F, I, K1, hr⟩ := hp
      have K := K.step K1 (by decide)
      subst hr
      refine g_if_eq X dX7_paste_4 (tgt := 14) (by decide) (fun q => absurd q (by decide)) (fun _ => ?_)
      refine g_iload_n X dX7_paste_7 rfl (j := 3) rfl ?_
      refine g_callSI X (s_X7_isSlot_3 l G F I  ) lk_X7_389 rfl rfl dX7_paste_8 (Nat.le_of_ble_eq_true rfl) ⟨by decide, by decide⟩ ⟨by decide, by decide⟩ (fun r197 L M hp => ?_)
      obtain ⟨C, D, F, I, K1, hr⟩ := hp
      have K := K.step K1 (by decide)
      subst hr
      refine g_if_ne X dX7_paste_11 (tgt := 17) (by decide) (fun _ => ?_) (fun q => absurd q (by decide))
      refine g_aload_n X dX7_paste_17 rfl (j := 0) rfl ?_
      refine i_get X F 0 rfl rfl fk_X7_32 dX7_paste_18 rfl ?_
      refine g_iload_n X dX7_paste_21 rfl (j := 1) rfl ?_
      rcases (Bool.eq_false_or_eq_true (act 84)).symm with hA84 | hA84
      · skip
        refine i_aald X F 24 rfl (t0 := 5) rfl rfl dX7_paste_22 (vp_in_iff.mpr (by decide)) (v := .null) (by show va_rf (R 24 2) = _; rw [HR.1 2 (by decide)]; rw [if_neg (by rw [hA84]; decide)]; rfl) ?_
        refine g_astoreN X dX7_paste_23 (by decide) (lv2 := [(6, .null), (0, .ref (a 0)), (1, .int 2), (2, .int p1), (3, .int 3), (4, .int p3), (5, .int p4)]) rfl ?_
        refine g_aload_n X dX7_paste_25 rfl (j := 1) rfl ?_
        refine i_get X F 0 rfl rfl fk_X7_32 dX7_paste_26 rfl ?_
        refine g_iload_n X dX7_paste_29 rfl (j := 4) rfl ?_
        rcases (Bool.eq_false_or_eq_true (act 86)).symm with hA86 | hA86
        · skip
          refine i_aald X F 24 rfl (t0 := 5) rfl rfl dX7_paste_30 (vp_in_iff.mpr (by decide)) (v := .null) (by show va_rf (R 24 3) = _; rw [HR.1 3 (by decide)]; rw [if_neg (by rw [hA86]; decide)]; rfl) ?_
          refine g_astoreN X dX7_paste_31 (by decide) (lv2 := [(7, .null), (6, .null), (0, .ref (a 0)), (1, .int 2), (2, .int p1), (3, .int 3), (4, .int p3), (5, .int p4)]) rfl ?_
          refine g_aloadN X dX7_paste_33 (j := 1) rfl ?_
          refine g_ifnullN X dX7_paste_35 (tgt := 43) (by decide) ?_
          refine g_bipush X dX7_paste_43 (v := -6) (by decide) ?_
          exact g_iret X hrt dX7_paste_45 (by decide) (by decide) ⟨C, D, F, I, K, trivial⟩
        · skip
          have act86 : (baseact 86 || act 86) = true := by rw [hA86]; rfl
          have act87 : (baseact 87 || act 87) = true := by rw [((HR.2.2.1 3 (by decide)).trans hA86)]; rfl
          refine i_aald X F 24 rfl (t0 := 5) rfl rfl dX7_paste_30 (vp_in_iff.mpr (by decide)) (v := .ref (a 86)) (by show va_rf (R 24 3) = _; rw [HR.1 3 (by decide)]; rw [if_pos hA86]; rfl) ?_
          refine g_astore X dX7_paste_31 (by decide) (lv2 := [(7, .ref (a 86)), (6, .null), (0, .ref (a 0)), (1, .int 2), (2, .int p1), (3, .int 3), (4, .int p3), (5, .int p4)]) rfl ?_
          refine g_aloadN X dX7_paste_33 (j := 1) rfl ?_
          refine g_ifnullN X dX7_paste_35 (tgt := 43) (by decide) ?_
          refine g_bipush X dX7_paste_43 (v := -6) (by decide) ?_
          exact g_iret X hrt dX7_paste_45 (by decide) (by decide) ⟨C, D, F, I, K, trivial⟩
      · skip
        have act84 : (baseact 84 || act 84) = true := by rw [hA84]; rfl
        have act85 : (baseact 85 || act 85) = true := by rw [((HR.2.2.1 2 (by decide)).trans hA84)]; rfl
        refine i_aald X F 24 rfl (t0 := 5) rfl rfl dX7_paste_22 (vp_in_iff.mpr (by decide)) (v := .ref (a 84)) (by show va_rf (R 24 2) = _; rw [HR.1 2 (by decide)]; rw [if_pos hA84]; rfl) ?_
        refine g_astore X dX7_paste_23 (by decide) (lv2 := [(6, .ref (a 84)), (0, .ref (a 0)), (1, .int 2), (2, .int p1), (3, .int 3), (4, .int p3), (5, .int p4)]) rfl ?_
        refine g_aload_n X dX7_paste_25 rfl (j := 1) rfl ?_
        refine i_get X F 0 rfl rfl fk_X7_32 dX7_paste_26 rfl ?_
        refine g_iload_n X dX7_paste_29 rfl (j := 4) rfl ?_
        rcases (Bool.eq_false_or_eq_true (act 86)).symm with hA86 | hA86
        · skip
          refine i_aald X F 24 rfl (t0 := 5) rfl rfl dX7_paste_30 (vp_in_iff.mpr (by decide)) (v := .null) (by show va_rf (R 24 3) = _; rw [HR.1 3 (by decide)]; rw [if_neg (by rw [hA86]; decide)]; rfl) ?_
          refine g_astoreN X dX7_paste_31 (by decide) (lv2 := [(7, .null), (6, .ref (a 84)), (0, .ref (a 0)), (1, .int 2), (2, .int p1), (3, .int 3), (4, .int p3), (5, .int p4)]) rfl ?_
          refine g_aload X dX7_paste_33 (j := 1) rfl ?_
          refine g_ifnull X dX7_paste_35 ?_
          refine g_aloadN X dX7_paste_38 (j := 0) rfl ?_
          refine g_ifnonnullN X dX7_paste_40 ?_
          refine g_bipush X dX7_paste_43 (v := -6) (by decide) ?_
          exact g_iret X hrt dX7_paste_45 (by decide) (by decide) ⟨C, D, F, I, K, trivial⟩
        · skip
          have act86 : (baseact 86 || act 86) = true := by rw [hA86]; rfl
          have act87 : (baseact 87 || act 87) = true := by rw [((HR.2.2.1 3 (by decide)).trans hA86)]; rfl
          refine i_aald X F 24 rfl (t0 := 5) rfl rfl dX7_paste_30 (vp_in_iff.mpr (by decide)) (v := .ref (a 86)) (by show va_rf (R 24 3) = _; rw [HR.1 3 (by decide)]; rw [if_pos hA86]; rfl) ?_
          refine g_astore X dX7_paste_31 (by decide) (lv2 := [(7, .ref (a 86)), (6, .ref (a 84)), (0, .ref (a 0)), (1, .int 2), (2, .int p1), (3, .int 3), (4, .int p3), (5, .int p4)]) rfl ?_
          refine g_aload X dX7_paste_33 (j := 1) rfl ?_
          refine g_ifnull X dX7_paste_35 ?_
          refine g_aload X dX7_paste_38 (j := 0) rfl ?_
          refine g_ifnonnull X dX7_paste_40 (tgt := 46) (by decide) ?_
          refine g_aload X dX7_paste_46 (j := 1) rfl ?_
          refine i_get X F 84 (act84) rfl fk_X7_400 dX7_paste_48 rfl ?_
          refine Go.gen (fun o201 => ?_)
          refine g_aload X dX7_paste_51 (j := 0) rfl ?_
          refine i_get X F 86 (act86) rfl fk_X7_400 dX7_paste_53 rfl ?_
          refine Go.gen (fun o202 => ?_)
          refine g_icmp_eq X dX7_paste_56 (tgt := 62) (by decide) (fun q203 => ?_) (fun q203 => ?_)
          · skip
            refine g_aload X dX7_paste_62 (j := 1) rfl ?_
            refine g_iload_n X dX7_paste_64 rfl (j := 4) rfl ?_
            refine g_iload X dX7_paste_65 (j := 7) rfl ?_
            refine g_callVI X (s_X5_hasPart_84 l G F I p1 p4 act84) lk_X7_403 (F.1 84 (act84)).2 (F.1 84 (act84)).1 rfl rfl dX7_paste_67 (Nat.le_of_ble_eq_true rfl) ⟨by decide, by decide⟩ ⟨by decide, by decide⟩ (fun r204 L M hp => ?_)
            obtain ⟨C, D, F, I, K1, hr⟩ := hp
            have K := K.step K1 (by decide)
            rcases hr with ⟨rfl, hp205⟩ | ⟨rfl, hp205⟩
            · skip
              rw [(K 84 (by decide)).1] at hp205
              refine g_if_eq X dX7_paste_70 (tgt := 85) (by decide) (fun _ => ?_) (fun q => absurd (by decide) q)
              refine g_bipush X dX7_paste_85 (v := -7) (by decide) ?_
              exact g_iret X hrt dX7_paste_87 (by decide) (by decide) ⟨C, D, F, I, K, trivial⟩
            · skip
              rw [(K 84 (by decide)).1] at hp205
              refine g_if_eq X dX7_paste_70 (tgt := 85) (by decide) (fun q => absurd q (by decide)) (fun _ => ?_)
              refine g_aload X dX7_paste_73 (j := 0) rfl ?_
              refine g_iload X dX7_paste_75 (j := 6) rfl ?_
              refine g_iload X dX7_paste_77 (j := 7) rfl ?_
              refine g_callVI X (s_X5_hasPart_86 l G F I p3 p4 act86) lk_X7_403 (F.1 86 (act86)).2 (F.1 86 (act86)).1 rfl rfl dX7_paste_79 (Nat.le_of_ble_eq_true rfl) ⟨by decide, by decide⟩ ⟨by decide, by decide⟩ (fun r206 L M hp => ?_)
              obtain ⟨C, D, F, I, K1, hr⟩ := hp
              have K := K.step K1 (by decide)
              rcases hr with ⟨rfl, hp207⟩ | ⟨rfl, hp207⟩
              · skip
                rw [(K 86 (by decide)).1] at hp207
                refine g_if_ne X dX7_paste_82 (tgt := 88) (by decide) (fun q => absurd (by decide) q) (fun _ => ?_)
                refine g_bipush X dX7_paste_85 (v := -7) (by decide) ?_
                exact g_iret X hrt dX7_paste_87 (by decide) (by decide) ⟨C, D, F, I, K, trivial⟩
              · skip
                rw [(K 86 (by decide)).1] at hp207
                refine g_if_ne X dX7_paste_82 (tgt := 88) (by decide) (fun _ => ?_) (fun q => absurd q (by decide))
                have hz84 := (show (C0 84 2).toInt ≤ 60 from (by have z := I 84 2 rfl; rw [(K 84 (by decide)).1] at z; exact z.2))
                have hz86 := (show (C0 86 2).toInt ≤ 60 from (by have z := I 86 2 rfl; rw [(K 86 (by decide)).1] at z; exact z.2))
                obtain ⟨n208, hn208a, hn208b, en208⟩ := nI_ofInt (x := p1) (lo := 0) (hi := 60) (by omega) (by omega) (by decide)
                subst en208
                have tn208 := nI_toInt (n := n208) (by omega)
                obtain ⟨n209, hn209a, hn209b, en209⟩ := nI_ofInt (x := p3) (lo := 0) (hi := 60) (by omega) (by omega) (by decide)
                subst en209
                have tn209 := nI_toInt (n := n209) (by omega)
                obtain ⟨n210, hn210a, hn210b, en210⟩ := nI_ofInt (x := p4) (lo := 0) (hi := 60) (by omega) (by omega) (by decide)
                subst en210
                have tn210 := nI_toInt (n := n210) (by omega)
                refine g_aload X dX7_paste_88 (j := 1) rfl ?_
                refine i_get X F 84 (act84) rfl fk_X7_406 dX7_paste_90 rfl ?_
                refine g_iload_n X dX7_paste_93 rfl (j := 4) rfl ?_
                refine g_aload X dX7_paste_94 (j := 0) rfl ?_
                refine i_get X F 86 (act86) rfl fk_X7_406 dX7_paste_96 rfl ?_
                refine g_iload X dX7_paste_99 (j := 6) rfl ?_
                refine g_iload X dX7_paste_101 (j := 7) rfl ?_
                refine i_copyl X F 85 (act85) 87 (act87) rfl (fun _ => rfl) (t0 := 2) rfl rfl wd604 wd87 wd88 wd89 (nI_pos (by omega)) (nI_pos (by omega)) (nI_pos (by omega)) (by rw [nI_clamp (show n208 < 2 ^ 31 by omega), nI_clamp (show n210 < 2 ^ 31 by omega)]; omega) (by rw [nI_clamp (show n209 < 2 ^ 31 by omega), nI_clamp (show n210 < 2 ^ 31 by omega)]; omega) (fun _ _ => rfl) (by decide) (Nat.le_of_ble_eq_true rfl) dX7_paste_103 (fun M D F K1 => ?_)
                have K := K.step K1 (by decide)
                refine g_iconst X dX7_paste_106 (v := 0) (by decide) ?_
                exact g_iret X hrt dX7_paste_107 (by decide) (by decide) ⟨C, D, F, I, K, trivial⟩
          · skip
            refine g_bipush X dX7_paste_59 (v := -8) (by decide) ?_
            exact g_iret X hrt dX7_paste_61 (by decide) (by decide) ⟨C, D, F, I, K, trivial⟩
  · skip
    rcases sc4 p2 with hx211 | hx211 | rfl | rfl | rfl | rfl
    · skip
      have hno3 : p2 < 0 ∨ 4 ≤ p2 := Or.inl hx211
      refine g_iload_n X dX7_paste_0 rfl (j := 1) rfl ?_
      refine g_callSI X (s_X7_isSlot_3 l G F I  ) lk_X7_389 rfl rfl dX7_paste_1 (Nat.le_of_ble_eq_true rfl) ⟨by decide, by decide⟩ ⟨by decide, by decide⟩ (fun r212 L M hp => ?_)
      obtain ⟨C, D, F, I, K1, hr⟩ := hp
      have K := K.step K1 (by decide)
      subst hr
      refine g_if_eq X dX7_paste_4 (tgt := 14) (by decide) (fun q => absurd q (by decide)) (fun _ => ?_)
      refine g_iload_n X dX7_paste_7 rfl (j := 3) rfl ?_
      refine g_callSI X (s_X7_isSlot_x l G F I p2 hno3) lk_X7_389 rfl rfl dX7_paste_8 (Nat.le_of_ble_eq_true rfl) ⟨by decide, by decide⟩ ⟨by decide, by decide⟩ (fun r213 L M hp => ?_)
      obtain ⟨C, D, F, I, K1, hr⟩ := hp
      have K := K.step K1 (by decide)
      subst hr
      refine g_if_ne X dX7_paste_11 (tgt := 17) (by decide) (fun q => absurd (by decide) q) (fun _ => ?_)
      refine g_bipush X dX7_paste_14 (v := -2) (by decide) ?_
      exact g_iret X hrt dX7_paste_16 (by decide) (by decide) ⟨C, D, F, I, K, trivial⟩
    · skip
      have hno3 : p2 < 0 ∨ 4 ≤ p2 := Or.inr hx211
      refine g_iload_n X dX7_paste_0 rfl (j := 1) rfl ?_
      refine g_callSI X (s_X7_isSlot_3 l G F I  ) lk_X7_389 rfl rfl dX7_paste_1 (Nat.le_of_ble_eq_true rfl) ⟨by decide, by decide⟩ ⟨by decide, by decide⟩ (fun r214 L M hp => ?_)
      obtain ⟨C, D, F, I, K1, hr⟩ := hp
      have K := K.step K1 (by decide)
      subst hr
      refine g_if_eq X dX7_paste_4 (tgt := 14) (by decide) (fun q => absurd q (by decide)) (fun _ => ?_)
      refine g_iload_n X dX7_paste_7 rfl (j := 3) rfl ?_
      refine g_callSI X (s_X7_isSlot_x l G F I p2 hno3) lk_X7_389 rfl rfl dX7_paste_8 (Nat.le_of_ble_eq_true rfl) ⟨by decide, by decide⟩ ⟨by decide, by decide⟩ (fun r215 L M hp => ?_)
      obtain ⟨C, D, F, I, K1, hr⟩ := hp
      have K := K.step K1 (by decide)
      subst hr
      refine g_if_ne X dX7_paste_11 (tgt := 17) (by decide) (fun q => absurd (by decide) q) (fun _ => ?_)
      refine g_bipush X dX7_paste_14 (v := -2) (by decide) ?_
      exact g_iret X hrt dX7_paste_16 (by decide) (by decide) ⟨C, D, F, I, K, trivial⟩
    · skip
      refine g_iload_n X dX7_paste_0 rfl (j := 1) rfl ?_
      refine g_callSI X (s_X7_isSlot_3 l G F I  ) lk_X7_389 rfl rfl dX7_paste_1 (Nat.le_of_ble_eq_true rfl) ⟨by decide, by decide⟩ ⟨by decide, by decide⟩ (fun r216 L M hp => ?_)
      obtain ⟨C, D, F, I, K1, hr⟩ := hp
      have K := K.step K1 (by decide)
      subst hr
      refine g_if_eq X dX7_paste_4 (tgt := 14) (by decide) (fun q => absurd q (by decide)) (fun _ => ?_)
      refine g_iload_n X dX7_paste_7 rfl (j := 3) rfl ?_
      refine g_callSI X (s_X7_isSlot_0 l G F I  ) lk_X7_389 rfl rfl dX7_paste_8 (Nat.le_of_ble_eq_true rfl) ⟨by decide, by decide⟩ ⟨by decide, by decide⟩ (fun r217 L M hp => ?_)
      obtain ⟨C, D, F, I, K1, hr⟩ := hp
      have K := K.step K1 (by decide)
      subst hr
      refine g_if_ne X dX7_paste_11 (tgt := 17) (by decide) (fun _ => ?_) (fun q => absurd q (by decide))
      refine g_aload_n X dX7_paste_17 rfl (j := 0) rfl ?_
      refine i_get X F 0 rfl rfl fk_X7_32 dX7_paste_18 rfl ?_
      refine g_iload_n X dX7_paste_21 rfl (j := 1) rfl ?_
      rcases (Bool.eq_false_or_eq_true (act 86)).symm with hA86 | hA86
      · skip
        refine i_aald X F 24 rfl (t0 := 5) rfl rfl dX7_paste_22 (vp_in_iff.mpr (by decide)) (v := .null) (by show va_rf (R 24 3) = _; rw [HR.1 3 (by decide)]; rw [if_neg (by rw [hA86]; decide)]; rfl) ?_
        refine g_astoreN X dX7_paste_23 (by decide) (lv2 := [(6, .null), (0, .ref (a 0)), (1, .int 3), (2, .int p1), (3, .int 0), (4, .int p3), (5, .int p4)]) rfl ?_
        refine g_aload_n X dX7_paste_25 rfl (j := 1) rfl ?_
        refine i_get X F 0 rfl rfl fk_X7_32 dX7_paste_26 rfl ?_
        refine g_iload_n X dX7_paste_29 rfl (j := 4) rfl ?_
        rcases (Bool.eq_false_or_eq_true (act 80)).symm with hA80 | hA80
        · skip
          refine i_aald X F 24 rfl (t0 := 5) rfl rfl dX7_paste_30 (vp_in_iff.mpr (by decide)) (v := .null) (by show va_rf (R 24 0) = _; rw [HR.1 0 (by decide)]; rw [if_neg (by rw [hA80]; decide)]; rfl) ?_
          refine g_astoreN X dX7_paste_31 (by decide) (lv2 := [(7, .null), (6, .null), (0, .ref (a 0)), (1, .int 3), (2, .int p1), (3, .int 0), (4, .int p3), (5, .int p4)]) rfl ?_
          refine g_aloadN X dX7_paste_33 (j := 1) rfl ?_
          refine g_ifnullN X dX7_paste_35 (tgt := 43) (by decide) ?_
          refine g_bipush X dX7_paste_43 (v := -6) (by decide) ?_
          exact g_iret X hrt dX7_paste_45 (by decide) (by decide) ⟨C, D, F, I, K, trivial⟩
        · skip
          have act80 : (baseact 80 || act 80) = true := by rw [hA80]; rfl
          have act81 : (baseact 81 || act 81) = true := by rw [((HR.2.2.1 0 (by decide)).trans hA80)]; rfl
          refine i_aald X F 24 rfl (t0 := 5) rfl rfl dX7_paste_30 (vp_in_iff.mpr (by decide)) (v := .ref (a 80)) (by show va_rf (R 24 0) = _; rw [HR.1 0 (by decide)]; rw [if_pos hA80]; rfl) ?_
          refine g_astore X dX7_paste_31 (by decide) (lv2 := [(7, .ref (a 80)), (6, .null), (0, .ref (a 0)), (1, .int 3), (2, .int p1), (3, .int 0), (4, .int p3), (5, .int p4)]) rfl ?_
          refine g_aloadN X dX7_paste_33 (j := 1) rfl ?_
          refine g_ifnullN X dX7_paste_35 (tgt := 43) (by decide) ?_
          refine g_bipush X dX7_paste_43 (v := -6) (by decide) ?_
          exact g_iret X hrt dX7_paste_45 (by decide) (by decide) ⟨C, D, F, I, K, trivial⟩
      · skip
        have act86 : (baseact 86 || act 86) = true := by rw [hA86]; rfl
        have act87 : (baseact 87 || act 87) = true := by rw [((HR.2.2.1 3 (by decide)).trans hA86)]; rfl
        refine i_aald X F 24 rfl (t0 := 5) rfl rfl dX7_paste_22 (vp_in_iff.mpr (by decide)) (v := .ref (a 86)) (by show va_rf (R 24 3) = _; rw [HR.1 3 (by decide)]; rw [if_pos hA86]; rfl) ?_
        refine g_astore X dX7_paste_23 (by decide) (lv2 := [(6, .ref (a 86)), (0, .ref (a 0)), (1, .int 3), (2, .int p1), (3, .int 0), (4, .int p3), (5, .int p4)]) rfl ?_
        refine g_aload_n X dX7_paste_25 rfl (j := 1) rfl ?_
        refine i_get X F 0 rfl rfl fk_X7_32 dX7_paste_26 rfl ?_
        refine g_iload_n X dX7_paste_29 rfl (j := 4) rfl ?_
        rcases (Bool.eq_false_or_eq_true (act 80)).symm with hA80 | hA80
        · skip
          refine i_aald X F 24 rfl (t0 := 5) rfl rfl dX7_paste_30 (vp_in_iff.mpr (by decide)) (v := .null) (by show va_rf (R 24 0) = _; rw [HR.1 0 (by decide)]; rw [if_neg (by rw [hA80]; decide)]; rfl) ?_
          refine g_astoreN X dX7_paste_31 (by decide) (lv2 := [(7, .null), (6, .ref (a 86)), (0, .ref (a 0)), (1, .int 3), (2, .int p1), (3, .int 0), (4, .int p3), (5, .int p4)]) rfl ?_
          refine g_aload X dX7_paste_33 (j := 1) rfl ?_
          refine g_ifnull X dX7_paste_35 ?_
          refine g_aloadN X dX7_paste_38 (j := 0) rfl ?_
          refine g_ifnonnullN X dX7_paste_40 ?_
          refine g_bipush X dX7_paste_43 (v := -6) (by decide) ?_
          exact g_iret X hrt dX7_paste_45 (by decide) (by decide) ⟨C, D, F, I, K, trivial⟩
        · skip
          have act80 : (baseact 80 || act 80) = true := by rw [hA80]; rfl
          have act81 : (baseact 81 || act 81) = true := by rw [((HR.2.2.1 0 (by decide)).trans hA80)]; rfl
          refine i_aald X F 24 rfl (t0 := 5) rfl rfl dX7_paste_30 (vp_in_iff.mpr (by decide)) (v := .ref (a 80)) (by show va_rf (R 24 0) = _; rw [HR.1 0 (by decide)]; rw [if_pos hA80]; rfl) ?_
          refine g_astore X dX7_paste_31 (by decide) (lv2 := [(7, .ref (a 80)), (6, .ref (a 86)), (0, .ref (a 0)), (1, .int 3), (2, .int p1), (3, .int 0), (4, .int p3), (5, .int p4)]) rfl ?_
          refine g_aload X dX7_paste_33 (j := 1) rfl ?_
          refine g_ifnull X dX7_paste_35 ?_
          refine g_aload X dX7_paste_38 (j := 0) rfl ?_
          refine g_ifnonnull X dX7_paste_40 (tgt := 46) (by decide) ?_
          refine g_aload X dX7_paste_46 (j := 1) rfl ?_
          refine i_get X F 86 (act86) rfl fk_X7_400 dX7_paste_48 rfl ?_
          refine Go.gen (fun o221 => ?_)
          refine g_aload X dX7_paste_51 (j := 0) rfl ?_
          refine i_get X F 80 (act80) rfl fk_X7_400 dX7_paste_53 rfl ?_
          refine Go.gen (fun o222 => ?_)
          refine g_icmp_eq X dX7_paste_56 (tgt := 62) (by decide) (fun q223 => ?_) (fun q223 => ?_)
          · skip
            refine g_aload X dX7_paste_62 (j := 1) rfl ?_
            refine g_iload_n X dX7_paste_64 rfl (j := 4) rfl ?_
            refine g_iload X dX7_paste_65 (j := 7) rfl ?_
            refine g_callVI X (s_X5_hasPart_86 l G F I p1 p4 act86) lk_X7_403 (F.1 86 (act86)).2 (F.1 86 (act86)).1 rfl rfl dX7_paste_67 (Nat.le_of_ble_eq_true rfl) ⟨by decide, by decide⟩ ⟨by decide, by decide⟩ (fun r224 L M hp => ?_)
            obtain ⟨C, D, F, I, K1, hr⟩ := hp
            have K := K.step K1 (by decide)
            rcases hr with ⟨rfl, hp225⟩ | ⟨rfl, hp225⟩
            · skip
              rw [(K 86 (by decide)).1] at hp225
              refine g_if_eq X dX7_paste_70 (tgt := 85) (by decide) (fun _ => ?_) (fun q => absurd (by decide) q)
              refine g_bipush X dX7_paste_85 (v := -7) (by decide) ?_
              exact g_iret X hrt dX7_paste_87 (by decide) (by decide) ⟨C, D, F, I, K, trivial⟩
            · skip
              rw [(K 86 (by decide)).1] at hp225
              refine g_if_eq X dX7_paste_70 (tgt := 85) (by decide) (fun q => absurd q (by decide)) (fun _ => ?_)
              refine g_aload X dX7_paste_73 (j := 0) rfl ?_
              refine g_iload X dX7_paste_75 (j := 6) rfl ?_
              refine g_iload X dX7_paste_77 (j := 7) rfl ?_
              refine g_callVI X (s_X5_hasPart_80 l G F I p3 p4 act80) lk_X7_403 (F.1 80 (act80)).2 (F.1 80 (act80)).1 rfl rfl dX7_paste_79 (Nat.le_of_ble_eq_true rfl) ⟨by decide, by decide⟩ ⟨by decide, by decide⟩ (fun r226 L M hp => ?_)
              obtain ⟨C, D, F, I, K1, hr⟩ := hp
              have K := K.step K1 (by decide)
              rcases hr with ⟨rfl, hp227⟩ | ⟨rfl, hp227⟩
              · skip
                rw [(K 80 (by decide)).1] at hp227
                refine g_if_ne X dX7_paste_82 (tgt := 88) (by decide) (fun q => absurd (by decide) q) (fun _ => ?_)
                refine g_bipush X dX7_paste_85 (v := -7) (by decide) ?_
                exact g_iret X hrt dX7_paste_87 (by decide) (by decide) ⟨C, D, F, I, K, trivial⟩
              · skip
                rw [(K 80 (by decide)).1] at hp227
                refine g_if_ne X dX7_paste_82 (tgt := 88) (by decide) (fun _ => ?_) (fun q => absurd q (by decide))
                have hz86 := (show (C0 86 2).toInt ≤ 60 from (by have z := I 86 2 rfl; rw [(K 86 (by decide)).1] at z; exact z.2))
                have hz80 := (show (C0 80 2).toInt ≤ 60 from (by have z := I 80 2 rfl; rw [(K 80 (by decide)).1] at z; exact z.2))
                obtain ⟨n228, hn228a, hn228b, en228⟩ := nI_ofInt (x := p1) (lo := 0) (hi := 60) (by omega) (by omega) (by decide)
                subst en228
                have tn228 := nI_toInt (n := n228) (by omega)
                obtain ⟨n229, hn229a, hn229b, en229⟩ := nI_ofInt (x := p3) (lo := 0) (hi := 60) (by omega) (by omega) (by decide)
                subst en229
                have tn229 := nI_toInt (n := n229) (by omega)
                obtain ⟨n230, hn230a, hn230b, en230⟩ := nI_ofInt (x := p4) (lo := 0) (hi := 60) (by omega) (by omega) (by decide)
                subst en230
                have tn230 := nI_toInt (n := n230) (by omega)
                refine g_aload X dX7_paste_88 (j := 1) rfl ?_
                refine i_get X F 86 (act86) rfl fk_X7_406 dX7_paste_90 rfl ?_
                refine g_iload_n X dX7_paste_93 rfl (j := 4) rfl ?_
                refine g_aload X dX7_paste_94 (j := 0) rfl ?_
                refine i_get X F 80 (act80) rfl fk_X7_406 dX7_paste_96 rfl ?_
                refine g_iload X dX7_paste_99 (j := 6) rfl ?_
                refine g_iload X dX7_paste_101 (j := 7) rfl ?_
                refine i_copyl X F 87 (act87) 81 (act81) rfl (fun _ => rfl) (t0 := 2) rfl rfl wd604 wd87 wd88 wd89 (nI_pos (by omega)) (nI_pos (by omega)) (nI_pos (by omega)) (by rw [nI_clamp (show n228 < 2 ^ 31 by omega), nI_clamp (show n230 < 2 ^ 31 by omega)]; omega) (by rw [nI_clamp (show n229 < 2 ^ 31 by omega), nI_clamp (show n230 < 2 ^ 31 by omega)]; omega) (fun _ _ => rfl) (by decide) (Nat.le_of_ble_eq_true rfl) dX7_paste_103 (fun M D F K1 => ?_)
                have K := K.step K1 (by decide)
                refine g_iconst X dX7_paste_106 (v := 0) (by decide) ?_
                exact g_iret X hrt dX7_paste_107 (by decide) (by decide) ⟨C, D, F, I, K, trivial⟩
          · skip
            refine g_bipush X dX7_paste_59 (v := -8) (by decide) ?_
            exact g_iret X hrt dX7_paste_61 (by decide) (by decide) ⟨C, D, F, I, K, trivial⟩
    · skip
      refine g_iload_n X dX7_paste_0 rfl (j := 1) rfl ?_
      refine g_callSI X (s_X7_isSlot_3 l G F I  ) lk_X7_389 rfl rfl dX7_paste_1 (Nat.le_of_ble_eq_true rfl) ⟨by decide, by decide⟩ ⟨by decide, by decide⟩ (fun r231 L M hp => ?_)
      obtain ⟨C, D, F, I, K1, hr⟩ := hp
      have K := K.step K1 (by decide)
      subst hr
      refine g_if_eq X dX7_paste_4 (tgt := 14) (by decide) (fun q => absurd q (by decide)) (fun _ => ?_)
      refine g_iload_n X dX7_paste_7 rfl (j := 3) rfl ?_
      refine g_callSI X (s_X7_isSlot_1 l G F I  ) lk_X7_389 rfl rfl dX7_paste_8 (Nat.le_of_ble_eq_true rfl) ⟨by decide, by decide⟩ ⟨by decide, by decide⟩ (fun r232 L M hp => ?_)
      obtain ⟨C, D, F, I, K1, hr⟩ := hp
      have K := K.step K1 (by decide)
      subst hr
      refine g_if_ne X dX7_paste_11 (tgt := 17) (by decide) (fun _ => ?_) (fun q => absurd q (by decide))
      refine g_aload_n X dX7_paste_17 rfl (j := 0) rfl ?_
      refine i_get X F 0 rfl rfl fk_X7_32 dX7_paste_18 rfl ?_
      refine g_iload_n X dX7_paste_21 rfl (j := 1) rfl ?_
      rcases (Bool.eq_false_or_eq_true (act 86)).symm with hA86 | hA86
      · skip
        refine i_aald X F 24 rfl (t0 := 5) rfl rfl dX7_paste_22 (vp_in_iff.mpr (by decide)) (v := .null) (by show va_rf (R 24 3) = _; rw [HR.1 3 (by decide)]; rw [if_neg (by rw [hA86]; decide)]; rfl) ?_
        refine g_astoreN X dX7_paste_23 (by decide) (lv2 := [(6, .null), (0, .ref (a 0)), (1, .int 3), (2, .int p1), (3, .int 1), (4, .int p3), (5, .int p4)]) rfl ?_
        refine g_aload_n X dX7_paste_25 rfl (j := 1) rfl ?_
        refine i_get X F 0 rfl rfl fk_X7_32 dX7_paste_26 rfl ?_
        refine g_iload_n X dX7_paste_29 rfl (j := 4) rfl ?_
        rcases (Bool.eq_false_or_eq_true (act 82)).symm with hA82 | hA82
        · skip
          refine i_aald X F 24 rfl (t0 := 5) rfl rfl dX7_paste_30 (vp_in_iff.mpr (by decide)) (v := .null) (by show va_rf (R 24 1) = _; rw [HR.1 1 (by decide)]; rw [if_neg (by rw [hA82]; decide)]; rfl) ?_
          refine g_astoreN X dX7_paste_31 (by decide) (lv2 := [(7, .null), (6, .null), (0, .ref (a 0)), (1, .int 3), (2, .int p1), (3, .int 1), (4, .int p3), (5, .int p4)]) rfl ?_
          refine g_aloadN X dX7_paste_33 (j := 1) rfl ?_
          refine g_ifnullN X dX7_paste_35 (tgt := 43) (by decide) ?_
          refine g_bipush X dX7_paste_43 (v := -6) (by decide) ?_
          exact g_iret X hrt dX7_paste_45 (by decide) (by decide) ⟨C, D, F, I, K, trivial⟩
        · skip
          have act82 : (baseact 82 || act 82) = true := by rw [hA82]; rfl
          have act83 : (baseact 83 || act 83) = true := by rw [((HR.2.2.1 1 (by decide)).trans hA82)]; rfl
          refine i_aald X F 24 rfl (t0 := 5) rfl rfl dX7_paste_30 (vp_in_iff.mpr (by decide)) (v := .ref (a 82)) (by show va_rf (R 24 1) = _; rw [HR.1 1 (by decide)]; rw [if_pos hA82]; rfl) ?_
          refine g_astore X dX7_paste_31 (by decide) (lv2 := [(7, .ref (a 82)), (6, .null), (0, .ref (a 0)), (1, .int 3), (2, .int p1), (3, .int 1), (4, .int p3), (5, .int p4)]) rfl ?_
          refine g_aloadN X dX7_paste_33 (j := 1) rfl ?_
          refine g_ifnullN X dX7_paste_35 (tgt := 43) (by decide) ?_
          refine g_bipush X dX7_paste_43 (v := -6) (by decide) ?_
          exact g_iret X hrt dX7_paste_45 (by decide) (by decide) ⟨C, D, F, I, K, trivial⟩
      · skip
        have act86 : (baseact 86 || act 86) = true := by rw [hA86]; rfl
        have act87 : (baseact 87 || act 87) = true := by rw [((HR.2.2.1 3 (by decide)).trans hA86)]; rfl
        refine i_aald X F 24 rfl (t0 := 5) rfl rfl dX7_paste_22 (vp_in_iff.mpr (by decide)) (v := .ref (a 86)) (by show va_rf (R 24 3) = _; rw [HR.1 3 (by decide)]; rw [if_pos hA86]; rfl) ?_
        refine g_astore X dX7_paste_23 (by decide) (lv2 := [(6, .ref (a 86)), (0, .ref (a 0)), (1, .int 3), (2, .int p1), (3, .int 1), (4, .int p3), (5, .int p4)]) rfl ?_
        refine g_aload_n X dX7_paste_25 rfl (j := 1) rfl ?_
        refine i_get X F 0 rfl rfl fk_X7_32 dX7_paste_26 rfl ?_
        refine g_iload_n X dX7_paste_29 rfl (j := 4) rfl ?_
        rcases (Bool.eq_false_or_eq_true (act 82)).symm with hA82 | hA82
        · skip
          refine i_aald X F 24 rfl (t0 := 5) rfl rfl dX7_paste_30 (vp_in_iff.mpr (by decide)) (v := .null) (by show va_rf (R 24 1) = _; rw [HR.1 1 (by decide)]; rw [if_neg (by rw [hA82]; decide)]; rfl) ?_
          refine g_astoreN X dX7_paste_31 (by decide) (lv2 := [(7, .null), (6, .ref (a 86)), (0, .ref (a 0)), (1, .int 3), (2, .int p1), (3, .int 1), (4, .int p3), (5, .int p4)]) rfl ?_
          refine g_aload X dX7_paste_33 (j := 1) rfl ?_
          refine g_ifnull X dX7_paste_35 ?_
          refine g_aloadN X dX7_paste_38 (j := 0) rfl ?_
          refine g_ifnonnullN X dX7_paste_40 ?_
          refine g_bipush X dX7_paste_43 (v := -6) (by decide) ?_
          exact g_iret X hrt dX7_paste_45 (by decide) (by decide) ⟨C, D, F, I, K, trivial⟩
        · skip
          have act82 : (baseact 82 || act 82) = true := by rw [hA82]; rfl
          have act83 : (baseact 83 || act 83) = true := by rw [((HR.2.2.1 1 (by decide)).trans hA82)]; rfl
          refine i_aald X F 24 rfl (t0 := 5) rfl rfl dX7_paste_30 (vp_in_iff.mpr (by decide)) (v := .ref (a 82)) (by show va_rf (R 24 1) = _; rw [HR.1 1 (by decide)]; rw [if_pos hA82]; rfl) ?_
          refine g_astore X dX7_paste_31 (by decide) (lv2 := [(7, .ref (a 82)), (6, .ref (a 86)), (0, .ref (a 0)), (1, .int 3), (2, .int p1), (3, .int 1), (4, .int p3), (5, .int p4)]) rfl ?_
          refine g_aload X dX7_paste_33 (j := 1) rfl ?_
          refine g_ifnull X dX7_paste_35 ?_
          refine g_aload X dX7_paste_38 (j := 0) rfl ?_
          refine g_ifnonnull X dX7_paste_40 (tgt := 46) (by decide) ?_
          refine g_aload X dX7_paste_46 (j := 1) rfl ?_
          refine i_get X F 86 (act86) rfl fk_X7_400 dX7_paste_48 rfl ?_
          refine Go.gen (fun o236 => ?_)
          refine g_aload X dX7_paste_51 (j := 0) rfl ?_
          refine i_get X F 82 (act82) rfl fk_X7_400 dX7_paste_53 rfl ?_
          refine Go.gen (fun o237 => ?_)
          refine g_icmp_eq X dX7_paste_56 (tgt := 62) (by decide) (fun q238 => ?_) (fun q238 => ?_)
          · skip
            refine g_aload X dX7_paste_62 (j := 1) rfl ?_
            refine g_iload_n X dX7_paste_64 rfl (j := 4) rfl ?_
            refine g_iload X dX7_paste_65 (j := 7) rfl ?_
            refine g_callVI X (s_X5_hasPart_86 l G F I p1 p4 act86) lk_X7_403 (F.1 86 (act86)).2 (F.1 86 (act86)).1 rfl rfl dX7_paste_67 (Nat.le_of_ble_eq_true rfl) ⟨by decide, by decide⟩ ⟨by decide, by decide⟩ (fun r239 L M hp => ?_)
            obtain ⟨C, D, F, I, K1, hr⟩ := hp
            have K := K.step K1 (by decide)
            rcases hr with ⟨rfl, hp240⟩ | ⟨rfl, hp240⟩
            · skip
              rw [(K 86 (by decide)).1] at hp240
              refine g_if_eq X dX7_paste_70 (tgt := 85) (by decide) (fun _ => ?_) (fun q => absurd (by decide) q)
              refine g_bipush X dX7_paste_85 (v := -7) (by decide) ?_
              exact g_iret X hrt dX7_paste_87 (by decide) (by decide) ⟨C, D, F, I, K, trivial⟩
            · skip
              rw [(K 86 (by decide)).1] at hp240
              refine g_if_eq X dX7_paste_70 (tgt := 85) (by decide) (fun q => absurd q (by decide)) (fun _ => ?_)
              refine g_aload X dX7_paste_73 (j := 0) rfl ?_
              refine g_iload X dX7_paste_75 (j := 6) rfl ?_
              refine g_iload X dX7_paste_77 (j := 7) rfl ?_
              refine g_callVI X (s_X5_hasPart_82 l G F I p3 p4 act82) lk_X7_403 (F.1 82 (act82)).2 (F.1 82 (act82)).1 rfl rfl dX7_paste_79 (Nat.le_of_ble_eq_true rfl) ⟨by decide, by decide⟩ ⟨by decide, by decide⟩ (fun r241 L M hp => ?_)
              obtain ⟨C, D, F, I, K1, hr⟩ := hp
              have K := K.step K1 (by decide)
              rcases hr with ⟨rfl, hp242⟩ | ⟨rfl, hp242⟩
              · skip
                rw [(K 82 (by decide)).1] at hp242
                refine g_if_ne X dX7_paste_82 (tgt := 88) (by decide) (fun q => absurd (by decide) q) (fun _ => ?_)
                refine g_bipush X dX7_paste_85 (v := -7) (by decide) ?_
                exact g_iret X hrt dX7_paste_87 (by decide) (by decide) ⟨C, D, F, I, K, trivial⟩
              · skip
                rw [(K 82 (by decide)).1] at hp242
                refine g_if_ne X dX7_paste_82 (tgt := 88) (by decide) (fun _ => ?_) (fun q => absurd q (by decide))
                have hz86 := (show (C0 86 2).toInt ≤ 60 from (by have z := I 86 2 rfl; rw [(K 86 (by decide)).1] at z; exact z.2))
                have hz82 := (show (C0 82 2).toInt ≤ 60 from (by have z := I 82 2 rfl; rw [(K 82 (by decide)).1] at z; exact z.2))
                obtain ⟨n243, hn243a, hn243b, en243⟩ := nI_ofInt (x := p1) (lo := 0) (hi := 60) (by omega) (by omega) (by decide)
                subst en243
                have tn243 := nI_toInt (n := n243) (by omega)
                obtain ⟨n244, hn244a, hn244b, en244⟩ := nI_ofInt (x := p3) (lo := 0) (hi := 60) (by omega) (by omega) (by decide)
                subst en244
                have tn244 := nI_toInt (n := n244) (by omega)
                obtain ⟨n245, hn245a, hn245b, en245⟩ := nI_ofInt (x := p4) (lo := 0) (hi := 60) (by omega) (by omega) (by decide)
                subst en245
                have tn245 := nI_toInt (n := n245) (by omega)
                refine g_aload X dX7_paste_88 (j := 1) rfl ?_
                refine i_get X F 86 (act86) rfl fk_X7_406 dX7_paste_90 rfl ?_
                refine g_iload_n X dX7_paste_93 rfl (j := 4) rfl ?_
                refine g_aload X dX7_paste_94 (j := 0) rfl ?_
                refine i_get X F 82 (act82) rfl fk_X7_406 dX7_paste_96 rfl ?_
                refine g_iload X dX7_paste_99 (j := 6) rfl ?_
                refine g_iload X dX7_paste_101 (j := 7) rfl ?_
                refine i_copyl X F 87 (act87) 83 (act83) rfl (fun _ => rfl) (t0 := 2) rfl rfl wd604 wd87 wd88 wd89 (nI_pos (by omega)) (nI_pos (by omega)) (nI_pos (by omega)) (by rw [nI_clamp (show n243 < 2 ^ 31 by omega), nI_clamp (show n245 < 2 ^ 31 by omega)]; omega) (by rw [nI_clamp (show n244 < 2 ^ 31 by omega), nI_clamp (show n245 < 2 ^ 31 by omega)]; omega) (fun _ _ => rfl) (by decide) (Nat.le_of_ble_eq_true rfl) dX7_paste_103 (fun M D F K1 => ?_)
                have K := K.step K1 (by decide)
                refine g_iconst X dX7_paste_106 (v := 0) (by decide) ?_
                exact g_iret X hrt dX7_paste_107 (by decide) (by decide) ⟨C, D, F, I, K, trivial⟩
          · skip
            refine g_bipush X dX7_paste_59 (v := -8) (by decide) ?_
            exact g_iret X hrt dX7_paste_61 (by decide) (by decide) ⟨C, D, F, I, K, trivial⟩
    · skip
      refine g_iload_n X dX7_paste_0 rfl (j := 1) rfl ?_
      refine g_callSI X (s_X7_isSlot_3 l G F I  ) lk_X7_389 rfl rfl dX7_paste_1 (Nat.le_of_ble_eq_true rfl) ⟨by decide, by decide⟩ ⟨by decide, by decide⟩ (fun r246 L M hp => ?_)
      obtain ⟨C, D, F, I, K1, hr⟩ := hp
      have K := K.step K1 (by decide)
      subst hr
      refine g_if_eq X dX7_paste_4 (tgt := 14) (by decide) (fun q => absurd q (by decide)) (fun _ => ?_)
      refine g_iload_n X dX7_paste_7 rfl (j := 3) rfl ?_
      refine g_callSI X (s_X7_isSlot_2 l G F I  ) lk_X7_389 rfl rfl dX7_paste_8 (Nat.le_of_ble_eq_true rfl) ⟨by decide, by decide⟩ ⟨by decide, by decide⟩ (fun r247 L M hp => ?_)
      obtain ⟨C, D, F, I, K1, hr⟩ := hp
      have K := K.step K1 (by decide)
      subst hr
      refine g_if_ne X dX7_paste_11 (tgt := 17) (by decide) (fun _ => ?_) (fun q => absurd q (by decide))
      refine g_aload_n X dX7_paste_17 rfl (j := 0) rfl ?_
      refine i_get X F 0 rfl rfl fk_X7_32 dX7_paste_18 rfl ?_
      refine g_iload_n X dX7_paste_21 rfl (j := 1) rfl ?_
      rcases (Bool.eq_false_or_eq_true (act 86)).symm with hA86 | hA86
      · skip
        refine i_aald X F 24 rfl (t0 := 5) rfl rfl dX7_paste_22 (vp_in_iff.mpr (by decide)) (v := .null) (by show va_rf (R 24 3) = _; rw [HR.1 3 (by decide)]; rw [if_neg (by rw [hA86]; decide)]; rfl) ?_
        refine g_astoreN X dX7_paste_23 (by decide) (lv2 := [(6, .null), (0, .ref (a 0)), (1, .int 3), (2, .int p1), (3, .int 2), (4, .int p3), (5, .int p4)]) rfl ?_
        refine g_aload_n X dX7_paste_25 rfl (j := 1) rfl ?_
        refine i_get X F 0 rfl rfl fk_X7_32 dX7_paste_26 rfl ?_
        refine g_iload_n X dX7_paste_29 rfl (j := 4) rfl ?_
        rcases (Bool.eq_false_or_eq_true (act 84)).symm with hA84 | hA84
        · skip
          refine i_aald X F 24 rfl (t0 := 5) rfl rfl dX7_paste_30 (vp_in_iff.mpr (by decide)) (v := .null) (by show va_rf (R 24 2) = _; rw [HR.1 2 (by decide)]; rw [if_neg (by rw [hA84]; decide)]; rfl) ?_
          refine g_astoreN X dX7_paste_31 (by decide) (lv2 := [(7, .null), (6, .null), (0, .ref (a 0)), (1, .int 3), (2, .int p1), (3, .int 2), (4, .int p3), (5, .int p4)]) rfl ?_
          refine g_aloadN X dX7_paste_33 (j := 1) rfl ?_
          refine g_ifnullN X dX7_paste_35 (tgt := 43) (by decide) ?_
          refine g_bipush X dX7_paste_43 (v := -6) (by decide) ?_
          exact g_iret X hrt dX7_paste_45 (by decide) (by decide) ⟨C, D, F, I, K, trivial⟩
        · skip
          have act84 : (baseact 84 || act 84) = true := by rw [hA84]; rfl
          have act85 : (baseact 85 || act 85) = true := by rw [((HR.2.2.1 2 (by decide)).trans hA84)]; rfl
          refine i_aald X F 24 rfl (t0 := 5) rfl rfl dX7_paste_30 (vp_in_iff.mpr (by decide)) (v := .ref (a 84)) (by show va_rf (R 24 2) = _; rw [HR.1 2 (by decide)]; rw [if_pos hA84]; rfl) ?_
          refine g_astore X dX7_paste_31 (by decide) (lv2 := [(7, .ref (a 84)), (6, .null), (0, .ref (a 0)), (1, .int 3), (2, .int p1), (3, .int 2), (4, .int p3), (5, .int p4)]) rfl ?_
          refine g_aloadN X dX7_paste_33 (j := 1) rfl ?_
          refine g_ifnullN X dX7_paste_35 (tgt := 43) (by decide) ?_
          refine g_bipush X dX7_paste_43 (v := -6) (by decide) ?_
          exact g_iret X hrt dX7_paste_45 (by decide) (by decide) ⟨C, D, F, I, K, trivial⟩
      · skip
        have act86 : (baseact 86 || act 86) = true := by rw [hA86]; rfl
        have act87 : (baseact 87 || act 87) = true := by rw [((HR.2.2.1 3 (by decide)).trans hA86)]; rfl
        refine i_aald X F 24 rfl (t0 := 5) rfl rfl dX7_paste_22 (vp_in_iff.mpr (by decide)) (v := .ref (a 86)) (by show va_rf (R 24 3) = _; rw [HR.1 3 (by decide)]; rw [if_pos hA86]; rfl) ?_
        refine g_astore X dX7_paste_23 (by decide) (lv2 := [(6, .ref (a 86)), (0, .ref (a 0)), (1, .int 3), (2, .int p1), (3, .int 2), (4, .int p3), (5, .int p4)]) rfl ?_
        refine g_aload_n X dX7_paste_25 rfl (j := 1) rfl ?_
        refine i_get X F 0 rfl rfl fk_X7_32 dX7_paste_26 rfl ?_
        refine g_iload_n X dX7_paste_29 rfl (j := 4) rfl ?_
        rcases (Bool.eq_false_or_eq_true (act 84)).symm with hA84 | hA84
        · skip
          refine i_aald X F 24 rfl (t0 := 5) rfl rfl dX7_paste_30 (vp_in_iff.mpr (by decide)) (v := .null) (by show va_rf (R 24 2) = _; rw [HR.1 2 (by decide)]; rw [if_neg (by rw [hA84]; decide)]; rfl) ?_
          refine g_astoreN X dX7_paste_31 (by decide) (lv2 := [(7, .null), (6, .ref (a 86)), (0, .ref (a 0)), (1, .int 3), (2, .int p1), (3, .int 2), (4, .int p3), (5, .int p4)]) rfl ?_
          refine g_aload X dX7_paste_33 (j := 1) rfl ?_
          refine g_ifnull X dX7_paste_35 ?_
          refine g_aloadN X dX7_paste_38 (j := 0) rfl ?_
          refine g_ifnonnullN X dX7_paste_40 ?_
          refine g_bipush X dX7_paste_43 (v := -6) (by decide) ?_
          exact g_iret X hrt dX7_paste_45 (by decide) (by decide) ⟨C, D, F, I, K, trivial⟩
        · skip
          have act84 : (baseact 84 || act 84) = true := by rw [hA84]; rfl
          have act85 : (baseact 85 || act 85) = true := by rw [((HR.2.2.1 2 (by decide)).trans hA84)]; rfl
          refine i_aald X F 24 rfl (t0 := 5) rfl rfl dX7_paste_30 (vp_in_iff.mpr (by decide)) (v := .ref (a 84)) (by show va_rf (R 24 2) = _; rw [HR.1 2 (by decide)]; rw [if_pos hA84]; rfl) ?_
          refine g_astore X dX7_paste_31 (by decide) (lv2 := [(7, .ref (a 84)), (6, .ref (a 86)), (0, .ref (a 0)), (1, .int 3), (2, .int p1), (3, .int 2), (4, .int p3), (5, .int p4)]) rfl ?_
          refine g_aload X dX7_paste_33 (j := 1) rfl ?_
          refine g_ifnull X dX7_paste_35 ?_
          refine g_aload X dX7_paste_38 (j := 0) rfl ?_
          refine g_ifnonnull X dX7_paste_40 (tgt := 46) (by decide) ?_
          refine g_aload X dX7_paste_46 (j := 1) rfl ?_
          refine i_get X F 86 (act86) rfl fk_X7_400 dX7_paste_48 rfl ?_
          refine Go.gen (fun o251 => ?_)
          refine g_aload X dX7_paste_51 (j := 0) rfl ?_
          refine i_get X F 84 (act84) rfl fk_X7_400 dX7_paste_53 rfl ?_
          refine Go.gen (fun o252 => ?_)
          refine g_icmp_eq X dX7_paste_56 (tgt := 62) (by decide) (fun q253 => ?_) (fun q253 => ?_)
          · skip
            refine g_aload X dX7_paste_62 (j := 1) rfl ?_
            refine g_iload_n X dX7_paste_64 rfl (j := 4) rfl ?_
            refine g_iload X dX7_paste_65 (j := 7) rfl ?_
            refine g_callVI X (s_X5_hasPart_86 l G F I p1 p4 act86) lk_X7_403 (F.1 86 (act86)).2 (F.1 86 (act86)).1 rfl rfl dX7_paste_67 (Nat.le_of_ble_eq_true rfl) ⟨by decide, by decide⟩ ⟨by decide, by decide⟩ (fun r254 L M hp => ?_)
            obtain ⟨C, D, F, I, K1, hr⟩ := hp
            have K := K.step K1 (by decide)
            rcases hr with ⟨rfl, hp255⟩ | ⟨rfl, hp255⟩
            · skip
              rw [(K 86 (by decide)).1] at hp255
              refine g_if_eq X dX7_paste_70 (tgt := 85) (by decide) (fun _ => ?_) (fun q => absurd (by decide) q)
              refine g_bipush X dX7_paste_85 (v := -7) (by decide) ?_
              exact g_iret X hrt dX7_paste_87 (by decide) (by decide) ⟨C, D, F, I, K, trivial⟩
            · skip
              rw [(K 86 (by decide)).1] at hp255
              refine g_if_eq X dX7_paste_70 (tgt := 85) (by decide) (fun q => absurd q (by decide)) (fun _ => ?_)
              refine g_aload X dX7_paste_73 (j := 0) rfl ?_
              refine g_iload X dX7_paste_75 (j := 6) rfl ?_
              refine g_iload X dX7_paste_77 (j := 7) rfl ?_
              refine g_callVI X (s_X5_hasPart_84 l G F I p3 p4 act84) lk_X7_403 (F.1 84 (act84)).2 (F.1 84 (act84)).1 rfl rfl dX7_paste_79 (Nat.le_of_ble_eq_true rfl) ⟨by decide, by decide⟩ ⟨by decide, by decide⟩ (fun r256 L M hp => ?_)
              obtain ⟨C, D, F, I, K1, hr⟩ := hp
              have K := K.step K1 (by decide)
              rcases hr with ⟨rfl, hp257⟩ | ⟨rfl, hp257⟩
              · skip
                rw [(K 84 (by decide)).1] at hp257
                refine g_if_ne X dX7_paste_82 (tgt := 88) (by decide) (fun q => absurd (by decide) q) (fun _ => ?_)
                refine g_bipush X dX7_paste_85 (v := -7) (by decide) ?_
                exact g_iret X hrt dX7_paste_87 (by decide) (by decide) ⟨C, D, F, I, K, trivial⟩
              · skip
                rw [(K 84 (by decide)).1] at hp257
                refine g_if_ne X dX7_paste_82 (tgt := 88) (by decide) (fun _ => ?_) (fun q => absurd q (by decide))
                have hz86 := (show (C0 86 2).toInt ≤ 60 from (by have z := I 86 2 rfl; rw [(K 86 (by decide)).1] at z; exact z.2))
                have hz84 := (show (C0 84 2).toInt ≤ 60 from (by have z := I 84 2 rfl; rw [(K 84 (by decide)).1] at z; exact z.2))
                obtain ⟨n258, hn258a, hn258b, en258⟩ := nI_ofInt (x := p1) (lo := 0) (hi := 60) (by omega) (by omega) (by decide)
                subst en258
                have tn258 := nI_toInt (n := n258) (by omega)
                obtain ⟨n259, hn259a, hn259b, en259⟩ := nI_ofInt (x := p3) (lo := 0) (hi := 60) (by omega) (by omega) (by decide)
                subst en259
                have tn259 := nI_toInt (n := n259) (by omega)
                obtain ⟨n260, hn260a, hn260b, en260⟩ := nI_ofInt (x := p4) (lo := 0) (hi := 60) (by omega) (by omega) (by decide)
                subst en260
                have tn260 := nI_toInt (n := n260) (by omega)
                refine g_aload X dX7_paste_88 (j := 1) rfl ?_
                refine i_get X F 86 (act86) rfl fk_X7_406 dX7_paste_90 rfl ?_
                refine g_iload_n X dX7_paste_93 rfl (j := 4) rfl ?_
                refine g_aload X dX7_paste_94 (j := 0) rfl ?_
                refine i_get X F 84 (act84) rfl fk_X7_406 dX7_paste_96 rfl ?_
                refine g_iload X dX7_paste_99 (j := 6) rfl ?_
                refine g_iload X dX7_paste_101 (j := 7) rfl ?_
                refine i_copyl X F 87 (act87) 85 (act85) rfl (fun _ => rfl) (t0 := 2) rfl rfl wd604 wd87 wd88 wd89 (nI_pos (by omega)) (nI_pos (by omega)) (nI_pos (by omega)) (by rw [nI_clamp (show n258 < 2 ^ 31 by omega), nI_clamp (show n260 < 2 ^ 31 by omega)]; omega) (by rw [nI_clamp (show n259 < 2 ^ 31 by omega), nI_clamp (show n260 < 2 ^ 31 by omega)]; omega) (fun _ _ => rfl) (by decide) (Nat.le_of_ble_eq_true rfl) dX7_paste_103 (fun M D F K1 => ?_)
                have K := K.step K1 (by decide)
                refine g_iconst X dX7_paste_106 (v := 0) (by decide) ?_
                exact g_iret X hrt dX7_paste_107 (by decide) (by decide) ⟨C, D, F, I, K, trivial⟩
          · skip
            refine g_bipush X dX7_paste_59 (v := -8) (by decide) ?_
            exact g_iret X hrt dX7_paste_61 (by decide) (by decide) ⟨C, D, F, I, K, trivial⟩
    · skip
      refine g_iload_n X dX7_paste_0 rfl (j := 1) rfl ?_
      refine g_callSI X (s_X7_isSlot_3 l G F I  ) lk_X7_389 rfl rfl dX7_paste_1 (Nat.le_of_ble_eq_true rfl) ⟨by decide, by decide⟩ ⟨by decide, by decide⟩ (fun r261 L M hp => ?_)
      obtain ⟨C, D, F, I, K1, hr⟩ := hp
      have K := K.step K1 (by decide)
      subst hr
      refine g_if_eq X dX7_paste_4 (tgt := 14) (by decide) (fun q => absurd q (by decide)) (fun _ => ?_)
      refine g_iload_n X dX7_paste_7 rfl (j := 3) rfl ?_
      refine g_callSI X (s_X7_isSlot_3 l G F I  ) lk_X7_389 rfl rfl dX7_paste_8 (Nat.le_of_ble_eq_true rfl) ⟨by decide, by decide⟩ ⟨by decide, by decide⟩ (fun r262 L M hp => ?_)
      obtain ⟨C, D, F, I, K1, hr⟩ := hp
      have K := K.step K1 (by decide)
      subst hr
      refine g_if_ne X dX7_paste_11 (tgt := 17) (by decide) (fun _ => ?_) (fun q => absurd q (by decide))
      refine g_aload_n X dX7_paste_17 rfl (j := 0) rfl ?_
      refine i_get X F 0 rfl rfl fk_X7_32 dX7_paste_18 rfl ?_
      refine g_iload_n X dX7_paste_21 rfl (j := 1) rfl ?_
      rcases (Bool.eq_false_or_eq_true (act 86)).symm with hA86 | hA86
      · skip
        refine i_aald X F 24 rfl (t0 := 5) rfl rfl dX7_paste_22 (vp_in_iff.mpr (by decide)) (v := .null) (by show va_rf (R 24 3) = _; rw [HR.1 3 (by decide)]; rw [if_neg (by rw [hA86]; decide)]; rfl) ?_
        refine g_astoreN X dX7_paste_23 (by decide) (lv2 := [(6, .null), (0, .ref (a 0)), (1, .int 3), (2, .int p1), (3, .int 3), (4, .int p3), (5, .int p4)]) rfl ?_
        refine g_aload_n X dX7_paste_25 rfl (j := 1) rfl ?_
        refine i_get X F 0 rfl rfl fk_X7_32 dX7_paste_26 rfl ?_
        refine g_iload_n X dX7_paste_29 rfl (j := 4) rfl ?_
        refine i_aald X F 24 rfl (t0 := 5) rfl rfl dX7_paste_30 (vp_in_iff.mpr (by decide)) (v := .null) (by show va_rf (R 24 3) = _; rw [HR.1 3 (by decide)]; rw [if_neg (by rw [hA86]; decide)]; rfl) ?_
        refine g_astoreN X dX7_paste_31 (by decide) (lv2 := [(7, .null), (6, .null), (0, .ref (a 0)), (1, .int 3), (2, .int p1), (3, .int 3), (4, .int p3), (5, .int p4)]) rfl ?_
        refine g_aloadN X dX7_paste_33 (j := 1) rfl ?_
        refine g_ifnullN X dX7_paste_35 (tgt := 43) (by decide) ?_
        refine g_bipush X dX7_paste_43 (v := -6) (by decide) ?_
        exact g_iret X hrt dX7_paste_45 (by decide) (by decide) ⟨C, D, F, I, K, trivial⟩
      · skip
        have act86 : (baseact 86 || act 86) = true := by rw [hA86]; rfl
        have act87 : (baseact 87 || act 87) = true := by rw [((HR.2.2.1 3 (by decide)).trans hA86)]; rfl
        refine i_aald X F 24 rfl (t0 := 5) rfl rfl dX7_paste_22 (vp_in_iff.mpr (by decide)) (v := .ref (a 86)) (by show va_rf (R 24 3) = _; rw [HR.1 3 (by decide)]; rw [if_pos hA86]; rfl) ?_
        refine g_astore X dX7_paste_23 (by decide) (lv2 := [(6, .ref (a 86)), (0, .ref (a 0)), (1, .int 3), (2, .int p1), (3, .int 3), (4, .int p3), (5, .int p4)]) rfl ?_
        refine g_aload_n X dX7_paste_25 rfl (j := 1) rfl ?_
        refine i_get X F 0 rfl rfl fk_X7_32 dX7_paste_26 rfl ?_
        refine g_iload_n X dX7_paste_29 rfl (j := 4) rfl ?_
        refine i_aald X F 24 rfl (t0 := 5) rfl rfl dX7_paste_30 (vp_in_iff.mpr (by decide)) (v := .ref (a 86)) (by show va_rf (R 24 3) = _; rw [HR.1 3 (by decide)]; rw [if_pos hA86]; rfl) ?_
        refine g_astore X dX7_paste_31 (by decide) (lv2 := [(7, .ref (a 86)), (6, .ref (a 86)), (0, .ref (a 0)), (1, .int 3), (2, .int p1), (3, .int 3), (4, .int p3), (5, .int p4)]) rfl ?_
        refine g_aload X dX7_paste_33 (j := 1) rfl ?_
        refine g_ifnull X dX7_paste_35 ?_
        refine g_aload X dX7_paste_38 (j := 0) rfl ?_
        refine g_ifnonnull X dX7_paste_40 (tgt := 46) (by decide) ?_
        refine g_aload X dX7_paste_46 (j := 1) rfl ?_
        refine i_get X F 86 (act86) rfl fk_X7_400 dX7_paste_48 rfl ?_
        refine Go.gen (fun o266 => ?_)
        refine g_aload X dX7_paste_51 (j := 0) rfl ?_
        refine i_get X F 86 (act86) rfl fk_X7_400 dX7_paste_53 rfl ?_
        refine Go.gen (fun o267 => ?_)
        refine g_icmp_eq X dX7_paste_56 (tgt := 62) (by decide) (fun q268 => ?_) (fun q268 => ?_)
        · skip
          refine g_aload X dX7_paste_62 (j := 1) rfl ?_
          refine g_iload_n X dX7_paste_64 rfl (j := 4) rfl ?_
          refine g_iload X dX7_paste_65 (j := 7) rfl ?_
          refine g_callVI X (s_X5_hasPart_86 l G F I p1 p4 act86) lk_X7_403 (F.1 86 (act86)).2 (F.1 86 (act86)).1 rfl rfl dX7_paste_67 (Nat.le_of_ble_eq_true rfl) ⟨by decide, by decide⟩ ⟨by decide, by decide⟩ (fun r269 L M hp => ?_)
          obtain ⟨C, D, F, I, K1, hr⟩ := hp
          have K := K.step K1 (by decide)
          rcases hr with ⟨rfl, hp270⟩ | ⟨rfl, hp270⟩
          · skip
            rw [(K 86 (by decide)).1] at hp270
            refine g_if_eq X dX7_paste_70 (tgt := 85) (by decide) (fun _ => ?_) (fun q => absurd (by decide) q)
            refine g_bipush X dX7_paste_85 (v := -7) (by decide) ?_
            exact g_iret X hrt dX7_paste_87 (by decide) (by decide) ⟨C, D, F, I, K, trivial⟩
          · skip
            rw [(K 86 (by decide)).1] at hp270
            refine g_if_eq X dX7_paste_70 (tgt := 85) (by decide) (fun q => absurd q (by decide)) (fun _ => ?_)
            refine g_aload X dX7_paste_73 (j := 0) rfl ?_
            refine g_iload X dX7_paste_75 (j := 6) rfl ?_
            refine g_iload X dX7_paste_77 (j := 7) rfl ?_
            refine g_callVI X (s_X5_hasPart_86 l G F I p3 p4 act86) lk_X7_403 (F.1 86 (act86)).2 (F.1 86 (act86)).1 rfl rfl dX7_paste_79 (Nat.le_of_ble_eq_true rfl) ⟨by decide, by decide⟩ ⟨by decide, by decide⟩ (fun r271 L M hp => ?_)
            obtain ⟨C, D, F, I, K1, hr⟩ := hp
            have K := K.step K1 (by decide)
            rcases hr with ⟨rfl, hp272⟩ | ⟨rfl, hp272⟩
            · skip
              rw [(K 86 (by decide)).1] at hp272
              refine g_if_ne X dX7_paste_82 (tgt := 88) (by decide) (fun q => absurd (by decide) q) (fun _ => ?_)
              refine g_bipush X dX7_paste_85 (v := -7) (by decide) ?_
              exact g_iret X hrt dX7_paste_87 (by decide) (by decide) ⟨C, D, F, I, K, trivial⟩
            · skip
              rw [(K 86 (by decide)).1] at hp272
              refine g_if_ne X dX7_paste_82 (tgt := 88) (by decide) (fun _ => ?_) (fun q => absurd q (by decide))
              have hz86 := (show (C0 86 2).toInt ≤ 60 from (by have z := I 86 2 rfl; rw [(K 86 (by decide)).1] at z; exact z.2))
              have hz86 := (show (C0 86 2).toInt ≤ 60 from (by have z := I 86 2 rfl; rw [(K 86 (by decide)).1] at z; exact z.2))
              obtain ⟨n273, hn273a, hn273b, en273⟩ := nI_ofInt (x := p1) (lo := 0) (hi := 60) (by omega) (by omega) (by decide)
              subst en273
              have tn273 := nI_toInt (n := n273) (by omega)
              obtain ⟨n274, hn274a, hn274b, en274⟩ := nI_ofInt (x := p3) (lo := 0) (hi := 60) (by omega) (by omega) (by decide)
              subst en274
              have tn274 := nI_toInt (n := n274) (by omega)
              obtain ⟨n275, hn275a, hn275b, en275⟩ := nI_ofInt (x := p4) (lo := 0) (hi := 60) (by omega) (by omega) (by decide)
              subst en275
              have tn275 := nI_toInt (n := n275) (by omega)
              refine g_aload X dX7_paste_88 (j := 1) rfl ?_
              refine i_get X F 86 (act86) rfl fk_X7_406 dX7_paste_90 rfl ?_
              refine g_iload_n X dX7_paste_93 rfl (j := 4) rfl ?_
              refine g_aload X dX7_paste_94 (j := 0) rfl ?_
              refine i_get X F 86 (act86) rfl fk_X7_406 dX7_paste_96 rfl ?_
              refine g_iload X dX7_paste_99 (j := 6) rfl ?_
              refine g_iload X dX7_paste_101 (j := 7) rfl ?_
              refine i_copyl X F 87 (act87) 87 (act87) rfl (fun _ => rfl) (t0 := 2) rfl rfl wd604 wd87 wd88 wd89 (nI_pos (by omega)) (nI_pos (by omega)) (nI_pos (by omega)) (by rw [nI_clamp (show n273 < 2 ^ 31 by omega), nI_clamp (show n275 < 2 ^ 31 by omega)]; omega) (by rw [nI_clamp (show n274 < 2 ^ 31 by omega), nI_clamp (show n275 < 2 ^ 31 by omega)]; omega) (fun _ _ => rfl) (by decide) (Nat.le_of_ble_eq_true rfl) dX7_paste_103 (fun M D F K1 => ?_)
              have K := K.step K1 (by decide)
              refine g_iconst X dX7_paste_106 (v := 0) (by decide) ?_
              exact g_iret X hrt dX7_paste_107 (by decide) (by decide) ⟨C, D, F, I, K, trivial⟩
        · skip
          refine g_bipush X dX7_paste_59 (v := -8) (by decide) ?_
          exact g_iret X hrt dX7_paste_61 (by decide) (by decide) ⟨C, D, F, I, K, trivial⟩
