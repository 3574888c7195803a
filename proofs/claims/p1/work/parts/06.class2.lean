theorem c_J7_fill_53178 (l : Launch) (G : va_G) {cy : Nat → ClassId} {L : List Nat} {M : Nat → va_E} {fl : List (Nat × va_E)} (F : FW L M fl) (k0 : Nat) {ar N : Nat} (hk : fl[k0]? = some (ar, .inl (cy 1, N, .inl (fun _ => 0)))) (hN : N < 2 ^ 31) : MV l G cy yJ7_fill_53178 cJ7_fill_53178 4 none 0 0 0 [.ref ar, .int 0] L M (fun L2 M2 => FW L2 M2 fl) := by
  refine MV.of (own := RJ7) rfl (by decide) (Nat.le_of_ble_eq_true rfl) ?_
  intro p e s m below meth c A C hrt hnm
  refine g_iconst C dJ7_fill_53178_0 (v := 0) (by decide) ?_
  refine g_istore_n C dJ7_fill_53178_1 rfl (by decide) (lv2 := [(2, .int 0), (0, .ref ar), (1, .int 0)]) rfl ?_
  refine g_aload_n C dJ7_fill_53178_2 rfl (j := 1) rfl ?_
  refine h_alen C F k0 hk (t0 := 1) rfl dJ7_fill_53178_3 (v := nI N) rfl ?_
  refine g_istore_n C dJ7_fill_53178_4 rfl (by decide) (lv2 := [(3, .int (nI N)), (2, .int 0), (0, .ref ar), (1, .int 0)]) rfl ?_
  refine g_lv [1, 0, 2, 3] (lv2 := [(2, .int 0), (3, .int (nI N)), (0, .ref ar), (1, .int 0)]) rfl ?_
  refine g_loop N (lvf := fun i => [(2, .int (nI i)), (3, .int (nI N)), (0, .ref ar), (1, .int 0)]) (fun i M F hi ih => ?_) (fun M F => ?_) F
  · refine g_iload_n C dJ7_fill_53178_5 rfl (j := 0) rfl ?_
    refine g_iload_n C dJ7_fill_53178_6 rfl (j := 1) rfl ?_
    refine g_icmp_ge C dJ7_fill_53178_7 (tgt := 20) (by decide) (fun q => absurd q (nI_ge hi hN)) (fun _ => ?_)
    refine g_aload_n C dJ7_fill_53178_10 rfl (j := 2) rfl ?_
    refine g_iload_n C dJ7_fill_53178_11 rfl (j := 0) rfl ?_
    refine g_iload_n C dJ7_fill_53178_12 rfl (j := 3) rfl ?_
    refine h_iast C F k0 hk dJ7_fill_53178_13 (vp_in_nI hi hN) (g := fun _ => 0) (upd0 _) (fl2 := fl) (set_same hk) (fun M F => ?_)
    refine g_iinc C dJ7_fill_53178_14 (j := 0) rfl (v := nI (i + 1)) (nI_1 i) (by decide) (lv2 := [(2, .int (nI (i + 1))), (3, .int (nI N)), (0, .ref ar), (1, .int 0)]) rfl ?_
    refine g_goto C dJ7_fill_53178_17 (tgt := 5) (by decide) ?_
    exact ih M F
  · refine g_iload_n C dJ7_fill_53178_5 rfl (j := 0) rfl ?_
    refine g_iload_n C dJ7_fill_53178_6 rfl (j := 1) rfl ?_
    refine g_icmp_ge C dJ7_fill_53178_7 (tgt := 20) (by decide) (fun _ => ?_) (fun q => absurd (nI_le (Nat.le_refl N) hN) q)
    exact g_vret C hrt dJ7_fill_53178_20 (by decide) (by decide) F
theorem c_J7_fill_d0a16 (l : Launch) (G : va_G) {cy : Nat → ClassId} {L : List Nat} {M : Nat → va_E} {fl : List (Nat × va_E)} (F : FW L M fl) (k0 : Nat) {ar N : Nat} (hk : fl[k0]? = some (ar, .inl (cy 2, N, .inr (.inl (fun _ => 0))))) (hN : N < 2 ^ 31) : MV l G cy yJ7_fill_d0a16 cJ7_fill_d0a16 5 none 0 0 0 [.ref ar, .long 0] L M (fun L2 M2 => FW L2 M2 fl) := by
  refine MV.of (own := RJ7) rfl (by decide) (Nat.le_of_ble_eq_true rfl) ?_
  intro p e s m below meth c A C hrt hnm
  refine g_iconst C dJ7_fill_d0a16_0 (v := 0) (by decide) ?_
  refine g_istore_n C dJ7_fill_d0a16_1 rfl (by decide) (lv2 := [(3, .int 0), (0, .ref ar), (1, .long 0)]) rfl ?_
  refine g_aload_n C dJ7_fill_d0a16_2 rfl (j := 1) rfl ?_
  refine h_alen C F k0 hk (t0 := 2) rfl dJ7_fill_d0a16_3 (v := nI N) rfl ?_
  refine g_istore C dJ7_fill_d0a16_4 (by decide) (lv2 := [(4, .int (nI N)), (3, .int 0), (0, .ref ar), (1, .long 0)]) rfl ?_
  refine g_lv [1, 0, 2, 3] (lv2 := [(3, .int 0), (4, .int (nI N)), (0, .ref ar), (1, .long 0)]) rfl ?_
  refine g_loop N (lvf := fun i => [(3, .int (nI i)), (4, .int (nI N)), (0, .ref ar), (1, .long 0)]) (fun i M F hi ih => ?_) (fun M F => ?_) F
  · refine g_iload_n C dJ7_fill_d0a16_6 rfl (j := 0) rfl ?_
    refine g_iload C dJ7_fill_d0a16_7 (j := 1) rfl ?_
    refine g_icmp_ge C dJ7_fill_d0a16_9 (tgt := 22) (by decide) (fun q => absurd q (nI_ge hi hN)) (fun _ => ?_)
    refine g_aload_n C dJ7_fill_d0a16_12 rfl (j := 2) rfl ?_
    refine g_iload_n C dJ7_fill_d0a16_13 rfl (j := 0) rfl ?_
    refine g_lload_n C dJ7_fill_d0a16_14 rfl (j := 3) rfl ?_
    refine h_last C F k0 hk dJ7_fill_d0a16_15 (vp_in_nI hi hN) (g := fun _ => 0) (updL0 _) (fl2 := fl) (set_same hk) (fun M F => ?_)
    refine g_iinc C dJ7_fill_d0a16_16 (j := 0) rfl (v := nI (i + 1)) (nI_1 i) (by decide) (lv2 := [(3, .int (nI (i + 1))), (4, .int (nI N)), (0, .ref ar), (1, .long 0)]) rfl ?_
    refine g_goto C dJ7_fill_d0a16_19 (tgt := 6) (by decide) ?_
    exact ih M F
  · refine g_iload_n C dJ7_fill_d0a16_6 rfl (j := 0) rfl ?_
    refine g_iload C dJ7_fill_d0a16_7 (j := 1) rfl ?_
    refine g_icmp_ge C dJ7_fill_d0a16_9 (tgt := 22) (by decide) (fun _ => ?_) (fun q => absurd (nI_le (Nat.le_refl N) hN) q)
    exact g_vret C hrt dJ7_fill_d0a16_22 (by decide) (by decide) F
set_option maxHeartbeats 4000000 in
set_option maxRecDepth 100000 in
theorem c_X0_clear_s0 (l : Launch) (G : va_G) {cy : Nat → ClassId} {L : List Nat} {M : Nat → va_E} {a : Nat → Nat} {fr : List (Nat × va_E)}  (F : FW L M (flC cy a ++ fr))  : MV l G cy yX0_clear cX0_clear 1 none 1 0 0 [.ref (a 20)] L M (fun L2 M2 => FW L2 M2 (flC cy a ++ fr)) := by
  refine MV.of (own := RX0) rfl (by decide) (Nat.le_of_ble_eq_true rfl) ?_
  intro p e s m below meth c A C hrt hnm
  refine g_aload_n C dX0_clear_0 rfl (j := 0) rfl ?_
  refine g_iconst C dX0_clear_1 (v := 0) (by decide) ?_
  refine h_put C F 20 rfl fk_X0_9 dX0_clear_2 rfl rfl (Nat.le_of_ble_eq_true rfl) (fl2 := flC cy a ++ fr) rfl (fun M F => ?_)
  refine g_aload_n C dX0_clear_5 rfl (j := 0) rfl ?_
  refine h_get C F 20 rfl fk_X0_19 dX0_clear_6 rfl ?_
  refine g_iconst C dX0_clear_9 (v := 0) (by decide) ?_
  refine g_callSV C (c_J7_fill_53178 l G F 22 rfl (by decide)) lk_X0_22 rfl rfl dX0_clear_10 (Nat.le_of_ble_eq_true rfl) ⟨by decide, by decide⟩ ⟨by decide, by decide⟩ (fun L M hp => ?_)
  have F := hp
  exact g_vret C hrt dX0_clear_13 (by decide) (by decide) F
set_option maxHeartbeats 4000000 in
set_option maxRecDepth 100000 in
theorem c_X2_clear_s1 (l : Launch) (G : va_G) {cy : Nat → ClassId} {L : List Nat} {M : Nat → va_E} {a : Nat → Nat} {fr : List (Nat × va_E)}  (F : FW L M (flC cy a ++ fr))  : MV l G cy yX2_clear cX2_clear 1 none 2 0 0 [.ref (a 13)] L M (fun L2 M2 => FW L2 M2 (flC cy a ++ fr)) := by
  refine MV.of (own := RX2) rfl (by decide) (Nat.le_of_ble_eq_true rfl) ?_
  intro p e s m below meth c A C hrt hnm
  refine g_aload_n C dX2_clear_0 rfl (j := 0) rfl ?_
  refine g_iconst C dX2_clear_1 (v := 0) (by decide) ?_
  refine h_put C F 13 rfl fk_X2_9 dX2_clear_2 rfl rfl (Nat.le_of_ble_eq_true rfl) (fl2 := flC cy a ++ fr) rfl (fun M F => ?_)
  refine g_aload_n C dX2_clear_5 rfl (j := 0) rfl ?_
  refine g_iconst C dX2_clear_6 (v := 0) (by decide) ?_
  refine h_put C F 13 rfl fk_X2_15 dX2_clear_7 rfl rfl (Nat.le_of_ble_eq_true rfl) (fl2 := flC cy a ++ fr) rfl (fun M F => ?_)
  refine g_aload_n C dX2_clear_10 rfl (j := 0) rfl ?_
  refine g_iconst C dX2_clear_11 (v := 0) (by decide) ?_
  refine h_put C F 13 rfl fk_X2_18 dX2_clear_12 rfl rfl (Nat.le_of_ble_eq_true rfl) (fl2 := flC cy a ++ fr) rfl (fun M F => ?_)
  refine g_aload_n C dX2_clear_15 rfl (j := 0) rfl ?_
  refine g_iconst C dX2_clear_16 (v := 0) (by decide) ?_
  refine h_put C F 13 rfl fk_X2_21 dX2_clear_17 rfl rfl (Nat.le_of_ble_eq_true rfl) (fl2 := flC cy a ++ fr) rfl (fun M F => ?_)
  refine g_aload_n C dX2_clear_20 rfl (j := 0) rfl ?_
  refine g_iconst C dX2_clear_21 (v := 0) (by decide) ?_
  refine h_put C F 13 rfl fk_X2_24 dX2_clear_22 rfl rfl (Nat.le_of_ble_eq_true rfl) (fl2 := flC cy a ++ fr) rfl (fun M F => ?_)
  refine g_aload_n C dX2_clear_25 rfl (j := 0) rfl ?_
  refine g_iconst C dX2_clear_26 (v := 0) (by decide) ?_
  refine h_put C F 13 rfl fk_X2_27 dX2_clear_27 rfl rfl (Nat.le_of_ble_eq_true rfl) (fl2 := flC cy a ++ fr) rfl (fun M F => ?_)
  refine g_aload_n C dX2_clear_30 rfl (j := 0) rfl ?_
  refine g_iconst C dX2_clear_31 (v := 0) (by decide) ?_
  refine h_put C F 13 rfl fk_X2_30 dX2_clear_32 rfl rfl (Nat.le_of_ble_eq_true rfl) (fl2 := flC cy a ++ fr) rfl (fun M F => ?_)
  refine g_aload_n C dX2_clear_35 rfl (j := 0) rfl ?_
  refine g_iconst C dX2_clear_36 (v := 0) (by decide) ?_
  refine h_put C F 13 rfl fk_X2_33 dX2_clear_37 rfl rfl (Nat.le_of_ble_eq_true rfl) (fl2 := flC cy a ++ fr) rfl (fun M F => ?_)
  refine g_aload_n C dX2_clear_40 rfl (j := 0) rfl ?_
  refine g_iconst C dX2_clear_41 (v := 0) (by decide) ?_
  refine h_put C F 13 rfl fk_X2_36 dX2_clear_42 rfl rfl (Nat.le_of_ble_eq_true rfl) (fl2 := flC cy a ++ fr) rfl (fun M F => ?_)
  refine g_aload_n C dX2_clear_45 rfl (j := 0) rfl ?_
  refine h_get C F 13 rfl fk_X2_43 dX2_clear_46 rfl ?_
  refine g_iconst C dX2_clear_49 (v := 0) (by decide) ?_
  refine g_callSV C (c_J7_fill_53178 l G F 15 rfl (by decide)) lk_X2_65 rfl rfl dX2_clear_50 (Nat.le_of_ble_eq_true rfl) ⟨by decide, by decide⟩ ⟨by decide, by decide⟩ (fun L M hp => ?_)
  have F := hp
  refine g_aload_n C dX2_clear_53 rfl (j := 0) rfl ?_
  refine h_get C F 13 rfl fk_X2_49 dX2_clear_54 rfl ?_
  refine g_iconst C dX2_clear_57 (v := 0) (by decide) ?_
  refine g_callSV C (c_J7_fill_53178 l G F 17 rfl (by decide)) lk_X2_65 rfl rfl dX2_clear_58 (Nat.le_of_ble_eq_true rfl) ⟨by decide, by decide⟩ ⟨by decide, by decide⟩ (fun L M hp => ?_)
  have F := hp
  refine g_aload_n C dX2_clear_61 rfl (j := 0) rfl ?_
  refine h_get C F 13 rfl fk_X2_61 dX2_clear_62 rfl ?_
  refine g_callVV C (c_X0_clear_s0 l G F ) lk_X2_71 (F.mem 20 rfl) (F.at 20 rfl) rfl rfl dX2_clear_65 (Nat.le_of_ble_eq_true rfl) ⟨by decide, by decide⟩ ⟨by decide, by decide⟩ (fun L M hp => ?_)
  have F := hp
  exact g_vret C hrt dX2_clear_68 (by decide) (by decide) F
set_option maxHeartbeats 4000000 in
set_option maxRecDepth 100000 in
theorem c_X6_take_s2 (l : Launch) (G : va_G) {cy : Nat → ClassId} {L : List Nat} {M : Nat → va_E} {a : Nat → Nat} {fr : List (Nat × va_E)}  (F : FW L M (flC cy a ++ fr))  : MV l G cy yX6_take cX6_take 1 none 0 0 0 [.ref (a 1)] L M (fun L2 M2 => FW L2 M2 (flC cy a ++ fr)) := by
  refine MV.of (own := RX6) rfl (by decide) (Nat.le_of_ble_eq_true rfl) ?_
  intro p e s m below meth c A C hrt hnm
  refine g_aload_n C dX6_take_0 rfl (j := 0) rfl ?_
  refine h_get C F 1 rfl fk_X6_19 dX6_take_1 rfl ?_
  refine g_if_eq C dX6_take_4 (tgt := 8) (by decide) (fun _ => ?_) (fun q => absurd (by decide) q)
  refine g_aload_n C dX6_take_8 rfl (j := 0) rfl ?_
  refine h_get C F 1 rfl fk_X6_31 dX6_take_9 rfl ?_
  refine g_aload_n C dX6_take_12 rfl (j := 0) rfl ?_
  refine h_get C F 1 rfl fk_X6_15 dX6_take_13 rfl ?_
  refine g_icmp_ge C dX6_take_16 (tgt := 47) (by decide) (fun _ => ?_) (fun q => absurd (by decide) q)
  refine g_aload_n C dX6_take_47 rfl (j := 0) rfl ?_
  refine g_aload_n C dX6_take_48 rfl (j := 0) rfl ?_
  refine h_get C F 1 rfl fk_X6_31 dX6_take_49 rfl ?_
  refine h_put C F 1 rfl fk_X6_28 dX6_take_52 rfl rfl (Nat.le_of_ble_eq_true rfl) (fl2 := flC cy a ++ fr) rfl (fun M F => ?_)
  refine g_aload_n C dX6_take_55 rfl (j := 0) rfl ?_
  refine g_iconst C dX6_take_56 (v := 0) (by decide) ?_
  refine h_put C F 1 rfl fk_X6_34 dX6_take_57 rfl rfl (Nat.le_of_ble_eq_true rfl) (fl2 := flC cy a ++ fr) rfl (fun M F => ?_)
  refine g_aload_n C dX6_take_60 rfl (j := 0) rfl ?_
  refine h_get C F 1 rfl fk_X6_31 dX6_take_61 rfl ?_
  refine g_aload_n C dX6_take_64 rfl (j := 0) rfl ?_
  refine h_get C F 1 rfl fk_X6_15 dX6_take_65 rfl ?_
  refine g_icmp_lt C dX6_take_68 (tgt := 79) (by decide) (fun q => absurd q (by decide)) (fun _ => ?_)
  refine g_aload_n C dX6_take_71 rfl (j := 0) rfl ?_
  refine g_iconst C dX6_take_72 (v := 0) (by decide) ?_
  refine h_put C F 1 rfl fk_X6_25 dX6_take_73 rfl rfl (Nat.le_of_ble_eq_true rfl) (fl2 := flC cy a ++ fr) rfl (fun M F => ?_)
  refine g_goto C dX6_take_76 (tgt := 259) (by decide) ?_
  exact g_vret C hrt dX6_take_259 (by decide) (by decide) F
set_option maxHeartbeats 4000000 in
set_option maxRecDepth 100000 in
theorem c_X6_readInto_s3 (l : Launch) (G : va_G) {cy : Nat → ClassId} {L : List Nat} {M : Nat → va_E} {a : Nat → Nat} {fr : List (Nat × va_E)}  (F : FW L M (flC cy a ++ fr))  : MV l G cy yX6_readInto cX6_readInto 3 none 3 0 0 [.ref (a 1), .ref (a 13)] L M (fun L2 M2 => FW L2 M2 (flC cy a ++ fr)) := by
  refine MV.of (own := RX6) rfl (by decide) (Nat.le_of_ble_eq_true rfl) ?_
  intro p e s m below meth c A C hrt hnm
  refine g_aload_n C dX6_readInto_0 rfl (j := 1) rfl ?_
  refine g_callVV C (c_X2_clear_s1 l G F ) lk_X6_37 (F.mem 13 rfl) (F.at 13 rfl) rfl rfl dX6_readInto_1 (Nat.le_of_ble_eq_true rfl) ⟨by decide, by decide⟩ ⟨by decide, by decide⟩ (fun L M hp => ?_)
  have F := hp
  refine g_aload_n C dX6_readInto_4 rfl (j := 0) rfl ?_
  refine g_iconst C dX6_readInto_5 (v := 0) (by decide) ?_
  refine h_put C F 1 rfl fk_X6_19 dX6_readInto_6 rfl rfl (Nat.le_of_ble_eq_true rfl) (fl2 := flC cy a ++ fr) rfl (fun M F => ?_)
  refine g_aload_n C dX6_readInto_9 rfl (j := 0) rfl ?_
  refine g_iconst C dX6_readInto_10 (v := -1) (by decide) ?_
  refine h_put C F 1 rfl fk_X6_22 dX6_readInto_11 rfl rfl (Nat.le_of_ble_eq_true rfl) (fl2 := flC cy a ++ fr) rfl (fun M F => ?_)
  refine g_aload_n C dX6_readInto_14 rfl (j := 0) rfl ?_
  refine g_iconst C dX6_readInto_15 (v := 0) (by decide) ?_
  refine h_put C F 1 rfl fk_X6_31 dX6_readInto_16 rfl rfl (Nat.le_of_ble_eq_true rfl) (fl2 := flC cy a ++ fr) rfl (fun M F => ?_)
  refine g_aload_n C dX6_readInto_19 rfl (j := 0) rfl ?_
  refine g_callVV C (c_X6_take_s2 l G F ) lk_X6_42 (F.mem 1 rfl) (F.at 1 rfl) rfl rfl dX6_readInto_20 (Nat.le_of_ble_eq_true rfl) ⟨by decide, by decide⟩ ⟨by decide, by decide⟩ (fun L M hp => ?_)
  have F := hp
  refine g_iconst C dX6_readInto_23 (v := 0) (by decide) ?_
  refine g_istore_n C dX6_readInto_24 rfl (by decide) (lv2 := [(2, .int 0), (0, .ref (a 1)), (1, .ref (a 13))]) rfl ?_
  refine g_iload_n C dX6_readInto_25 rfl (j := 0) rfl ?_
  refine g_sipush C dX6_readInto_26 (v := 800) (by decide) ?_
  refine g_icmp_gt C dX6_readInto_29 (tgt := 71) (by decide) (fun q => absurd q (by decide)) (fun _ => ?_)
  refine g_aload_n C dX6_readInto_32 rfl (j := 1) rfl ?_
  refine h_get C F 1 rfl fk_X6_19 dX6_readInto_33 rfl ?_
  refine g_if_ne C dX6_readInto_36 (tgt := 71) (by decide) (fun q => absurd (by decide) q) (fun _ => ?_)
  refine g_aload_n C dX6_readInto_39 rfl (j := 1) rfl ?_
  refine h_get C F 1 rfl fk_X6_25 dX6_readInto_40 rfl ?_
  refine g_if_eq C dX6_readInto_43 (tgt := 71) (by decide) (fun _ => ?_) (fun q => absurd (by decide) q)
  exact g_vret C hrt dX6_readInto_71 (by decide) (by decide) F
set_option maxHeartbeats 4000000 in
set_option maxRecDepth 100000 in
theorem c_X0_copyFrom_s4 (l : Launch) (G : va_G) {cy : Nat → ClassId} {L : List Nat} {M : Nat → va_E} {a : Nat → Nat} {fr : List (Nat × va_E)}  (F : FW L M (flC cy a ++ fr))  : MV l G cy yX0_copyFrom cX0_copyFrom 2 none 1 0 0 [.ref (a 10), .ref (a 20)] L M (fun L2 M2 => FW L2 M2 (flC cy a ++ fr)) := by
  refine MV.of (own := RX0) rfl (by decide) (Nat.le_of_ble_eq_true rfl) ?_
  intro p e s m below meth c A C hrt hnm
  refine g_aload_n C dX0_copyFrom_0 rfl (j := 0) rfl ?_
  refine g_aload_n C dX0_copyFrom_1 rfl (j := 1) rfl ?_
  refine h_get C F 20 rfl fk_X0_9 dX0_copyFrom_2 rfl ?_
  refine h_put C F 10 rfl fk_X0_9 dX0_copyFrom_5 rfl rfl (Nat.le_of_ble_eq_true rfl) (fl2 := flC cy a ++ fr) rfl (fun M F => ?_)
  refine g_aload_n C dX0_copyFrom_8 rfl (j := 1) rfl ?_
  refine h_get C F 20 rfl fk_X0_15 dX0_copyFrom_9 rfl ?_
  refine g_iconst C dX0_copyFrom_12 (v := 0) (by decide) ?_
  refine g_aload_n C dX0_copyFrom_13 rfl (j := 0) rfl ?_
  refine h_get C F 10 rfl fk_X0_15 dX0_copyFrom_14 rfl ?_
  refine g_iconst C dX0_copyFrom_17 (v := 0) (by decide) ?_
  refine g_bipush C dX0_copyFrom_18 (v := 30) (by decide) ?_
  refine h_copyi C F 21 11 rfl rfl (t0 := 1) rfl rfl wd121 wd110 wd111 wd112 (by decide) (by decide) (by decide) (by decide) (by decide) (fun _ _ => rfl) (by decide) (Nat.le_of_ble_eq_true rfl) dX0_copyFrom_20 (g2 := (fun _ => 0)) (cpy0 _ _ _) (fl2 := flC cy a ++ fr) rfl (fun M F => ?_)
  refine g_aload_n C dX0_copyFrom_23 rfl (j := 1) rfl ?_
  refine h_get C F 20 rfl fk_X0_19 dX0_copyFrom_24 rfl ?_
  refine g_iconst C dX0_copyFrom_27 (v := 0) (by decide) ?_
  refine g_aload_n C dX0_copyFrom_28 rfl (j := 0) rfl ?_
  refine h_get C F 10 rfl fk_X0_19 dX0_copyFrom_29 rfl ?_
  refine g_iconst C dX0_copyFrom_32 (v := 0) (by decide) ?_
  refine g_aload_n C dX0_copyFrom_33 rfl (j := 0) rfl ?_
  refine h_get C F 10 rfl fk_X0_19 dX0_copyFrom_34 rfl ?_
  refine h_alen C F 12 rfl (t0 := 1) rfl dX0_copyFrom_37 (v := 240) (by decide) ?_
  refine h_copyi C F 22 12 rfl rfl (t0 := 1) rfl rfl wd121 wd110 wd111 wd112 (by decide) (by decide) (by decide) (by decide) (by decide) (fun _ _ => rfl) (by decide) (Nat.le_of_ble_eq_true rfl) dX0_copyFrom_38 (g2 := (fun _ => 0)) (cpy0 _ _ _) (fl2 := flC cy a ++ fr) rfl (fun M F => ?_)
  exact g_vret C hrt dX0_copyFrom_41 (by decide) (by decide) F
set_option maxHeartbeats 4000000 in
set_option maxRecDepth 100000 in
theorem c_X2_copyFrom_s5 (l : Launch) (G : va_G) {cy : Nat → ClassId} {L : List Nat} {M : Nat → va_E} {a : Nat → Nat} {fr : List (Nat × va_E)}  (F : FW L M (flC cy a ++ fr))  : MV l G cy yX2_copyFrom cX2_copyFrom 2 none 2 0 0 [.ref (a 3), .ref (a 13)] L M (fun L2 M2 => FW L2 M2 (flC cy a ++ fr)) := by
  refine MV.of (own := RX2) rfl (by decide) (Nat.le_of_ble_eq_true rfl) ?_
  intro p e s m below meth c A C hrt hnm
  refine g_aload_n C dX2_copyFrom_0 rfl (j := 0) rfl ?_
  refine g_aload_n C dX2_copyFrom_1 rfl (j := 1) rfl ?_
  refine h_get C F 13 rfl fk_X2_9 dX2_copyFrom_2 rfl ?_
  refine h_put C F 3 rfl fk_X2_9 dX2_copyFrom_5 rfl rfl (Nat.le_of_ble_eq_true rfl) (fl2 := flC cy a ++ fr) rfl (fun M F => ?_)
  refine g_aload_n C dX2_copyFrom_8 rfl (j := 0) rfl ?_
  refine g_aload_n C dX2_copyFrom_9 rfl (j := 1) rfl ?_
  refine h_get C F 13 rfl fk_X2_15 dX2_copyFrom_10 rfl ?_
  refine h_put C F 3 rfl fk_X2_15 dX2_copyFrom_13 rfl rfl (Nat.le_of_ble_eq_true rfl) (fl2 := flC cy a ++ fr) rfl (fun M F => ?_)
  refine g_aload_n C dX2_copyFrom_16 rfl (j := 0) rfl ?_
  refine g_aload_n C dX2_copyFrom_17 rfl (j := 1) rfl ?_
  refine h_get C F 13 rfl fk_X2_18 dX2_copyFrom_18 rfl ?_
  refine h_put C F 3 rfl fk_X2_18 dX2_copyFrom_21 rfl rfl (Nat.le_of_ble_eq_true rfl) (fl2 := flC cy a ++ fr) rfl (fun M F => ?_)
  refine g_aload_n C dX2_copyFrom_24 rfl (j := 0) rfl ?_
  refine g_aload_n C dX2_copyFrom_25 rfl (j := 1) rfl ?_
  refine h_get C F 13 rfl fk_X2_21 dX2_copyFrom_26 rfl ?_
  refine h_put C F 3 rfl fk_X2_21 dX2_copyFrom_29 rfl rfl (Nat.le_of_ble_eq_true rfl) (fl2 := flC cy a ++ fr) rfl (fun M F => ?_)
  refine g_aload_n C dX2_copyFrom_32 rfl (j := 0) rfl ?_
  refine g_aload_n C dX2_copyFrom_33 rfl (j := 1) rfl ?_
  refine h_get C F 13 rfl fk_X2_24 dX2_copyFrom_34 rfl ?_
  refine h_put C F 3 rfl fk_X2_24 dX2_copyFrom_37 rfl rfl (Nat.le_of_ble_eq_true rfl) (fl2 := flC cy a ++ fr) rfl (fun M F => ?_)
  refine g_aload_n C dX2_copyFrom_40 rfl (j := 0) rfl ?_
  refine g_aload_n C dX2_copyFrom_41 rfl (j := 1) rfl ?_
  refine h_get C F 13 rfl fk_X2_27 dX2_copyFrom_42 rfl ?_
  refine h_put C F 3 rfl fk_X2_27 dX2_copyFrom_45 rfl rfl (Nat.le_of_ble_eq_true rfl) (fl2 := flC cy a ++ fr) rfl (fun M F => ?_)
  refine g_aload_n C dX2_copyFrom_48 rfl (j := 0) rfl ?_
  refine g_aload_n C dX2_copyFrom_49 rfl (j := 1) rfl ?_
  refine h_get C F 13 rfl fk_X2_30 dX2_copyFrom_50 rfl ?_
  refine h_put C F 3 rfl fk_X2_30 dX2_copyFrom_53 rfl rfl (Nat.le_of_ble_eq_true rfl) (fl2 := flC cy a ++ fr) rfl (fun M F => ?_)
  refine g_aload_n C dX2_copyFrom_56 rfl (j := 0) rfl ?_
  refine g_aload_n C dX2_copyFrom_57 rfl (j := 1) rfl ?_
  refine h_get C F 13 rfl fk_X2_33 dX2_copyFrom_58 rfl ?_
  refine h_put C F 3 rfl fk_X2_33 dX2_copyFrom_61 rfl rfl (Nat.le_of_ble_eq_true rfl) (fl2 := flC cy a ++ fr) rfl (fun M F => ?_)
  refine g_aload_n C dX2_copyFrom_64 rfl (j := 0) rfl ?_
  refine g_aload_n C dX2_copyFrom_65 rfl (j := 1) rfl ?_
  refine h_get C F 13 rfl fk_X2_36 dX2_copyFrom_66 rfl ?_
  refine h_put C F 3 rfl fk_X2_36 dX2_copyFrom_69 rfl rfl (Nat.le_of_ble_eq_true rfl) (fl2 := flC cy a ++ fr) rfl (fun M F => ?_)
  refine g_aload_n C dX2_copyFrom_72 rfl (j := 1) rfl ?_
  refine h_get C F 13 rfl fk_X2_39 dX2_copyFrom_73 rfl ?_
  refine g_iconst C dX2_copyFrom_76 (v := 0) (by decide) ?_
  refine g_aload_n C dX2_copyFrom_77 rfl (j := 0) rfl ?_
  refine h_get C F 3 rfl fk_X2_39 dX2_copyFrom_78 rfl ?_
  refine g_iconst C dX2_copyFrom_81 (v := 0) (by decide) ?_
  refine g_iconst C dX2_copyFrom_82 (v := 4) (by decide) ?_
  refine h_copyi C F 14 4 rfl rfl (t0 := 1) rfl rfl wd109 wd110 wd111 wd112 (by decide) (by decide) (by decide) (by decide) (by decide) (fun _ _ => rfl) (by decide) (Nat.le_of_ble_eq_true rfl) dX2_copyFrom_83 (g2 := (fun _ => 0)) (cpy0 _ _ _) (fl2 := flC cy a ++ fr) rfl (fun M F => ?_)
  refine g_aload_n C dX2_copyFrom_86 rfl (j := 1) rfl ?_
  refine h_get C F 13 rfl fk_X2_43 dX2_copyFrom_87 rfl ?_
  refine g_iconst C dX2_copyFrom_90 (v := 0) (by decide) ?_
  refine g_aload_n C dX2_copyFrom_91 rfl (j := 0) rfl ?_
  refine h_get C F 3 rfl fk_X2_43 dX2_copyFrom_92 rfl ?_
  refine g_iconst C dX2_copyFrom_95 (v := 0) (by decide) ?_
  refine g_bipush C dX2_copyFrom_96 (v := 7) (by decide) ?_
  refine h_copyi C F 15 5 rfl rfl (t0 := 1) rfl rfl wd109 wd110 wd111 wd112 (by decide) (by decide) (by decide) (by decide) (by decide) (fun _ _ => rfl) (by decide) (Nat.le_of_ble_eq_true rfl) dX2_copyFrom_98 (g2 := (fun _ => 0)) (cpy0 _ _ _) (fl2 := flC cy a ++ fr) rfl (fun M F => ?_)
  refine g_aload_n C dX2_copyFrom_101 rfl (j := 1) rfl ?_
  refine h_get C F 13 rfl fk_X2_46 dX2_copyFrom_102 rfl ?_
  refine g_iconst C dX2_copyFrom_105 (v := 0) (by decide) ?_
  refine g_aload_n C dX2_copyFrom_106 rfl (j := 0) rfl ?_
  refine h_get C F 3 rfl fk_X2_46 dX2_copyFrom_107 rfl ?_
  refine g_iconst C dX2_copyFrom_110 (v := 0) (by decide) ?_
  refine g_aload_n C dX2_copyFrom_111 rfl (j := 0) rfl ?_
  refine h_get C F 3 rfl fk_X2_46 dX2_copyFrom_112 rfl ?_
  refine h_alen C F 6 rfl (t0 := 1) rfl dX2_copyFrom_115 (v := 28) (by decide) ?_
  refine h_copyi C F 16 6 rfl rfl (t0 := 1) rfl rfl wd109 wd110 wd111 wd112 (by decide) (by decide) (by decide) (by decide) (by decide) (fun _ _ => rfl) (by decide) (Nat.le_of_ble_eq_true rfl) dX2_copyFrom_116 (g2 := (fun _ => 0)) (cpy0 _ _ _) (fl2 := flC cy a ++ fr) rfl (fun M F => ?_)
  refine g_aload_n C dX2_copyFrom_119 rfl (j := 1) rfl ?_
  refine h_get C F 13 rfl fk_X2_49 dX2_copyFrom_120 rfl ?_
  refine g_iconst C dX2_copyFrom_123 (v := 0) (by decide) ?_
  refine g_aload_n C dX2_copyFrom_124 rfl (j := 0) rfl ?_
  refine h_get C F 3 rfl fk_X2_49 dX2_copyFrom_125 rfl ?_
  refine g_iconst C dX2_copyFrom_128 (v := 0) (by decide) ?_
  refine g_bipush C dX2_copyFrom_129 (v := 7) (by decide) ?_
  refine h_copyi C F 17 7 rfl rfl (t0 := 1) rfl rfl wd109 wd110 wd111 wd112 (by decide) (by decide) (by decide) (by decide) (by decide) (fun _ _ => rfl) (by decide) (Nat.le_of_ble_eq_true rfl) dX2_copyFrom_131 (g2 := (fun _ => 0)) (cpy0 _ _ _) (fl2 := flC cy a ++ fr) rfl (fun M F => ?_)
  refine g_aload_n C dX2_copyFrom_134 rfl (j := 1) rfl ?_
  refine h_get C F 13 rfl fk_X2_52 dX2_copyFrom_135 rfl ?_
  refine g_iconst C dX2_copyFrom_138 (v := 0) (by decide) ?_
  refine g_aload_n C dX2_copyFrom_139 rfl (j := 0) rfl ?_
  refine h_get C F 3 rfl fk_X2_52 dX2_copyFrom_140 rfl ?_
  refine g_iconst C dX2_copyFrom_143 (v := 0) (by decide) ?_
  refine g_bipush C dX2_copyFrom_144 (v := 8) (by decide) ?_
  refine h_copyi C F 18 8 rfl rfl (t0 := 1) rfl rfl wd109 wd110 wd111 wd112 (by decide) (by decide) (by decide) (by decide) (by decide) (fun _ _ => rfl) (by decide) (Nat.le_of_ble_eq_true rfl) dX2_copyFrom_146 (g2 := (fun _ => 0)) (cpy0 _ _ _) (fl2 := flC cy a ++ fr) rfl (fun M F => ?_)
  refine g_aload_n C dX2_copyFrom_149 rfl (j := 1) rfl ?_
  refine h_get C F 13 rfl fk_X2_55 dX2_copyFrom_150 rfl ?_
  refine g_iconst C dX2_copyFrom_153 (v := 0) (by decide) ?_
  refine g_aload_n C dX2_copyFrom_154 rfl (j := 0) rfl ?_
  refine h_get C F 3 rfl fk_X2_55 dX2_copyFrom_155 rfl ?_
  refine g_iconst C dX2_copyFrom_158 (v := 0) (by decide) ?_
  refine g_bipush C dX2_copyFrom_159 (v := 8) (by decide) ?_
  refine h_copyi C F 19 9 rfl rfl (t0 := 1) rfl rfl wd109 wd110 wd111 wd112 (by decide) (by decide) (by decide) (by decide) (by decide) (fun _ _ => rfl) (by decide) (Nat.le_of_ble_eq_true rfl) dX2_copyFrom_161 (g2 := (fun _ => 0)) (cpy0 _ _ _) (fl2 := flC cy a ++ fr) rfl (fun M F => ?_)
  refine g_aload_n C dX2_copyFrom_164 rfl (j := 0) rfl ?_
  refine h_get C F 3 rfl fk_X2_61 dX2_copyFrom_165 rfl ?_
  refine g_aload_n C dX2_copyFrom_168 rfl (j := 1) rfl ?_
  refine h_get C F 13 rfl fk_X2_61 dX2_copyFrom_169 rfl ?_
  refine g_callVV C (c_X0_copyFrom_s4 l G F ) lk_X2_80 (F.mem 10 rfl) (F.at 10 rfl) rfl rfl dX2_copyFrom_172 (Nat.le_of_ble_eq_true rfl) ⟨by decide, by decide⟩ ⟨by decide, by decide⟩ (fun L M hp => ?_)
  have F := hp
  exact g_vret C hrt dX2_copyFrom_175 (by decide) (by decide) F
set_option maxHeartbeats 4000000 in
set_option maxRecDepth 100000 in
theorem c_X1_forget_s6 (l : Launch) (G : va_G) {cy : Nat → ClassId} {L : List Nat} {M : Nat → va_E} {a : Nat → Nat} {fr : List (Nat × va_E)}  (F : FW L M (flC cy a ++ fr))  : MV l G cy yX1_forget cX1_forget 1 none 0 0 0 [.ref (a 39)] L M (fun L2 M2 => FW L2 M2 (flC cy a ++ fr)) := by
  refine MV.of (own := RX1) rfl (by decide) (Nat.le_of_ble_eq_true rfl) ?_
  intro p e s m below meth c A C hrt hnm
  refine g_aload_n C dX1_forget_0 rfl (j := 0) rfl ?_
  refine g_iconst C dX1_forget_1 (v := -1) (by decide) ?_
  refine h_put C F 39 rfl fk_X1_9 dX1_forget_2 rfl rfl (Nat.le_of_ble_eq_true rfl) (fl2 := flC cy a ++ fr) rfl (fun M F => ?_)
  exact g_vret C hrt dX1_forget_5 (by decide) (by decide) F
set_option maxHeartbeats 4000000 in
set_option maxRecDepth 100000 in
theorem c_X4_prepare_s7 (l : Launch) (G : va_G) {cy : Nat → ClassId} {L : List Nat} {M : Nat → va_E} {a : Nat → Nat} {fr : List (Nat × va_E)}  (F : FW L M (flC cy a ++ fr))  : MV l G cy yX4_prepare cX4_prepare 1 none 1 0 0 [.ref (a 25)] L M (fun L2 M2 => FW L2 M2 (flC cy a ++ fr)) := by
  refine MV.of (own := RX4) rfl (by decide) (Nat.le_of_ble_eq_true rfl) ?_
  intro p e s m below meth c A C hrt hnm
  refine g_aload_n C dX4_prepare_0 rfl (j := 0) rfl ?_
  refine g_aload_n C dX4_prepare_1 rfl (j := 0) rfl ?_
  refine h_get C F 25 rfl fk_X4_37 dX4_prepare_2 rfl ?_
  refine h_get C F 3 rfl fk_X4_41 dX4_prepare_5 rfl ?_
  refine h_put C F 25 rfl fk_X4_9 dX4_prepare_8 rfl rfl (Nat.le_of_ble_eq_true rfl) (fl2 := flC cy a ++ fr) rfl (fun M F => ?_)
  refine g_aload_n C dX4_prepare_11 rfl (j := 0) rfl ?_
  refine g_bipush C dX4_prepare_12 (v := 127) (by decide) ?_
  refine h_put C F 25 rfl fk_X4_15 dX4_prepare_14 rfl rfl (Nat.le_of_ble_eq_true rfl) (fl2 := flC cy a ++ fr) rfl (fun M F => ?_)
  refine g_aload_n C dX4_prepare_17 rfl (j := 0) rfl ?_
  refine g_iconst C dX4_prepare_18 (v := 0) (by decide) ?_
  refine h_put C F 25 rfl fk_X4_18 dX4_prepare_19 rfl rfl (Nat.le_of_ble_eq_true rfl) (fl2 := flC cy a ++ fr) rfl (fun M F => ?_)
  refine g_aload_n C dX4_prepare_22 rfl (j := 0) rfl ?_
  refine h_get C F 25 rfl fk_X4_37 dX4_prepare_23 rfl ?_
  refine h_get C F 3 rfl fk_X4_44 dX4_prepare_26 rfl ?_
  refine g_iconst C dX4_prepare_29 (v := 0) (by decide) ?_
  refine g_aload_n C dX4_prepare_30 rfl (j := 0) rfl ?_
  refine h_get C F 25 rfl fk_X4_21 dX4_prepare_31 rfl ?_
  refine g_iconst C dX4_prepare_34 (v := 0) (by decide) ?_
  refine g_bipush C dX4_prepare_35 (v := 8) (by decide) ?_
  refine h_copyi C F 9 26 rfl rfl (t0 := 1) rfl rfl wd145 wd110 wd111 wd112 (by decide) (by decide) (by decide) (by decide) (by decide) (fun _ _ => rfl) (by decide) (Nat.le_of_ble_eq_true rfl) dX4_prepare_37 (g2 := (fun _ => 0)) (cpy0 _ _ _) (fl2 := flC cy a ++ fr) rfl (fun M F => ?_)
  refine g_aload_n C dX4_prepare_40 rfl (j := 0) rfl ?_
  refine h_get C F 25 rfl fk_X4_37 dX4_prepare_41 rfl ?_
  refine h_get C F 3 rfl fk_X4_51 dX4_prepare_44 rfl ?_
  refine g_iconst C dX4_prepare_47 (v := 0) (by decide) ?_
  refine g_aload_n C dX4_prepare_48 rfl (j := 0) rfl ?_
  refine h_get C F 25 rfl fk_X4_28 dX4_prepare_49 rfl ?_
  refine g_iconst C dX4_prepare_52 (v := 0) (by decide) ?_
  refine g_bipush C dX4_prepare_53 (v := 7) (by decide) ?_
  refine h_copyi C F 7 28 rfl rfl (t0 := 1) rfl rfl wd145 wd110 wd111 wd112 (by decide) (by decide) (by decide) (by decide) (by decide) (fun _ _ => rfl) (by decide) (Nat.le_of_ble_eq_true rfl) dX4_prepare_55 (g2 := (fun _ => 0)) (cpy0 _ _ _) (fl2 := flC cy a ++ fr) rfl (fun M F => ?_)
  exact g_vret C hrt dX4_prepare_58 (by decide) (by decide) F
set_option maxHeartbeats 4000000 in
set_option maxRecDepth 100000 in
theorem c_X4_begin_s8 (l : Launch) (G : va_G) {cy : Nat → ClassId} {L : List Nat} {M : Nat → va_E} {a : Nat → Nat} {fr : List (Nat × va_E)}  (F : FW L M (flC cy a ++ fr))  : MV l G cy yX4_begin cX4_begin 2 none 0 0 0 [.ref (a 25)] L M (fun L2 M2 => FW L2 M2 (flC cy a ++ fr)) := by
  refine MV.of (own := RX4) rfl (by decide) (Nat.le_of_ble_eq_true rfl) ?_
  intro p e s m below meth c A C hrt hnm
  refine g_iconst C dX4_begin_0 (v := 0) (by decide) ?_
  refine g_istore_n C dX4_begin_1 rfl (by decide) (lv2 := [(1, .int 0), (0, .ref (a 25))]) rfl ?_
  refine g_iload_n C dX4_begin_2 rfl (j := 0) rfl ?_
  refine g_aload_n C dX4_begin_3 rfl (j := 1) rfl ?_
  refine h_get C F 25 rfl fk_X4_37 dX4_begin_4 rfl ?_
  refine h_get C F 3 rfl fk_X4_64 dX4_begin_7 rfl ?_
  refine g_icmp_ge C dX4_begin_10 (tgt := 47) (by decide) (fun _ => ?_) (fun q => absurd (by decide) q)
  exact g_vret C hrt dX4_begin_47 (by decide) (by decide) F
set_option maxHeartbeats 4000000 in
set_option maxRecDepth 100000 in
theorem c_X4_run_s9 (l : Launch) (G : va_G) {cy : Nat → ClassId} {L : List Nat} {M : Nat → va_E} {a : Nat → Nat} {fr : List (Nat × va_E)}  (F : FW L M (flC cy a ++ fr))  : MV l G cy yX4_run cX4_run 2 none 1 0 0 [.ref (a 25)] L M (fun L2 M2 => FW L2 M2 (flC cy a ++ fr)) := by
  refine MV.of (own := RX4) rfl (by decide) (Nat.le_of_ble_eq_true rfl) ?_
  intro p e s m below meth c A C hrt hnm
  refine g_aload_n C dX4_run_0 rfl (j := 0) rfl ?_
  refine g_callVV C (c_X4_begin_s8 l G F ) lk_X4_54 (F.mem 25 rfl) (F.at 25 rfl) rfl rfl dX4_run_1 (Nat.le_of_ble_eq_true rfl) ⟨by decide, by decide⟩ ⟨by decide, by decide⟩ (fun L M hp => ?_)
  have F := hp
  refine g_iconst C dX4_run_4 (v := 0) (by decide) ?_
  refine g_istore_n C dX4_run_5 rfl (by decide) (lv2 := [(1, .int 0), (0, .ref (a 25))]) rfl ?_
  refine g_iload_n C dX4_run_6 rfl (j := 0) rfl ?_
  refine g_aload_n C dX4_run_7 rfl (j := 1) rfl ?_
  refine h_get C F 25 rfl fk_X4_37 dX4_run_8 rfl ?_
  refine h_get C F 3 rfl fk_X4_57 dX4_run_11 rfl ?_
  refine g_icmp_ge C dX4_run_14 (tgt := 28) (by decide) (fun _ => ?_) (fun q => absurd (by decide) q)
  exact g_vret C hrt dX4_run_28 (by decide) (by decide) F
set_option maxHeartbeats 4000000 in
set_option maxRecDepth 100000 in
theorem c_X7_changed_s10 (l : Launch) (G : va_G) {cy : Nat → ClassId} {L : List Nat} {M : Nat → va_E} {a : Nat → Nat} {fr : List (Nat × va_E)}  (F : FW L M (flC cy a ++ fr))  : MV l G cy yX7_changed cX7_changed 1 none 2 0 0 [.ref (a 0)] L M (fun L2 M2 => FW L2 M2 (flC cy a ++ fr)) := by
  refine MV.of (own := RX7) rfl (by decide) (Nat.le_of_ble_eq_true rfl) ?_
  intro p e s m below meth c A C hrt hnm
  refine g_aload_n C dX7_changed_0 rfl (j := 0) rfl ?_
  refine g_iconst C dX7_changed_1 (v := 0) (by decide) ?_
  refine h_put C F 0 rfl fk_X7_66 dX7_changed_2 rfl rfl (Nat.le_of_ble_eq_true rfl) (fl2 := flC cy a ++ fr) rfl (fun M F => ?_)
  refine g_aload_n C dX7_changed_5 rfl (j := 0) rfl ?_
  refine h_get C F 0 rfl fk_X7_58 dX7_changed_6 rfl ?_
  refine g_callVV C (c_X1_forget_s6 l G F ) lk_X7_415 (F.mem 39 rfl) (F.at 39 rfl) rfl rfl dX7_changed_9 (Nat.le_of_ble_eq_true rfl) ⟨by decide, by decide⟩ ⟨by decide, by decide⟩ (fun L M hp => ?_)
  have F := hp
  refine g_aload_n C dX7_changed_12 rfl (j := 0) rfl ?_
  refine h_get C F 0 rfl fk_X7_41 dX7_changed_13 rfl ?_
  refine g_callVV C (c_X4_prepare_s7 l G F ) lk_X7_279 (F.mem 25 rfl) (F.at 25 rfl) rfl rfl dX7_changed_16 (Nat.le_of_ble_eq_true rfl) ⟨by decide, by decide⟩ ⟨by decide, by decide⟩ (fun L M hp => ?_)
  have F := hp
  refine g_aload_n C dX7_changed_19 rfl (j := 0) rfl ?_
  refine h_get C F 0 rfl fk_X7_41 dX7_changed_20 rfl ?_
  refine g_callVV C (c_X4_run_s9 l G F ) lk_X7_285 (F.mem 25 rfl) (F.at 25 rfl) rfl rfl dX7_changed_23 (Nat.le_of_ble_eq_true rfl) ⟨by decide, by decide⟩ ⟨by decide, by decide⟩ (fun L M hp => ?_)
  have F := hp
  exact g_vret C hrt dX7_changed_26 (by decide) (by decide) F
set_option maxHeartbeats 4000000 in
set_option maxRecDepth 100000 in
theorem c_X7_heath (l : Launch) (G : va_G) {cy : Nat → ClassId} {L : List Nat} {M : Nat → va_E} {a : Nat → Nat} {fr : List (Nat × va_E)}  (F : FW L M (flC cy a ++ fr))  : MI l G cy yX7_heath cX7_heath 1 (some .int) 4 0 0 [.ref (a 0)] L M (fun r L2 M2 => r = (0) ∧ FW L2 M2 (flC cy a ++ fr)) := by
  refine MI.of (own := RX7) rfl (by decide) (Nat.le_of_ble_eq_true rfl) ?_
  intro p e s m below meth c A C hrt hnm
  refine g_aload_n C dX7_heath_0 rfl (j := 0) rfl ?_
  refine h_get C F 0 rfl fk_X7_12 dX7_heath_1 rfl ?_
  refine g_aload_n C dX7_heath_4 rfl (j := 0) rfl ?_
  refine h_get C F 0 rfl fk_X7_23 dX7_heath_5 rfl ?_
  refine g_callVV C (c_X6_readInto_s3 l G F ) lk_X7_81 (F.mem 1 rfl) (F.at 1 rfl) rfl rfl dX7_heath_8 (Nat.le_of_ble_eq_true rfl) ⟨by decide, by decide⟩ ⟨by decide, by decide⟩ (fun L M hp => ?_)
  have F := hp
  refine g_aload_n C dX7_heath_11 rfl (j := 0) rfl ?_
  refine h_get C F 0 rfl fk_X7_12 dX7_heath_12 rfl ?_
  refine h_get C F 1 rfl fk_X7_84 dX7_heath_15 rfl ?_
  refine g_if_eq C dX7_heath_18 (tgt := 24) (by decide) (fun _ => ?_) (fun q => absurd (by decide) q)
  refine g_aload_n C dX7_heath_24 rfl (j := 0) rfl ?_
  refine h_get C F 0 rfl fk_X7_12 dX7_heath_25 rfl ?_
  refine g_iconst C dX7_heath_28 (v := 0) (by decide) ?_
  refine h_put C F 1 rfl fk_X7_73 dX7_heath_29 rfl rfl (Nat.le_of_ble_eq_true rfl) (fl2 := flC cy a ++ fr) rfl (fun M F => ?_)
  refine g_aload_n C dX7_heath_32 rfl (j := 0) rfl ?_
  refine h_get C F 0 rfl fk_X7_19 dX7_heath_33 rfl ?_
  refine g_aload_n C dX7_heath_36 rfl (j := 0) rfl ?_
  refine h_get C F 0 rfl fk_X7_23 dX7_heath_37 rfl ?_
  refine g_callVV C (c_X2_copyFrom_s5 l G F ) lk_X7_87 (F.mem 3 rfl) (F.at 3 rfl) rfl rfl dX7_heath_40 (Nat.le_of_ble_eq_true rfl) ⟨by decide, by decide⟩ ⟨by decide, by decide⟩ (fun L M hp => ?_)
  have F := hp
  refine g_aload_n C dX7_heath_43 rfl (j := 0) rfl ?_
  refine g_callVV C (c_X7_changed_s10 l G F ) lk_X7_90 (F.mem 0 rfl) (F.at 0 rfl) rfl rfl dX7_heath_44 (Nat.le_of_ble_eq_true rfl) ⟨by decide, by decide⟩ ⟨by decide, by decide⟩ (fun L M hp => ?_)
  have F := hp
  refine g_aload_n C dX7_heath_47 rfl (j := 0) rfl ?_
  refine h_get C F 0 rfl fk_X7_19 dX7_heath_48 rfl ?_
  refine h_get C F 3 rfl fk_X7_93 dX7_heath_51 rfl ?_
  exact g_iret C hrt dX7_heath_54 (by decide) (by decide) ⟨by decide, F⟩
set_option maxHeartbeats 4000000 in
set_option maxRecDepth 100000 in
theorem c_X6_init_s11 (l : Launch) (G : va_G) {cy : Nat → ClassId} {L : List Nat} {M : Nat → va_E} {h : Nat} {fr : List (Nat × va_E)}  (F : FW L M ((h, .inr (6, [.null, .int 0, .int 0, .int 0, .int 0, .int 0, .int 0, .int 0])) :: fr))  : MV l G cy yX6_init cX6_init 1 none 1 1 800 [.ref h] L M (fun L2 M2 => ∃ (z2 : Nat), FW L2 M2 ((z2, .inl (cy 0, 800, .inl (fun _ => 0))) :: (h, .inr (6, [.ref z2, .int 0, .int 0, .int (-1), .int 0, .int 0, .int 0, .int 0])) :: fr)) := by
  refine MV.of (own := RX6) rfl (by decide) (Nat.le_of_ble_eq_true rfl) ?_
  intro p e s m below meth c A C hrt hnm
  refine g_aload_n C dX6_init_0 rfl (j := 0) rfl ?_
  refine g_objInit C wd162 wd156 wd157 dX6_init_1 (by decide) (by decide) (Nat.le_of_ble_eq_true rfl) ?_
  refine g_aload_n C dX6_init_4 rfl (j := 0) rfl ?_
  refine g_sipush C dX6_init_5 (v := 800) (by decide) ?_
  refine h_newa C F (t0 := 0) rfl wd163 rfl (a0 := (800, .inl (fun _ => 0))) (fun _ => rfl) (by decide) (N := 800) (by decide) (by decide) (by decide) (by decide) dX6_init_8 (fun z2 L M F => ?_)
  refine g_widen (k1 := 1) (k2 := 800) (by decide) (by decide) ?_
  refine h_putF C F 1 rfl fk_X6_9 hnm (by intro K T N h; cases h; rfl) (by intro host T N h; cases h; exact nest_no (by decide +kernel) _ _ _ _) dX6_init_10 rfl rfl (Nat.le_of_ble_eq_true rfl) (fl2 := (z2, .inl (cy 0, 800, .inl (fun _ => 0))) :: (h, .inr (6, [.ref z2, .int 0, .int 0, .int 0, .int 0, .int 0, .int 0, .int 0])) :: fr) rfl (fun M F => ?_)
  refine g_aload_n C dX6_init_13 rfl (j := 0) rfl ?_
  refine g_iconst C dX6_init_14 (v := 0) (by decide) ?_
  refine h_put C F 1 rfl fk_X6_15 dX6_init_15 rfl rfl (Nat.le_of_ble_eq_true rfl) (fl2 := (z2, .inl (cy 0, 800, .inl (fun _ => 0))) :: (h, .inr (6, [.ref z2, .int 0, .int 0, .int 0, .int 0, .int 0, .int 0, .int 0])) :: fr) rfl (fun M F => ?_)
  refine g_aload_n C dX6_init_18 rfl (j := 0) rfl ?_
  refine g_iconst C dX6_init_19 (v := 0) (by decide) ?_
  refine h_put C F 1 rfl fk_X6_19 dX6_init_20 rfl rfl (Nat.le_of_ble_eq_true rfl) (fl2 := (z2, .inl (cy 0, 800, .inl (fun _ => 0))) :: (h, .inr (6, [.ref z2, .int 0, .int 0, .int 0, .int 0, .int 0, .int 0, .int 0])) :: fr) rfl (fun M F => ?_)
  refine g_aload_n C dX6_init_23 rfl (j := 0) rfl ?_
  refine g_iconst C dX6_init_24 (v := -1) (by decide) ?_
  refine h_put C F 1 rfl fk_X6_22 dX6_init_25 rfl rfl (Nat.le_of_ble_eq_true rfl) (fl2 := (z2, .inl (cy 0, 800, .inl (fun _ => 0))) :: (h, .inr (6, [.ref z2, .int 0, .int 0, .int (-1), .int 0, .int 0, .int 0, .int 0])) :: fr) rfl (fun M F => ?_)
  refine g_aload_n C dX6_init_28 rfl (j := 0) rfl ?_
  refine g_iconst C dX6_init_29 (v := 0) (by decide) ?_
  refine h_put C F 1 rfl fk_X6_25 dX6_init_30 rfl rfl (Nat.le_of_ble_eq_true rfl) (fl2 := (z2, .inl (cy 0, 800, .inl (fun _ => 0))) :: (h, .inr (6, [.ref z2, .int 0, .int 0, .int (-1), .int 0, .int 0, .int 0, .int 0])) :: fr) rfl (fun M F => ?_)
  refine g_aload_n C dX6_init_33 rfl (j := 0) rfl ?_
  refine g_iconst C dX6_init_34 (v := 0) (by decide) ?_
  refine h_put C F 1 rfl fk_X6_28 dX6_init_35 rfl rfl (Nat.le_of_ble_eq_true rfl) (fl2 := (z2, .inl (cy 0, 800, .inl (fun _ => 0))) :: (h, .inr (6, [.ref z2, .int 0, .int 0, .int (-1), .int 0, .int 0, .int 0, .int 0])) :: fr) rfl (fun M F => ?_)
  refine g_aload_n C dX6_init_38 rfl (j := 0) rfl ?_
  refine g_iconst C dX6_init_39 (v := 0) (by decide) ?_
  refine h_put C F 1 rfl fk_X6_31 dX6_init_40 rfl rfl (Nat.le_of_ble_eq_true rfl) (fl2 := (z2, .inl (cy 0, 800, .inl (fun _ => 0))) :: (h, .inr (6, [.ref z2, .int 0, .int 0, .int (-1), .int 0, .int 0, .int 0, .int 0])) :: fr) rfl (fun M F => ?_)
  refine g_aload_n C dX6_init_43 rfl (j := 0) rfl ?_
  refine g_iconst C dX6_init_44 (v := 0) (by decide) ?_
  refine h_put C F 1 rfl fk_X6_34 dX6_init_45 rfl rfl (Nat.le_of_ble_eq_true rfl) (fl2 := (z2, .inl (cy 0, 800, .inl (fun _ => 0))) :: (h, .inr (6, [.ref z2, .int 0, .int 0, .int (-1), .int 0, .int 0, .int 0, .int 0])) :: fr) rfl (fun M F => ?_)
  exact g_vret C hrt dX6_init_48 (by decide) (by decide) ⟨z2, F⟩
set_option maxHeartbeats 4000000 in
set_option maxRecDepth 100000 in
theorem c_X0_init_s12 (l : Launch) (G : va_G) {cy : Nat → ClassId} {L : List Nat} {M : Nat → va_E} {h : Nat} {fr : List (Nat × va_E)}  (F : FW L M ((h, .inr (0, [.int 0, .null, .null])) :: fr))  : MV l G cy yX0_init cX0_init 1 none 1 2 270 [.ref h] L M (fun L2 M2 => ∃ (z12 : Nat) (z13 : Nat), FW L2 M2 ((z13, .inl (cy 1, 240, .inl (fun _ => 0))) :: (z12, .inl (cy 1, 30, .inl (fun _ => 0))) :: (h, .inr (0, [.int 0, .ref z12, .ref z13])) :: fr)) := by
  refine MV.of (own := RX0) rfl (by decide) (Nat.le_of_ble_eq_true rfl) ?_
  intro p e s m below meth c A C hrt hnm
  refine g_aload_n C dX0_init_0 rfl (j := 0) rfl ?_
  refine g_objInit C wd175 wd156 wd157 dX0_init_1 (by decide) (by decide) (Nat.le_of_ble_eq_true rfl) ?_
  refine g_aload_n C dX0_init_4 rfl (j := 0) rfl ?_
  refine g_iconst C dX0_init_5 (v := 0) (by decide) ?_
  refine h_put C F 0 rfl fk_X0_9 dX0_init_6 rfl rfl (Nat.le_of_ble_eq_true rfl) (fl2 := (h, .inr (0, [.int 0, .null, .null])) :: fr) rfl (fun M F => ?_)
  refine g_aload_n C dX0_init_9 rfl (j := 0) rfl ?_
  refine g_bipush C dX0_init_10 (v := 30) (by decide) ?_
  refine h_newa C F (t0 := 1) rfl wd170 rfl (a0 := (30, .inl (fun _ => 0))) (fun _ => rfl) (by decide) (N := 30) (by decide) (by decide) (by decide) (by decide) dX0_init_12 (fun z12 L M F => ?_)
  refine g_widen (k1 := 1) (k2 := 30) (by decide) (by decide) ?_
  refine h_putF C F 1 rfl fk_X0_15 hnm (by intro K T N h; cases h; rfl) (by intro host T N h; cases h; exact nest_no (by decide +kernel) _ _ _ _) dX0_init_14 rfl rfl (Nat.le_of_ble_eq_true rfl) (fl2 := (z12, .inl (cy 1, 30, .inl (fun _ => 0))) :: (h, .inr (0, [.int 0, .ref z12, .null])) :: fr) rfl (fun M F => ?_)
  refine g_aload_n C dX0_init_17 rfl (j := 0) rfl ?_
  refine g_sipush C dX0_init_18 (v := 240) (by decide) ?_
  refine h_newa C F (t0 := 1) rfl wd170 rfl (a0 := (240, .inl (fun _ => 0))) (fun _ => rfl) (by decide) (N := 240) (by decide) (by decide) (by decide) (by decide) dX0_init_21 (fun z13 L M F => ?_)
  refine g_widen (k1 := 2) (k2 := 270) (by decide) (by decide) ?_
  refine h_putF C F 2 rfl fk_X0_19 hnm (by intro K T N h; cases h; rfl) (by intro host T N h; cases h; exact nest_no (by decide +kernel) _ _ _ _) dX0_init_23 rfl rfl (Nat.le_of_ble_eq_true rfl) (fl2 := (z13, .inl (cy 1, 240, .inl (fun _ => 0))) :: (z12, .inl (cy 1, 30, .inl (fun _ => 0))) :: (h, .inr (0, [.int 0, .ref z12, .ref z13])) :: fr) rfl (fun M F => ?_)
  exact g_vret C hrt dX0_init_26 (by decide) (by decide) ⟨z12, z13, F⟩
set_option maxHeartbeats 4000000 in
set_option maxRecDepth 100000 in
theorem c_X2_init_s13 (l : Launch) (G : va_G) {cy : Nat → ClassId} {L : List Nat} {M : Nat → va_E} {h : Nat} {fr : List (Nat × va_E)}  (F : FW L M ((h, .inr (2, [.int 0, .int 0, .int 0, .int 0, .int 0, .int 0, .int 0, .int 0, .int 0, .null, .null, .null, .null, .null, .null, .null])) :: fr))  : MV l G cy yX2_init cX2_init 1 none 2 9 335 [.ref h] L M (fun L2 M2 => ∃ (z10 : Nat) (z11 : Nat) (z14 : Nat) (z15 : Nat) (z5 : Nat) (z6 : Nat) (z7 : Nat) (z8 : Nat) (z9 : Nat), FW L2 M2 ((z15, .inl (cy 1, 240, .inl (fun _ => 0))) :: (z14, .inl (cy 1, 30, .inl (fun _ => 0))) :: (z11, .inr (0, [.int 0, .ref z14, .ref z15])) :: (z10, .inl (cy 1, 8, .inl (fun _ => 0))) :: (z9, .inl (cy 1, 8, .inl (fun _ => 0))) :: (z8, .inl (cy 1, 7, .inl (fun _ => 0))) :: (z7, .inl (cy 1, 28, .inl (fun _ => 0))) :: (z6, .inl (cy 1, 7, .inl (fun _ => 0))) :: (z5, .inl (cy 1, 4, .inl (fun _ => 0))) :: (h, .inr (2, [.int 0, .int 0, .int 0, .int 0, .int 0, .int 0, .int 0, .int 0, .int 0, .ref z5, .ref z6, .ref z7, .ref z8, .ref z9, .ref z10, .ref z11])) :: fr)) := by
  refine MV.of (own := RX2) rfl (by decide) (Nat.le_of_ble_eq_true rfl) ?_
  intro p e s m below meth c A C hrt hnm
  refine g_aload_n C dX2_init_0 rfl (j := 0) rfl ?_
  refine g_objInit C wd169 wd156 wd157 dX2_init_1 (by decide) (by decide) (Nat.le_of_ble_eq_true rfl) ?_
  refine g_aload_n C dX2_init_4 rfl (j := 0) rfl ?_
  refine g_iconst C dX2_init_5 (v := 0) (by decide) ?_
  refine h_put C F 0 rfl fk_X2_9 dX2_init_6 rfl rfl (Nat.le_of_ble_eq_true rfl) (fl2 := (h, .inr (2, [.int 0, .int 0, .int 0, .int 0, .int 0, .int 0, .int 0, .int 0, .int 0, .null, .null, .null, .null, .null, .null, .null])) :: fr) rfl (fun M F => ?_)
  refine g_aload_n C dX2_init_9 rfl (j := 0) rfl ?_
  refine g_iconst C dX2_init_10 (v := 0) (by decide) ?_
  refine h_put C F 0 rfl fk_X2_15 dX2_init_11 rfl rfl (Nat.le_of_ble_eq_true rfl) (fl2 := (h, .inr (2, [.int 0, .int 0, .int 0, .int 0, .int 0, .int 0, .int 0, .int 0, .int 0, .null, .null, .null, .null, .null, .null, .null])) :: fr) rfl (fun M F => ?_)
  refine g_aload_n C dX2_init_14 rfl (j := 0) rfl ?_
  refine g_iconst C dX2_init_15 (v := 0) (by decide) ?_
  refine h_put C F 0 rfl fk_X2_18 dX2_init_16 rfl rfl (Nat.le_of_ble_eq_true rfl) (fl2 := (h, .inr (2, [.int 0, .int 0, .int 0, .int 0, .int 0, .int 0, .int 0, .int 0, .int 0, .null, .null, .null, .null, .null, .null, .null])) :: fr) rfl (fun M F => ?_)
  refine g_aload_n C dX2_init_19 rfl (j := 0) rfl ?_
  refine g_iconst C dX2_init_20 (v := 0) (by decide) ?_
  refine h_put C F 0 rfl fk_X2_21 dX2_init_21 rfl rfl (Nat.le_of_ble_eq_true rfl) (fl2 := (h, .inr (2, [.int 0, .int 0, .int 0, .int 0, .int 0, .int 0, .int 0, .int 0, .int 0, .null, .null, .null, .null, .null, .null, .null])) :: fr) rfl (fun M F => ?_)
  refine g_aload_n C dX2_init_24 rfl (j := 0) rfl ?_
  refine g_iconst C dX2_init_25 (v := 0) (by decide) ?_
  refine h_put C F 0 rfl fk_X2_24 dX2_init_26 rfl rfl (Nat.le_of_ble_eq_true rfl) (fl2 := (h, .inr (2, [.int 0, .int 0, .int 0, .int 0, .int 0, .int 0, .int 0, .int 0, .int 0, .null, .null, .null, .null, .null, .null, .null])) :: fr) rfl (fun M F => ?_)
  refine g_aload_n C dX2_init_29 rfl (j := 0) rfl ?_
  refine g_iconst C dX2_init_30 (v := 0) (by decide) ?_
  refine h_put C F 0 rfl fk_X2_27 dX2_init_31 rfl rfl (Nat.le_of_ble_eq_true rfl) (fl2 := (h, .inr (2, [.int 0, .int 0, .int 0, .int 0, .int 0, .int 0, .int 0, .int 0, .int 0, .null, .null, .null, .null, .null, .null, .null])) :: fr) rfl (fun M F => ?_)
  refine g_aload_n C dX2_init_34 rfl (j := 0) rfl ?_
  refine g_iconst C dX2_init_35 (v := 0) (by decide) ?_
  refine h_put C F 0 rfl fk_X2_30 dX2_init_36 rfl rfl (Nat.le_of_ble_eq_true rfl) (fl2 := (h, .inr (2, [.int 0, .int 0, .int 0, .int 0, .int 0, .int 0, .int 0, .int 0, .int 0, .null, .null, .null, .null, .null, .null, .null])) :: fr) rfl (fun M F => ?_)
  refine g_aload_n C dX2_init_39 rfl (j := 0) rfl ?_
  refine g_iconst C dX2_init_40 (v := 0) (by decide) ?_
  refine h_put C F 0 rfl fk_X2_33 dX2_init_41 rfl rfl (Nat.le_of_ble_eq_true rfl) (fl2 := (h, .inr (2, [.int 0, .int 0, .int 0, .int 0, .int 0, .int 0, .int 0, .int 0, .int 0, .null, .null, .null, .null, .null, .null, .null])) :: fr) rfl (fun M F => ?_)
  refine g_aload_n C dX2_init_44 rfl (j := 0) rfl ?_
  refine g_iconst C dX2_init_45 (v := 0) (by decide) ?_
  refine h_put C F 0 rfl fk_X2_36 dX2_init_46 rfl rfl (Nat.le_of_ble_eq_true rfl) (fl2 := (h, .inr (2, [.int 0, .int 0, .int 0, .int 0, .int 0, .int 0, .int 0, .int 0, .int 0, .null, .null, .null, .null, .null, .null, .null])) :: fr) rfl (fun M F => ?_)
  refine g_aload_n C dX2_init_49 rfl (j := 0) rfl ?_
  refine g_iconst C dX2_init_50 (v := 4) (by decide) ?_
  refine h_newa C F (t0 := 1) rfl wd170 rfl (a0 := (4, .inl (fun _ => 0))) (fun _ => rfl) (by decide) (N := 4) (by decide) (by decide) (by decide) (by decide) dX2_init_51 (fun z5 L M F => ?_)
  refine g_widen (k1 := 1) (k2 := 4) (by decide) (by decide) ?_
  refine h_putF C F 1 rfl fk_X2_39 hnm (by intro K T N h; cases h; rfl) (by intro host T N h; cases h; exact nest_no (by decide +kernel) _ _ _ _) dX2_init_53 rfl rfl (Nat.le_of_ble_eq_true rfl) (fl2 := (z5, .inl (cy 1, 4, .inl (fun _ => 0))) :: (h, .inr (2, [.int 0, .int 0, .int 0, .int 0, .int 0, .int 0, .int 0, .int 0, .int 0, .ref z5, .null, .null, .null, .null, .null, .null])) :: fr) rfl (fun M F => ?_)
  refine g_aload_n C dX2_init_56 rfl (j := 0) rfl ?_
  refine g_bipush C dX2_init_57 (v := 7) (by decide) ?_
  refine h_newa C F (t0 := 1) rfl wd170 rfl (a0 := (7, .inl (fun _ => 0))) (fun _ => rfl) (by decide) (N := 7) (by decide) (by decide) (by decide) (by decide) dX2_init_59 (fun z6 L M F => ?_)
  refine g_widen (k1 := 2) (k2 := 11) (by decide) (by decide) ?_
  refine h_putF C F 2 rfl fk_X2_43 hnm (by intro K T N h; cases h; rfl) (by intro host T N h; cases h; exact nest_no (by decide +kernel) _ _ _ _) dX2_init_61 rfl rfl (Nat.le_of_ble_eq_true rfl) (fl2 := (z6, .inl (cy 1, 7, .inl (fun _ => 0))) :: (z5, .inl (cy 1, 4, .inl (fun _ => 0))) :: (h, .inr (2, [.int 0, .int 0, .int 0, .int 0, .int 0, .int 0, .int 0, .int 0, .int 0, .ref z5, .ref z6, .null, .null, .null, .null, .null])) :: fr) rfl (fun M F => ?_)
  refine g_aload_n C dX2_init_64 rfl (j := 0) rfl ?_
  refine g_bipush C dX2_init_65 (v := 28) (by decide) ?_
  refine h_newa C F (t0 := 1) rfl wd170 rfl (a0 := (28, .inl (fun _ => 0))) (fun _ => rfl) (by decide) (N := 28) (by decide) (by decide) (by decide) (by decide) dX2_init_67 (fun z7 L M F => ?_)
  refine g_widen (k1 := 3) (k2 := 39) (by decide) (by decide) ?_
  refine h_putF C F 3 rfl fk_X2_46 hnm (by intro K T N h; cases h; rfl) (by intro host T N h; cases h; exact nest_no (by decide +kernel) _ _ _ _) dX2_init_69 rfl rfl (Nat.le_of_ble_eq_true rfl) (fl2 := (z7, .inl (cy 1, 28, .inl (fun _ => 0))) :: (z6, .inl (cy 1, 7, .inl (fun _ => 0))) :: (z5, .inl (cy 1, 4, .inl (fun _ => 0))) :: (h, .inr (2, [.int 0, .int 0, .int 0, .int 0, .int 0, .int 0, .int 0, .int 0, .int 0, .ref z5, .ref z6, .ref z7, .null, .null, .null, .null])) :: fr) rfl (fun M F => ?_)
  refine g_aload_n C dX2_init_72 rfl (j := 0) rfl ?_
  refine g_bipush C dX2_init_73 (v := 7) (by decide) ?_
  refine h_newa C F (t0 := 1) rfl wd170 rfl (a0 := (7, .inl (fun _ => 0))) (fun _ => rfl) (by decide) (N := 7) (by decide) (by decide) (by decide) (by decide) dX2_init_75 (fun z8 L M F => ?_)
  refine g_widen (k1 := 4) (k2 := 46) (by decide) (by decide) ?_
  refine h_putF C F 4 rfl fk_X2_49 hnm (by intro K T N h; cases h; rfl) (by intro host T N h; cases h; exact nest_no (by decide +kernel) _ _ _ _) dX2_init_77 rfl rfl (Nat.le_of_ble_eq_true rfl) (fl2 := (z8, .inl (cy 1, 7, .inl (fun _ => 0))) :: (z7, .inl (cy 1, 28, .inl (fun _ => 0))) :: (z6, .inl (cy 1, 7, .inl (fun _ => 0))) :: (z5, .inl (cy 1, 4, .inl (fun _ => 0))) :: (h, .inr (2, [.int 0, .int 0, .int 0, .int 0, .int 0, .int 0, .int 0, .int 0, .int 0, .ref z5, .ref z6, .ref z7, .ref z8, .null, .null, .null])) :: fr) rfl (fun M F => ?_)
  refine g_aload_n C dX2_init_80 rfl (j := 0) rfl ?_
  refine g_bipush C dX2_init_81 (v := 8) (by decide) ?_
  refine h_newa C F (t0 := 1) rfl wd170 rfl (a0 := (8, .inl (fun _ => 0))) (fun _ => rfl) (by decide) (N := 8) (by decide) (by decide) (by decide) (by decide) dX2_init_83 (fun z9 L M F => ?_)
  refine g_widen (k1 := 5) (k2 := 54) (by decide) (by decide) ?_
  refine h_putF C F 5 rfl fk_X2_52 hnm (by intro K T N h; cases h; rfl) (by intro host T N h; cases h; exact nest_no (by decide +kernel) _ _ _ _) dX2_init_85 rfl rfl (Nat.le_of_ble_eq_true rfl) (fl2 := (z9, .inl (cy 1, 8, .inl (fun _ => 0))) :: (z8, .inl (cy 1, 7, .inl (fun _ => 0))) :: (z7, .inl (cy 1, 28, .inl (fun _ => 0))) :: (z6, .inl (cy 1, 7, .inl (fun _ => 0))) :: (z5, .inl (cy 1, 4, .inl (fun _ => 0))) :: (h, .inr (2, [.int 0, .int 0, .int 0, .int 0, .int 0, .int 0, .int 0, .int 0, .int 0, .ref z5, .ref z6, .ref z7, .ref z8, .ref z9, .null, .null])) :: fr) rfl (fun M F => ?_)
  refine g_aload_n C dX2_init_88 rfl (j := 0) rfl ?_
  refine g_bipush C dX2_init_89 (v := 8) (by decide) ?_
  refine h_newa C F (t0 := 1) rfl wd170 rfl (a0 := (8, .inl (fun _ => 0))) (fun _ => rfl) (by decide) (N := 8) (by decide) (by decide) (by decide) (by decide) dX2_init_91 (fun z10 L M F => ?_)
  refine g_widen (k1 := 6) (k2 := 62) (by decide) (by decide) ?_
  refine h_putF C F 6 rfl fk_X2_55 hnm (by intro K T N h; cases h; rfl) (by intro host T N h; cases h; exact nest_no (by decide +kernel) _ _ _ _) dX2_init_93 rfl rfl (Nat.le_of_ble_eq_true rfl) (fl2 := (z10, .inl (cy 1, 8, .inl (fun _ => 0))) :: (z9, .inl (cy 1, 8, .inl (fun _ => 0))) :: (z8, .inl (cy 1, 7, .inl (fun _ => 0))) :: (z7, .inl (cy 1, 28, .inl (fun _ => 0))) :: (z6, .inl (cy 1, 7, .inl (fun _ => 0))) :: (z5, .inl (cy 1, 4, .inl (fun _ => 0))) :: (h, .inr (2, [.int 0, .int 0, .int 0, .int 0, .int 0, .int 0, .int 0, .int 0, .int 0, .ref z5, .ref z6, .ref z7, .ref z8, .ref z9, .ref z10, .null])) :: fr) rfl (fun M F => ?_)
  refine g_aload_n C dX2_init_96 rfl (j := 0) rfl ?_
  refine h_new C F clX0 wd171 wd172 wd88 (fs := [.int 0, .null, .null]) (by decide) (by decide) (by decide) dX2_init_97 (fun z11 L M F => ?_)
  refine g_widen (k1 := 7) (k2 := 65) (by decide) (by decide) ?_
  refine g_dup C dX2_init_100 rfl ?_
  refine g_callI C (c_X0_init_s12 l G F ) lk_X2_60 rfl rfl dX2_init_101 (Nat.le_of_ble_eq_true rfl) ⟨by decide, by decide⟩ ⟨by decide, by decide⟩ (fun L M hp => ?_)
  obtain ⟨z14, z15, F⟩ := hp
  refine g_widen (k1 := 9) (k2 := 335) (by decide) (by decide) ?_
  refine h_putF C F 9 rfl fk_X2_61 hnm (by intro K T N h; cases h; rfl) (by intro host T N h; cases h; exact nest_no (by decide +kernel) _ _ _ _) dX2_init_104 rfl rfl (Nat.le_of_ble_eq_true rfl) (fl2 := (z15, .inl (cy 1, 240, .inl (fun _ => 0))) :: (z14, .inl (cy 1, 30, .inl (fun _ => 0))) :: (z11, .inr (0, [.int 0, .ref z14, .ref z15])) :: (z10, .inl (cy 1, 8, .inl (fun _ => 0))) :: (z9, .inl (cy 1, 8, .inl (fun _ => 0))) :: (z8, .inl (cy 1, 7, .inl (fun _ => 0))) :: (z7, .inl (cy 1, 28, .inl (fun _ => 0))) :: (z6, .inl (cy 1, 7, .inl (fun _ => 0))) :: (z5, .inl (cy 1, 4, .inl (fun _ => 0))) :: (h, .inr (2, [.int 0, .int 0, .int 0, .int 0, .int 0, .int 0, .int 0, .int 0, .int 0, .ref z5, .ref z6, .ref z7, .ref z8, .ref z9, .ref z10, .ref z11])) :: fr) rfl (fun M F => ?_)
  exact g_vret C hrt dX2_init_107 (by decide) (by decide) ⟨z10, z11, z14, z15, z5, z6, z7, z8, z9, F⟩
set_option maxHeartbeats 4000000 in
set_option maxRecDepth 100000 in
theorem c_X4_init_s14 (l : Launch) (G : va_G) {cy : Nat → ClassId} {L : List Nat} {M : Nat → va_E} {h : Nat} {fr : List (Nat × va_E)}  (F : FW L M ((h, .inr (4, [.null, .int 0, .int 0, .int 0, .null, .null, .null, .null, .null])) :: fr)) (h1 : Nat) : MV l G cy yX4_init cX4_init 2 none 1 5 403 [.ref h, .ref h1] L M (fun L2 M2 => ∃ (z38 : Nat) (z39 : Nat) (z40 : Nat) (z41 : Nat) (z42 : Nat), FW L2 M2 ((z42, .inl (cy 1, 4, .inl (fun _ => 0))) :: (z41, .inl (cy 1, 136, .inl (fun _ => 0))) :: (z40, .inl (cy 1, 119, .inl (fun _ => 0))) :: (z39, .inl (cy 1, 136, .inl (fun _ => 0))) :: (z38, .inl (cy 1, 8, .inl (fun _ => 0))) :: (h, .inr (4, [.ref h1, .int 0, .int 127, .int 0, .ref z38, .ref z39, .ref z40, .ref z41, .ref z42])) :: fr)) := by
  refine MV.of (own := RX4) rfl (by decide) (Nat.le_of_ble_eq_true rfl) ?_
  intro p e s m below meth c A C hrt hnm
  refine g_aload_n C dX4_init_0 rfl (j := 0) rfl ?_
  refine g_objInit C wd184 wd156 wd157 dX4_init_1 (by decide) (by decide) (Nat.le_of_ble_eq_true rfl) ?_
  refine g_aload_n C dX4_init_4 rfl (j := 0) rfl ?_
  refine g_iconst C dX4_init_5 (v := 0) (by decide) ?_
  refine h_put C F 0 rfl fk_X4_9 dX4_init_6 rfl rfl (Nat.le_of_ble_eq_true rfl) (fl2 := (h, .inr (4, [.null, .int 0, .int 0, .int 0, .null, .null, .null, .null, .null])) :: fr) rfl (fun M F => ?_)
  refine g_aload_n C dX4_init_9 rfl (j := 0) rfl ?_
  refine g_bipush C dX4_init_10 (v := 127) (by decide) ?_
  refine h_put C F 0 rfl fk_X4_15 dX4_init_12 rfl rfl (Nat.le_of_ble_eq_true rfl) (fl2 := (h, .inr (4, [.null, .int 0, .int 127, .int 0, .null, .null, .null, .null, .null])) :: fr) rfl (fun M F => ?_)
  refine g_aload_n C dX4_init_15 rfl (j := 0) rfl ?_
  refine g_iconst C dX4_init_16 (v := 0) (by decide) ?_
  refine h_put C F 0 rfl fk_X4_18 dX4_init_17 rfl rfl (Nat.le_of_ble_eq_true rfl) (fl2 := (h, .inr (4, [.null, .int 0, .int 127, .int 0, .null, .null, .null, .null, .null])) :: fr) rfl (fun M F => ?_)
  refine g_aload_n C dX4_init_20 rfl (j := 0) rfl ?_
  refine g_bipush C dX4_init_21 (v := 8) (by decide) ?_
  refine h_newa C F (t0 := 1) rfl wd170 rfl (a0 := (8, .inl (fun _ => 0))) (fun _ => rfl) (by decide) (N := 8) (by decide) (by decide) (by decide) (by decide) dX4_init_23 (fun z38 L M F => ?_)
  refine g_widen (k1 := 1) (k2 := 8) (by decide) (by decide) ?_
  refine h_putF C F 1 rfl fk_X4_21 hnm (by intro K T N h; cases h; rfl) (by intro host T N h; cases h; exact nest_no (by decide +kernel) _ _ _ _) dX4_init_25 rfl rfl (Nat.le_of_ble_eq_true rfl) (fl2 := (z38, .inl (cy 1, 8, .inl (fun _ => 0))) :: (h, .inr (4, [.null, .int 0, .int 127, .int 0, .ref z38, .null, .null, .null, .null])) :: fr) rfl (fun M F => ?_)
  refine g_aload_n C dX4_init_28 rfl (j := 0) rfl ?_
  refine g_sipush C dX4_init_29 (v := 136) (by decide) ?_
  refine h_newa C F (t0 := 1) rfl wd170 rfl (a0 := (136, .inl (fun _ => 0))) (fun _ => rfl) (by decide) (N := 136) (by decide) (by decide) (by decide) (by decide) dX4_init_32 (fun z39 L M F => ?_)
  refine g_widen (k1 := 2) (k2 := 144) (by decide) (by decide) ?_
  refine h_putF C F 2 rfl fk_X4_25 hnm (by intro K T N h; cases h; rfl) (by intro host T N h; cases h; exact nest_no (by decide +kernel) _ _ _ _) dX4_init_34 rfl rfl (Nat.le_of_ble_eq_true rfl) (fl2 := (z39, .inl (cy 1, 136, .inl (fun _ => 0))) :: (z38, .inl (cy 1, 8, .inl (fun _ => 0))) :: (h, .inr (4, [.null, .int 0, .int 127, .int 0, .ref z38, .ref z39, .null, .null, .null])) :: fr) rfl (fun M F => ?_)
  refine g_aload_n C dX4_init_37 rfl (j := 0) rfl ?_
  refine g_bipush C dX4_init_38 (v := 119) (by decide) ?_
  refine h_newa C F (t0 := 1) rfl wd170 rfl (a0 := (119, .inl (fun _ => 0))) (fun _ => rfl) (by decide) (N := 119) (by decide) (by decide) (by decide) (by decide) dX4_init_40 (fun z40 L M F => ?_)
  refine g_widen (k1 := 3) (k2 := 263) (by decide) (by decide) ?_
  refine h_putF C F 3 rfl fk_X4_28 hnm (by intro K T N h; cases h; rfl) (by intro host T N h; cases h; exact nest_no (by decide +kernel) _ _ _ _) dX4_init_42 rfl rfl (Nat.le_of_ble_eq_true rfl) (fl2 := (z40, .inl (cy 1, 119, .inl (fun _ => 0))) :: (z39, .inl (cy 1, 136, .inl (fun _ => 0))) :: (z38, .inl (cy 1, 8, .inl (fun _ => 0))) :: (h, .inr (4, [.null, .int 0, .int 127, .int 0, .ref z38, .ref z39, .ref z40, .null, .null])) :: fr) rfl (fun M F => ?_)
  refine g_aload_n C dX4_init_45 rfl (j := 0) rfl ?_
  refine g_sipush C dX4_init_46 (v := 136) (by decide) ?_
  refine h_newa C F (t0 := 1) rfl wd170 rfl (a0 := (136, .inl (fun _ => 0))) (fun _ => rfl) (by decide) (N := 136) (by decide) (by decide) (by decide) (by decide) dX4_init_49 (fun z41 L M F => ?_)
  refine g_widen (k1 := 4) (k2 := 399) (by decide) (by decide) ?_
  refine h_putF C F 4 rfl fk_X4_31 hnm (by intro K T N h; cases h; rfl) (by intro host T N h; cases h; exact nest_no (by decide +kernel) _ _ _ _) dX4_init_51 rfl rfl (Nat.le_of_ble_eq_true rfl) (fl2 := (z41, .inl (cy 1, 136, .inl (fun _ => 0))) :: (z40, .inl (cy 1, 119, .inl (fun _ => 0))) :: (z39, .inl (cy 1, 136, .inl (fun _ => 0))) :: (z38, .inl (cy 1, 8, .inl (fun _ => 0))) :: (h, .inr (4, [.null, .int 0, .int 127, .int 0, .ref z38, .ref z39, .ref z40, .ref z41, .null])) :: fr) rfl (fun M F => ?_)
  refine g_aload_n C dX4_init_54 rfl (j := 0) rfl ?_
  refine g_iconst C dX4_init_55 (v := 4) (by decide) ?_
  refine h_newa C F (t0 := 1) rfl wd170 rfl (a0 := (4, .inl (fun _ => 0))) (fun _ => rfl) (by decide) (N := 4) (by decide) (by decide) (by decide) (by decide) dX4_init_56 (fun z42 L M F => ?_)
  refine g_widen (k1 := 5) (k2 := 403) (by decide) (by decide) ?_
  refine h_putF C F 5 rfl fk_X4_34 hnm (by intro K T N h; cases h; rfl) (by intro host T N h; cases h; exact nest_no (by decide +kernel) _ _ _ _) dX4_init_58 rfl rfl (Nat.le_of_ble_eq_true rfl) (fl2 := (z42, .inl (cy 1, 4, .inl (fun _ => 0))) :: (z41, .inl (cy 1, 136, .inl (fun _ => 0))) :: (z40, .inl (cy 1, 119, .inl (fun _ => 0))) :: (z39, .inl (cy 1, 136, .inl (fun _ => 0))) :: (z38, .inl (cy 1, 8, .inl (fun _ => 0))) :: (h, .inr (4, [.null, .int 0, .int 127, .int 0, .ref z38, .ref z39, .ref z40, .ref z41, .ref z42])) :: fr) rfl (fun M F => ?_)
  refine g_aload_n C dX4_init_61 rfl (j := 0) rfl ?_
  refine g_aload_n C dX4_init_62 rfl (j := 1) rfl ?_
  refine h_putF C F 5 rfl fk_X4_37 hnm (by intro K T N h; cases h; rfl) (by intro host T N h; cases h; exact nest_no (by decide +kernel) _ _ _ _) dX4_init_63 rfl rfl (Nat.le_of_ble_eq_true rfl) (fl2 := (z42, .inl (cy 1, 4, .inl (fun _ => 0))) :: (z41, .inl (cy 1, 136, .inl (fun _ => 0))) :: (z40, .inl (cy 1, 119, .inl (fun _ => 0))) :: (z39, .inl (cy 1, 136, .inl (fun _ => 0))) :: (z38, .inl (cy 1, 8, .inl (fun _ => 0))) :: (h, .inr (4, [.ref h1, .int 0, .int 127, .int 0, .ref z38, .ref z39, .ref z40, .ref z41, .ref z42])) :: fr) rfl (fun M F => ?_)
  exact g_vret C hrt dX4_init_66 (by decide) (by decide) ⟨z38, z39, z40, z41, z42, F⟩
set_option maxHeartbeats 4000000 in
set_option maxRecDepth 100000 in
theorem c_X3_init_s15 (l : Launch) (G : va_G) {cy : Nat → ClassId} {L : List Nat} {M : Nat → va_E} {h : Nat} {fr : List (Nat × va_E)}  (F : FW L M ((h, .inr (3, [.null, .null, .int 0])) :: fr)) (h1 : Nat) : MV l G cy yX3_init cX3_init 2 none 1 1 7 [.ref h, .ref h1] L M (fun L2 M2 => ∃ (z55 : Nat), FW L2 M2 ((z55, .inl (cy 1, 7, .inl (fun _ => 0))) :: (h, .inr (3, [.ref h1, .ref z55, .int 0])) :: fr)) := by
  refine MV.of (own := RX3) rfl (by decide) (Nat.le_of_ble_eq_true rfl) ?_
  intro p e s m below meth c A C hrt hnm
  refine g_aload_n C dX3_init_0 rfl (j := 0) rfl ?_
  refine g_objInit C wd195 wd156 wd157 dX3_init_1 (by decide) (by decide) (Nat.le_of_ble_eq_true rfl) ?_
  refine g_aload_n C dX3_init_4 rfl (j := 0) rfl ?_
  refine g_bipush C dX3_init_5 (v := 7) (by decide) ?_
  refine h_newa C F (t0 := 1) rfl wd170 rfl (a0 := (7, .inl (fun _ => 0))) (fun _ => rfl) (by decide) (N := 7) (by decide) (by decide) (by decide) (by decide) dX3_init_7 (fun z55 L M F => ?_)
  refine g_widen (k1 := 1) (k2 := 7) (by decide) (by decide) ?_
  refine h_putF C F 1 rfl fk_X3_9 hnm (by intro K T N h; cases h; rfl) (by intro host T N h; cases h; exact nest_no (by decide +kernel) _ _ _ _) dX3_init_9 rfl rfl (Nat.le_of_ble_eq_true rfl) (fl2 := (z55, .inl (cy 1, 7, .inl (fun _ => 0))) :: (h, .inr (3, [.null, .ref z55, .int 0])) :: fr) rfl (fun M F => ?_)
  refine g_aload_n C dX3_init_12 rfl (j := 0) rfl ?_
  refine g_iconst C dX3_init_13 (v := 0) (by decide) ?_
  refine h_put C F 1 rfl fk_X3_15 dX3_init_14 rfl rfl (Nat.le_of_ble_eq_true rfl) (fl2 := (z55, .inl (cy 1, 7, .inl (fun _ => 0))) :: (h, .inr (3, [.null, .ref z55, .int 0])) :: fr) rfl (fun M F => ?_)
  refine g_aload_n C dX3_init_17 rfl (j := 0) rfl ?_
  refine g_aload_n C dX3_init_18 rfl (j := 1) rfl ?_
  refine h_putF C F 1 rfl fk_X3_19 hnm (by intro K T N h; cases h; rfl) (by intro host T N h; cases h; exact nest_no (by decide +kernel) _ _ _ _) dX3_init_19 rfl rfl (Nat.le_of_ble_eq_true rfl) (fl2 := (z55, .inl (cy 1, 7, .inl (fun _ => 0))) :: (h, .inr (3, [.ref h1, .ref z55, .int 0])) :: fr) rfl (fun M F => ?_)
  exact g_vret C hrt dX3_init_22 (by decide) (by decide) ⟨z55, F⟩
set_option maxHeartbeats 4000000 in
set_option maxRecDepth 100000 in
theorem c_X1_init_s16 (l : Launch) (G : va_G) {cy : Nat → ClassId} {L : List Nat} {M : Nat → va_E} {h : Nat} {fr : List (Nat × va_E)}  (F : FW L M ((h, .inr (1, [.null, .int 0, .null, .long 0])) :: fr)) (h1 : Nat) : MV l G cy yX1_init cX1_init 2 none 1 1 8 [.ref h, .ref h1] L M (fun L2 M2 => ∃ (z58 : Nat), FW L2 M2 ((z58, .inl (cy 2, 8, .inr (.inl (fun _ => 0)))) :: (h, .inr (1, [.ref h1, .int (-1), .ref z58, .long 1])) :: fr)) := by
  refine MV.of (own := RX1) rfl (by decide) (Nat.le_of_ble_eq_true rfl) ?_
  intro p e s m below meth c A C hrt hnm
  refine g_aload_n C dX1_init_0 rfl (j := 0) rfl ?_
  refine g_objInit C wd205 wd156 wd157 dX1_init_1 (by decide) (by decide) (Nat.le_of_ble_eq_true rfl) ?_
  refine g_aload_n C dX1_init_4 rfl (j := 0) rfl ?_
  refine g_iconst C dX1_init_5 (v := -1) (by decide) ?_
  refine h_put C F 0 rfl fk_X1_9 dX1_init_6 rfl rfl (Nat.le_of_ble_eq_true rfl) (fl2 := (h, .inr (1, [.null, .int (-1), .null, .long 0])) :: fr) rfl (fun M F => ?_)
  refine g_aload_n C dX1_init_9 rfl (j := 0) rfl ?_
  refine g_bipush C dX1_init_10 (v := 8) (by decide) ?_
  refine h_newa C F (t0 := 2) rfl wd206 rfl (a0 := (8, .inr (.inl (fun _ => 0)))) (fun _ => rfl) (by decide) (N := 8) (by decide) (by decide) (by decide) (by decide) dX1_init_12 (fun z58 L M F => ?_)
  refine g_widen (k1 := 1) (k2 := 8) (by decide) (by decide) ?_
  refine h_putF C F 1 rfl fk_X1_15 hnm (by intro K T N h; cases h; rfl) (by intro host T N h; cases h; exact nest_no (by decide +kernel) _ _ _ _) dX1_init_14 rfl rfl (Nat.le_of_ble_eq_true rfl) (fl2 := (z58, .inl (cy 2, 8, .inr (.inl (fun _ => 0)))) :: (h, .inr (1, [.null, .int (-1), .ref z58, .long 0])) :: fr) rfl (fun M F => ?_)
  refine g_aload_n C dX1_init_17 rfl (j := 0) rfl ?_
  refine g_lconst C dX1_init_18 (v := 1) (by decide) ?_
  refine h_put C F 1 rfl fk_X1_19 dX1_init_19 rfl rfl (Nat.le_of_ble_eq_true rfl) (fl2 := (z58, .inl (cy 2, 8, .inr (.inl (fun _ => 0)))) :: (h, .inr (1, [.null, .int (-1), .ref z58, .long 1])) :: fr) rfl (fun M F => ?_)
  refine g_aload_n C dX1_init_22 rfl (j := 0) rfl ?_
  refine g_aload_n C dX1_init_23 rfl (j := 1) rfl ?_
  refine h_putF C F 1 rfl fk_X1_23 hnm (by intro K T N h; cases h; rfl) (by intro host T N h; cases h; exact nest_no (by decide +kernel) _ _ _ _) dX1_init_24 rfl rfl (Nat.le_of_ble_eq_true rfl) (fl2 := (z58, .inl (cy 2, 8, .inr (.inl (fun _ => 0)))) :: (h, .inr (1, [.ref h1, .int (-1), .ref z58, .long 1])) :: fr) rfl (fun M F => ?_)
  exact g_vret C hrt dX1_init_27 (by decide) (by decide) ⟨z58, F⟩
set_option maxHeartbeats 4000000 in
set_option maxRecDepth 100000 in
theorem c_X7_init (l : Launch) (G : va_G) {cy : Nat → ClassId} {L : List Nat} {M : Nat → va_E} {h : Nat} {fr : List (Nat × va_E)} (F : FW L M ((h, .inr (7, [.null, .null, .null, .null, .null, .null, .null, .null, .null, .null, .int 0, .null])) :: fr))  : MV l G cy yX7_init cX7_init 1 none 3 42 3035 [.ref h] L M (fun L2 M2 => ∃ a : Nat → Nat, a 0 = h ∧ FW L2 M2 (flC cy a ++ fr)) := by
  refine MV.of (own := RX7) rfl (by decide) (Nat.le_of_ble_eq_true rfl) ?_
  intro p e s m below meth c A C hrt hnm
  refine g_aload_n C dX7_init_0 rfl (j := 0) rfl ?_
  refine g_objInit C wd155 wd156 wd157 dX7_init_1 (by decide) (by decide) (Nat.le_of_ble_eq_true rfl) ?_
  refine g_aload_n C dX7_init_4 rfl (j := 0) rfl ?_
  refine h_new C F clX6 wd158 wd159 wd67 (fs := [.null, .int 0, .int 0, .int 0, .int 0, .int 0, .int 0, .int 0]) (by decide) (by decide) (by decide) dX7_init_5 (fun z1 L M F => ?_)
  refine g_widen (k1 := 1) (k2 := 8) (by decide) (by decide) ?_
  refine g_dup C dX7_init_8 rfl ?_
  refine g_callI C (c_X6_init_s11 l G F ) lk_X7_11 rfl rfl dX7_init_9 (Nat.le_of_ble_eq_true rfl) ⟨by decide, by decide⟩ ⟨by decide, by decide⟩ (fun L M hp => ?_)
  obtain ⟨z3, F⟩ := hp
  refine g_widen (k1 := 2) (k2 := 808) (by decide) (by decide) ?_
  refine h_putF C F 2 rfl fk_X7_12 hnm (by intro K T N h; cases h; rfl) (by intro host T N h; cases h; exact nest_no (by decide +kernel) _ _ _ _) dX7_init_12 rfl rfl (Nat.le_of_ble_eq_true rfl) (fl2 := (z3, .inl (cy 0, 800, .inl (fun _ => 0))) :: (z1, .inr (6, [.ref z3, .int 0, .int 0, .int (-1), .int 0, .int 0, .int 0, .int 0])) :: (h, .inr (7, [.ref z1, .null, .null, .null, .null, .null, .null, .null, .null, .null, .int 0, .null])) :: fr) rfl (fun M F => ?_)
  refine g_aload_n C dX7_init_15 rfl (j := 0) rfl ?_
  refine h_new C F clX2 wd165 wd166 wd6 (fs := [.int 0, .int 0, .int 0, .int 0, .int 0, .int 0, .int 0, .int 0, .int 0, .null, .null, .null, .null, .null, .null, .null]) (by decide) (by decide) (by decide) dX7_init_16 (fun z4 L M F => ?_)
  refine g_widen (k1 := 3) (k2 := 824) (by decide) (by decide) ?_
  refine g_dup C dX7_init_19 rfl ?_
  refine g_callI C (c_X2_init_s13 l G F ) lk_X7_18 rfl rfl dX7_init_20 (Nat.le_of_ble_eq_true rfl) ⟨by decide, by decide⟩ ⟨by decide, by decide⟩ (fun L M hp => ?_)
  obtain ⟨z16, z17, z18, z19, z20, z21, z22, z23, z24, F⟩ := hp
  refine g_widen (k1 := 12) (k2 := 1159) (by decide) (by decide) ?_
  refine h_putF C F 12 rfl fk_X7_19 hnm (by intro K T N h; cases h; rfl) (by intro host T N h; cases h; exact nest_no (by decide +kernel) _ _ _ _) dX7_init_23 rfl rfl (Nat.le_of_ble_eq_true rfl) (fl2 := (z19, .inl (cy 1, 240, .inl (fun _ => 0))) :: (z18, .inl (cy 1, 30, .inl (fun _ => 0))) :: (z17, .inr (0, [.int 0, .ref z18, .ref z19])) :: (z16, .inl (cy 1, 8, .inl (fun _ => 0))) :: (z24, .inl (cy 1, 8, .inl (fun _ => 0))) :: (z23, .inl (cy 1, 7, .inl (fun _ => 0))) :: (z22, .inl (cy 1, 28, .inl (fun _ => 0))) :: (z21, .inl (cy 1, 7, .inl (fun _ => 0))) :: (z20, .inl (cy 1, 4, .inl (fun _ => 0))) :: (z4, .inr (2, [.int 0, .int 0, .int 0, .int 0, .int 0, .int 0, .int 0, .int 0, .int 0, .ref z20, .ref z21, .ref z22, .ref z23, .ref z24, .ref z16, .ref z17])) :: (z3, .inl (cy 0, 800, .inl (fun _ => 0))) :: (z1, .inr (6, [.ref z3, .int 0, .int 0, .int (-1), .int 0, .int 0, .int 0, .int 0])) :: (h, .inr (7, [.ref z1, .ref z4, .null, .null, .null, .null, .null, .null, .null, .null, .int 0, .null])) :: fr) rfl (fun M F => ?_)
  refine g_aload_n C dX7_init_26 rfl (j := 0) rfl ?_
  refine h_new C F clX2 wd165 wd166 wd6 (fs := [.int 0, .int 0, .int 0, .int 0, .int 0, .int 0, .int 0, .int 0, .int 0, .null, .null, .null, .null, .null, .null, .null]) (by decide) (by decide) (by decide) dX7_init_27 (fun z25 L M F => ?_)
  refine g_widen (k1 := 13) (k2 := 1175) (by decide) (by decide) ?_
  refine g_dup C dX7_init_30 rfl ?_
  refine g_callI C (c_X2_init_s13 l G F ) lk_X7_18 rfl rfl dX7_init_31 (Nat.le_of_ble_eq_true rfl) ⟨by decide, by decide⟩ ⟨by decide, by decide⟩ (fun L M hp => ?_)
  obtain ⟨z26, z27, z28, z29, z30, z31, z32, z33, z34, F⟩ := hp
  refine g_widen (k1 := 22) (k2 := 1510) (by decide) (by decide) ?_
  refine h_putF C F 22 rfl fk_X7_23 hnm (by intro K T N h; cases h; rfl) (by intro host T N h; cases h; exact nest_no (by decide +kernel) _ _ _ _) dX7_init_34 rfl rfl (Nat.le_of_ble_eq_true rfl) (fl2 := (z29, .inl (cy 1, 240, .inl (fun _ => 0))) :: (z28, .inl (cy 1, 30, .inl (fun _ => 0))) :: (z27, .inr (0, [.int 0, .ref z28, .ref z29])) :: (z26, .inl (cy 1, 8, .inl (fun _ => 0))) :: (z34, .inl (cy 1, 8, .inl (fun _ => 0))) :: (z33, .inl (cy 1, 7, .inl (fun _ => 0))) :: (z32, .inl (cy 1, 28, .inl (fun _ => 0))) :: (z31, .inl (cy 1, 7, .inl (fun _ => 0))) :: (z30, .inl (cy 1, 4, .inl (fun _ => 0))) :: (z25, .inr (2, [.int 0, .int 0, .int 0, .int 0, .int 0, .int 0, .int 0, .int 0, .int 0, .ref z30, .ref z31, .ref z32, .ref z33, .ref z34, .ref z26, .ref z27])) :: (z19, .inl (cy 1, 240, .inl (fun _ => 0))) :: (z18, .inl (cy 1, 30, .inl (fun _ => 0))) :: (z17, .inr (0, [.int 0, .ref z18, .ref z19])) :: (z16, .inl (cy 1, 8, .inl (fun _ => 0))) :: (z24, .inl (cy 1, 8, .inl (fun _ => 0))) :: (z23, .inl (cy 1, 7, .inl (fun _ => 0))) :: (z22, .inl (cy 1, 28, .inl (fun _ => 0))) :: (z21, .inl (cy 1, 7, .inl (fun _ => 0))) :: (z20, .inl (cy 1, 4, .inl (fun _ => 0))) :: (z4, .inr (2, [.int 0, .int 0, .int 0, .int 0, .int 0, .int 0, .int 0, .int 0, .int 0, .ref z20, .ref z21, .ref z22, .ref z23, .ref z24, .ref z16, .ref z17])) :: (z3, .inl (cy 0, 800, .inl (fun _ => 0))) :: (z1, .inr (6, [.ref z3, .int 0, .int 0, .int (-1), .int 0, .int 0, .int 0, .int 0])) :: (h, .inr (7, [.ref z1, .ref z4, .ref z25, .null, .null, .null, .null, .null, .null, .null, .int 0, .null])) :: fr) rfl (fun M F => ?_)
  refine g_aload_n C dX7_init_37 rfl (j := 0) rfl ?_
  refine g_iconst C dX7_init_38 (v := 3) (by decide) ?_
  refine h_newq C F (t0 := 4) rfl wd165 C.2.2.2.2.2.1.2.1 (by decide) (N := 3) (by decide) (by decide) (by decide) (by decide) dX7_init_39 (fun z35 L M F => ?_)
  refine g_widen (k1 := 23) (k2 := 1513) (by decide) (by decide) ?_
  refine h_putF C F 23 rfl fk_X7_26 hnm (by intro K T N h; cases h; rfl) (by intro host T N h; cases h; exact nest_no (by decide +kernel) _ _ _ _) dX7_init_42 rfl rfl (Nat.le_of_ble_eq_true rfl) (fl2 := (z35, .inl (cy 4, 3, .inr (.inr (.inr (.inr (fun _ => none)))))) :: (z29, .inl (cy 1, 240, .inl (fun _ => 0))) :: (z28, .inl (cy 1, 30, .inl (fun _ => 0))) :: (z27, .inr (0, [.int 0, .ref z28, .ref z29])) :: (z26, .inl (cy 1, 8, .inl (fun _ => 0))) :: (z34, .inl (cy 1, 8, .inl (fun _ => 0))) :: (z33, .inl (cy 1, 7, .inl (fun _ => 0))) :: (z32, .inl (cy 1, 28, .inl (fun _ => 0))) :: (z31, .inl (cy 1, 7, .inl (fun _ => 0))) :: (z30, .inl (cy 1, 4, .inl (fun _ => 0))) :: (z25, .inr (2, [.int 0, .int 0, .int 0, .int 0, .int 0, .int 0, .int 0, .int 0, .int 0, .ref z30, .ref z31, .ref z32, .ref z33, .ref z34, .ref z26, .ref z27])) :: (z19, .inl (cy 1, 240, .inl (fun _ => 0))) :: (z18, .inl (cy 1, 30, .inl (fun _ => 0))) :: (z17, .inr (0, [.int 0, .ref z18, .ref z19])) :: (z16, .inl (cy 1, 8, .inl (fun _ => 0))) :: (z24, .inl (cy 1, 8, .inl (fun _ => 0))) :: (z23, .inl (cy 1, 7, .inl (fun _ => 0))) :: (z22, .inl (cy 1, 28, .inl (fun _ => 0))) :: (z21, .inl (cy 1, 7, .inl (fun _ => 0))) :: (z20, .inl (cy 1, 4, .inl (fun _ => 0))) :: (z4, .inr (2, [.int 0, .int 0, .int 0, .int 0, .int 0, .int 0, .int 0, .int 0, .int 0, .ref z20, .ref z21, .ref z22, .ref z23, .ref z24, .ref z16, .ref z17])) :: (z3, .inl (cy 0, 800, .inl (fun _ => 0))) :: (z1, .inr (6, [.ref z3, .int 0, .int 0, .int (-1), .int 0, .int 0, .int 0, .int 0])) :: (h, .inr (7, [.ref z1, .ref z4, .ref z25, .ref z35, .null, .null, .null, .null, .null, .null, .int 0, .null])) :: fr) rfl (fun M F => ?_)
  refine g_aload_n C dX7_init_45 rfl (j := 0) rfl ?_
  refine g_iconst C dX7_init_46 (v := 4) (by decide) ?_
  refine h_newq C F (t0 := 5) rfl wd177 C.2.2.2.2.2.1.2.2 (by decide) (N := 4) (by decide) (by decide) (by decide) (by decide) dX7_init_47 (fun z36 L M F => ?_)
  refine g_widen (k1 := 24) (k2 := 1517) (by decide) (by decide) ?_
  refine h_putF C F 24 rfl fk_X7_32 hnm (by intro K T N h; cases h; rfl) (by intro host T N h; cases h; exact nest_no (by decide +kernel) _ _ _ _) dX7_init_50 rfl rfl (Nat.le_of_ble_eq_true rfl) (fl2 := (z36, .inl (cy 5, 4, .inr (.inr (.inr (.inr (fun _ => none)))))) :: (z35, .inl (cy 4, 3, .inr (.inr (.inr (.inr (fun _ => none)))))) :: (z29, .inl (cy 1, 240, .inl (fun _ => 0))) :: (z28, .inl (cy 1, 30, .inl (fun _ => 0))) :: (z27, .inr (0, [.int 0, .ref z28, .ref z29])) :: (z26, .inl (cy 1, 8, .inl (fun _ => 0))) :: (z34, .inl (cy 1, 8, .inl (fun _ => 0))) :: (z33, .inl (cy 1, 7, .inl (fun _ => 0))) :: (z32, .inl (cy 1, 28, .inl (fun _ => 0))) :: (z31, .inl (cy 1, 7, .inl (fun _ => 0))) :: (z30, .inl (cy 1, 4, .inl (fun _ => 0))) :: (z25, .inr (2, [.int 0, .int 0, .int 0, .int 0, .int 0, .int 0, .int 0, .int 0, .int 0, .ref z30, .ref z31, .ref z32, .ref z33, .ref z34, .ref z26, .ref z27])) :: (z19, .inl (cy 1, 240, .inl (fun _ => 0))) :: (z18, .inl (cy 1, 30, .inl (fun _ => 0))) :: (z17, .inr (0, [.int 0, .ref z18, .ref z19])) :: (z16, .inl (cy 1, 8, .inl (fun _ => 0))) :: (z24, .inl (cy 1, 8, .inl (fun _ => 0))) :: (z23, .inl (cy 1, 7, .inl (fun _ => 0))) :: (z22, .inl (cy 1, 28, .inl (fun _ => 0))) :: (z21, .inl (cy 1, 7, .inl (fun _ => 0))) :: (z20, .inl (cy 1, 4, .inl (fun _ => 0))) :: (z4, .inr (2, [.int 0, .int 0, .int 0, .int 0, .int 0, .int 0, .int 0, .int 0, .int 0, .ref z20, .ref z21, .ref z22, .ref z23, .ref z24, .ref z16, .ref z17])) :: (z3, .inl (cy 0, 800, .inl (fun _ => 0))) :: (z1, .inr (6, [.ref z3, .int 0, .int 0, .int (-1), .int 0, .int 0, .int 0, .int 0])) :: (h, .inr (7, [.ref z1, .ref z4, .ref z25, .ref z35, .ref z36, .null, .null, .null, .null, .null, .int 0, .null])) :: fr) rfl (fun M F => ?_)
  refine g_aload_n C dX7_init_53 rfl (j := 0) rfl ?_
  refine h_new C F clX4 wd179 wd180 wd138 (fs := [.null, .int 0, .int 0, .int 0, .null, .null, .null, .null, .null]) (by decide) (by decide) (by decide) dX7_init_54 (fun z37 L M F => ?_)
  refine g_widen (k1 := 25) (k2 := 1526) (by decide) (by decide) ?_
  refine g_dup C dX7_init_57 rfl ?_
  refine g_aload_n C dX7_init_58 rfl (j := 0) rfl ?_
  refine h_get C F 25 rfl fk_X7_19 dX7_init_59 rfl ?_
  refine g_callI C (c_X4_init_s14 l G F z4) lk_X7_38 rfl rfl dX7_init_62 (Nat.le_of_ble_eq_true rfl) ⟨by decide, by decide⟩ ⟨by decide, by decide⟩ (fun L M hp => ?_)
  obtain ⟨z43, z44, z45, z46, z47, F⟩ := hp
  refine g_widen (k1 := 30) (k2 := 1929) (by decide) (by decide) ?_
  refine h_putF C F 30 rfl fk_X7_41 hnm (by intro K T N h; cases h; rfl) (by intro host T N h; cases h; exact nest_no (by decide +kernel) _ _ _ _) dX7_init_65 rfl rfl (Nat.le_of_ble_eq_true rfl) (fl2 := (z47, .inl (cy 1, 4, .inl (fun _ => 0))) :: (z46, .inl (cy 1, 136, .inl (fun _ => 0))) :: (z45, .inl (cy 1, 119, .inl (fun _ => 0))) :: (z44, .inl (cy 1, 136, .inl (fun _ => 0))) :: (z43, .inl (cy 1, 8, .inl (fun _ => 0))) :: (z37, .inr (4, [.ref z4, .int 0, .int 127, .int 0, .ref z43, .ref z44, .ref z45, .ref z46, .ref z47])) :: (z36, .inl (cy 5, 4, .inr (.inr (.inr (.inr (fun _ => none)))))) :: (z35, .inl (cy 4, 3, .inr (.inr (.inr (.inr (fun _ => none)))))) :: (z29, .inl (cy 1, 240, .inl (fun _ => 0))) :: (z28, .inl (cy 1, 30, .inl (fun _ => 0))) :: (z27, .inr (0, [.int 0, .ref z28, .ref z29])) :: (z26, .inl (cy 1, 8, .inl (fun _ => 0))) :: (z34, .inl (cy 1, 8, .inl (fun _ => 0))) :: (z33, .inl (cy 1, 7, .inl (fun _ => 0))) :: (z32, .inl (cy 1, 28, .inl (fun _ => 0))) :: (z31, .inl (cy 1, 7, .inl (fun _ => 0))) :: (z30, .inl (cy 1, 4, .inl (fun _ => 0))) :: (z25, .inr (2, [.int 0, .int 0, .int 0, .int 0, .int 0, .int 0, .int 0, .int 0, .int 0, .ref z30, .ref z31, .ref z32, .ref z33, .ref z34, .ref z26, .ref z27])) :: (z19, .inl (cy 1, 240, .inl (fun _ => 0))) :: (z18, .inl (cy 1, 30, .inl (fun _ => 0))) :: (z17, .inr (0, [.int 0, .ref z18, .ref z19])) :: (z16, .inl (cy 1, 8, .inl (fun _ => 0))) :: (z24, .inl (cy 1, 8, .inl (fun _ => 0))) :: (z23, .inl (cy 1, 7, .inl (fun _ => 0))) :: (z22, .inl (cy 1, 28, .inl (fun _ => 0))) :: (z21, .inl (cy 1, 7, .inl (fun _ => 0))) :: (z20, .inl (cy 1, 4, .inl (fun _ => 0))) :: (z4, .inr (2, [.int 0, .int 0, .int 0, .int 0, .int 0, .int 0, .int 0, .int 0, .int 0, .ref z20, .ref z21, .ref z22, .ref z23, .ref z24, .ref z16, .ref z17])) :: (z3, .inl (cy 0, 800, .inl (fun _ => 0))) :: (z1, .inr (6, [.ref z3, .int 0, .int 0, .int (-1), .int 0, .int 0, .int 0, .int 0])) :: (h, .inr (7, [.ref z1, .ref z4, .ref z25, .ref z35, .ref z36, .ref z37, .null, .null, .null, .null, .int 0, .null])) :: fr) rfl (fun M F => ?_)
  refine g_aload_n C dX7_init_68 rfl (j := 0) rfl ?_
  refine h_new C F clX4 wd179 wd180 wd138 (fs := [.null, .int 0, .int 0, .int 0, .null, .null, .null, .null, .null]) (by decide) (by decide) (by decide) dX7_init_69 (fun z48 L M F => ?_)
  refine g_widen (k1 := 31) (k2 := 1938) (by decide) (by decide) ?_
  refine g_dup C dX7_init_72 rfl ?_
  refine g_aload_n C dX7_init_73 rfl (j := 0) rfl ?_
  refine h_get C F 31 rfl fk_X7_19 dX7_init_74 rfl ?_
  refine g_callI C (c_X4_init_s14 l G F z4) lk_X7_38 rfl rfl dX7_init_77 (Nat.le_of_ble_eq_true rfl) ⟨by decide, by decide⟩ ⟨by decide, by decide⟩ (fun L M hp => ?_)
  obtain ⟨z49, z50, z51, z52, z53, F⟩ := hp
  refine g_widen (k1 := 36) (k2 := 2341) (by decide) (by decide) ?_
  refine h_putF C F 36 rfl fk_X7_45 hnm (by intro K T N h; cases h; rfl) (by intro host T N h; cases h; exact nest_no (by decide +kernel) _ _ _ _) dX7_init_80 rfl rfl (Nat.le_of_ble_eq_true rfl) (fl2 := (z53, .inl (cy 1, 4, .inl (fun _ => 0))) :: (z52, .inl (cy 1, 136, .inl (fun _ => 0))) :: (z51, .inl (cy 1, 119, .inl (fun _ => 0))) :: (z50, .inl (cy 1, 136, .inl (fun _ => 0))) :: (z49, .inl (cy 1, 8, .inl (fun _ => 0))) :: (z48, .inr (4, [.ref z4, .int 0, .int 127, .int 0, .ref z49, .ref z50, .ref z51, .ref z52, .ref z53])) :: (z47, .inl (cy 1, 4, .inl (fun _ => 0))) :: (z46, .inl (cy 1, 136, .inl (fun _ => 0))) :: (z45, .inl (cy 1, 119, .inl (fun _ => 0))) :: (z44, .inl (cy 1, 136, .inl (fun _ => 0))) :: (z43, .inl (cy 1, 8, .inl (fun _ => 0))) :: (z37, .inr (4, [.ref z4, .int 0, .int 127, .int 0, .ref z43, .ref z44, .ref z45, .ref z46, .ref z47])) :: (z36, .inl (cy 5, 4, .inr (.inr (.inr (.inr (fun _ => none)))))) :: (z35, .inl (cy 4, 3, .inr (.inr (.inr (.inr (fun _ => none)))))) :: (z29, .inl (cy 1, 240, .inl (fun _ => 0))) :: (z28, .inl (cy 1, 30, .inl (fun _ => 0))) :: (z27, .inr (0, [.int 0, .ref z28, .ref z29])) :: (z26, .inl (cy 1, 8, .inl (fun _ => 0))) :: (z34, .inl (cy 1, 8, .inl (fun _ => 0))) :: (z33, .inl (cy 1, 7, .inl (fun _ => 0))) :: (z32, .inl (cy 1, 28, .inl (fun _ => 0))) :: (z31, .inl (cy 1, 7, .inl (fun _ => 0))) :: (z30, .inl (cy 1, 4, .inl (fun _ => 0))) :: (z25, .inr (2, [.int 0, .int 0, .int 0, .int 0, .int 0, .int 0, .int 0, .int 0, .int 0, .ref z30, .ref z31, .ref z32, .ref z33, .ref z34, .ref z26, .ref z27])) :: (z19, .inl (cy 1, 240, .inl (fun _ => 0))) :: (z18, .inl (cy 1, 30, .inl (fun _ => 0))) :: (z17, .inr (0, [.int 0, .ref z18, .ref z19])) :: (z16, .inl (cy 1, 8, .inl (fun _ => 0))) :: (z24, .inl (cy 1, 8, .inl (fun _ => 0))) :: (z23, .inl (cy 1, 7, .inl (fun _ => 0))) :: (z22, .inl (cy 1, 28, .inl (fun _ => 0))) :: (z21, .inl (cy 1, 7, .inl (fun _ => 0))) :: (z20, .inl (cy 1, 4, .inl (fun _ => 0))) :: (z4, .inr (2, [.int 0, .int 0, .int 0, .int 0, .int 0, .int 0, .int 0, .int 0, .int 0, .ref z20, .ref z21, .ref z22, .ref z23, .ref z24, .ref z16, .ref z17])) :: (z3, .inl (cy 0, 800, .inl (fun _ => 0))) :: (z1, .inr (6, [.ref z3, .int 0, .int 0, .int (-1), .int 0, .int 0, .int 0, .int 0])) :: (h, .inr (7, [.ref z1, .ref z4, .ref z25, .ref z35, .ref z36, .ref z37, .ref z48, .null, .null, .null, .int 0, .null])) :: fr) rfl (fun M F => ?_)
  refine g_aload_n C dX7_init_83 rfl (j := 0) rfl ?_
  refine h_new C F clX3 wd189 wd190 wd191 (fs := [.null, .null, .int 0]) (by decide) (by decide) (by decide) dX7_init_84 (fun z54 L M F => ?_)
  refine g_widen (k1 := 37) (k2 := 2344) (by decide) (by decide) ?_
  refine g_dup C dX7_init_87 rfl ?_
  refine g_aload_n C dX7_init_88 rfl (j := 0) rfl ?_
  refine h_get C F 37 rfl fk_X7_19 dX7_init_89 rfl ?_
  refine g_callI C (c_X3_init_s15 l G F z4) lk_X7_50 rfl rfl dX7_init_92 (Nat.le_of_ble_eq_true rfl) ⟨by decide, by decide⟩ ⟨by decide, by decide⟩ (fun L M hp => ?_)
  obtain ⟨z56, F⟩ := hp
  refine g_widen (k1 := 38) (k2 := 2351) (by decide) (by decide) ?_
  refine h_putF C F 38 rfl fk_X7_51 hnm (by intro K T N h; cases h; rfl) (by intro host T N h; cases h; exact nest_no (by decide +kernel) _ _ _ _) dX7_init_95 rfl rfl (Nat.le_of_ble_eq_true rfl) (fl2 := (z56, .inl (cy 1, 7, .inl (fun _ => 0))) :: (z54, .inr (3, [.ref z4, .ref z56, .int 0])) :: (z53, .inl (cy 1, 4, .inl (fun _ => 0))) :: (z52, .inl (cy 1, 136, .inl (fun _ => 0))) :: (z51, .inl (cy 1, 119, .inl (fun _ => 0))) :: (z50, .inl (cy 1, 136, .inl (fun _ => 0))) :: (z49, .inl (cy 1, 8, .inl (fun _ => 0))) :: (z48, .inr (4, [.ref z4, .int 0, .int 127, .int 0, .ref z49, .ref z50, .ref z51, .ref z52, .ref z53])) :: (z47, .inl (cy 1, 4, .inl (fun _ => 0))) :: (z46, .inl (cy 1, 136, .inl (fun _ => 0))) :: (z45, .inl (cy 1, 119, .inl (fun _ => 0))) :: (z44, .inl (cy 1, 136, .inl (fun _ => 0))) :: (z43, .inl (cy 1, 8, .inl (fun _ => 0))) :: (z37, .inr (4, [.ref z4, .int 0, .int 127, .int 0, .ref z43, .ref z44, .ref z45, .ref z46, .ref z47])) :: (z36, .inl (cy 5, 4, .inr (.inr (.inr (.inr (fun _ => none)))))) :: (z35, .inl (cy 4, 3, .inr (.inr (.inr (.inr (fun _ => none)))))) :: (z29, .inl (cy 1, 240, .inl (fun _ => 0))) :: (z28, .inl (cy 1, 30, .inl (fun _ => 0))) :: (z27, .inr (0, [.int 0, .ref z28, .ref z29])) :: (z26, .inl (cy 1, 8, .inl (fun _ => 0))) :: (z34, .inl (cy 1, 8, .inl (fun _ => 0))) :: (z33, .inl (cy 1, 7, .inl (fun _ => 0))) :: (z32, .inl (cy 1, 28, .inl (fun _ => 0))) :: (z31, .inl (cy 1, 7, .inl (fun _ => 0))) :: (z30, .inl (cy 1, 4, .inl (fun _ => 0))) :: (z25, .inr (2, [.int 0, .int 0, .int 0, .int 0, .int 0, .int 0, .int 0, .int 0, .int 0, .ref z30, .ref z31, .ref z32, .ref z33, .ref z34, .ref z26, .ref z27])) :: (z19, .inl (cy 1, 240, .inl (fun _ => 0))) :: (z18, .inl (cy 1, 30, .inl (fun _ => 0))) :: (z17, .inr (0, [.int 0, .ref z18, .ref z19])) :: (z16, .inl (cy 1, 8, .inl (fun _ => 0))) :: (z24, .inl (cy 1, 8, .inl (fun _ => 0))) :: (z23, .inl (cy 1, 7, .inl (fun _ => 0))) :: (z22, .inl (cy 1, 28, .inl (fun _ => 0))) :: (z21, .inl (cy 1, 7, .inl (fun _ => 0))) :: (z20, .inl (cy 1, 4, .inl (fun _ => 0))) :: (z4, .inr (2, [.int 0, .int 0, .int 0, .int 0, .int 0, .int 0, .int 0, .int 0, .int 0, .ref z20, .ref z21, .ref z22, .ref z23, .ref z24, .ref z16, .ref z17])) :: (z3, .inl (cy 0, 800, .inl (fun _ => 0))) :: (z1, .inr (6, [.ref z3, .int 0, .int 0, .int (-1), .int 0, .int 0, .int 0, .int 0])) :: (h, .inr (7, [.ref z1, .ref z4, .ref z25, .ref z35, .ref z36, .ref z37, .ref z48, .ref z54, .null, .null, .int 0, .null])) :: fr) rfl (fun M F => ?_)
  refine g_aload_n C dX7_init_98 rfl (j := 0) rfl ?_
  refine h_new C F clX1 wd200 wd201 wd131 (fs := [.null, .int 0, .null, .long 0]) (by decide) (by decide) (by decide) dX7_init_99 (fun z57 L M F => ?_)
  refine g_widen (k1 := 39) (k2 := 2355) (by decide) (by decide) ?_
  refine g_dup C dX7_init_102 rfl ?_
  refine g_aload_n C dX7_init_103 rfl (j := 0) rfl ?_
  refine h_get C F 39 rfl fk_X7_19 dX7_init_104 rfl ?_
  refine g_callI C (c_X1_init_s16 l G F z4) lk_X7_57 rfl rfl dX7_init_107 (Nat.le_of_ble_eq_true rfl) ⟨by decide, by decide⟩ ⟨by decide, by decide⟩ (fun L M hp => ?_)
  obtain ⟨z59, F⟩ := hp
  refine g_widen (k1 := 40) (k2 := 2363) (by decide) (by decide) ?_
  refine h_putF C F 40 rfl fk_X7_58 hnm (by intro K T N h; cases h; rfl) (by intro host T N h; cases h; exact nest_no (by decide +kernel) _ _ _ _) dX7_init_110 rfl rfl (Nat.le_of_ble_eq_true rfl) (fl2 := (z59, .inl (cy 2, 8, .inr (.inl (fun _ => 0)))) :: (z57, .inr (1, [.ref z4, .int (-1), .ref z59, .long 1])) :: (z56, .inl (cy 1, 7, .inl (fun _ => 0))) :: (z54, .inr (3, [.ref z4, .ref z56, .int 0])) :: (z53, .inl (cy 1, 4, .inl (fun _ => 0))) :: (z52, .inl (cy 1, 136, .inl (fun _ => 0))) :: (z51, .inl (cy 1, 119, .inl (fun _ => 0))) :: (z50, .inl (cy 1, 136, .inl (fun _ => 0))) :: (z49, .inl (cy 1, 8, .inl (fun _ => 0))) :: (z48, .inr (4, [.ref z4, .int 0, .int 127, .int 0, .ref z49, .ref z50, .ref z51, .ref z52, .ref z53])) :: (z47, .inl (cy 1, 4, .inl (fun _ => 0))) :: (z46, .inl (cy 1, 136, .inl (fun _ => 0))) :: (z45, .inl (cy 1, 119, .inl (fun _ => 0))) :: (z44, .inl (cy 1, 136, .inl (fun _ => 0))) :: (z43, .inl (cy 1, 8, .inl (fun _ => 0))) :: (z37, .inr (4, [.ref z4, .int 0, .int 127, .int 0, .ref z43, .ref z44, .ref z45, .ref z46, .ref z47])) :: (z36, .inl (cy 5, 4, .inr (.inr (.inr (.inr (fun _ => none)))))) :: (z35, .inl (cy 4, 3, .inr (.inr (.inr (.inr (fun _ => none)))))) :: (z29, .inl (cy 1, 240, .inl (fun _ => 0))) :: (z28, .inl (cy 1, 30, .inl (fun _ => 0))) :: (z27, .inr (0, [.int 0, .ref z28, .ref z29])) :: (z26, .inl (cy 1, 8, .inl (fun _ => 0))) :: (z34, .inl (cy 1, 8, .inl (fun _ => 0))) :: (z33, .inl (cy 1, 7, .inl (fun _ => 0))) :: (z32, .inl (cy 1, 28, .inl (fun _ => 0))) :: (z31, .inl (cy 1, 7, .inl (fun _ => 0))) :: (z30, .inl (cy 1, 4, .inl (fun _ => 0))) :: (z25, .inr (2, [.int 0, .int 0, .int 0, .int 0, .int 0, .int 0, .int 0, .int 0, .int 0, .ref z30, .ref z31, .ref z32, .ref z33, .ref z34, .ref z26, .ref z27])) :: (z19, .inl (cy 1, 240, .inl (fun _ => 0))) :: (z18, .inl (cy 1, 30, .inl (fun _ => 0))) :: (z17, .inr (0, [.int 0, .ref z18, .ref z19])) :: (z16, .inl (cy 1, 8, .inl (fun _ => 0))) :: (z24, .inl (cy 1, 8, .inl (fun _ => 0))) :: (z23, .inl (cy 1, 7, .inl (fun _ => 0))) :: (z22, .inl (cy 1, 28, .inl (fun _ => 0))) :: (z21, .inl (cy 1, 7, .inl (fun _ => 0))) :: (z20, .inl (cy 1, 4, .inl (fun _ => 0))) :: (z4, .inr (2, [.int 0, .int 0, .int 0, .int 0, .int 0, .int 0, .int 0, .int 0, .int 0, .ref z20, .ref z21, .ref z22, .ref z23, .ref z24, .ref z16, .ref z17])) :: (z3, .inl (cy 0, 800, .inl (fun _ => 0))) :: (z1, .inr (6, [.ref z3, .int 0, .int 0, .int (-1), .int 0, .int 0, .int 0, .int 0])) :: (h, .inr (7, [.ref z1, .ref z4, .ref z25, .ref z35, .ref z36, .ref z37, .ref z48, .ref z54, .ref z57, .null, .int 0, .null])) :: fr) rfl (fun M F => ?_)
  refine g_aload_n C dX7_init_113 rfl (j := 0) rfl ?_
  refine g_sipush C dX7_init_114 (v := 128) (by decide) ?_
  refine h_newa C F (t0 := 1) rfl wd170 rfl (a0 := (128, .inl (fun _ => 0))) (fun _ => rfl) (by decide) (N := 128) (by decide) (by decide) (by decide) (by decide) dX7_init_117 (fun z60 L M F => ?_)
  refine g_widen (k1 := 41) (k2 := 2491) (by decide) (by decide) ?_
  refine h_putF C F 41 rfl fk_X7_62 hnm (by intro K T N h; cases h; rfl) (by intro host T N h; cases h; exact nest_no (by decide +kernel) _ _ _ _) dX7_init_119 rfl rfl (Nat.le_of_ble_eq_true rfl) (fl2 := (z60, .inl (cy 1, 128, .inl (fun _ => 0))) :: (z59, .inl (cy 2, 8, .inr (.inl (fun _ => 0)))) :: (z57, .inr (1, [.ref z4, .int (-1), .ref z59, .long 1])) :: (z56, .inl (cy 1, 7, .inl (fun _ => 0))) :: (z54, .inr (3, [.ref z4, .ref z56, .int 0])) :: (z53, .inl (cy 1, 4, .inl (fun _ => 0))) :: (z52, .inl (cy 1, 136, .inl (fun _ => 0))) :: (z51, .inl (cy 1, 119, .inl (fun _ => 0))) :: (z50, .inl (cy 1, 136, .inl (fun _ => 0))) :: (z49, .inl (cy 1, 8, .inl (fun _ => 0))) :: (z48, .inr (4, [.ref z4, .int 0, .int 127, .int 0, .ref z49, .ref z50, .ref z51, .ref z52, .ref z53])) :: (z47, .inl (cy 1, 4, .inl (fun _ => 0))) :: (z46, .inl (cy 1, 136, .inl (fun _ => 0))) :: (z45, .inl (cy 1, 119, .inl (fun _ => 0))) :: (z44, .inl (cy 1, 136, .inl (fun _ => 0))) :: (z43, .inl (cy 1, 8, .inl (fun _ => 0))) :: (z37, .inr (4, [.ref z4, .int 0, .int 127, .int 0, .ref z43, .ref z44, .ref z45, .ref z46, .ref z47])) :: (z36, .inl (cy 5, 4, .inr (.inr (.inr (.inr (fun _ => none)))))) :: (z35, .inl (cy 4, 3, .inr (.inr (.inr (.inr (fun _ => none)))))) :: (z29, .inl (cy 1, 240, .inl (fun _ => 0))) :: (z28, .inl (cy 1, 30, .inl (fun _ => 0))) :: (z27, .inr (0, [.int 0, .ref z28, .ref z29])) :: (z26, .inl (cy 1, 8, .inl (fun _ => 0))) :: (z34, .inl (cy 1, 8, .inl (fun _ => 0))) :: (z33, .inl (cy 1, 7, .inl (fun _ => 0))) :: (z32, .inl (cy 1, 28, .inl (fun _ => 0))) :: (z31, .inl (cy 1, 7, .inl (fun _ => 0))) :: (z30, .inl (cy 1, 4, .inl (fun _ => 0))) :: (z25, .inr (2, [.int 0, .int 0, .int 0, .int 0, .int 0, .int 0, .int 0, .int 0, .int 0, .ref z30, .ref z31, .ref z32, .ref z33, .ref z34, .ref z26, .ref z27])) :: (z19, .inl (cy 1, 240, .inl (fun _ => 0))) :: (z18, .inl (cy 1, 30, .inl (fun _ => 0))) :: (z17, .inr (0, [.int 0, .ref z18, .ref z19])) :: (z16, .inl (cy 1, 8, .inl (fun _ => 0))) :: (z24, .inl (cy 1, 8, .inl (fun _ => 0))) :: (z23, .inl (cy 1, 7, .inl (fun _ => 0))) :: (z22, .inl (cy 1, 28, .inl (fun _ => 0))) :: (z21, .inl (cy 1, 7, .inl (fun _ => 0))) :: (z20, .inl (cy 1, 4, .inl (fun _ => 0))) :: (z4, .inr (2, [.int 0, .int 0, .int 0, .int 0, .int 0, .int 0, .int 0, .int 0, .int 0, .ref z20, .ref z21, .ref z22, .ref z23, .ref z24, .ref z16, .ref z17])) :: (z3, .inl (cy 0, 800, .inl (fun _ => 0))) :: (z1, .inr (6, [.ref z3, .int 0, .int 0, .int (-1), .int 0, .int 0, .int 0, .int 0])) :: (h, .inr (7, [.ref z1, .ref z4, .ref z25, .ref z35, .ref z36, .ref z37, .ref z48, .ref z54, .ref z57, .ref z60, .int 0, .null])) :: fr) rfl (fun M F => ?_)
  refine g_aload_n C dX7_init_122 rfl (j := 0) rfl ?_
  refine g_iconst C dX7_init_123 (v := 0) (by decide) ?_
  refine h_put C F 41 rfl fk_X7_66 dX7_init_124 rfl rfl (Nat.le_of_ble_eq_true rfl) (fl2 := (z60, .inl (cy 1, 128, .inl (fun _ => 0))) :: (z59, .inl (cy 2, 8, .inr (.inl (fun _ => 0)))) :: (z57, .inr (1, [.ref z4, .int (-1), .ref z59, .long 1])) :: (z56, .inl (cy 1, 7, .inl (fun _ => 0))) :: (z54, .inr (3, [.ref z4, .ref z56, .int 0])) :: (z53, .inl (cy 1, 4, .inl (fun _ => 0))) :: (z52, .inl (cy 1, 136, .inl (fun _ => 0))) :: (z51, .inl (cy 1, 119, .inl (fun _ => 0))) :: (z50, .inl (cy 1, 136, .inl (fun _ => 0))) :: (z49, .inl (cy 1, 8, .inl (fun _ => 0))) :: (z48, .inr (4, [.ref z4, .int 0, .int 127, .int 0, .ref z49, .ref z50, .ref z51, .ref z52, .ref z53])) :: (z47, .inl (cy 1, 4, .inl (fun _ => 0))) :: (z46, .inl (cy 1, 136, .inl (fun _ => 0))) :: (z45, .inl (cy 1, 119, .inl (fun _ => 0))) :: (z44, .inl (cy 1, 136, .inl (fun _ => 0))) :: (z43, .inl (cy 1, 8, .inl (fun _ => 0))) :: (z37, .inr (4, [.ref z4, .int 0, .int 127, .int 0, .ref z43, .ref z44, .ref z45, .ref z46, .ref z47])) :: (z36, .inl (cy 5, 4, .inr (.inr (.inr (.inr (fun _ => none)))))) :: (z35, .inl (cy 4, 3, .inr (.inr (.inr (.inr (fun _ => none)))))) :: (z29, .inl (cy 1, 240, .inl (fun _ => 0))) :: (z28, .inl (cy 1, 30, .inl (fun _ => 0))) :: (z27, .inr (0, [.int 0, .ref z28, .ref z29])) :: (z26, .inl (cy 1, 8, .inl (fun _ => 0))) :: (z34, .inl (cy 1, 8, .inl (fun _ => 0))) :: (z33, .inl (cy 1, 7, .inl (fun _ => 0))) :: (z32, .inl (cy 1, 28, .inl (fun _ => 0))) :: (z31, .inl (cy 1, 7, .inl (fun _ => 0))) :: (z30, .inl (cy 1, 4, .inl (fun _ => 0))) :: (z25, .inr (2, [.int 0, .int 0, .int 0, .int 0, .int 0, .int 0, .int 0, .int 0, .int 0, .ref z30, .ref z31, .ref z32, .ref z33, .ref z34, .ref z26, .ref z27])) :: (z19, .inl (cy 1, 240, .inl (fun _ => 0))) :: (z18, .inl (cy 1, 30, .inl (fun _ => 0))) :: (z17, .inr (0, [.int 0, .ref z18, .ref z19])) :: (z16, .inl (cy 1, 8, .inl (fun _ => 0))) :: (z24, .inl (cy 1, 8, .inl (fun _ => 0))) :: (z23, .inl (cy 1, 7, .inl (fun _ => 0))) :: (z22, .inl (cy 1, 28, .inl (fun _ => 0))) :: (z21, .inl (cy 1, 7, .inl (fun _ => 0))) :: (z20, .inl (cy 1, 4, .inl (fun _ => 0))) :: (z4, .inr (2, [.int 0, .int 0, .int 0, .int 0, .int 0, .int 0, .int 0, .int 0, .int 0, .ref z20, .ref z21, .ref z22, .ref z23, .ref z24, .ref z16, .ref z17])) :: (z3, .inl (cy 0, 800, .inl (fun _ => 0))) :: (z1, .inr (6, [.ref z3, .int 0, .int 0, .int (-1), .int 0, .int 0, .int 0, .int 0])) :: (h, .inr (7, [.ref z1, .ref z4, .ref z25, .ref z35, .ref z36, .ref z37, .ref z48, .ref z54, .ref z57, .ref z60, .int 0, .null])) :: fr) rfl (fun M F => ?_)
  refine g_aload_n C dX7_init_127 rfl (j := 0) rfl ?_
  refine g_sipush C dX7_init_128 (v := 544) (by decide) ?_
  refine h_newa C F (t0 := 1) rfl wd170 rfl (a0 := (544, .inl (fun _ => 0))) (fun _ => rfl) (by decide) (N := 544) (by decide) (by decide) (by decide) (by decide) dX7_init_131 (fun z61 L M F => ?_)
  refine g_widen (k1 := 42) (k2 := 3035) (by decide) (by decide) ?_
  refine h_putF C F 42 rfl fk_X7_70 hnm (by intro K T N h; cases h; rfl) (by intro host T N h; cases h; exact nest_no (by decide +kernel) _ _ _ _) dX7_init_133 rfl rfl (Nat.le_of_ble_eq_true rfl) (fl2 := (z61, .inl (cy 1, 544, .inl (fun _ => 0))) :: (z60, .inl (cy 1, 128, .inl (fun _ => 0))) :: (z59, .inl (cy 2, 8, .inr (.inl (fun _ => 0)))) :: (z57, .inr (1, [.ref z4, .int (-1), .ref z59, .long 1])) :: (z56, .inl (cy 1, 7, .inl (fun _ => 0))) :: (z54, .inr (3, [.ref z4, .ref z56, .int 0])) :: (z53, .inl (cy 1, 4, .inl (fun _ => 0))) :: (z52, .inl (cy 1, 136, .inl (fun _ => 0))) :: (z51, .inl (cy 1, 119, .inl (fun _ => 0))) :: (z50, .inl (cy 1, 136, .inl (fun _ => 0))) :: (z49, .inl (cy 1, 8, .inl (fun _ => 0))) :: (z48, .inr (4, [.ref z4, .int 0, .int 127, .int 0, .ref z49, .ref z50, .ref z51, .ref z52, .ref z53])) :: (z47, .inl (cy 1, 4, .inl (fun _ => 0))) :: (z46, .inl (cy 1, 136, .inl (fun _ => 0))) :: (z45, .inl (cy 1, 119, .inl (fun _ => 0))) :: (z44, .inl (cy 1, 136, .inl (fun _ => 0))) :: (z43, .inl (cy 1, 8, .inl (fun _ => 0))) :: (z37, .inr (4, [.ref z4, .int 0, .int 127, .int 0, .ref z43, .ref z44, .ref z45, .ref z46, .ref z47])) :: (z36, .inl (cy 5, 4, .inr (.inr (.inr (.inr (fun _ => none)))))) :: (z35, .inl (cy 4, 3, .inr (.inr (.inr (.inr (fun _ => none)))))) :: (z29, .inl (cy 1, 240, .inl (fun _ => 0))) :: (z28, .inl (cy 1, 30, .inl (fun _ => 0))) :: (z27, .inr (0, [.int 0, .ref z28, .ref z29])) :: (z26, .inl (cy 1, 8, .inl (fun _ => 0))) :: (z34, .inl (cy 1, 8, .inl (fun _ => 0))) :: (z33, .inl (cy 1, 7, .inl (fun _ => 0))) :: (z32, .inl (cy 1, 28, .inl (fun _ => 0))) :: (z31, .inl (cy 1, 7, .inl (fun _ => 0))) :: (z30, .inl (cy 1, 4, .inl (fun _ => 0))) :: (z25, .inr (2, [.int 0, .int 0, .int 0, .int 0, .int 0, .int 0, .int 0, .int 0, .int 0, .ref z30, .ref z31, .ref z32, .ref z33, .ref z34, .ref z26, .ref z27])) :: (z19, .inl (cy 1, 240, .inl (fun _ => 0))) :: (z18, .inl (cy 1, 30, .inl (fun _ => 0))) :: (z17, .inr (0, [.int 0, .ref z18, .ref z19])) :: (z16, .inl (cy 1, 8, .inl (fun _ => 0))) :: (z24, .inl (cy 1, 8, .inl (fun _ => 0))) :: (z23, .inl (cy 1, 7, .inl (fun _ => 0))) :: (z22, .inl (cy 1, 28, .inl (fun _ => 0))) :: (z21, .inl (cy 1, 7, .inl (fun _ => 0))) :: (z20, .inl (cy 1, 4, .inl (fun _ => 0))) :: (z4, .inr (2, [.int 0, .int 0, .int 0, .int 0, .int 0, .int 0, .int 0, .int 0, .int 0, .ref z20, .ref z21, .ref z22, .ref z23, .ref z24, .ref z16, .ref z17])) :: (z3, .inl (cy 0, 800, .inl (fun _ => 0))) :: (z1, .inr (6, [.ref z3, .int 0, .int 0, .int (-1), .int 0, .int 0, .int 0, .int 0])) :: (h, .inr (7, [.ref z1, .ref z4, .ref z25, .ref z35, .ref z36, .ref z37, .ref z48, .ref z54, .ref z57, .ref z60, .int 0, .ref z61])) :: fr) rfl (fun M F => ?_)
  exact g_vret C hrt dX7_init_136 (by decide) (by decide) ⟨fun k => ([h, z1, z3, z4, z20, z21, z22, z23, z24, z16, z17, z18, z19, z25, z30, z31, z32, z33, z34, z26, z27, z28, z29, z35, z36, z37, z43, z44, z45, z46, z47, z48, z49, z50, z51, z52, z53, z54, z56, z57, z59, z60, z61] : List Nat).getD k 0, rfl, FW.selR (x := (z61, .inl (cy 1, 544, .inl (fun _ => 0))) :: (z60, .inl (cy 1, 128, .inl (fun _ => 0))) :: (z59, .inl (cy 2, 8, .inr (.inl (fun _ => 0)))) :: (z57, .inr (1, [.ref z4, .int (-1), .ref z59, .long 1])) :: (z56, .inl (cy 1, 7, .inl (fun _ => 0))) :: (z54, .inr (3, [.ref z4, .ref z56, .int 0])) :: (z53, .inl (cy 1, 4, .inl (fun _ => 0))) :: (z52, .inl (cy 1, 136, .inl (fun _ => 0))) :: (z51, .inl (cy 1, 119, .inl (fun _ => 0))) :: (z50, .inl (cy 1, 136, .inl (fun _ => 0))) :: (z49, .inl (cy 1, 8, .inl (fun _ => 0))) :: (z48, .inr (4, [.ref z4, .int 0, .int 127, .int 0, .ref z49, .ref z50, .ref z51, .ref z52, .ref z53])) :: (z47, .inl (cy 1, 4, .inl (fun _ => 0))) :: (z46, .inl (cy 1, 136, .inl (fun _ => 0))) :: (z45, .inl (cy 1, 119, .inl (fun _ => 0))) :: (z44, .inl (cy 1, 136, .inl (fun _ => 0))) :: (z43, .inl (cy 1, 8, .inl (fun _ => 0))) :: (z37, .inr (4, [.ref z4, .int 0, .int 127, .int 0, .ref z43, .ref z44, .ref z45, .ref z46, .ref z47])) :: (z36, .inl (cy 5, 4, .inr (.inr (.inr (.inr (fun _ => none)))))) :: (z35, .inl (cy 4, 3, .inr (.inr (.inr (.inr (fun _ => none)))))) :: (z29, .inl (cy 1, 240, .inl (fun _ => 0))) :: (z28, .inl (cy 1, 30, .inl (fun _ => 0))) :: (z27, .inr (0, [.int 0, .ref z28, .ref z29])) :: (z26, .inl (cy 1, 8, .inl (fun _ => 0))) :: (z34, .inl (cy 1, 8, .inl (fun _ => 0))) :: (z33, .inl (cy 1, 7, .inl (fun _ => 0))) :: (z32, .inl (cy 1, 28, .inl (fun _ => 0))) :: (z31, .inl (cy 1, 7, .inl (fun _ => 0))) :: (z30, .inl (cy 1, 4, .inl (fun _ => 0))) :: (z25, .inr (2, [.int 0, .int 0, .int 0, .int 0, .int 0, .int 0, .int 0, .int 0, .int 0, .ref z30, .ref z31, .ref z32, .ref z33, .ref z34, .ref z26, .ref z27])) :: (z19, .inl (cy 1, 240, .inl (fun _ => 0))) :: (z18, .inl (cy 1, 30, .inl (fun _ => 0))) :: (z17, .inr (0, [.int 0, .ref z18, .ref z19])) :: (z16, .inl (cy 1, 8, .inl (fun _ => 0))) :: (z24, .inl (cy 1, 8, .inl (fun _ => 0))) :: (z23, .inl (cy 1, 7, .inl (fun _ => 0))) :: (z22, .inl (cy 1, 28, .inl (fun _ => 0))) :: (z21, .inl (cy 1, 7, .inl (fun _ => 0))) :: (z20, .inl (cy 1, 4, .inl (fun _ => 0))) :: (z4, .inr (2, [.int 0, .int 0, .int 0, .int 0, .int 0, .int 0, .int 0, .int 0, .int 0, .ref z20, .ref z21, .ref z22, .ref z23, .ref z24, .ref z16, .ref z17])) :: (z3, .inl (cy 0, 800, .inl (fun _ => 0))) :: (z1, .inr (6, [.ref z3, .int 0, .int 0, .int (-1), .int 0, .int 0, .int 0, .int 0])) :: (h, .inr (7, [.ref z1, .ref z4, .ref z25, .ref z35, .ref z36, .ref z37, .ref z48, .ref z54, .ref z57, .ref z60, .int 0, .ref z61])) :: []) F [42, 41, 40, 39, 38, 37, 36, 35, 34, 33, 32, 31, 30, 29, 28, 27, 26, 25, 24, 23, 22, 21, 20, 19, 18, 17, 16, 15, 14, 13, 12, 11, 10, 9, 8, 7, 6, 5, 4, 3, 2, 1, 0] (by decide) rfl⟩
