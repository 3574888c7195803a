set_option maxHeartbeats 4000000 in
set_option maxRecDepth 100000 in
theorem c_X8_init (l : Launch) (G : va_G) {cy : Nat → ClassId} {L : List Nat} {M : Nat → va_E} {h : Nat} {fr : List (Nat × va_E)} (F : FW L M ((h, .inr (8, .int 0 :: .null :: .null :: .null :: .null :: .int 0 :: .null :: .int 0 :: .int 0 :: .int 0 :: .int 0 :: .int 0 :: .int 0 :: .int 0 :: .null :: .null :: .null :: .int 0 :: .int 0 :: .int 0 :: .null :: .null :: .null :: .null :: .null :: .null :: .null :: .null :: .null :: .null :: .int 0 :: .null :: .int 0 :: .null :: .long 0 :: .long 0 :: .long 0 :: .null :: .null :: .null :: .null :: [])) :: fr))  : MV l G cy yX8_init cX8_init 1 none 1 24 2650 [.ref h] L M (fun L2 M2 => ∃ b : Nat → Nat, b 0 = h ∧ FW L2 M2 (flM cy b 0 (fun _ => 0) ++ fr)) := by
  refine MV.of (own := RX8) rfl (by decide) (Nat.le_of_ble_eq_true rfl) ?_
  intro p e s m below meth c A C hrt hnm
  refine g_aload_n C dX8_init_0 rfl (j := 0) rfl ?_
  refine g_objInit C wd342 wd156 wd157 dX8_init_1 (by decide) (by decide) (Nat.le_of_ble_eq_true rfl) ?_
  refine g_aload_n C dX8_init_4 rfl (j := 0) rfl ?_
  refine g_bipush C dX8_init_5 (v := 102) (by decide) ?_
  refine h_newa C F (t0 := 1) rfl wd170 rfl (a0 := (102, .inl (fun _ => 0))) (fun _ => rfl) (by decide) (N := 102) (by decide) (by decide) (by decide) (by decide) dX8_init_7 (fun z169 L M F => ?_)
  refine g_widen (k1 := 1) (k2 := 102) (by decide) (by decide) ?_
  refine h_putF C F 1 rfl fk_X8_9 hnm (by intro K T N h; cases h; rfl) (by intro host T N h; cases h; exact nest_no (by decide +kernel) _ _ _ _) dX8_init_9 rfl rfl (Nat.le_of_ble_eq_true rfl) (fl2 := (z169, .inl (cy 1, 102, .inl (fun _ => 0))) :: (h, .inr (8, .int 0 :: .ref z169 :: .null :: .null :: .null :: .int 0 :: .null :: .int 0 :: .int 0 :: .int 0 :: .int 0 :: .int 0 :: .int 0 :: .int 0 :: .null :: .null :: .null :: .int 0 :: .int 0 :: .int 0 :: .null :: .null :: .null :: .null :: .null :: .null :: .null :: .null :: .null :: .null :: .int 0 :: .null :: .int 0 :: .null :: .long 0 :: .long 0 :: .long 0 :: .null :: .null :: .null :: .null :: [])) :: fr) rfl (fun M F => ?_)
  refine g_aload_n C dX8_init_12 rfl (j := 0) rfl ?_
  refine g_sipush C dX8_init_13 (v := 306) (by decide) ?_
  refine h_newa C F (t0 := 1) rfl wd170 rfl (a0 := (306, .inl (fun _ => 0))) (fun _ => rfl) (by decide) (N := 306) (by decide) (by decide) (by decide) (by decide) dX8_init_16 (fun z170 L M F => ?_)
  refine g_widen (k1 := 2) (k2 := 408) (by decide) (by decide) ?_
  refine h_putF C F 2 rfl fk_X8_13 hnm (by intro K T N h; cases h; rfl) (by intro host T N h; cases h; exact nest_no (by decide +kernel) _ _ _ _) dX8_init_18 rfl rfl (Nat.le_of_ble_eq_true rfl) (fl2 := (z170, .inl (cy 1, 306, .inl (fun _ => 0))) :: (z169, .inl (cy 1, 102, .inl (fun _ => 0))) :: (h, .inr (8, .int 0 :: .ref z169 :: .ref z170 :: .null :: .null :: .int 0 :: .null :: .int 0 :: .int 0 :: .int 0 :: .int 0 :: .int 0 :: .int 0 :: .int 0 :: .null :: .null :: .null :: .int 0 :: .int 0 :: .int 0 :: .null :: .null :: .null :: .null :: .null :: .null :: .null :: .null :: .null :: .null :: .int 0 :: .null :: .int 0 :: .null :: .long 0 :: .long 0 :: .long 0 :: .null :: .null :: .null :: .null :: [])) :: fr) rfl (fun M F => ?_)
  refine g_aload_n C dX8_init_21 rfl (j := 0) rfl ?_
  refine g_iconst C dX8_init_22 (v := 3) (by decide) ?_
  refine h_newa C F (t0 := 3) rfl wd344 rfl (a0 := (3, .inl (fun _ => 0))) (fun _ => rfl) (by decide) (N := 3) (by decide) (by decide) (by decide) (by decide) dX8_init_23 (fun z171 L M F => ?_)
  refine g_widen (k1 := 3) (k2 := 411) (by decide) (by decide) ?_
  refine h_putF C F 3 rfl fk_X8_16 hnm (by intro K T N h; cases h; rfl) (by intro host T N h; cases h; exact nest_no (by decide +kernel) _ _ _ _) dX8_init_25 rfl rfl (Nat.le_of_ble_eq_true rfl) (fl2 := (z171, .inl (cy 3, 3, .inl (fun _ => 0))) :: (z170, .inl (cy 1, 306, .inl (fun _ => 0))) :: (z169, .inl (cy 1, 102, .inl (fun _ => 0))) :: (h, .inr (8, .int 0 :: .ref z169 :: .ref z170 :: .ref z171 :: .null :: .int 0 :: .null :: .int 0 :: .int 0 :: .int 0 :: .int 0 :: .int 0 :: .int 0 :: .int 0 :: .null :: .null :: .null :: .int 0 :: .int 0 :: .int 0 :: .null :: .null :: .null :: .null :: .null :: .null :: .null :: .null :: .null :: .null :: .int 0 :: .null :: .int 0 :: .null :: .long 0 :: .long 0 :: .long 0 :: .null :: .null :: .null :: .null :: [])) :: fr) rfl (fun M F => ?_)
  refine g_aload_n C dX8_init_28 rfl (j := 0) rfl ?_
  refine g_sipush C dX8_init_29 (v := 800) (by decide) ?_
  refine h_newa C F (t0 := 0) rfl wd163 rfl (a0 := (800, .inl (fun _ => 0))) (fun _ => rfl) (by decide) (N := 800) (by decide) (by decide) (by decide) (by decide) dX8_init_32 (fun z172 L M F => ?_)
  refine g_widen (k1 := 4) (k2 := 1211) (by decide) (by decide) ?_
  refine h_putF C F 4 rfl fk_X8_20 hnm (by intro K T N h; cases h; rfl) (by intro host T N h; cases h; exact nest_no (by decide +kernel) _ _ _ _) dX8_init_34 rfl rfl (Nat.le_of_ble_eq_true rfl) (fl2 := (z172, .inl (cy 0, 800, .inl (fun _ => 0))) :: (z171, .inl (cy 3, 3, .inl (fun _ => 0))) :: (z170, .inl (cy 1, 306, .inl (fun _ => 0))) :: (z169, .inl (cy 1, 102, .inl (fun _ => 0))) :: (h, .inr (8, .int 0 :: .ref z169 :: .ref z170 :: .ref z171 :: .ref z172 :: .int 0 :: .null :: .int 0 :: .int 0 :: .int 0 :: .int 0 :: .int 0 :: .int 0 :: .int 0 :: .null :: .null :: .null :: .int 0 :: .int 0 :: .int 0 :: .null :: .null :: .null :: .null :: .null :: .null :: .null :: .null :: .null :: .null :: .int 0 :: .null :: .int 0 :: .null :: .long 0 :: .long 0 :: .long 0 :: .null :: .null :: .null :: .null :: [])) :: fr) rfl (fun M F => ?_)
  refine g_aload_n C dX8_init_37 rfl (j := 0) rfl ?_
  refine g_iconst C dX8_init_38 (v := 5) (by decide) ?_
  refine h_newa C F (t0 := 1) rfl wd170 rfl (a0 := (5, .inl (fun _ => 0))) (fun _ => rfl) (by decide) (N := 5) (by decide) (by decide) (by decide) (by decide) dX8_init_39 (fun z173 L M F => ?_)
  refine g_widen (k1 := 5) (k2 := 1216) (by decide) (by decide) ?_
  refine h_putF C F 5 rfl fk_X8_24 hnm (by intro K T N h; cases h; rfl) (by intro host T N h; cases h; exact nest_no (by decide +kernel) _ _ _ _) dX8_init_41 rfl rfl (Nat.le_of_ble_eq_true rfl) (fl2 := (z173, .inl (cy 1, 5, .inl (fun _ => 0))) :: (z172, .inl (cy 0, 800, .inl (fun _ => 0))) :: (z171, .inl (cy 3, 3, .inl (fun _ => 0))) :: (z170, .inl (cy 1, 306, .inl (fun _ => 0))) :: (z169, .inl (cy 1, 102, .inl (fun _ => 0))) :: (h, .inr (8, .int 0 :: .ref z169 :: .ref z170 :: .ref z171 :: .ref z172 :: .int 0 :: .ref z173 :: .int 0 :: .int 0 :: .int 0 :: .int 0 :: .int 0 :: .int 0 :: .int 0 :: .null :: .null :: .null :: .int 0 :: .int 0 :: .int 0 :: .null :: .null :: .null :: .null :: .null :: .null :: .null :: .null :: .null :: .null :: .int 0 :: .null :: .int 0 :: .null :: .long 0 :: .long 0 :: .long 0 :: .null :: .null :: .null :: .null :: [])) :: fr) rfl (fun M F => ?_)
  refine g_aload_n C dX8_init_44 rfl (j := 0) rfl ?_
  refine g_iconst C dX8_init_45 (v := -1) (by decide) ?_
  refine h_put C F 5 rfl fk_X8_27 dX8_init_46 rfl rfl (Nat.le_of_ble_eq_true rfl) (fl2 := (z173, .inl (cy 1, 5, .inl (fun _ => 0))) :: (z172, .inl (cy 0, 800, .inl (fun _ => 0))) :: (z171, .inl (cy 3, 3, .inl (fun _ => 0))) :: (z170, .inl (cy 1, 306, .inl (fun _ => 0))) :: (z169, .inl (cy 1, 102, .inl (fun _ => 0))) :: (h, .inr (8, .int 0 :: .ref z169 :: .ref z170 :: .ref z171 :: .ref z172 :: .int 0 :: .ref z173 :: .int 0 :: .int 0 :: .int 0 :: .int 0 :: .int 0 :: .int 0 :: .int (-1) :: .null :: .null :: .null :: .int 0 :: .int 0 :: .int 0 :: .null :: .null :: .null :: .null :: .null :: .null :: .null :: .null :: .null :: .null :: .int 0 :: .null :: .int 0 :: .null :: .long 0 :: .long 0 :: .long 0 :: .null :: .null :: .null :: .null :: [])) :: fr) rfl (fun M F => ?_)
  refine g_aload_n C dX8_init_49 rfl (j := 0) rfl ?_
  refine g_bipush C dX8_init_50 (v := 102) (by decide) ?_
  refine h_newa C F (t0 := 1) rfl wd170 rfl (a0 := (102, .inl (fun _ => 0))) (fun _ => rfl) (by decide) (N := 102) (by decide) (by decide) (by decide) (by decide) dX8_init_52 (fun z174 L M F => ?_)
  refine g_widen (k1 := 6) (k2 := 1318) (by decide) (by decide) ?_
  refine h_putF C F 6 rfl fk_X8_31 hnm (by intro K T N h; cases h; rfl) (by intro host T N h; cases h; exact nest_no (by decide +kernel) _ _ _ _) dX8_init_54 rfl rfl (Nat.le_of_ble_eq_true rfl) (fl2 := (z174, .inl (cy 1, 102, .inl (fun _ => 0))) :: (z173, .inl (cy 1, 5, .inl (fun _ => 0))) :: (z172, .inl (cy 0, 800, .inl (fun _ => 0))) :: (z171, .inl (cy 3, 3, .inl (fun _ => 0))) :: (z170, .inl (cy 1, 306, .inl (fun _ => 0))) :: (z169, .inl (cy 1, 102, .inl (fun _ => 0))) :: (h, .inr (8, .int 0 :: .ref z169 :: .ref z170 :: .ref z171 :: .ref z172 :: .int 0 :: .ref z173 :: .int 0 :: .int 0 :: .int 0 :: .int 0 :: .int 0 :: .int 0 :: .int (-1) :: .ref z174 :: .null :: .null :: .int 0 :: .int 0 :: .int 0 :: .null :: .null :: .null :: .null :: .null :: .null :: .null :: .null :: .null :: .null :: .int 0 :: .null :: .int 0 :: .null :: .long 0 :: .long 0 :: .long 0 :: .null :: .null :: .null :: .null :: [])) :: fr) rfl (fun M F => ?_)
  refine g_aload_n C dX8_init_57 rfl (j := 0) rfl ?_
  refine g_bipush C dX8_init_58 (v := 7) (by decide) ?_
  refine h_newa C F (t0 := 1) rfl wd170 rfl (a0 := (7, .inl (fun _ => 0))) (fun _ => rfl) (by decide) (N := 7) (by decide) (by decide) (by decide) (by decide) dX8_init_60 (fun z175 L M F => ?_)
  refine g_widen (k1 := 7) (k2 := 1325) (by decide) (by decide) ?_
  refine h_putF C F 7 rfl fk_X8_34 hnm (by intro K T N h; cases h; rfl) (by intro host T N h; cases h; exact nest_no (by decide +kernel) _ _ _ _) dX8_init_62 rfl rfl (Nat.le_of_ble_eq_true rfl) (fl2 := (z175, .inl (cy 1, 7, .inl (fun _ => 0))) :: (z174, .inl (cy 1, 102, .inl (fun _ => 0))) :: (z173, .inl (cy 1, 5, .inl (fun _ => 0))) :: (z172, .inl (cy 0, 800, .inl (fun _ => 0))) :: (z171, .inl (cy 3, 3, .inl (fun _ => 0))) :: (z170, .inl (cy 1, 306, .inl (fun _ => 0))) :: (z169, .inl (cy 1, 102, .inl (fun _ => 0))) :: (h, .inr (8, .int 0 :: .ref z169 :: .ref z170 :: .ref z171 :: .ref z172 :: .int 0 :: .ref z173 :: .int 0 :: .int 0 :: .int 0 :: .int 0 :: .int 0 :: .int 0 :: .int (-1) :: .ref z174 :: .ref z175 :: .null :: .int 0 :: .int 0 :: .int 0 :: .null :: .null :: .null :: .null :: .null :: .null :: .null :: .null :: .null :: .null :: .int 0 :: .null :: .int 0 :: .null :: .long 0 :: .long 0 :: .long 0 :: .null :: .null :: .null :: .null :: [])) :: fr) rfl (fun M F => ?_)
  refine g_aload_n C dX8_init_65 rfl (j := 0) rfl ?_
  refine g_bipush C dX8_init_66 (v := 8) (by decide) ?_
  refine h_newa C F (t0 := 1) rfl wd170 rfl (a0 := (8, .inl (fun _ => 0))) (fun _ => rfl) (by decide) (N := 8) (by decide) (by decide) (by decide) (by decide) dX8_init_68 (fun z176 L M F => ?_)
  refine g_widen (k1 := 8) (k2 := 1333) (by decide) (by decide) ?_
  refine h_putF C F 8 rfl fk_X8_37 hnm (by intro K T N h; cases h; rfl) (by intro host T N h; cases h; exact nest_no (by decide +kernel) _ _ _ _) dX8_init_70 rfl rfl (Nat.le_of_ble_eq_true rfl) (fl2 := (z176, .inl (cy 1, 8, .inl (fun _ => 0))) :: (z175, .inl (cy 1, 7, .inl (fun _ => 0))) :: (z174, .inl (cy 1, 102, .inl (fun _ => 0))) :: (z173, .inl (cy 1, 5, .inl (fun _ => 0))) :: (z172, .inl (cy 0, 800, .inl (fun _ => 0))) :: (z171, .inl (cy 3, 3, .inl (fun _ => 0))) :: (z170, .inl (cy 1, 306, .inl (fun _ => 0))) :: (z169, .inl (cy 1, 102, .inl (fun _ => 0))) :: (h, .inr (8, .int 0 :: .ref z169 :: .ref z170 :: .ref z171 :: .ref z172 :: .int 0 :: .ref z173 :: .int 0 :: .int 0 :: .int 0 :: .int 0 :: .int 0 :: .int 0 :: .int (-1) :: .ref z174 :: .ref z175 :: .ref z176 :: .int 0 :: .int 0 :: .int 0 :: .null :: .null :: .null :: .null :: .null :: .null :: .null :: .null :: .null :: .null :: .int 0 :: .null :: .int 0 :: .null :: .long 0 :: .long 0 :: .long 0 :: .null :: .null :: .null :: .null :: [])) :: fr) rfl (fun M F => ?_)
  refine g_aload_n C dX8_init_73 rfl (j := 0) rfl ?_
  refine g_bipush C dX8_init_74 (v := 7) (by decide) ?_
  refine h_newa C F (t0 := 1) rfl wd170 rfl (a0 := (7, .inl (fun _ => 0))) (fun _ => rfl) (by decide) (N := 7) (by decide) (by decide) (by decide) (by decide) dX8_init_76 (fun z177 L M F => ?_)
  refine g_widen (k1 := 9) (k2 := 1340) (by decide) (by decide) ?_
  refine h_putF C F 9 rfl fk_X8_40 hnm (by intro K T N h; cases h; rfl) (by intro host T N h; cases h; exact nest_no (by decide +kernel) _ _ _ _) dX8_init_78 rfl rfl (Nat.le_of_ble_eq_true rfl) (fl2 := (z177, .inl (cy 1, 7, .inl (fun _ => 0))) :: (z176, .inl (cy 1, 8, .inl (fun _ => 0))) :: (z175, .inl (cy 1, 7, .inl (fun _ => 0))) :: (z174, .inl (cy 1, 102, .inl (fun _ => 0))) :: (z173, .inl (cy 1, 5, .inl (fun _ => 0))) :: (z172, .inl (cy 0, 800, .inl (fun _ => 0))) :: (z171, .inl (cy 3, 3, .inl (fun _ => 0))) :: (z170, .inl (cy 1, 306, .inl (fun _ => 0))) :: (z169, .inl (cy 1, 102, .inl (fun _ => 0))) :: (h, .inr (8, .int 0 :: .ref z169 :: .ref z170 :: .ref z171 :: .ref z172 :: .int 0 :: .ref z173 :: .int 0 :: .int 0 :: .int 0 :: .int 0 :: .int 0 :: .int 0 :: .int (-1) :: .ref z174 :: .ref z175 :: .ref z176 :: .int 0 :: .int 0 :: .int 0 :: .ref z177 :: .null :: .null :: .null :: .null :: .null :: .null :: .null :: .null :: .null :: .int 0 :: .null :: .int 0 :: .null :: .long 0 :: .long 0 :: .long 0 :: .null :: .null :: .null :: .null :: [])) :: fr) rfl (fun M F => ?_)
  refine g_aload_n C dX8_init_81 rfl (j := 0) rfl ?_
  refine g_bipush C dX8_init_82 (v := 8) (by decide) ?_
  refine h_newa C F (t0 := 1) rfl wd170 rfl (a0 := (8, .inl (fun _ => 0))) (fun _ => rfl) (by decide) (N := 8) (by decide) (by decide) (by decide) (by decide) dX8_init_84 (fun z178 L M F => ?_)
  refine g_widen (k1 := 10) (k2 := 1348) (by decide) (by decide) ?_
  refine h_putF C F 10 rfl fk_X8_43 hnm (by intro K T N h; cases h; rfl) (by intro host T N h; cases h; exact nest_no (by decide +kernel) _ _ _ _) dX8_init_86 rfl rfl (Nat.le_of_ble_eq_true rfl) (fl2 := (z178, .inl (cy 1, 8, .inl (fun _ => 0))) :: (z177, .inl (cy 1, 7, .inl (fun _ => 0))) :: (z176, .inl (cy 1, 8, .inl (fun _ => 0))) :: (z175, .inl (cy 1, 7, .inl (fun _ => 0))) :: (z174, .inl (cy 1, 102, .inl (fun _ => 0))) :: (z173, .inl (cy 1, 5, .inl (fun _ => 0))) :: (z172, .inl (cy 0, 800, .inl (fun _ => 0))) :: (z171, .inl (cy 3, 3, .inl (fun _ => 0))) :: (z170, .inl (cy 1, 306, .inl (fun _ => 0))) :: (z169, .inl (cy 1, 102, .inl (fun _ => 0))) :: (h, .inr (8, .int 0 :: .ref z169 :: .ref z170 :: .ref z171 :: .ref z172 :: .int 0 :: .ref z173 :: .int 0 :: .int 0 :: .int 0 :: .int 0 :: .int 0 :: .int 0 :: .int (-1) :: .ref z174 :: .ref z175 :: .ref z176 :: .int 0 :: .int 0 :: .int 0 :: .ref z177 :: .ref z178 :: .null :: .null :: .null :: .null :: .null :: .null :: .null :: .null :: .int 0 :: .null :: .int 0 :: .null :: .long 0 :: .long 0 :: .long 0 :: .null :: .null :: .null :: .null :: [])) :: fr) rfl (fun M F => ?_)
  refine g_aload_n C dX8_init_89 rfl (j := 0) rfl ?_
  refine g_sipush C dX8_init_90 (v := 136) (by decide) ?_
  refine h_newa C F (t0 := 1) rfl wd170 rfl (a0 := (136, .inl (fun _ => 0))) (fun _ => rfl) (by decide) (N := 136) (by decide) (by decide) (by decide) (by decide) dX8_init_93 (fun z179 L M F => ?_)
  refine g_widen (k1 := 11) (k2 := 1484) (by decide) (by decide) ?_
  refine h_putF C F 11 rfl fk_X8_46 hnm (by intro K T N h; cases h; rfl) (by intro host T N h; cases h; exact nest_no (by decide +kernel) _ _ _ _) dX8_init_95 rfl rfl (Nat.le_of_ble_eq_true rfl) (fl2 := (z179, .inl (cy 1, 136, .inl (fun _ => 0))) :: (z178, .inl (cy 1, 8, .inl (fun _ => 0))) :: (z177, .inl (cy 1, 7, .inl (fun _ => 0))) :: (z176, .inl (cy 1, 8, .inl (fun _ => 0))) :: (z175, .inl (cy 1, 7, .inl (fun _ => 0))) :: (z174, .inl (cy 1, 102, .inl (fun _ => 0))) :: (z173, .inl (cy 1, 5, .inl (fun _ => 0))) :: (z172, .inl (cy 0, 800, .inl (fun _ => 0))) :: (z171, .inl (cy 3, 3, .inl (fun _ => 0))) :: (z170, .inl (cy 1, 306, .inl (fun _ => 0))) :: (z169, .inl (cy 1, 102, .inl (fun _ => 0))) :: (h, .inr (8, .int 0 :: .ref z169 :: .ref z170 :: .ref z171 :: .ref z172 :: .int 0 :: .ref z173 :: .int 0 :: .int 0 :: .int 0 :: .int 0 :: .int 0 :: .int 0 :: .int (-1) :: .ref z174 :: .ref z175 :: .ref z176 :: .int 0 :: .int 0 :: .int 0 :: .ref z177 :: .ref z178 :: .ref z179 :: .null :: .null :: .null :: .null :: .null :: .null :: .null :: .int 0 :: .null :: .int 0 :: .null :: .long 0 :: .long 0 :: .long 0 :: .null :: .null :: .null :: .null :: [])) :: fr) rfl (fun M F => ?_)
  refine g_aload_n C dX8_init_98 rfl (j := 0) rfl ?_
  refine g_bipush C dX8_init_99 (v := 119) (by decide) ?_
  refine h_newa C F (t0 := 1) rfl wd170 rfl (a0 := (119, .inl (fun _ => 0))) (fun _ => rfl) (by decide) (N := 119) (by decide) (by decide) (by decide) (by decide) dX8_init_101 (fun z180 L M F => ?_)
  refine g_widen (k1 := 12) (k2 := 1603) (by decide) (by decide) ?_
  refine h_putF C F 12 rfl fk_X8_49 hnm (by intro K T N h; cases h; rfl) (by intro host T N h; cases h; exact nest_no (by decide +kernel) _ _ _ _) dX8_init_103 rfl rfl (Nat.le_of_ble_eq_true rfl) (fl2 := (z180, .inl (cy 1, 119, .inl (fun _ => 0))) :: (z179, .inl (cy 1, 136, .inl (fun _ => 0))) :: (z178, .inl (cy 1, 8, .inl (fun _ => 0))) :: (z177, .inl (cy 1, 7, .inl (fun _ => 0))) :: (z176, .inl (cy 1, 8, .inl (fun _ => 0))) :: (z175, .inl (cy 1, 7, .inl (fun _ => 0))) :: (z174, .inl (cy 1, 102, .inl (fun _ => 0))) :: (z173, .inl (cy 1, 5, .inl (fun _ => 0))) :: (z172, .inl (cy 0, 800, .inl (fun _ => 0))) :: (z171, .inl (cy 3, 3, .inl (fun _ => 0))) :: (z170, .inl (cy 1, 306, .inl (fun _ => 0))) :: (z169, .inl (cy 1, 102, .inl (fun _ => 0))) :: (h, .inr (8, .int 0 :: .ref z169 :: .ref z170 :: .ref z171 :: .ref z172 :: .int 0 :: .ref z173 :: .int 0 :: .int 0 :: .int 0 :: .int 0 :: .int 0 :: .int 0 :: .int (-1) :: .ref z174 :: .ref z175 :: .ref z176 :: .int 0 :: .int 0 :: .int 0 :: .ref z177 :: .ref z178 :: .ref z179 :: .ref z180 :: .null :: .null :: .null :: .null :: .null :: .null :: .int 0 :: .null :: .int 0 :: .null :: .long 0 :: .long 0 :: .long 0 :: .null :: .null :: .null :: .null :: [])) :: fr) rfl (fun M F => ?_)
  refine g_aload_n C dX8_init_106 rfl (j := 0) rfl ?_
  refine g_bipush C dX8_init_107 (v := 16) (by decide) ?_
  refine h_newa C F (t0 := 1) rfl wd170 rfl (a0 := (16, .inl (fun _ => 0))) (fun _ => rfl) (by decide) (N := 16) (by decide) (by decide) (by decide) (by decide) dX8_init_109 (fun z181 L M F => ?_)
  refine g_widen (k1 := 13) (k2 := 1619) (by decide) (by decide) ?_
  refine h_putF C F 13 rfl fk_X8_52 hnm (by intro K T N h; cases h; rfl) (by intro host T N h; cases h; exact nest_no (by decide +kernel) _ _ _ _) dX8_init_111 rfl rfl (Nat.le_of_ble_eq_true rfl) (fl2 := (z181, .inl (cy 1, 16, .inl (fun _ => 0))) :: (z180, .inl (cy 1, 119, .inl (fun _ => 0))) :: (z179, .inl (cy 1, 136, .inl (fun _ => 0))) :: (z178, .inl (cy 1, 8, .inl (fun _ => 0))) :: (z177, .inl (cy 1, 7, .inl (fun _ => 0))) :: (z176, .inl (cy 1, 8, .inl (fun _ => 0))) :: (z175, .inl (cy 1, 7, .inl (fun _ => 0))) :: (z174, .inl (cy 1, 102, .inl (fun _ => 0))) :: (z173, .inl (cy 1, 5, .inl (fun _ => 0))) :: (z172, .inl (cy 0, 800, .inl (fun _ => 0))) :: (z171, .inl (cy 3, 3, .inl (fun _ => 0))) :: (z170, .inl (cy 1, 306, .inl (fun _ => 0))) :: (z169, .inl (cy 1, 102, .inl (fun _ => 0))) :: (h, .inr (8, .int 0 :: .ref z169 :: .ref z170 :: .ref z171 :: .ref z172 :: .int 0 :: .ref z173 :: .int 0 :: .int 0 :: .int 0 :: .int 0 :: .int 0 :: .int 0 :: .int (-1) :: .ref z174 :: .ref z175 :: .ref z176 :: .int 0 :: .int 0 :: .int 0 :: .ref z177 :: .ref z178 :: .ref z179 :: .ref z180 :: .ref z181 :: .null :: .null :: .null :: .null :: .null :: .int 0 :: .null :: .int 0 :: .null :: .long 0 :: .long 0 :: .long 0 :: .null :: .null :: .null :: .null :: [])) :: fr) rfl (fun M F => ?_)
  refine g_aload_n C dX8_init_114 rfl (j := 0) rfl ?_
  refine g_bipush C dX8_init_115 (v := 28) (by decide) ?_
  refine h_newa C F (t0 := 1) rfl wd170 rfl (a0 := (28, .inl (fun _ => 0))) (fun _ => rfl) (by decide) (N := 28) (by decide) (by decide) (by decide) (by decide) dX8_init_117 (fun z182 L M F => ?_)
  refine g_widen (k1 := 14) (k2 := 1647) (by decide) (by decide) ?_
  refine h_putF C F 14 rfl fk_X8_55 hnm (by intro K T N h; cases h; rfl) (by intro host T N h; cases h; exact nest_no (by decide +kernel) _ _ _ _) dX8_init_119 rfl rfl (Nat.le_of_ble_eq_true rfl) (fl2 := (z182, .inl (cy 1, 28, .inl (fun _ => 0))) :: (z181, .inl (cy 1, 16, .inl (fun _ => 0))) :: (z180, .inl (cy 1, 119, .inl (fun _ => 0))) :: (z179, .inl (cy 1, 136, .inl (fun _ => 0))) :: (z178, .inl (cy 1, 8, .inl (fun _ => 0))) :: (z177, .inl (cy 1, 7, .inl (fun _ => 0))) :: (z176, .inl (cy 1, 8, .inl (fun _ => 0))) :: (z175, .inl (cy 1, 7, .inl (fun _ => 0))) :: (z174, .inl (cy 1, 102, .inl (fun _ => 0))) :: (z173, .inl (cy 1, 5, .inl (fun _ => 0))) :: (z172, .inl (cy 0, 800, .inl (fun _ => 0))) :: (z171, .inl (cy 3, 3, .inl (fun _ => 0))) :: (z170, .inl (cy 1, 306, .inl (fun _ => 0))) :: (z169, .inl (cy 1, 102, .inl (fun _ => 0))) :: (h, .inr (8, .int 0 :: .ref z169 :: .ref z170 :: .ref z171 :: .ref z172 :: .int 0 :: .ref z173 :: .int 0 :: .int 0 :: .int 0 :: .int 0 :: .int 0 :: .int 0 :: .int (-1) :: .ref z174 :: .ref z175 :: .ref z176 :: .int 0 :: .int 0 :: .int 0 :: .ref z177 :: .ref z178 :: .ref z179 :: .ref z180 :: .ref z181 :: .ref z182 :: .null :: .null :: .null :: .null :: .int 0 :: .null :: .int 0 :: .null :: .long 0 :: .long 0 :: .long 0 :: .null :: .null :: .null :: .null :: [])) :: fr) rfl (fun M F => ?_)
  refine g_aload_n C dX8_init_122 rfl (j := 0) rfl ?_
  refine g_bipush C dX8_init_123 (v := 8) (by decide) ?_
  refine h_newa C F (t0 := 1) rfl wd170 rfl (a0 := (8, .inl (fun _ => 0))) (fun _ => rfl) (by decide) (N := 8) (by decide) (by decide) (by decide) (by decide) dX8_init_125 (fun z183 L M F => ?_)
  refine g_widen (k1 := 15) (k2 := 1655) (by decide) (by decide) ?_
  refine h_putF C F 15 rfl fk_X8_58 hnm (by intro K T N h; cases h; rfl) (by intro host T N h; cases h; exact nest_no (by decide +kernel) _ _ _ _) dX8_init_127 rfl rfl (Nat.le_of_ble_eq_true rfl) (fl2 := (z183, .inl (cy 1, 8, .inl (fun _ => 0))) :: (z182, .inl (cy 1, 28, .inl (fun _ => 0))) :: (z181, .inl (cy 1, 16, .inl (fun _ => 0))) :: (z180, .inl (cy 1, 119, .inl (fun _ => 0))) :: (z179, .inl (cy 1, 136, .inl (fun _ => 0))) :: (z178, .inl (cy 1, 8, .inl (fun _ => 0))) :: (z177, .inl (cy 1, 7, .inl (fun _ => 0))) :: (z176, .inl (cy 1, 8, .inl (fun _ => 0))) :: (z175, .inl (cy 1, 7, .inl (fun _ => 0))) :: (z174, .inl (cy 1, 102, .inl (fun _ => 0))) :: (z173, .inl (cy 1, 5, .inl (fun _ => 0))) :: (z172, .inl (cy 0, 800, .inl (fun _ => 0))) :: (z171, .inl (cy 3, 3, .inl (fun _ => 0))) :: (z170, .inl (cy 1, 306, .inl (fun _ => 0))) :: (z169, .inl (cy 1, 102, .inl (fun _ => 0))) :: (h, .inr (8, .int 0 :: .ref z169 :: .ref z170 :: .ref z171 :: .ref z172 :: .int 0 :: .ref z173 :: .int 0 :: .int 0 :: .int 0 :: .int 0 :: .int 0 :: .int 0 :: .int (-1) :: .ref z174 :: .ref z175 :: .ref z176 :: .int 0 :: .int 0 :: .int 0 :: .ref z177 :: .ref z178 :: .ref z179 :: .ref z180 :: .ref z181 :: .ref z182 :: .ref z183 :: .null :: .null :: .null :: .int 0 :: .null :: .int 0 :: .null :: .long 0 :: .long 0 :: .long 0 :: .null :: .null :: .null :: .null :: [])) :: fr) rfl (fun M F => ?_)
  refine g_aload_n C dX8_init_130 rfl (j := 0) rfl ?_
  refine g_iconst C dX8_init_131 (v := 4) (by decide) ?_
  refine h_newa C F (t0 := 1) rfl wd170 rfl (a0 := (4, .inl (fun _ => 0))) (fun _ => rfl) (by decide) (N := 4) (by decide) (by decide) (by decide) (by decide) dX8_init_132 (fun z184 L M F => ?_)
  refine g_widen (k1 := 16) (k2 := 1659) (by decide) (by decide) ?_
  refine h_putF C F 16 rfl fk_X8_61 hnm (by intro K T N h; cases h; rfl) (by intro host T N h; cases h; exact nest_no (by decide +kernel) _ _ _ _) dX8_init_134 rfl rfl (Nat.le_of_ble_eq_true rfl) (fl2 := (z184, .inl (cy 1, 4, .inl (fun _ => 0))) :: (z183, .inl (cy 1, 8, .inl (fun _ => 0))) :: (z182, .inl (cy 1, 28, .inl (fun _ => 0))) :: (z181, .inl (cy 1, 16, .inl (fun _ => 0))) :: (z180, .inl (cy 1, 119, .inl (fun _ => 0))) :: (z179, .inl (cy 1, 136, .inl (fun _ => 0))) :: (z178, .inl (cy 1, 8, .inl (fun _ => 0))) :: (z177, .inl (cy 1, 7, .inl (fun _ => 0))) :: (z176, .inl (cy 1, 8, .inl (fun _ => 0))) :: (z175, .inl (cy 1, 7, .inl (fun _ => 0))) :: (z174, .inl (cy 1, 102, .inl (fun _ => 0))) :: (z173, .inl (cy 1, 5, .inl (fun _ => 0))) :: (z172, .inl (cy 0, 800, .inl (fun _ => 0))) :: (z171, .inl (cy 3, 3, .inl (fun _ => 0))) :: (z170, .inl (cy 1, 306, .inl (fun _ => 0))) :: (z169, .inl (cy 1, 102, .inl (fun _ => 0))) :: (h, .inr (8, .int 0 :: .ref z169 :: .ref z170 :: .ref z171 :: .ref z172 :: .int 0 :: .ref z173 :: .int 0 :: .int 0 :: .int 0 :: .int 0 :: .int 0 :: .int 0 :: .int (-1) :: .ref z174 :: .ref z175 :: .ref z176 :: .int 0 :: .int 0 :: .int 0 :: .ref z177 :: .ref z178 :: .ref z179 :: .ref z180 :: .ref z181 :: .ref z182 :: .ref z183 :: .ref z184 :: .null :: .null :: .int 0 :: .null :: .int 0 :: .null :: .long 0 :: .long 0 :: .long 0 :: .null :: .null :: .null :: .null :: [])) :: fr) rfl (fun M F => ?_)
  refine g_aload_n C dX8_init_137 rfl (j := 0) rfl ?_
  refine g_iconst C dX8_init_138 (v := 4) (by decide) ?_
  refine h_newa C F (t0 := 1) rfl wd170 rfl (a0 := (4, .inl (fun _ => 0))) (fun _ => rfl) (by decide) (N := 4) (by decide) (by decide) (by decide) (by decide) dX8_init_139 (fun z185 L M F => ?_)
  refine g_widen (k1 := 17) (k2 := 1663) (by decide) (by decide) ?_
  refine h_putF C F 17 rfl fk_X8_64 hnm (by intro K T N h; cases h; rfl) (by intro host T N h; cases h; exact nest_no (by decide +kernel) _ _ _ _) dX8_init_141 rfl rfl (Nat.le_of_ble_eq_true rfl) (fl2 := (z185, .inl (cy 1, 4, .inl (fun _ => 0))) :: (z184, .inl (cy 1, 4, .inl (fun _ => 0))) :: (z183, .inl (cy 1, 8, .inl (fun _ => 0))) :: (z182, .inl (cy 1, 28, .inl (fun _ => 0))) :: (z181, .inl (cy 1, 16, .inl (fun _ => 0))) :: (z180, .inl (cy 1, 119, .inl (fun _ => 0))) :: (z179, .inl (cy 1, 136, .inl (fun _ => 0))) :: (z178, .inl (cy 1, 8, .inl (fun _ => 0))) :: (z177, .inl (cy 1, 7, .inl (fun _ => 0))) :: (z176, .inl (cy 1, 8, .inl (fun _ => 0))) :: (z175, .inl (cy 1, 7, .inl (fun _ => 0))) :: (z174, .inl (cy 1, 102, .inl (fun _ => 0))) :: (z173, .inl (cy 1, 5, .inl (fun _ => 0))) :: (z172, .inl (cy 0, 800, .inl (fun _ => 0))) :: (z171, .inl (cy 3, 3, .inl (fun _ => 0))) :: (z170, .inl (cy 1, 306, .inl (fun _ => 0))) :: (z169, .inl (cy 1, 102, .inl (fun _ => 0))) :: (h, .inr (8, .int 0 :: .ref z169 :: .ref z170 :: .ref z171 :: .ref z172 :: .int 0 :: .ref z173 :: .int 0 :: .int 0 :: .int 0 :: .int 0 :: .int 0 :: .int 0 :: .int (-1) :: .ref z174 :: .ref z175 :: .ref z176 :: .int 0 :: .int 0 :: .int 0 :: .ref z177 :: .ref z178 :: .ref z179 :: .ref z180 :: .ref z181 :: .ref z182 :: .ref z183 :: .ref z184 :: .ref z185 :: .null :: .int 0 :: .null :: .int 0 :: .null :: .long 0 :: .long 0 :: .long 0 :: .null :: .null :: .null :: .null :: [])) :: fr) rfl (fun M F => ?_)
  refine g_aload_n C dX8_init_144 rfl (j := 0) rfl ?_
  refine g_bipush C dX8_init_145 (v := 7) (by decide) ?_
  refine h_newa C F (t0 := 1) rfl wd170 rfl (a0 := (7, .inl (fun _ => 0))) (fun _ => rfl) (by decide) (N := 7) (by decide) (by decide) (by decide) (by decide) dX8_init_147 (fun z186 L M F => ?_)
  refine g_widen (k1 := 18) (k2 := 1670) (by decide) (by decide) ?_
  refine h_putF C F 18 rfl fk_X8_67 hnm (by intro K T N h; cases h; rfl) (by intro host T N h; cases h; exact nest_no (by decide +kernel) _ _ _ _) dX8_init_149 rfl rfl (Nat.le_of_ble_eq_true rfl) (fl2 := (z186, .inl (cy 1, 7, .inl (fun _ => 0))) :: (z185, .inl (cy 1, 4, .inl (fun _ => 0))) :: (z184, .inl (cy 1, 4, .inl (fun _ => 0))) :: (z183, .inl (cy 1, 8, .inl (fun _ => 0))) :: (z182, .inl (cy 1, 28, .inl (fun _ => 0))) :: (z181, .inl (cy 1, 16, .inl (fun _ => 0))) :: (z180, .inl (cy 1, 119, .inl (fun _ => 0))) :: (z179, .inl (cy 1, 136, .inl (fun _ => 0))) :: (z178, .inl (cy 1, 8, .inl (fun _ => 0))) :: (z177, .inl (cy 1, 7, .inl (fun _ => 0))) :: (z176, .inl (cy 1, 8, .inl (fun _ => 0))) :: (z175, .inl (cy 1, 7, .inl (fun _ => 0))) :: (z174, .inl (cy 1, 102, .inl (fun _ => 0))) :: (z173, .inl (cy 1, 5, .inl (fun _ => 0))) :: (z172, .inl (cy 0, 800, .inl (fun _ => 0))) :: (z171, .inl (cy 3, 3, .inl (fun _ => 0))) :: (z170, .inl (cy 1, 306, .inl (fun _ => 0))) :: (z169, .inl (cy 1, 102, .inl (fun _ => 0))) :: (h, .inr (8, .int 0 :: .ref z169 :: .ref z170 :: .ref z171 :: .ref z172 :: .int 0 :: .ref z173 :: .int 0 :: .int 0 :: .int 0 :: .int 0 :: .int 0 :: .int 0 :: .int (-1) :: .ref z174 :: .ref z175 :: .ref z176 :: .int 0 :: .int 0 :: .int 0 :: .ref z177 :: .ref z178 :: .ref z179 :: .ref z180 :: .ref z181 :: .ref z182 :: .ref z183 :: .ref z184 :: .ref z185 :: .ref z186 :: .int 0 :: .null :: .int 0 :: .null :: .long 0 :: .long 0 :: .long 0 :: .null :: .null :: .null :: .null :: [])) :: fr) rfl (fun M F => ?_)
  refine g_aload_n C dX8_init_152 rfl (j := 0) rfl ?_
  refine g_sipush C dX8_init_153 (v := 544) (by decide) ?_
  refine h_newa C F (t0 := 1) rfl wd170 rfl (a0 := (544, .inl (fun _ => 0))) (fun _ => rfl) (by decide) (N := 544) (by decide) (by decide) (by decide) (by decide) dX8_init_156 (fun z187 L M F => ?_)
  refine g_widen (k1 := 19) (k2 := 2214) (by decide) (by decide) ?_
  refine h_putF C F 19 rfl fk_X8_70 hnm (by intro K T N h; cases h; rfl) (by intro host T N h; cases h; exact nest_no (by decide +kernel) _ _ _ _) dX8_init_158 rfl rfl (Nat.le_of_ble_eq_true rfl) (fl2 := (z187, .inl (cy 1, 544, .inl (fun _ => 0))) :: (z186, .inl (cy 1, 7, .inl (fun _ => 0))) :: (z185, .inl (cy 1, 4, .inl (fun _ => 0))) :: (z184, .inl (cy 1, 4, .inl (fun _ => 0))) :: (z183, .inl (cy 1, 8, .inl (fun _ => 0))) :: (z182, .inl (cy 1, 28, .inl (fun _ => 0))) :: (z181, .inl (cy 1, 16, .inl (fun _ => 0))) :: (z180, .inl (cy 1, 119, .inl (fun _ => 0))) :: (z179, .inl (cy 1, 136, .inl (fun _ => 0))) :: (z178, .inl (cy 1, 8, .inl (fun _ => 0))) :: (z177, .inl (cy 1, 7, .inl (fun _ => 0))) :: (z176, .inl (cy 1, 8, .inl (fun _ => 0))) :: (z175, .inl (cy 1, 7, .inl (fun _ => 0))) :: (z174, .inl (cy 1, 102, .inl (fun _ => 0))) :: (z173, .inl (cy 1, 5, .inl (fun _ => 0))) :: (z172, .inl (cy 0, 800, .inl (fun _ => 0))) :: (z171, .inl (cy 3, 3, .inl (fun _ => 0))) :: (z170, .inl (cy 1, 306, .inl (fun _ => 0))) :: (z169, .inl (cy 1, 102, .inl (fun _ => 0))) :: (h, .inr (8, .int 0 :: .ref z169 :: .ref z170 :: .ref z171 :: .ref z172 :: .int 0 :: .ref z173 :: .int 0 :: .int 0 :: .int 0 :: .int 0 :: .int 0 :: .int 0 :: .int (-1) :: .ref z174 :: .ref z175 :: .ref z176 :: .int 0 :: .int 0 :: .int 0 :: .ref z177 :: .ref z178 :: .ref z179 :: .ref z180 :: .ref z181 :: .ref z182 :: .ref z183 :: .ref z184 :: .ref z185 :: .ref z186 :: .int 0 :: .ref z187 :: .int 0 :: .null :: .long 0 :: .long 0 :: .long 0 :: .null :: .null :: .null :: .null :: [])) :: fr) rfl (fun M F => ?_)
  refine g_aload_n C dX8_init_161 rfl (j := 0) rfl ?_
  refine g_sipush C dX8_init_162 (v := 128) (by decide) ?_
  refine h_newa C F (t0 := 1) rfl wd170 rfl (a0 := (128, .inl (fun _ => 0))) (fun _ => rfl) (by decide) (N := 128) (by decide) (by decide) (by decide) (by decide) dX8_init_165 (fun z188 L M F => ?_)
  refine g_widen (k1 := 20) (k2 := 2342) (by decide) (by decide) ?_
  refine h_putF C F 20 rfl fk_X8_73 hnm (by intro K T N h; cases h; rfl) (by intro host T N h; cases h; exact nest_no (by decide +kernel) _ _ _ _) dX8_init_167 rfl rfl (Nat.le_of_ble_eq_true rfl) (fl2 := (z188, .inl (cy 1, 128, .inl (fun _ => 0))) :: (z187, .inl (cy 1, 544, .inl (fun _ => 0))) :: (z186, .inl (cy 1, 7, .inl (fun _ => 0))) :: (z185, .inl (cy 1, 4, .inl (fun _ => 0))) :: (z184, .inl (cy 1, 4, .inl (fun _ => 0))) :: (z183, .inl (cy 1, 8, .inl (fun _ => 0))) :: (z182, .inl (cy 1, 28, .inl (fun _ => 0))) :: (z181, .inl (cy 1, 16, .inl (fun _ => 0))) :: (z180, .inl (cy 1, 119, .inl (fun _ => 0))) :: (z179, .inl (cy 1, 136, .inl (fun _ => 0))) :: (z178, .inl (cy 1, 8, .inl (fun _ => 0))) :: (z177, .inl (cy 1, 7, .inl (fun _ => 0))) :: (z176, .inl (cy 1, 8, .inl (fun _ => 0))) :: (z175, .inl (cy 1, 7, .inl (fun _ => 0))) :: (z174, .inl (cy 1, 102, .inl (fun _ => 0))) :: (z173, .inl (cy 1, 5, .inl (fun _ => 0))) :: (z172, .inl (cy 0, 800, .inl (fun _ => 0))) :: (z171, .inl (cy 3, 3, .inl (fun _ => 0))) :: (z170, .inl (cy 1, 306, .inl (fun _ => 0))) :: (z169, .inl (cy 1, 102, .inl (fun _ => 0))) :: (h, .inr (8, .int 0 :: .ref z169 :: .ref z170 :: .ref z171 :: .ref z172 :: .int 0 :: .ref z173 :: .int 0 :: .int 0 :: .int 0 :: .int 0 :: .int 0 :: .int 0 :: .int (-1) :: .ref z174 :: .ref z175 :: .ref z176 :: .int 0 :: .int 0 :: .int 0 :: .ref z177 :: .ref z178 :: .ref z179 :: .ref z180 :: .ref z181 :: .ref z182 :: .ref z183 :: .ref z184 :: .ref z185 :: .ref z186 :: .int 0 :: .ref z187 :: .int 0 :: .ref z188 :: .long 0 :: .long 0 :: .long 0 :: .null :: .null :: .null :: .null :: [])) :: fr) rfl (fun M F => ?_)
  refine g_aload_n C dX8_init_170 rfl (j := 0) rfl ?_
  refine g_iconst C dX8_init_171 (v := 4) (by decide) ?_
  refine h_newa C F (t0 := 1) rfl wd170 rfl (a0 := (4, .inl (fun _ => 0))) (fun _ => rfl) (by decide) (N := 4) (by decide) (by decide) (by decide) (by decide) dX8_init_172 (fun z189 L M F => ?_)
  refine g_widen (k1 := 21) (k2 := 2346) (by decide) (by decide) ?_
  refine g_dup C dX8_init_174 rfl ?_
  refine g_iconst C dX8_init_175 (v := 0) (by decide) ?_
  refine g_iconst C dX8_init_176 (v := -1) (by decide) ?_
  refine h_iast C F 0 rfl dX8_init_177 (vp_in_iff.mpr (by decide)) (g := (upd (fun _ => 0) ((0 : Int32).toNatClampNeg) (-1))) (rfl) (fl2 := (z189, .inl (cy 1, 4, .inl (upd (fun _ => 0) ((0 : Int32).toNatClampNeg) (-1)))) :: (z188, .inl (cy 1, 128, .inl (fun _ => 0))) :: (z187, .inl (cy 1, 544, .inl (fun _ => 0))) :: (z186, .inl (cy 1, 7, .inl (fun _ => 0))) :: (z185, .inl (cy 1, 4, .inl (fun _ => 0))) :: (z184, .inl (cy 1, 4, .inl (fun _ => 0))) :: (z183, .inl (cy 1, 8, .inl (fun _ => 0))) :: (z182, .inl (cy 1, 28, .inl (fun _ => 0))) :: (z181, .inl (cy 1, 16, .inl (fun _ => 0))) :: (z180, .inl (cy 1, 119, .inl (fun _ => 0))) :: (z179, .inl (cy 1, 136, .inl (fun _ => 0))) :: (z178, .inl (cy 1, 8, .inl (fun _ => 0))) :: (z177, .inl (cy 1, 7, .inl (fun _ => 0))) :: (z176, .inl (cy 1, 8, .inl (fun _ => 0))) :: (z175, .inl (cy 1, 7, .inl (fun _ => 0))) :: (z174, .inl (cy 1, 102, .inl (fun _ => 0))) :: (z173, .inl (cy 1, 5, .inl (fun _ => 0))) :: (z172, .inl (cy 0, 800, .inl (fun _ => 0))) :: (z171, .inl (cy 3, 3, .inl (fun _ => 0))) :: (z170, .inl (cy 1, 306, .inl (fun _ => 0))) :: (z169, .inl (cy 1, 102, .inl (fun _ => 0))) :: (h, .inr (8, .int 0 :: .ref z169 :: .ref z170 :: .ref z171 :: .ref z172 :: .int 0 :: .ref z173 :: .int 0 :: .int 0 :: .int 0 :: .int 0 :: .int 0 :: .int 0 :: .int (-1) :: .ref z174 :: .ref z175 :: .ref z176 :: .int 0 :: .int 0 :: .int 0 :: .ref z177 :: .ref z178 :: .ref z179 :: .ref z180 :: .ref z181 :: .ref z182 :: .ref z183 :: .ref z184 :: .ref z185 :: .ref z186 :: .int 0 :: .ref z187 :: .int 0 :: .ref z188 :: .long 0 :: .long 0 :: .long 0 :: .null :: .null :: .null :: .null :: [])) :: fr) rfl (fun M F => ?_)
  refine g_dup C dX8_init_178 rfl ?_
  refine g_iconst C dX8_init_179 (v := 1) (by decide) ?_
  refine g_iconst C dX8_init_180 (v := -1) (by decide) ?_
  refine h_iast C F 0 rfl dX8_init_181 (vp_in_iff.mpr (by decide)) (g := (upd (upd (fun _ => 0) ((0 : Int32).toNatClampNeg) (-1)) ((1 : Int32).toNatClampNeg) (-1))) (rfl) (fl2 := (z189, .inl (cy 1, 4, .inl (upd (upd (fun _ => 0) ((0 : Int32).toNatClampNeg) (-1)) ((1 : Int32).toNatClampNeg) (-1)))) :: (z188, .inl (cy 1, 128, .inl (fun _ => 0))) :: (z187, .inl (cy 1, 544, .inl (fun _ => 0))) :: (z186, .inl (cy 1, 7, .inl (fun _ => 0))) :: (z185, .inl (cy 1, 4, .inl (fun _ => 0))) :: (z184, .inl (cy 1, 4, .inl (fun _ => 0))) :: (z183, .inl (cy 1, 8, .inl (fun _ => 0))) :: (z182, .inl (cy 1, 28, .inl (fun _ => 0))) :: (z181, .inl (cy 1, 16, .inl (fun _ => 0))) :: (z180, .inl (cy 1, 119, .inl (fun _ => 0))) :: (z179, .inl (cy 1, 136, .inl (fun _ => 0))) :: (z178, .inl (cy 1, 8, .inl (fun _ => 0))) :: (z177, .inl (cy 1, 7, .inl (fun _ => 0))) :: (z176, .inl (cy 1, 8, .inl (fun _ => 0))) :: (z175, .inl (cy 1, 7, .inl (fun _ => 0))) :: (z174, .inl (cy 1, 102, .inl (fun _ => 0))) :: (z173, .inl (cy 1, 5, .inl (fun _ => 0))) :: (z172, .inl (cy 0, 800, .inl (fun _ => 0))) :: (z171, .inl (cy 3, 3, .inl (fun _ => 0))) :: (z170, .inl (cy 1, 306, .inl (fun _ => 0))) :: (z169, .inl (cy 1, 102, .inl (fun _ => 0))) :: (h, .inr (8, .int 0 :: .ref z169 :: .ref z170 :: .ref z171 :: .ref z172 :: .int 0 :: .ref z173 :: .int 0 :: .int 0 :: .int 0 :: .int 0 :: .int 0 :: .int 0 :: .int (-1) :: .ref z174 :: .ref z175 :: .ref z176 :: .int 0 :: .int 0 :: .int 0 :: .ref z177 :: .ref z178 :: .ref z179 :: .ref z180 :: .ref z181 :: .ref z182 :: .ref z183 :: .ref z184 :: .ref z185 :: .ref z186 :: .int 0 :: .ref z187 :: .int 0 :: .ref z188 :: .long 0 :: .long 0 :: .long 0 :: .null :: .null :: .null :: .null :: [])) :: fr) rfl (fun M F => ?_)
  refine g_dup C dX8_init_182 rfl ?_
  refine g_iconst C dX8_init_183 (v := 2) (by decide) ?_
  refine g_iconst C dX8_init_184 (v := -1) (by decide) ?_
  refine h_iast C F 0 rfl dX8_init_185 (vp_in_iff.mpr (by decide)) (g := (upd (upd (upd (fun _ => 0) ((0 : Int32).toNatClampNeg) (-1)) ((1 : Int32).toNatClampNeg) (-1)) ((2 : Int32).toNatClampNeg) (-1))) (rfl) (fl2 := (z189, .inl (cy 1, 4, .inl (upd (upd (upd (fun _ => 0) ((0 : Int32).toNatClampNeg) (-1)) ((1 : Int32).toNatClampNeg) (-1)) ((2 : Int32).toNatClampNeg) (-1)))) :: (z188, .inl (cy 1, 128, .inl (fun _ => 0))) :: (z187, .inl (cy 1, 544, .inl (fun _ => 0))) :: (z186, .inl (cy 1, 7, .inl (fun _ => 0))) :: (z185, .inl (cy 1, 4, .inl (fun _ => 0))) :: (z184, .inl (cy 1, 4, .inl (fun _ => 0))) :: (z183, .inl (cy 1, 8, .inl (fun _ => 0))) :: (z182, .inl (cy 1, 28, .inl (fun _ => 0))) :: (z181, .inl (cy 1, 16, .inl (fun _ => 0))) :: (z180, .inl (cy 1, 119, .inl (fun _ => 0))) :: (z179, .inl (cy 1, 136, .inl (fun _ => 0))) :: (z178, .inl (cy 1, 8, .inl (fun _ => 0))) :: (z177, .inl (cy 1, 7, .inl (fun _ => 0))) :: (z176, .inl (cy 1, 8, .inl (fun _ => 0))) :: (z175, .inl (cy 1, 7, .inl (fun _ => 0))) :: (z174, .inl (cy 1, 102, .inl (fun _ => 0))) :: (z173, .inl (cy 1, 5, .inl (fun _ => 0))) :: (z172, .inl (cy 0, 800, .inl (fun _ => 0))) :: (z171, .inl (cy 3, 3, .inl (fun _ => 0))) :: (z170, .inl (cy 1, 306, .inl (fun _ => 0))) :: (z169, .inl (cy 1, 102, .inl (fun _ => 0))) :: (h, .inr (8, .int 0 :: .ref z169 :: .ref z170 :: .ref z171 :: .ref z172 :: .int 0 :: .ref z173 :: .int 0 :: .int 0 :: .int 0 :: .int 0 :: .int 0 :: .int 0 :: .int (-1) :: .ref z174 :: .ref z175 :: .ref z176 :: .int 0 :: .int 0 :: .int 0 :: .ref z177 :: .ref z178 :: .ref z179 :: .ref z180 :: .ref z181 :: .ref z182 :: .ref z183 :: .ref z184 :: .ref z185 :: .ref z186 :: .int 0 :: .ref z187 :: .int 0 :: .ref z188 :: .long 0 :: .long 0 :: .long 0 :: .null :: .null :: .null :: .null :: [])) :: fr) rfl (fun M F => ?_)
  refine g_dup C dX8_init_186 rfl ?_
  refine g_iconst C dX8_init_187 (v := 3) (by decide) ?_
  refine g_iconst C dX8_init_188 (v := -1) (by decide) ?_
  refine h_iast C F 0 rfl dX8_init_189 (vp_in_iff.mpr (by decide)) (g := (upd (upd (upd (upd (fun _ => 0) ((0 : Int32).toNatClampNeg) (-1)) ((1 : Int32).toNatClampNeg) (-1)) ((2 : Int32).toNatClampNeg) (-1)) ((3 : Int32).toNatClampNeg) (-1))) (rfl) (fl2 := (z189, .inl (cy 1, 4, .inl (upd (upd (upd (upd (fun _ => 0) ((0 : Int32).toNatClampNeg) (-1)) ((1 : Int32).toNatClampNeg) (-1)) ((2 : Int32).toNatClampNeg) (-1)) ((3 : Int32).toNatClampNeg) (-1)))) :: (z188, .inl (cy 1, 128, .inl (fun _ => 0))) :: (z187, .inl (cy 1, 544, .inl (fun _ => 0))) :: (z186, .inl (cy 1, 7, .inl (fun _ => 0))) :: (z185, .inl (cy 1, 4, .inl (fun _ => 0))) :: (z184, .inl (cy 1, 4, .inl (fun _ => 0))) :: (z183, .inl (cy 1, 8, .inl (fun _ => 0))) :: (z182, .inl (cy 1, 28, .inl (fun _ => 0))) :: (z181, .inl (cy 1, 16, .inl (fun _ => 0))) :: (z180, .inl (cy 1, 119, .inl (fun _ => 0))) :: (z179, .inl (cy 1, 136, .inl (fun _ => 0))) :: (z178, .inl (cy 1, 8, .inl (fun _ => 0))) :: (z177, .inl (cy 1, 7, .inl (fun _ => 0))) :: (z176, .inl (cy 1, 8, .inl (fun _ => 0))) :: (z175, .inl (cy 1, 7, .inl (fun _ => 0))) :: (z174, .inl (cy 1, 102, .inl (fun _ => 0))) :: (z173, .inl (cy 1, 5, .inl (fun _ => 0))) :: (z172, .inl (cy 0, 800, .inl (fun _ => 0))) :: (z171, .inl (cy 3, 3, .inl (fun _ => 0))) :: (z170, .inl (cy 1, 306, .inl (fun _ => 0))) :: (z169, .inl (cy 1, 102, .inl (fun _ => 0))) :: (h, .inr (8, .int 0 :: .ref z169 :: .ref z170 :: .ref z171 :: .ref z172 :: .int 0 :: .ref z173 :: .int 0 :: .int 0 :: .int 0 :: .int 0 :: .int 0 :: .int 0 :: .int (-1) :: .ref z174 :: .ref z175 :: .ref z176 :: .int 0 :: .int 0 :: .int 0 :: .ref z177 :: .ref z178 :: .ref z179 :: .ref z180 :: .ref z181 :: .ref z182 :: .ref z183 :: .ref z184 :: .ref z185 :: .ref z186 :: .int 0 :: .ref z187 :: .int 0 :: .ref z188 :: .long 0 :: .long 0 :: .long 0 :: .null :: .null :: .null :: .null :: [])) :: fr) rfl (fun M F => ?_)
  refine h_putF C F 21 rfl fk_X8_76 hnm (by intro K T N h; cases h; rfl) (by intro host T N h; cases h; exact nest_no (by decide +kernel) _ _ _ _) dX8_init_190 rfl rfl (Nat.le_of_ble_eq_true rfl) (fl2 := (z189, .inl (cy 1, 4, .inl (upd (upd (upd (upd (fun _ => 0) ((0 : Int32).toNatClampNeg) (-1)) ((1 : Int32).toNatClampNeg) (-1)) ((2 : Int32).toNatClampNeg) (-1)) ((3 : Int32).toNatClampNeg) (-1)))) :: (z188, .inl (cy 1, 128, .inl (fun _ => 0))) :: (z187, .inl (cy 1, 544, .inl (fun _ => 0))) :: (z186, .inl (cy 1, 7, .inl (fun _ => 0))) :: (z185, .inl (cy 1, 4, .inl (fun _ => 0))) :: (z184, .inl (cy 1, 4, .inl (fun _ => 0))) :: (z183, .inl (cy 1, 8, .inl (fun _ => 0))) :: (z182, .inl (cy 1, 28, .inl (fun _ => 0))) :: (z181, .inl (cy 1, 16, .inl (fun _ => 0))) :: (z180, .inl (cy 1, 119, .inl (fun _ => 0))) :: (z179, .inl (cy 1, 136, .inl (fun _ => 0))) :: (z178, .inl (cy 1, 8, .inl (fun _ => 0))) :: (z177, .inl (cy 1, 7, .inl (fun _ => 0))) :: (z176, .inl (cy 1, 8, .inl (fun _ => 0))) :: (z175, .inl (cy 1, 7, .inl (fun _ => 0))) :: (z174, .inl (cy 1, 102, .inl (fun _ => 0))) :: (z173, .inl (cy 1, 5, .inl (fun _ => 0))) :: (z172, .inl (cy 0, 800, .inl (fun _ => 0))) :: (z171, .inl (cy 3, 3, .inl (fun _ => 0))) :: (z170, .inl (cy 1, 306, .inl (fun _ => 0))) :: (z169, .inl (cy 1, 102, .inl (fun _ => 0))) :: (h, .inr (8, .int 0 :: .ref z169 :: .ref z170 :: .ref z171 :: .ref z172 :: .int 0 :: .ref z173 :: .int 0 :: .int 0 :: .int 0 :: .int 0 :: .int 0 :: .int 0 :: .int (-1) :: .ref z174 :: .ref z175 :: .ref z176 :: .int 0 :: .int 0 :: .int 0 :: .ref z177 :: .ref z178 :: .ref z179 :: .ref z180 :: .ref z181 :: .ref z182 :: .ref z183 :: .ref z184 :: .ref z185 :: .ref z186 :: .int 0 :: .ref z187 :: .int 0 :: .ref z188 :: .long 0 :: .long 0 :: .long 0 :: .ref z189 :: .null :: .null :: .null :: [])) :: fr) rfl (fun M F => ?_)
  refine g_aload_n C dX8_init_193 rfl (j := 0) rfl ?_
  refine g_iconst C dX8_init_194 (v := 4) (by decide) ?_
  refine h_newa C F (t0 := 1) rfl wd170 rfl (a0 := (4, .inl (fun _ => 0))) (fun _ => rfl) (by decide) (N := 4) (by decide) (by decide) (by decide) (by decide) dX8_init_195 (fun z190 L M F => ?_)
  refine g_widen (k1 := 22) (k2 := 2350) (by decide) (by decide) ?_
  refine h_putF C F 22 rfl fk_X8_79 hnm (by intro K T N h; cases h; rfl) (by intro host T N h; cases h; exact nest_no (by decide +kernel) _ _ _ _) dX8_init_197 rfl rfl (Nat.le_of_ble_eq_true rfl) (fl2 := (z190, .inl (cy 1, 4, .inl (fun _ => 0))) :: (z189, .inl (cy 1, 4, .inl (upd (upd (upd (upd (fun _ => 0) ((0 : Int32).toNatClampNeg) (-1)) ((1 : Int32).toNatClampNeg) (-1)) ((2 : Int32).toNatClampNeg) (-1)) ((3 : Int32).toNatClampNeg) (-1)))) :: (z188, .inl (cy 1, 128, .inl (fun _ => 0))) :: (z187, .inl (cy 1, 544, .inl (fun _ => 0))) :: (z186, .inl (cy 1, 7, .inl (fun _ => 0))) :: (z185, .inl (cy 1, 4, .inl (fun _ => 0))) :: (z184, .inl (cy 1, 4, .inl (fun _ => 0))) :: (z183, .inl (cy 1, 8, .inl (fun _ => 0))) :: (z182, .inl (cy 1, 28, .inl (fun _ => 0))) :: (z181, .inl (cy 1, 16, .inl (fun _ => 0))) :: (z180, .inl (cy 1, 119, .inl (fun _ => 0))) :: (z179, .inl (cy 1, 136, .inl (fun _ => 0))) :: (z178, .inl (cy 1, 8, .inl (fun _ => 0))) :: (z177, .inl (cy 1, 7, .inl (fun _ => 0))) :: (z176, .inl (cy 1, 8, .inl (fun _ => 0))) :: (z175, .inl (cy 1, 7, .inl (fun _ => 0))) :: (z174, .inl (cy 1, 102, .inl (fun _ => 0))) :: (z173, .inl (cy 1, 5, .inl (fun _ => 0))) :: (z172, .inl (cy 0, 800, .inl (fun _ => 0))) :: (z171, .inl (cy 3, 3, .inl (fun _ => 0))) :: (z170, .inl (cy 1, 306, .inl (fun _ => 0))) :: (z169, .inl (cy 1, 102, .inl (fun _ => 0))) :: (h, .inr (8, .int 0 :: .ref z169 :: .ref z170 :: .ref z171 :: .ref z172 :: .int 0 :: .ref z173 :: .int 0 :: .int 0 :: .int 0 :: .int 0 :: .int 0 :: .int 0 :: .int (-1) :: .ref z174 :: .ref z175 :: .ref z176 :: .int 0 :: .int 0 :: .int 0 :: .ref z177 :: .ref z178 :: .ref z179 :: .ref z180 :: .ref z181 :: .ref z182 :: .ref z183 :: .ref z184 :: .ref z185 :: .ref z186 :: .int 0 :: .ref z187 :: .int 0 :: .ref z188 :: .long 0 :: .long 0 :: .long 0 :: .ref z189 :: .ref z190 :: .null :: .null :: [])) :: fr) rfl (fun M F => ?_)
  refine g_aload_n C dX8_init_200 rfl (j := 0) rfl ?_
  refine g_sipush C dX8_init_201 (v := 240) (by decide) ?_
  refine h_newa C F (t0 := 2) rfl wd206 rfl (a0 := (240, .inr (.inl (fun _ => 0)))) (fun _ => rfl) (by decide) (N := 240) (by decide) (by decide) (by decide) (by decide) dX8_init_204 (fun z191 L M F => ?_)
  refine g_widen (k1 := 23) (k2 := 2590) (by decide) (by decide) ?_
  refine h_putF C F 23 rfl fk_X8_82 hnm (by intro K T N h; cases h; rfl) (by intro host T N h; cases h; exact nest_no (by decide +kernel) _ _ _ _) dX8_init_206 rfl rfl (Nat.le_of_ble_eq_true rfl) (fl2 := (z191, .inl (cy 2, 240, .inr (.inl (fun _ => 0)))) :: (z190, .inl (cy 1, 4, .inl (fun _ => 0))) :: (z189, .inl (cy 1, 4, .inl (upd (upd (upd (upd (fun _ => 0) ((0 : Int32).toNatClampNeg) (-1)) ((1 : Int32).toNatClampNeg) (-1)) ((2 : Int32).toNatClampNeg) (-1)) ((3 : Int32).toNatClampNeg) (-1)))) :: (z188, .inl (cy 1, 128, .inl (fun _ => 0))) :: (z187, .inl (cy 1, 544, .inl (fun _ => 0))) :: (z186, .inl (cy 1, 7, .inl (fun _ => 0))) :: (z185, .inl (cy 1, 4, .inl (fun _ => 0))) :: (z184, .inl (cy 1, 4, .inl (fun _ => 0))) :: (z183, .inl (cy 1, 8, .inl (fun _ => 0))) :: (z182, .inl (cy 1, 28, .inl (fun _ => 0))) :: (z181, .inl (cy 1, 16, .inl (fun _ => 0))) :: (z180, .inl (cy 1, 119, .inl (fun _ => 0))) :: (z179, .inl (cy 1, 136, .inl (fun _ => 0))) :: (z178, .inl (cy 1, 8, .inl (fun _ => 0))) :: (z177, .inl (cy 1, 7, .inl (fun _ => 0))) :: (z176, .inl (cy 1, 8, .inl (fun _ => 0))) :: (z175, .inl (cy 1, 7, .inl (fun _ => 0))) :: (z174, .inl (cy 1, 102, .inl (fun _ => 0))) :: (z173, .inl (cy 1, 5, .inl (fun _ => 0))) :: (z172, .inl (cy 0, 800, .inl (fun _ => 0))) :: (z171, .inl (cy 3, 3, .inl (fun _ => 0))) :: (z170, .inl (cy 1, 306, .inl (fun _ => 0))) :: (z169, .inl (cy 1, 102, .inl (fun _ => 0))) :: (h, .inr (8, .int 0 :: .ref z169 :: .ref z170 :: .ref z171 :: .ref z172 :: .int 0 :: .ref z173 :: .int 0 :: .int 0 :: .int 0 :: .int 0 :: .int 0 :: .int 0 :: .int (-1) :: .ref z174 :: .ref z175 :: .ref z176 :: .int 0 :: .int 0 :: .int 0 :: .ref z177 :: .ref z178 :: .ref z179 :: .ref z180 :: .ref z181 :: .ref z182 :: .ref z183 :: .ref z184 :: .ref z185 :: .ref z186 :: .int 0 :: .ref z187 :: .int 0 :: .ref z188 :: .long 0 :: .long 0 :: .long 0 :: .ref z189 :: .ref z190 :: .ref z191 :: .null :: [])) :: fr) rfl (fun M F => ?_)
  refine g_aload_n C dX8_init_209 rfl (j := 0) rfl ?_
  refine g_bipush C dX8_init_210 (v := 60) (by decide) ?_
  refine h_newa C F (t0 := 2) rfl wd206 rfl (a0 := (60, .inr (.inl (fun _ => 0)))) (fun _ => rfl) (by decide) (N := 60) (by decide) (by decide) (by decide) (by decide) dX8_init_212 (fun z192 L M F => ?_)
  refine g_widen (k1 := 24) (k2 := 2650) (by decide) (by decide) ?_
  refine h_putF C F 24 rfl fk_X8_86 hnm (by intro K T N h; cases h; rfl) (by intro host T N h; cases h; exact nest_no (by decide +kernel) _ _ _ _) dX8_init_214 rfl rfl (Nat.le_of_ble_eq_true rfl) (fl2 := (z192, .inl (cy 2, 60, .inr (.inl (fun _ => 0)))) :: (z191, .inl (cy 2, 240, .inr (.inl (fun _ => 0)))) :: (z190, .inl (cy 1, 4, .inl (fun _ => 0))) :: (z189, .inl (cy 1, 4, .inl (upd (upd (upd (upd (fun _ => 0) ((0 : Int32).toNatClampNeg) (-1)) ((1 : Int32).toNatClampNeg) (-1)) ((2 : Int32).toNatClampNeg) (-1)) ((3 : Int32).toNatClampNeg) (-1)))) :: (z188, .inl (cy 1, 128, .inl (fun _ => 0))) :: (z187, .inl (cy 1, 544, .inl (fun _ => 0))) :: (z186, .inl (cy 1, 7, .inl (fun _ => 0))) :: (z185, .inl (cy 1, 4, .inl (fun _ => 0))) :: (z184, .inl (cy 1, 4, .inl (fun _ => 0))) :: (z183, .inl (cy 1, 8, .inl (fun _ => 0))) :: (z182, .inl (cy 1, 28, .inl (fun _ => 0))) :: (z181, .inl (cy 1, 16, .inl (fun _ => 0))) :: (z180, .inl (cy 1, 119, .inl (fun _ => 0))) :: (z179, .inl (cy 1, 136, .inl (fun _ => 0))) :: (z178, .inl (cy 1, 8, .inl (fun _ => 0))) :: (z177, .inl (cy 1, 7, .inl (fun _ => 0))) :: (z176, .inl (cy 1, 8, .inl (fun _ => 0))) :: (z175, .inl (cy 1, 7, .inl (fun _ => 0))) :: (z174, .inl (cy 1, 102, .inl (fun _ => 0))) :: (z173, .inl (cy 1, 5, .inl (fun _ => 0))) :: (z172, .inl (cy 0, 800, .inl (fun _ => 0))) :: (z171, .inl (cy 3, 3, .inl (fun _ => 0))) :: (z170, .inl (cy 1, 306, .inl (fun _ => 0))) :: (z169, .inl (cy 1, 102, .inl (fun _ => 0))) :: (h, .inr (8, .int 0 :: .ref z169 :: .ref z170 :: .ref z171 :: .ref z172 :: .int 0 :: .ref z173 :: .int 0 :: .int 0 :: .int 0 :: .int 0 :: .int 0 :: .int 0 :: .int (-1) :: .ref z174 :: .ref z175 :: .ref z176 :: .int 0 :: .int 0 :: .int 0 :: .ref z177 :: .ref z178 :: .ref z179 :: .ref z180 :: .ref z181 :: .ref z182 :: .ref z183 :: .ref z184 :: .ref z185 :: .ref z186 :: .int 0 :: .ref z187 :: .int 0 :: .ref z188 :: .long 0 :: .long 0 :: .long 0 :: .ref z189 :: .ref z190 :: .ref z191 :: .ref z192 :: [])) :: fr) rfl (fun M F => ?_)
  exact g_vret C hrt dX8_init_217 (by decide) (by decide) ⟨fun k => ([h, z169, z170, z171, z172, 0, z173, 0, 0, 0, 0, 0, 0, 0, z174, z175, z176, 0, 0, 0, z177, z178, z179, z180, z181, z182, z183, z184, z185, z186, 0, z187, 0, z188, 0, 0, 0, z189, z190, z191, z192] : List Nat).getD k 0, rfl, FW.selR (x := (z192, .inl (cy 2, 60, .inr (.inl (fun _ => 0)))) :: (z191, .inl (cy 2, 240, .inr (.inl (fun _ => 0)))) :: (z190, .inl (cy 1, 4, .inl (fun _ => 0))) :: (z189, .inl (cy 1, 4, .inl (upd (upd (upd (upd (fun _ => 0) ((0 : Int32).toNatClampNeg) (-1)) ((1 : Int32).toNatClampNeg) (-1)) ((2 : Int32).toNatClampNeg) (-1)) ((3 : Int32).toNatClampNeg) (-1)))) :: (z188, .inl (cy 1, 128, .inl (fun _ => 0))) :: (z187, .inl (cy 1, 544, .inl (fun _ => 0))) :: (z186, .inl (cy 1, 7, .inl (fun _ => 0))) :: (z185, .inl (cy 1, 4, .inl (fun _ => 0))) :: (z184, .inl (cy 1, 4, .inl (fun _ => 0))) :: (z183, .inl (cy 1, 8, .inl (fun _ => 0))) :: (z182, .inl (cy 1, 28, .inl (fun _ => 0))) :: (z181, .inl (cy 1, 16, .inl (fun _ => 0))) :: (z180, .inl (cy 1, 119, .inl (fun _ => 0))) :: (z179, .inl (cy 1, 136, .inl (fun _ => 0))) :: (z178, .inl (cy 1, 8, .inl (fun _ => 0))) :: (z177, .inl (cy 1, 7, .inl (fun _ => 0))) :: (z176, .inl (cy 1, 8, .inl (fun _ => 0))) :: (z175, .inl (cy 1, 7, .inl (fun _ => 0))) :: (z174, .inl (cy 1, 102, .inl (fun _ => 0))) :: (z173, .inl (cy 1, 5, .inl (fun _ => 0))) :: (z172, .inl (cy 0, 800, .inl (fun _ => 0))) :: (z171, .inl (cy 3, 3, .inl (fun _ => 0))) :: (z170, .inl (cy 1, 306, .inl (fun _ => 0))) :: (z169, .inl (cy 1, 102, .inl (fun _ => 0))) :: (h, .inr (8, .int 0 :: .ref z169 :: .ref z170 :: .ref z171 :: .ref z172 :: .int 0 :: .ref z173 :: .int 0 :: .int 0 :: .int 0 :: .int 0 :: .int 0 :: .int 0 :: .int (-1) :: .ref z174 :: .ref z175 :: .ref z176 :: .int 0 :: .int 0 :: .int 0 :: .ref z177 :: .ref z178 :: .ref z179 :: .ref z180 :: .ref z181 :: .ref z182 :: .ref z183 :: .ref z184 :: .ref z185 :: .ref z186 :: .int 0 :: .ref z187 :: .int 0 :: .ref z188 :: .long 0 :: .long 0 :: .long 0 :: .ref z189 :: .ref z190 :: .ref z191 :: .ref z192 :: [])) :: []) F [24, 23, 22, 21, 20, 19, 18, 17, 16, 15, 14, 13, 12, 11, 10, 9, 8, 7, 6, 5, 4, 3, 2, 1, 0] (by decide) rfl⟩
set_option maxHeartbeats 4000000 in
set_option maxRecDepth 100000 in
theorem c_X8_see_s60 (l : Launch) (G : va_G) {cy : Nat → ClassId} {L : List Nat} {M : Nat → va_E} {b : Nat → Nat} {pn : Nat → Int32} {ts : Int32}  (F : FW L M (flM cy b ts pn))  : MI l G cy yX8_see cX8_see 2 (some .int) 0 0 0 [.ref (b 0), .int 0] L M (fun r L2 M2 => r = (-1) ∧ FW L2 M2 (flM cy b ts pn)) := by
  refine MI.of (own := RX8) rfl (by decide) (Nat.le_of_ble_eq_true rfl) ?_
  intro p e s m below meth c A C hrt hnm
  refine g_iload_n C dX8_see_0 rfl (j := 1) rfl ?_
  refine g_aload_n C dX8_see_1 rfl (j := 0) rfl ?_
  refine h_get C F 0 rfl fk_X8_124 dX8_see_2 rfl ?_
  refine g_icmp_ge C dX8_see_5 (tgt := 21) (by decide) (fun _ => ?_) (fun q => absurd (by decide) q)
  refine g_iconst C dX8_see_21 (v := -1) (by decide) ?_
  exact g_iret C hrt dX8_see_22 (by decide) (by decide) ⟨by decide, F⟩
set_option maxHeartbeats 4000000 in
set_option maxRecDepth 100000 in
theorem c_X8_advance_s61 (l : Launch) (G : va_G) {cy : Nat → ClassId} {L : List Nat} {M : Nat → va_E} {b : Nat → Nat} {pn : Nat → Int32} {ts : Int32}  (F : FW L M (flM cy b ts pn))  : MV l G cy yX8_advance cX8_advance 2 none 1 0 0 [.ref (b 0)] L M (fun L2 M2 => FW L2 M2 (flM cy b ts pn)) := by
  refine MV.of (own := RX8) rfl (by decide) (Nat.le_of_ble_eq_true rfl) ?_
  intro p e s m below meth c A C hrt hnm
  refine g_aload_n C dX8_advance_0 rfl (j := 0) rfl ?_
  refine g_aload_n C dX8_advance_1 rfl (j := 0) rfl ?_
  refine h_get C F 0 rfl fk_X8_127 dX8_advance_2 rfl ?_
  refine g_callVI C (c_X8_see_s60 l G F ) lk_X8_130 (F.mem 0 rfl) (F.at 0 rfl) rfl rfl dX8_advance_5 (Nat.le_of_ble_eq_true rfl) ⟨by decide, by decide⟩ ⟨by decide, by decide⟩ (fun r1 L M hp => ?_)
  obtain ⟨r1_, F⟩ := hp
  subst r1_
  refine g_bipush C dX8_advance_8 (v := 32) (by decide) ?_
  refine g_icmp_eq C dX8_advance_10 (tgt := 26) (by decide) (fun q => absurd q (by decide)) (fun _ => ?_)
  refine g_aload_n C dX8_advance_13 rfl (j := 0) rfl ?_
  refine g_aload_n C dX8_advance_14 rfl (j := 0) rfl ?_
  refine h_get C F 0 rfl fk_X8_127 dX8_advance_15 rfl ?_
  refine g_callVI C (c_X8_see_s60 l G F ) lk_X8_130 (F.mem 0 rfl) (F.at 0 rfl) rfl rfl dX8_advance_18 (Nat.le_of_ble_eq_true rfl) ⟨by decide, by decide⟩ ⟨by decide, by decide⟩ (fun r2 L M hp => ?_)
  obtain ⟨r2_, F⟩ := hp
  subst r2_
  refine g_bipush C dX8_advance_21 (v := 10) (by decide) ?_
  refine g_icmp_ne C dX8_advance_23 (tgt := 39) (by decide) (fun _ => ?_) (fun q => absurd q (by decide))
  refine g_aload_n C dX8_advance_39 rfl (j := 0) rfl ?_
  refine g_aload_n C dX8_advance_40 rfl (j := 0) rfl ?_
  refine h_get C F 0 rfl fk_X8_127 dX8_advance_41 rfl ?_
  refine h_put C F 0 rfl fk_X8_134 dX8_advance_44 rfl rfl (Nat.le_of_ble_eq_true rfl) (fl2 := flM cy b ts pn) rfl (fun M F => ?_)
  refine g_aload_n C dX8_advance_47 rfl (j := 0) rfl ?_
  refine g_aload_n C dX8_advance_48 rfl (j := 0) rfl ?_
  refine h_get C F 0 rfl fk_X8_127 dX8_advance_49 rfl ?_
  refine g_callVI C (c_X8_see_s60 l G F ) lk_X8_130 (F.mem 0 rfl) (F.at 0 rfl) rfl rfl dX8_advance_52 (Nat.le_of_ble_eq_true rfl) ⟨by decide, by decide⟩ ⟨by decide, by decide⟩ (fun r3 L M hp => ?_)
  obtain ⟨r3_, F⟩ := hp
  subst r3_
  refine g_istore_n C dX8_advance_55 rfl (by decide) (lv2 := [(1, .int (-1)), (0, .ref (b 0))]) rfl ?_
  refine g_iload_n C dX8_advance_56 rfl (j := 0) rfl ?_
  refine g_iconst C dX8_advance_57 (v := -1) (by decide) ?_
  refine g_icmp_ne C dX8_advance_58 (tgt := 69) (by decide) (fun q => absurd (by decide) q) (fun _ => ?_)
  refine g_aload_n C dX8_advance_61 rfl (j := 1) rfl ?_
  refine g_iconst C dX8_advance_62 (v := 0) (by decide) ?_
  refine h_put C F 0 rfl fk_X8_137 dX8_advance_63 rfl rfl (Nat.le_of_ble_eq_true rfl) (fl2 := flM cy b ts pn) rfl (fun M F => ?_)
  refine g_goto C dX8_advance_66 (tgt := 239) (by decide) ?_
  exact g_vret C hrt dX8_advance_239 (by decide) (by decide) F
set_option maxHeartbeats 4000000 in
set_option maxRecDepth 100000 in
theorem c_X8_good_s62 (l : Launch) (G : va_G) {cy : Nat → ClassId} {L : List Nat} {M : Nat → va_E} {b : Nat → Nat} {pn : Nat → Int32} {ts : Int32}  (F : FW L M (flM cy b ts pn))  : MI l G cy yX8_good cX8_good 1 (some .boolean) 0 0 0 [.ref (b 0)] L M (fun r L2 M2 => r = (1) ∧ FW L2 M2 (flM cy b ts pn)) := by
  refine MI.of (own := RX8) rfl (by decide) (Nat.le_of_ble_eq_true rfl) ?_
  intro p e s m below meth c A C hrt hnm
  refine g_aload_n C dX8_good_0 rfl (j := 0) rfl ?_
  refine h_get C F 0 rfl fk_X8_158 dX8_good_1 rfl ?_
  refine g_if_ne C dX8_good_4 (tgt := 11) (by decide) (fun q => absurd (by decide) q) (fun _ => ?_)
  refine g_iconst C dX8_good_7 (v := 1) (by decide) ?_
  refine g_goto C dX8_good_8 (tgt := 12) (by decide) ?_
  exact g_zret C hrt rfl dX8_good_12 (by decide) (by decide) ⟨by decide, F⟩
set_option maxHeartbeats 4000000 in
set_option maxRecDepth 100000 in
theorem c_X8_heath (l : Launch) (G : va_G) {cy : Nat → ClassId} {L : List Nat} {M : Nat → va_E} {b : Nat → Nat} {ts : Int32} {pn : Nat → Int32}  (F : FW L M (flM cy b ts pn))  : MI l G cy yX8_heath cX8_heath 2 (some .int) 2 0 0 [.ref (b 0)] L M (fun r L2 M2 => r = (0)) := by
  refine MI.of (own := RX8) rfl (by decide) (Nat.le_of_ble_eq_true rfl) ?_
  intro p e s m below meth c A C hrt hnm
  refine g_aload_n C dX8_heath_0 rfl (j := 0) rfl ?_
  refine g_aload_n C dX8_heath_1 rfl (j := 0) rfl ?_
  refine h_get C F 0 rfl fk_X8_121 dX8_heath_2 rfl ?_
  refine h_put C F 0 rfl fk_X8_124 dX8_heath_5 rfl rfl (Nat.le_of_ble_eq_true rfl) (fl2 := flM cy b ts pn) rfl (fun M F => ?_)
  refine g_aload_n C dX8_heath_8 rfl (j := 0) rfl ?_
  refine g_iconst C dX8_heath_9 (v := 0) (by decide) ?_
  refine h_put C F 0 rfl fk_X8_121 dX8_heath_10 rfl rfl (Nat.le_of_ble_eq_true rfl) (fl2 := flM cy b ts pn) rfl (fun M F => ?_)
  refine g_aload_n C dX8_heath_13 rfl (j := 0) rfl ?_
  refine g_iconst C dX8_heath_14 (v := 0) (by decide) ?_
  refine h_put C F 0 rfl fk_X8_127 dX8_heath_15 rfl rfl (Nat.le_of_ble_eq_true rfl) (fl2 := flM cy b ts pn) rfl (fun M F => ?_)
  refine g_aload_n C dX8_heath_18 rfl (j := 0) rfl ?_
  refine g_iconst C dX8_heath_19 (v := 0) (by decide) ?_
  refine h_put C F 0 rfl fk_X8_158 dX8_heath_20 rfl rfl (Nat.le_of_ble_eq_true rfl) (fl2 := flM cy b ts pn) rfl (fun M F => ?_)
  refine g_aload_n C dX8_heath_23 rfl (j := 0) rfl ?_
  refine g_iconst C dX8_heath_24 (v := -1) (by decide) ?_
  refine h_put C F 0 rfl fk_X8_27 dX8_heath_25 rfl rfl (Nat.le_of_ble_eq_true rfl) (fl2 := flM cy b ts pn) rfl (fun M F => ?_)
  refine g_iconst C dX8_heath_28 (v := 0) (by decide) ?_
  refine g_istore_n C dX8_heath_29 rfl (by decide) (lv2 := [(1, .int 0), (0, .ref (b 0))]) rfl ?_
  refine g_lv [0, 1] (lv2 := [(1, .int 0), (0, .ref (b 0))]) rfl ?_
  refine g_loop 102 (lvf := fun i30 => [(1, .int (nI i30)), (0, .ref (b 0))]) (fun i30 M F hii30 ihi30 => ?_) (fun M F => ?_) F
  · skip
    refine g_iload_n C dX8_heath_30 rfl (j := 0) rfl ?_
    refine g_bipush C dX8_heath_31 (v := 102) (by decide) ?_
    refine g_icmp_ge C dX8_heath_33 (tgt := 49) (by decide) (fun q => absurd q (nI_ge hii30 (by decide))) (fun _ => ?_)
    refine g_aload_n C dX8_heath_36 rfl (j := 1) rfl ?_
    refine h_get C F 0 rfl fk_X8_31 dX8_heath_37 rfl ?_
    refine g_iload_n C dX8_heath_40 rfl (j := 0) rfl ?_
    refine g_iconst C dX8_heath_41 (v := 0) (by decide) ?_
    refine h_iast C F 6 rfl dX8_heath_42 (vp_in_nI (by omega) (by decide)) (g := (fun _ => 0)) (upd0 _) (fl2 := flM cy b ts pn) rfl (fun M F => ?_)
    refine g_iinc C dX8_heath_43 (j := 0) rfl (v := nI (i30 + 1)) (nI_1 i30) (by decide) (lv2 := [(1, .int (nI (i30 + 1))), (0, .ref (b 0))]) rfl ?_
    refine g_goto C dX8_heath_46 (tgt := 30) (by decide) ?_
    exact ihi30 M F
  · skip
    refine g_lv [0, 1] (lv2 := [(1, .int 102), (0, .ref (b 0))]) rfl ?_
    refine g_iload_n C dX8_heath_30 rfl (j := 0) rfl ?_
    refine g_bipush C dX8_heath_31 (v := 102) (by decide) ?_
    refine g_icmp_ge C dX8_heath_33 (tgt := 49) (by decide) (fun _ => ?_) (fun q => absurd (by decide) q)
    refine g_aload_n C dX8_heath_49 rfl (j := 1) rfl ?_
    refine g_callVV C (c_X8_advance_s61 l G F ) lk_X8_177 (F.mem 0 rfl) (F.at 0 rfl) rfl rfl dX8_heath_50 (Nat.le_of_ble_eq_true rfl) ⟨by decide, by decide⟩ ⟨by decide, by decide⟩ (fun L M hp => ?_)
    have F := hp
    refine g_aload_n C dX8_heath_53 rfl (j := 1) rfl ?_
    refine g_callVI C (c_X8_good_s62 l G F ) lk_X8_161 (F.mem 0 rfl) (F.at 0 rfl) rfl rfl dX8_heath_54 (Nat.le_of_ble_eq_true rfl) ⟨by decide, by decide⟩ ⟨by decide, by decide⟩ (fun r1 L M hp => ?_)
    obtain ⟨r1_, F⟩ := hp
    subst r1_
    refine g_if_eq C dX8_heath_57 (tgt := 74) (by decide) (fun q => absurd q (by decide)) (fun _ => ?_)
    refine g_aload_n C dX8_heath_60 rfl (j := 1) rfl ?_
    refine h_get C F 0 rfl fk_X8_137 dX8_heath_61 rfl ?_
    refine g_if_eq C dX8_heath_64 (tgt := 74) (by decide) (fun _ => ?_) (fun q => absurd (by decide) q)
    refine g_aload_n C dX8_heath_74 rfl (j := 1) rfl ?_
    refine g_callVI C (c_X8_good_s62 l G F ) lk_X8_161 (F.mem 0 rfl) (F.at 0 rfl) rfl rfl dX8_heath_75 (Nat.le_of_ble_eq_true rfl) ⟨by decide, by decide⟩ ⟨by decide, by decide⟩ (fun r2 L M hp => ?_)
    obtain ⟨r2_, F⟩ := hp
    subst r2_
    refine g_if_ne C dX8_heath_78 (tgt := 84) (by decide) (fun _ => ?_) (fun q => absurd q (by decide))
    refine g_iconst C dX8_heath_84 (v := 0) (by decide) ?_
    refine g_istore_n C dX8_heath_85 rfl (by decide) (lv2 := [(1, .int 0), (0, .ref (b 0))]) rfl ?_
    refine g_lv [0, 1] (lv2 := [(1, .int 0), (0, .ref (b 0))]) rfl ?_
    refine g_loop 102 (lvf := fun i86 => [(1, .int (nI i86)), (0, .ref (b 0))]) (fun i86 M F hii86 ihi86 => ?_) (fun M F => ?_) F
    · skip
      refine g_iload_n C dX8_heath_86 rfl (j := 0) rfl ?_
      refine g_bipush C dX8_heath_87 (v := 102) (by decide) ?_
      refine g_icmp_ge C dX8_heath_89 (tgt := 110) (by decide) (fun q => absurd q (nI_ge hii86 (by decide))) (fun _ => ?_)
      refine g_aload_n C dX8_heath_92 rfl (j := 1) rfl ?_
      refine h_get C F 0 rfl fk_X8_9 dX8_heath_93 rfl ?_
      refine g_iload_n C dX8_heath_96 rfl (j := 0) rfl ?_
      refine g_aload_n C dX8_heath_97 rfl (j := 1) rfl ?_
      refine h_get C F 0 rfl fk_X8_31 dX8_heath_98 rfl ?_
      refine g_iload_n C dX8_heath_101 rfl (j := 0) rfl ?_
      refine h_iald C F 6 rfl dX8_heath_102 (vp_in_nI (by omega) (by decide)) (v := 0) rfl ?_
      refine h_iast C F 1 rfl dX8_heath_103 (vp_in_nI (by omega) (by decide)) (g := (fun _ => 0)) (upd0 _) (fl2 := flM cy b ts pn) rfl (fun M F => ?_)
      refine g_iinc C dX8_heath_104 (j := 0) rfl (v := nI (i86 + 1)) (nI_1 i86) (by decide) (lv2 := [(1, .int (nI (i86 + 1))), (0, .ref (b 0))]) rfl ?_
      refine g_goto C dX8_heath_107 (tgt := 86) (by decide) ?_
      exact ihi86 M F
    · skip
      refine g_lv [0, 1] (lv2 := [(1, .int 102), (0, .ref (b 0))]) rfl ?_
      refine g_iload_n C dX8_heath_86 rfl (j := 0) rfl ?_
      refine g_bipush C dX8_heath_87 (v := 102) (by decide) ?_
      refine g_icmp_ge C dX8_heath_89 (tgt := 110) (by decide) (fun _ => ?_) (fun q => absurd (by decide) q)
      refine g_aload_n C dX8_heath_110 rfl (j := 1) rfl ?_
      refine h_get C F 0 rfl fk_X8_9 dX8_heath_111 rfl ?_
      refine g_bipush C dX8_heath_114 (v := 9) (by decide) ?_
      refine h_iald C F 1 rfl dX8_heath_116 (vp_in_iff.mpr (by decide)) (v := 0) rfl ?_
      exact g_iret C hrt dX8_heath_117 (by decide) (by decide) (by decide)
set_option maxHeartbeats 4000000 in
set_option maxRecDepth 100000 in
theorem c_X8_end (l : Launch) (G : va_G) {cy : Nat → ClassId} {L : List Nat} {M : Nat → va_E} {b : Nat → Nat} {ts : Int32} {pn : Nat → Int32}  (F : FW L M (flM cy b ts pn)) (p0 : Int32) : MI l G cy yX8_end cX8_end 2 (some .int) 1 0 0 [.ref (b 0), .int p0] L M (fun r L2 M2 => r = sp_end p0) := by
  refine MI.of (own := RX8) rfl (by decide) (Nat.le_of_ble_eq_true rfl) ?_
  intro p e s m below meth c A C hrt hnm
  rcases sc1 p0 with h1 | h2 | rfl
  · skip
    refine g_iload_n C dX8_end_0 rfl (j := 1) rfl ?_
    refine g_i2l C dX8_end_1 (v := p0.toInt64) rfl ?_
    refine g_lconst C dX8_end_2 (v := 0) (by decide) ?_
    refine g_aload_n C dX8_end_3 rfl (j := 0) rfl ?_
    refine h_get C F 0 rfl fk_X8_121 dX8_end_4 rfl ?_
    refine g_i2l C dX8_end_7 (v := 0) (by decide) ?_
    refine g_callSI C (c_X8_in l G F (p0.toInt64) (0) (0)) lk_X8_94 rfl rfl dX8_end_8 (Nat.le_of_ble_eq_true rfl) ⟨by decide, by decide⟩ ⟨by decide, by decide⟩ (fun r3 L M hp => ?_)
    obtain ⟨r3_, F⟩ := hp
    obtain rfl : r3 = 0 := by
      rcases r3_ with ⟨-, z1, z2⟩ | ⟨z, -⟩
      · exfalso; have a1 : p0.toInt < (0 : Int32).toInt := Int32.lt_iff_toInt_lt.mp h1; have k1 : (0 : Int32).toInt = 0 := (by decide); have j1 : (0 : Int64).toInt = 0 := (by decide); have j2 : (0 : Int64).toInt = 0 := (by decide); have b1 := Int64.le_iff_toInt_le.mp z1; have b2 := Int64.le_iff_toInt_le.mp z2; rw [Int32.toInt_toInt64] at b1 b2; omega
      · exact z
    refine g_if_ne C dX8_end_11 (tgt := 16) (by decide) (fun q => absurd (by decide) q) (fun _ => ?_)
    refine g_iconst C dX8_end_14 (v := -1) (by decide) ?_
    exact g_iret C hrt dX8_end_15 (by decide) (by decide) (by have a1 : p0.toInt < (0 : Int32).toInt := Int32.lt_iff_toInt_lt.mp h1; have k1 : (0 : Int32).toInt = 0 := (by decide); unfold sp_end; repeat (first | rfl | (split) | (exfalso; omega)))
  · skip
    refine g_iload_n C dX8_end_0 rfl (j := 1) rfl ?_
    refine g_i2l C dX8_end_1 (v := p0.toInt64) rfl ?_
    refine g_lconst C dX8_end_2 (v := 0) (by decide) ?_
    refine g_aload_n C dX8_end_3 rfl (j := 0) rfl ?_
    refine h_get C F 0 rfl fk_X8_121 dX8_end_4 rfl ?_
    refine g_i2l C dX8_end_7 (v := 0) (by decide) ?_
    refine g_callSI C (c_X8_in l G F (p0.toInt64) (0) (0)) lk_X8_94 rfl rfl dX8_end_8 (Nat.le_of_ble_eq_true rfl) ⟨by decide, by decide⟩ ⟨by decide, by decide⟩ (fun r4 L M hp => ?_)
    obtain ⟨r4_, F⟩ := hp
    obtain rfl : r4 = 0 := by
      rcases r4_ with ⟨-, z1, z2⟩ | ⟨z, -⟩
      · exfalso; have a1 : (1 : Int32).toInt ≤ p0.toInt := Int32.le_iff_toInt_le.mp h2; have k1 : (1 : Int32).toInt = 1 := (by decide); have j1 : (0 : Int64).toInt = 0 := (by decide); have j2 : (0 : Int64).toInt = 0 := (by decide); have b1 := Int64.le_iff_toInt_le.mp z1; have b2 := Int64.le_iff_toInt_le.mp z2; rw [Int32.toInt_toInt64] at b1 b2; omega
      · exact z
    refine g_if_ne C dX8_end_11 (tgt := 16) (by decide) (fun q => absurd (by decide) q) (fun _ => ?_)
    refine g_iconst C dX8_end_14 (v := -1) (by decide) ?_
    exact g_iret C hrt dX8_end_15 (by decide) (by decide) (by have a1 : (1 : Int32).toInt ≤ p0.toInt := Int32.le_iff_toInt_le.mp h2; have k1 : (1 : Int32).toInt = 1 := (by decide); unfold sp_end; repeat (first | rfl | (split) | (exfalso; omega)))
  · skip
    refine g_iload_n C dX8_end_0 rfl (j := 1) rfl ?_
    refine g_i2l C dX8_end_1 (v := 0) (by decide) ?_
    refine g_lconst C dX8_end_2 (v := 0) (by decide) ?_
    refine g_aload_n C dX8_end_3 rfl (j := 0) rfl ?_
    refine h_get C F 0 rfl fk_X8_121 dX8_end_4 rfl ?_
    refine g_i2l C dX8_end_7 (v := 0) (by decide) ?_
    refine g_callSI C (c_X8_in l G F (0) (0) (0)) lk_X8_94 rfl rfl dX8_end_8 (Nat.le_of_ble_eq_true rfl) ⟨by decide, by decide⟩ ⟨by decide, by decide⟩ (fun r5 L M hp => ?_)
    obtain ⟨r5_, F⟩ := hp
    obtain rfl : r5 = 1 := by
      rcases r5_ with ⟨z, z1⟩ | ⟨z, z1⟩
      · exact z
      · exact absurd (by decide) z1
    refine g_if_ne C dX8_end_11 (tgt := 16) (by decide) (fun _ => ?_) (fun q => absurd q (by decide))
    refine g_aload_n C dX8_end_16 rfl (j := 0) rfl ?_
    refine g_iload_n C dX8_end_17 rfl (j := 1) rfl ?_
    refine h_put C F 0 rfl fk_X8_121 dX8_end_18 rfl rfl (Nat.le_of_ble_eq_true rfl) (fl2 := flM cy b ts pn) rfl (fun M F => ?_)
    refine g_iload_n C dX8_end_21 rfl (j := 1) rfl ?_
    exact g_iret C hrt dX8_end_22 (by decide) (by decide) (by decide)
set_option maxHeartbeats 4000000 in
set_option maxRecDepth 100000 in
theorem c_X8_fault (l : Launch) (G : va_G) {cy : Nat → ClassId} {L : List Nat} {M : Nat → va_E} {b : Nat → Nat} {ts : Int32} {pn : Nat → Int32}  (F : FW L M (flM cy b ts pn)) (p0 : Int32) : MI l G cy yX8_fault cX8_fault 2 (some .int) 0 0 0 [.ref (b 0), .int p0] L M (fun r L2 M2 => r = sp_fault p0) := by
  refine MI.of (own := RX8) rfl (by decide) (Nat.le_of_ble_eq_true rfl) ?_
  intro p e s m below meth c A C hrt hnm
  refine g_iload_n C dX8_fault_0 rfl (j := 1) rfl ?_
  refine g_if_ne C dX8_fault_1 (tgt := 11) (by decide) (fun q1 => ?_) (fun q1 => ?_)
  · skip
    refine g_iload_n C dX8_fault_11 rfl (j := 1) rfl ?_
    refine g_iconst C dX8_fault_12 (v := 1) (by decide) ?_
    refine g_icmp_ne C dX8_fault_13 (tgt := 23) (by decide) (fun q2 => ?_) (fun q2 => ?_)
    · skip
      refine g_iconst C dX8_fault_23 (v := -1) (by decide) ?_
      exact g_iret C hrt dX8_fault_24 (by decide) (by decide) (by have a1 : ¬ p0.toInt = (0 : Int32).toInt := fun z => q1 (Int32.toInt_inj.mp z); have a2 : ¬ p0.toInt = (1 : Int32).toInt := fun z => q2 (Int32.toInt_inj.mp z); have k2 : (0 : Int32).toInt = 0 := (by decide); have k3 : (1 : Int32).toInt = 1 := (by decide); unfold sp_fault; repeat (first | rfl | (split) | (exfalso; omega)))
    · skip
      refine g_aload_n C dX8_fault_16 rfl (j := 0) rfl ?_
      refine h_get C F 0 rfl fk_X8_27 dX8_fault_17 rfl ?_
      refine g_goto C dX8_fault_20 (tgt := 24) (by decide) ?_
      exact g_iret C hrt dX8_fault_24 (by decide) (by decide) (by have a1 : ¬ p0.toInt = (0 : Int32).toInt := fun z => q1 (Int32.toInt_inj.mp z); have a2 : p0.toInt = (1 : Int32).toInt := congrArg Int32.toInt q2; have k2 : (0 : Int32).toInt = 0 := (by decide); have k3 : (1 : Int32).toInt = 1 := (by decide); unfold sp_fault; repeat (first | rfl | (split) | (exfalso; omega)))
  · skip
    refine g_aload_n C dX8_fault_4 rfl (j := 0) rfl ?_
    refine h_get C F 0 rfl fk_X8_158 dX8_fault_5 rfl ?_
    refine g_goto C dX8_fault_8 (tgt := 24) (by decide) ?_
    exact g_iret C hrt dX8_fault_24 (by decide) (by decide) (by have a1 : p0.toInt = (0 : Int32).toInt := congrArg Int32.toInt q1; have k1 : (0 : Int32).toInt = 0 := (by decide); unfold sp_fault; repeat (first | rfl | (split) | (exfalso; omega)))
set_option maxHeartbeats 4000000 in
set_option maxRecDepth 100000 in
theorem c_X8_count (l : Launch) (G : va_G) {cy : Nat → ClassId} {L : List Nat} {M : Nat → va_E} {b : Nat → Nat} {ts : Int32} {pn : Nat → Int32}  (F : FW L M (flM cy b ts pn)) (p0 : Int32) : MI l G cy yX8_count cX8_count 4 (some .int) 1 0 0 [.ref (b 0), .int p0] L M (fun r L2 M2 => r = sp_count p0) := by
  refine MI.of (own := RX8) rfl (by decide) (Nat.le_of_ble_eq_true rfl) ?_
  intro p e s m below meth c A C hrt hnm
  rcases sc12 p0 with h1 | h2 | rfl | rfl | rfl | rfl | rfl | rfl | rfl | rfl | rfl | rfl | rfl | rfl
  · skip
    refine g_iload_n C dX8_count_0 rfl (j := 1) rfl ?_
    refine g_i2l C dX8_count_1 (v := p0.toInt64) rfl ?_
    refine g_lconst C dX8_count_2 (v := 0) (by decide) ?_
    refine g_ldc2 C (v := 9) wd377 dX8_count_3 ?_
    refine g_callSI C (c_X8_in l G F (p0.toInt64) (0) (9)) lk_X8_94 rfl rfl dX8_count_6 (Nat.le_of_ble_eq_true rfl) ⟨by decide, by decide⟩ ⟨by decide, by decide⟩ (fun r3 L M hp => ?_)
    obtain ⟨r3_, F⟩ := hp
    obtain rfl : r3 = 0 := by
      rcases r3_ with ⟨-, z1, z2⟩ | ⟨z, -⟩
      · exfalso; have a1 : p0.toInt < (0 : Int32).toInt := Int32.lt_iff_toInt_lt.mp h1; have k1 : (0 : Int32).toInt = 0 := (by decide); have j1 : (0 : Int64).toInt = 0 := (by decide); have j2 : (9 : Int64).toInt = 9 := (by decide); have b1 := Int64.le_iff_toInt_le.mp z1; have b2 := Int64.le_iff_toInt_le.mp z2; rw [Int32.toInt_toInt64] at b1 b2; omega
      · exact z
    refine g_if_eq C dX8_count_9 (tgt := 19) (by decide) (fun _ => ?_) (fun q => absurd (by decide) q)
    refine g_iload_n C dX8_count_19 rfl (j := 1) rfl ?_
    refine g_bipush C dX8_count_20 (v := 10) (by decide) ?_
    refine g_icmp_ne C dX8_count_22 (tgt := 30) (by decide) (fun q4 => ?_) (fun q4 => ?_)
    · skip
      refine g_iload_n C dX8_count_30 rfl (j := 1) rfl ?_
      refine g_bipush C dX8_count_31 (v := 11) (by decide) ?_
      refine g_icmp_eq C dX8_count_33 (tgt := 38) (by decide) (fun q5 => ?_) (fun q5 => ?_)
      · skip
        exact False.elim (by have a1 : p0.toInt < (0 : Int32).toInt := Int32.lt_iff_toInt_lt.mp h1; have a2 : ¬ p0.toInt = (10 : Int32).toInt := fun z => q4 (Int32.toInt_inj.mp z); have a3 : p0.toInt = (11 : Int32).toInt := congrArg Int32.toInt q5; have k3 : (0 : Int32).toInt = 0 := (by decide); have k4 : (10 : Int32).toInt = 10 := (by decide); have k5 : (11 : Int32).toInt = 11 := (by decide); omega)
      · skip
        refine g_iconst C dX8_count_36 (v := -1) (by decide) ?_
        exact g_iret C hrt dX8_count_37 (by decide) (by decide) (by have a1 : p0.toInt < (0 : Int32).toInt := Int32.lt_iff_toInt_lt.mp h1; have a2 : ¬ p0.toInt = (10 : Int32).toInt := fun z => q4 (Int32.toInt_inj.mp z); have a3 : ¬ p0.toInt = (11 : Int32).toInt := fun z => q5 (Int32.toInt_inj.mp z); have k3 : (0 : Int32).toInt = 0 := (by decide); have k4 : (10 : Int32).toInt = 10 := (by decide); have k5 : (11 : Int32).toInt = 11 := (by decide); unfold sp_count; repeat (first | rfl | (split) | (exfalso; omega)))
    · skip
      exact False.elim (by have a1 : p0.toInt < (0 : Int32).toInt := Int32.lt_iff_toInt_lt.mp h1; have a2 : p0.toInt = (10 : Int32).toInt := congrArg Int32.toInt q4; have k2 : (0 : Int32).toInt = 0 := (by decide); have k3 : (10 : Int32).toInt = 10 := (by decide); omega)
  · skip
    refine g_iload_n C dX8_count_0 rfl (j := 1) rfl ?_
    refine g_i2l C dX8_count_1 (v := p0.toInt64) rfl ?_
    refine g_lconst C dX8_count_2 (v := 0) (by decide) ?_
    refine g_ldc2 C (v := 9) wd377 dX8_count_3 ?_
    refine g_callSI C (c_X8_in l G F (p0.toInt64) (0) (9)) lk_X8_94 rfl rfl dX8_count_6 (Nat.le_of_ble_eq_true rfl) ⟨by decide, by decide⟩ ⟨by decide, by decide⟩ (fun r6 L M hp => ?_)
    obtain ⟨r6_, F⟩ := hp
    obtain rfl : r6 = 0 := by
      rcases r6_ with ⟨-, z1, z2⟩ | ⟨z, -⟩
      · exfalso; have a1 : (12 : Int32).toInt ≤ p0.toInt := Int32.le_iff_toInt_le.mp h2; have k1 : (12 : Int32).toInt = 12 := (by decide); have j1 : (0 : Int64).toInt = 0 := (by decide); have j2 : (9 : Int64).toInt = 9 := (by decide); have b1 := Int64.le_iff_toInt_le.mp z1; have b2 := Int64.le_iff_toInt_le.mp z2; rw [Int32.toInt_toInt64] at b1 b2; omega
      · exact z
    refine g_if_eq C dX8_count_9 (tgt := 19) (by decide) (fun _ => ?_) (fun q => absurd (by decide) q)
    refine g_iload_n C dX8_count_19 rfl (j := 1) rfl ?_
    refine g_bipush C dX8_count_20 (v := 10) (by decide) ?_
    refine g_icmp_ne C dX8_count_22 (tgt := 30) (by decide) (fun q7 => ?_) (fun q7 => ?_)
    · skip
      refine g_iload_n C dX8_count_30 rfl (j := 1) rfl ?_
      refine g_bipush C dX8_count_31 (v := 11) (by decide) ?_
      refine g_icmp_eq C dX8_count_33 (tgt := 38) (by decide) (fun q8 => ?_) (fun q8 => ?_)
      · skip
        exact False.elim (by have a1 : (12 : Int32).toInt ≤ p0.toInt := Int32.le_iff_toInt_le.mp h2; have a2 : ¬ p0.toInt = (10 : Int32).toInt := fun z => q7 (Int32.toInt_inj.mp z); have a3 : p0.toInt = (11 : Int32).toInt := congrArg Int32.toInt q8; have k3 : (10 : Int32).toInt = 10 := (by decide); have k4 : (11 : Int32).toInt = 11 := (by decide); have k5 : (12 : Int32).toInt = 12 := (by decide); omega)
      · skip
        refine g_iconst C dX8_count_36 (v := -1) (by decide) ?_
        exact g_iret C hrt dX8_count_37 (by decide) (by decide) (by have a1 : (12 : Int32).toInt ≤ p0.toInt := Int32.le_iff_toInt_le.mp h2; have a2 : ¬ p0.toInt = (10 : Int32).toInt := fun z => q7 (Int32.toInt_inj.mp z); have a3 : ¬ p0.toInt = (11 : Int32).toInt := fun z => q8 (Int32.toInt_inj.mp z); have k3 : (10 : Int32).toInt = 10 := (by decide); have k4 : (11 : Int32).toInt = 11 := (by decide); have k5 : (12 : Int32).toInt = 12 := (by decide); unfold sp_count; repeat (first | rfl | (split) | (exfalso; omega)))
    · skip
      exact False.elim (by have a1 : (12 : Int32).toInt ≤ p0.toInt := Int32.le_iff_toInt_le.mp h2; have a2 : p0.toInt = (10 : Int32).toInt := congrArg Int32.toInt q7; have k2 : (10 : Int32).toInt = 10 := (by decide); have k3 : (12 : Int32).toInt = 12 := (by decide); omega)
  · skip
    refine g_iload_n C dX8_count_0 rfl (j := 1) rfl ?_
    refine g_i2l C dX8_count_1 (v := 0) (by decide) ?_
    refine g_lconst C dX8_count_2 (v := 0) (by decide) ?_
    refine g_ldc2 C (v := 9) wd377 dX8_count_3 ?_
    refine g_callSI C (c_X8_in l G F (0) (0) (9)) lk_X8_94 rfl rfl dX8_count_6 (Nat.le_of_ble_eq_true rfl) ⟨by decide, by decide⟩ ⟨by decide, by decide⟩ (fun r9 L M hp => ?_)
    obtain ⟨r9_, F⟩ := hp
    obtain rfl : r9 = 1 := by
      rcases r9_ with ⟨z, z1⟩ | ⟨z, z1⟩
      · exact z
      · exact absurd (by decide) z1
    refine g_if_eq C dX8_count_9 (tgt := 19) (by decide) (fun q => absurd q (by decide)) (fun _ => ?_)
    refine g_aload_n C dX8_count_12 rfl (j := 0) rfl ?_
    refine h_get C F 0 rfl fk_X8_9 dX8_count_13 rfl ?_
    refine g_iload_n C dX8_count_16 rfl (j := 1) rfl ?_
    refine h_iald C F 1 rfl dX8_count_17 (vp_in_iff.mpr (by decide)) (v := 0) rfl ?_
    exact g_iret C hrt dX8_count_18 (by decide) (by decide) (by decide)
  · skip
    refine g_iload_n C dX8_count_0 rfl (j := 1) rfl ?_
    refine g_i2l C dX8_count_1 (v := 1) (by decide) ?_
    refine g_lconst C dX8_count_2 (v := 0) (by decide) ?_
    refine g_ldc2 C (v := 9) wd377 dX8_count_3 ?_
    refine g_callSI C (c_X8_in l G F (1) (0) (9)) lk_X8_94 rfl rfl dX8_count_6 (Nat.le_of_ble_eq_true rfl) ⟨by decide, by decide⟩ ⟨by decide, by decide⟩ (fun r10 L M hp => ?_)
    obtain ⟨r10_, F⟩ := hp
    obtain rfl : r10 = 1 := by
      rcases r10_ with ⟨z, z1⟩ | ⟨z, z1⟩
      · exact z
      · exact absurd (by decide) z1
    refine g_if_eq C dX8_count_9 (tgt := 19) (by decide) (fun q => absurd q (by decide)) (fun _ => ?_)
    refine g_aload_n C dX8_count_12 rfl (j := 0) rfl ?_
    refine h_get C F 0 rfl fk_X8_9 dX8_count_13 rfl ?_
    refine g_iload_n C dX8_count_16 rfl (j := 1) rfl ?_
    refine h_iald C F 1 rfl dX8_count_17 (vp_in_iff.mpr (by decide)) (v := 0) rfl ?_
    exact g_iret C hrt dX8_count_18 (by decide) (by decide) (by decide)
  · skip
    refine g_iload_n C dX8_count_0 rfl (j := 1) rfl ?_
    refine g_i2l C dX8_count_1 (v := 2) (by decide) ?_
    refine g_lconst C dX8_count_2 (v := 0) (by decide) ?_
    refine g_ldc2 C (v := 9) wd377 dX8_count_3 ?_
    refine g_callSI C (c_X8_in l G F (2) (0) (9)) lk_X8_94 rfl rfl dX8_count_6 (Nat.le_of_ble_eq_true rfl) ⟨by decide, by decide⟩ ⟨by decide, by decide⟩ (fun r11 L M hp => ?_)
    obtain ⟨r11_, F⟩ := hp
    obtain rfl : r11 = 1 := by
      rcases r11_ with ⟨z, z1⟩ | ⟨z, z1⟩
      · exact z
      · exact absurd (by decide) z1
    refine g_if_eq C dX8_count_9 (tgt := 19) (by decide) (fun q => absurd q (by decide)) (fun _ => ?_)
    refine g_aload_n C dX8_count_12 rfl (j := 0) rfl ?_
    refine h_get C F 0 rfl fk_X8_9 dX8_count_13 rfl ?_
    refine g_iload_n C dX8_count_16 rfl (j := 1) rfl ?_
    refine h_iald C F 1 rfl dX8_count_17 (vp_in_iff.mpr (by decide)) (v := 0) rfl ?_
    exact g_iret C hrt dX8_count_18 (by decide) (by decide) (by decide)
  · skip
    refine g_iload_n C dX8_count_0 rfl (j := 1) rfl ?_
    refine g_i2l C dX8_count_1 (v := 3) (by decide) ?_
    refine g_lconst C dX8_count_2 (v := 0) (by decide) ?_
    refine g_ldc2 C (v := 9) wd377 dX8_count_3 ?_
    refine g_callSI C (c_X8_in l G F (3) (0) (9)) lk_X8_94 rfl rfl dX8_count_6 (Nat.le_of_ble_eq_true rfl) ⟨by decide, by decide⟩ ⟨by decide, by decide⟩ (fun r12 L M hp => ?_)
    obtain ⟨r12_, F⟩ := hp
    obtain rfl : r12 = 1 := by
      rcases r12_ with ⟨z, z1⟩ | ⟨z, z1⟩
      · exact z
      · exact absurd (by decide) z1
    refine g_if_eq C dX8_count_9 (tgt := 19) (by decide) (fun q => absurd q (by decide)) (fun _ => ?_)
    refine g_aload_n C dX8_count_12 rfl (j := 0) rfl ?_
    refine h_get C F 0 rfl fk_X8_9 dX8_count_13 rfl ?_
    refine g_iload_n C dX8_count_16 rfl (j := 1) rfl ?_
    refine h_iald C F 1 rfl dX8_count_17 (vp_in_iff.mpr (by decide)) (v := 0) rfl ?_
    exact g_iret C hrt dX8_count_18 (by decide) (by decide) (by decide)
  · skip
    refine g_iload_n C dX8_count_0 rfl (j := 1) rfl ?_
    refine g_i2l C dX8_count_1 (v := 4) (by decide) ?_
    refine g_lconst C dX8_count_2 (v := 0) (by decide) ?_
    refine g_ldc2 C (v := 9) wd377 dX8_count_3 ?_
    refine g_callSI C (c_X8_in l G F (4) (0) (9)) lk_X8_94 rfl rfl dX8_count_6 (Nat.le_of_ble_eq_true rfl) ⟨by decide, by decide⟩ ⟨by decide, by decide⟩ (fun r13 L M hp => ?_)
    obtain ⟨r13_, F⟩ := hp
    obtain rfl : r13 = 1 := by
      rcases r13_ with ⟨z, z1⟩ | ⟨z, z1⟩
      · exact z
      · exact absurd (by decide) z1
    refine g_if_eq C dX8_count_9 (tgt := 19) (by decide) (fun q => absurd q (by decide)) (fun _ => ?_)
    refine g_aload_n C dX8_count_12 rfl (j := 0) rfl ?_
    refine h_get C F 0 rfl fk_X8_9 dX8_count_13 rfl ?_
    refine g_iload_n C dX8_count_16 rfl (j := 1) rfl ?_
    refine h_iald C F 1 rfl dX8_count_17 (vp_in_iff.mpr (by decide)) (v := 0) rfl ?_
    exact g_iret C hrt dX8_count_18 (by decide) (by decide) (by decide)
  · skip
    refine g_iload_n C dX8_count_0 rfl (j := 1) rfl ?_
    refine g_i2l C dX8_count_1 (v := 5) (by decide) ?_
    refine g_lconst C dX8_count_2 (v := 0) (by decide) ?_
    refine g_ldc2 C (v := 9) wd377 dX8_count_3 ?_
    refine g_callSI C (c_X8_in l G F (5) (0) (9)) lk_X8_94 rfl rfl dX8_count_6 (Nat.le_of_ble_eq_true rfl) ⟨by decide, by decide⟩ ⟨by decide, by decide⟩ (fun r14 L M hp => ?_)
    obtain ⟨r14_, F⟩ := hp
    obtain rfl : r14 = 1 := by
      rcases r14_ with ⟨z, z1⟩ | ⟨z, z1⟩
      · exact z
      · exact absurd (by decide) z1
    refine g_if_eq C dX8_count_9 (tgt := 19) (by decide) (fun q => absurd q (by decide)) (fun _ => ?_)
    refine g_aload_n C dX8_count_12 rfl (j := 0) rfl ?_
    refine h_get C F 0 rfl fk_X8_9 dX8_count_13 rfl ?_
    refine g_iload_n C dX8_count_16 rfl (j := 1) rfl ?_
    refine h_iald C F 1 rfl dX8_count_17 (vp_in_iff.mpr (by decide)) (v := 0) rfl ?_
    exact g_iret C hrt dX8_count_18 (by decide) (by decide) (by decide)
  · skip
    refine g_iload_n C dX8_count_0 rfl (j := 1) rfl ?_
    refine g_i2l C dX8_count_1 (v := 6) (by decide) ?_
    refine g_lconst C dX8_count_2 (v := 0) (by decide) ?_
    refine g_ldc2 C (v := 9) wd377 dX8_count_3 ?_
    refine g_callSI C (c_X8_in l G F (6) (0) (9)) lk_X8_94 rfl rfl dX8_count_6 (Nat.le_of_ble_eq_true rfl) ⟨by decide, by decide⟩ ⟨by decide, by decide⟩ (fun r15 L M hp => ?_)
    obtain ⟨r15_, F⟩ := hp
    obtain rfl : r15 = 1 := by
      rcases r15_ with ⟨z, z1⟩ | ⟨z, z1⟩
      · exact z
      · exact absurd (by decide) z1
    refine g_if_eq C dX8_count_9 (tgt := 19) (by decide) (fun q => absurd q (by decide)) (fun _ => ?_)
    refine g_aload_n C dX8_count_12 rfl (j := 0) rfl ?_
    refine h_get C F 0 rfl fk_X8_9 dX8_count_13 rfl ?_
    refine g_iload_n C dX8_count_16 rfl (j := 1) rfl ?_
    refine h_iald C F 1 rfl dX8_count_17 (vp_in_iff.mpr (by decide)) (v := 0) rfl ?_
    exact g_iret C hrt dX8_count_18 (by decide) (by decide) (by decide)
  · skip
    refine g_iload_n C dX8_count_0 rfl (j := 1) rfl ?_
    refine g_i2l C dX8_count_1 (v := 7) (by decide) ?_
    refine g_lconst C dX8_count_2 (v := 0) (by decide) ?_
    refine g_ldc2 C (v := 9) wd377 dX8_count_3 ?_
    refine g_callSI C (c_X8_in l G F (7) (0) (9)) lk_X8_94 rfl rfl dX8_count_6 (Nat.le_of_ble_eq_true rfl) ⟨by decide, by decide⟩ ⟨by decide, by decide⟩ (fun r16 L M hp => ?_)
    obtain ⟨r16_, F⟩ := hp
    obtain rfl : r16 = 1 := by
      rcases r16_ with ⟨z, z1⟩ | ⟨z, z1⟩
      · exact z
      · exact absurd (by decide) z1
    refine g_if_eq C dX8_count_9 (tgt := 19) (by decide) (fun q => absurd q (by decide)) (fun _ => ?_)
    refine g_aload_n C dX8_count_12 rfl (j := 0) rfl ?_
    refine h_get C F 0 rfl fk_X8_9 dX8_count_13 rfl ?_
    refine g_iload_n C dX8_count_16 rfl (j := 1) rfl ?_
    refine h_iald C F 1 rfl dX8_count_17 (vp_in_iff.mpr (by decide)) (v := 0) rfl ?_
    exact g_iret C hrt dX8_count_18 (by decide) (by decide) (by decide)
  · skip
    refine g_iload_n C dX8_count_0 rfl (j := 1) rfl ?_
    refine g_i2l C dX8_count_1 (v := 8) (by decide) ?_
    refine g_lconst C dX8_count_2 (v := 0) (by decide) ?_
    refine g_ldc2 C (v := 9) wd377 dX8_count_3 ?_
    refine g_callSI C (c_X8_in l G F (8) (0) (9)) lk_X8_94 rfl rfl dX8_count_6 (Nat.le_of_ble_eq_true rfl) ⟨by decide, by decide⟩ ⟨by decide, by decide⟩ (fun r17 L M hp => ?_)
    obtain ⟨r17_, F⟩ := hp
    obtain rfl : r17 = 1 := by
      rcases r17_ with ⟨z, z1⟩ | ⟨z, z1⟩
      · exact z
      · exact absurd (by decide) z1
    refine g_if_eq C dX8_count_9 (tgt := 19) (by decide) (fun q => absurd q (by decide)) (fun _ => ?_)
    refine g_aload_n C dX8_count_12 rfl (j := 0) rfl ?_
    refine h_get C F 0 rfl fk_X8_9 dX8_count_13 rfl ?_
    refine g_iload_n C dX8_count_16 rfl (j := 1) rfl ?_
    refine h_iald C F 1 rfl dX8_count_17 (vp_in_iff.mpr (by decide)) (v := 0) rfl ?_
    exact g_iret C hrt dX8_count_18 (by decide) (by decide) (by decide)
  · skip
    refine g_iload_n C dX8_count_0 rfl (j := 1) rfl ?_
    refine g_i2l C dX8_count_1 (v := 9) (by decide) ?_
    refine g_lconst C dX8_count_2 (v := 0) (by decide) ?_
    refine g_ldc2 C (v := 9) wd377 dX8_count_3 ?_
    refine g_callSI C (c_X8_in l G F (9) (0) (9)) lk_X8_94 rfl rfl dX8_count_6 (Nat.le_of_ble_eq_true rfl) ⟨by decide, by decide⟩ ⟨by decide, by decide⟩ (fun r18 L M hp => ?_)
    obtain ⟨r18_, F⟩ := hp
    obtain rfl : r18 = 1 := by
      rcases r18_ with ⟨z, z1⟩ | ⟨z, z1⟩
      · exact z
      · exact absurd (by decide) z1
    refine g_if_eq C dX8_count_9 (tgt := 19) (by decide) (fun q => absurd q (by decide)) (fun _ => ?_)
    refine g_aload_n C dX8_count_12 rfl (j := 0) rfl ?_
    refine h_get C F 0 rfl fk_X8_9 dX8_count_13 rfl ?_
    refine g_iload_n C dX8_count_16 rfl (j := 1) rfl ?_
    refine h_iald C F 1 rfl dX8_count_17 (vp_in_iff.mpr (by decide)) (v := 0) rfl ?_
    exact g_iret C hrt dX8_count_18 (by decide) (by decide) (by decide)
  · skip
    refine g_iload_n C dX8_count_0 rfl (j := 1) rfl ?_
    refine g_i2l C dX8_count_1 (v := 10) (by decide) ?_
    refine g_lconst C dX8_count_2 (v := 0) (by decide) ?_
    refine g_ldc2 C (v := 9) wd377 dX8_count_3 ?_
    refine g_callSI C (c_X8_in l G F (10) (0) (9)) lk_X8_94 rfl rfl dX8_count_6 (Nat.le_of_ble_eq_true rfl) ⟨by decide, by decide⟩ ⟨by decide, by decide⟩ (fun r19 L M hp => ?_)
    obtain ⟨r19_, F⟩ := hp
    obtain rfl : r19 = 0 := by
      rcases r19_ with ⟨z, z1⟩ | ⟨z, z1⟩
      · exact absurd z1 (by decide)
      · exact z
    refine g_if_eq C dX8_count_9 (tgt := 19) (by decide) (fun _ => ?_) (fun q => absurd (by decide) q)
    refine g_iload_n C dX8_count_19 rfl (j := 1) rfl ?_
    refine g_bipush C dX8_count_20 (v := 10) (by decide) ?_
    refine g_icmp_ne C dX8_count_22 (tgt := 30) (by decide) (fun q => absurd (by decide) q) (fun _ => ?_)
    refine g_aload_n C dX8_count_25 rfl (j := 0) rfl ?_
    refine h_get C F 0 rfl fk_X8_121 dX8_count_26 rfl ?_
    exact g_iret C hrt dX8_count_29 (by decide) (by decide) (by decide)
  · skip
    refine g_iload_n C dX8_count_0 rfl (j := 1) rfl ?_
    refine g_i2l C dX8_count_1 (v := 11) (by decide) ?_
    refine g_lconst C dX8_count_2 (v := 0) (by decide) ?_
    refine g_ldc2 C (v := 9) wd377 dX8_count_3 ?_
    refine g_callSI C (c_X8_in l G F (11) (0) (9)) lk_X8_94 rfl rfl dX8_count_6 (Nat.le_of_ble_eq_true rfl) ⟨by decide, by decide⟩ ⟨by decide, by decide⟩ (fun r20 L M hp => ?_)
    obtain ⟨r20_, F⟩ := hp
    obtain rfl : r20 = 0 := by
      rcases r20_ with ⟨z, z1⟩ | ⟨z, z1⟩
      · exact absurd z1 (by decide)
      · exact z
    refine g_if_eq C dX8_count_9 (tgt := 19) (by decide) (fun _ => ?_) (fun q => absurd (by decide) q)
    refine g_iload_n C dX8_count_19 rfl (j := 1) rfl ?_
    refine g_bipush C dX8_count_20 (v := 10) (by decide) ?_
    refine g_icmp_ne C dX8_count_22 (tgt := 30) (by decide) (fun _ => ?_) (fun q => absurd q (by decide))
    refine g_iload_n C dX8_count_30 rfl (j := 1) rfl ?_
    refine g_bipush C dX8_count_31 (v := 11) (by decide) ?_
    refine g_icmp_eq C dX8_count_33 (tgt := 38) (by decide) (fun _ => ?_) (fun q => absurd (by decide) q)
    refine g_iconst C dX8_count_38 (v := 0) (by decide) ?_
    refine g_istore_n C dX8_count_39 rfl (by decide) (lv2 := [(2, .int 0), (0, .ref (b 0)), (1, .int 11)]) rfl ?_
    refine g_iconst C dX8_count_40 (v := 0) (by decide) ?_
    refine g_istore_n C dX8_count_41 rfl (by decide) (lv2 := [(3, .int 0), (2, .int 0), (0, .ref (b 0)), (1, .int 11)]) rfl ?_
    refine g_iload_n C dX8_count_42 rfl (j := 0) rfl ?_
    refine g_iconst C dX8_count_43 (v := 4) (by decide) ?_
    refine g_icmp_ge C dX8_count_44 (tgt := 71) (by decide) (fun q => absurd q (by decide)) (fun _ => ?_)
    refine g_iload_n C dX8_count_47 rfl (j := 1) rfl ?_
    refine g_aload_n C dX8_count_48 rfl (j := 2) rfl ?_
    refine h_get C F 0 rfl fk_X8_76 dX8_count_49 rfl ?_
    refine g_iload_n C dX8_count_52 rfl (j := 0) rfl ?_
    refine h_iald C F 21 rfl dX8_count_53 (vp_in_iff.mpr (by decide)) (v := -1) (by decide) ?_
    refine g_iconst C dX8_count_54 (v := -1) (by decide) ?_
    refine g_icmp_ne C dX8_count_55 (tgt := 62) (by decide) (fun q => absurd (by decide) q) (fun _ => ?_)
    refine g_iconst C dX8_count_58 (v := 0) (by decide) ?_
    refine g_goto C dX8_count_59 (tgt := 63) (by decide) ?_
    refine g_iadd C dX8_count_63 ?_
    refine Go.top (v := .int 0) (by decide) ?_
    refine g_istore_n C dX8_count_64 rfl (by decide) (lv2 := [(2, .int 0), (3, .int 0), (0, .ref (b 0)), (1, .int 11)]) rfl ?_
    refine g_iinc C dX8_count_65 (j := 1) rfl (v := 1) (by decide) (by decide) (lv2 := [(3, .int 1), (2, .int 0), (0, .ref (b 0)), (1, .int 11)]) rfl ?_
    refine g_goto C dX8_count_68 (tgt := 42) (by decide) ?_
    refine g_iload_n C dX8_count_42 rfl (j := 0) rfl ?_
    refine g_iconst C dX8_count_43 (v := 4) (by decide) ?_
    refine g_icmp_ge C dX8_count_44 (tgt := 71) (by decide) (fun q => absurd q (by decide)) (fun _ => ?_)
    refine g_iload_n C dX8_count_47 rfl (j := 1) rfl ?_
    refine g_aload_n C dX8_count_48 rfl (j := 2) rfl ?_
    refine h_get C F 0 rfl fk_X8_76 dX8_count_49 rfl ?_
    refine g_iload_n C dX8_count_52 rfl (j := 0) rfl ?_
    refine h_iald C F 21 rfl dX8_count_53 (vp_in_iff.mpr (by decide)) (v := -1) (by decide) ?_
    refine g_iconst C dX8_count_54 (v := -1) (by decide) ?_
    refine g_icmp_ne C dX8_count_55 (tgt := 62) (by decide) (fun q => absurd (by decide) q) (fun _ => ?_)
    refine g_iconst C dX8_count_58 (v := 0) (by decide) ?_
    refine g_goto C dX8_count_59 (tgt := 63) (by decide) ?_
    refine g_iadd C dX8_count_63 ?_
    refine Go.top (v := .int 0) (by decide) ?_
    refine g_istore_n C dX8_count_64 rfl (by decide) (lv2 := [(2, .int 0), (3, .int 1), (0, .ref (b 0)), (1, .int 11)]) rfl ?_
    refine g_iinc C dX8_count_65 (j := 1) rfl (v := 2) (by decide) (by decide) (lv2 := [(3, .int 2), (2, .int 0), (0, .ref (b 0)), (1, .int 11)]) rfl ?_
    refine g_goto C dX8_count_68 (tgt := 42) (by decide) ?_
    refine g_iload_n C dX8_count_42 rfl (j := 0) rfl ?_
    refine g_iconst C dX8_count_43 (v := 4) (by decide) ?_
    refine g_icmp_ge C dX8_count_44 (tgt := 71) (by decide) (fun q => absurd q (by decide)) (fun _ => ?_)
    refine g_iload_n C dX8_count_47 rfl (j := 1) rfl ?_
    refine g_aload_n C dX8_count_48 rfl (j := 2) rfl ?_
    refine h_get C F 0 rfl fk_X8_76 dX8_count_49 rfl ?_
    refine g_iload_n C dX8_count_52 rfl (j := 0) rfl ?_
    refine h_iald C F 21 rfl dX8_count_53 (vp_in_iff.mpr (by decide)) (v := -1) (by decide) ?_
    refine g_iconst C dX8_count_54 (v := -1) (by decide) ?_
    refine g_icmp_ne C dX8_count_55 (tgt := 62) (by decide) (fun q => absurd (by decide) q) (fun _ => ?_)
    refine g_iconst C dX8_count_58 (v := 0) (by decide) ?_
    refine g_goto C dX8_count_59 (tgt := 63) (by decide) ?_
    refine g_iadd C dX8_count_63 ?_
    refine Go.top (v := .int 0) (by decide) ?_
    refine g_istore_n C dX8_count_64 rfl (by decide) (lv2 := [(2, .int 0), (3, .int 2), (0, .ref (b 0)), (1, .int 11)]) rfl ?_
    refine g_iinc C dX8_count_65 (j := 1) rfl (v := 3) (by decide) (by decide) (lv2 := [(3, .int 3), (2, .int 0), (0, .ref (b 0)), (1, .int 11)]) rfl ?_
    refine g_goto C dX8_count_68 (tgt := 42) (by decide) ?_
    refine g_iload_n C dX8_count_42 rfl (j := 0) rfl ?_
    refine g_iconst C dX8_count_43 (v := 4) (by decide) ?_
    refine g_icmp_ge C dX8_count_44 (tgt := 71) (by decide) (fun q => absurd q (by decide)) (fun _ => ?_)
    refine g_iload_n C dX8_count_47 rfl (j := 1) rfl ?_
    refine g_aload_n C dX8_count_48 rfl (j := 2) rfl ?_
    refine h_get C F 0 rfl fk_X8_76 dX8_count_49 rfl ?_
    refine g_iload_n C dX8_count_52 rfl (j := 0) rfl ?_
    refine h_iald C F 21 rfl dX8_count_53 (vp_in_iff.mpr (by decide)) (v := -1) (by decide) ?_
    refine g_iconst C dX8_count_54 (v := -1) (by decide) ?_
    refine g_icmp_ne C dX8_count_55 (tgt := 62) (by decide) (fun q => absurd (by decide) q) (fun _ => ?_)
    refine g_iconst C dX8_count_58 (v := 0) (by decide) ?_
    refine g_goto C dX8_count_59 (tgt := 63) (by decide) ?_
    refine g_iadd C dX8_count_63 ?_
    refine Go.top (v := .int 0) (by decide) ?_
    refine g_istore_n C dX8_count_64 rfl (by decide) (lv2 := [(2, .int 0), (3, .int 3), (0, .ref (b 0)), (1, .int 11)]) rfl ?_
    refine g_iinc C dX8_count_65 (j := 1) rfl (v := 4) (by decide) (by decide) (lv2 := [(3, .int 4), (2, .int 0), (0, .ref (b 0)), (1, .int 11)]) rfl ?_
    refine g_goto C dX8_count_68 (tgt := 42) (by decide) ?_
    refine g_iload_n C dX8_count_42 rfl (j := 0) rfl ?_
    refine g_iconst C dX8_count_43 (v := 4) (by decide) ?_
    refine g_icmp_ge C dX8_count_44 (tgt := 71) (by decide) (fun _ => ?_) (fun q => absurd (by decide) q)
    refine g_iload_n C dX8_count_71 rfl (j := 1) rfl ?_
    exact g_iret C hrt dX8_count_72 (by decide) (by decide) (by decide)
set_option maxHeartbeats 4000000 in
set_option maxRecDepth 100000 in
theorem c_X8_back (l : Launch) (G : va_G) {cy : Nat → ClassId} {L : List Nat} {M : Nat → va_E} {b : Nat → Nat} {ts : Int32} {pn : Nat → Int32}  (F : FW L M (flM cy b ts pn)) (p0 : Int32) : MI l G cy yX8_back cX8_back 3 (some .int) 1 0 0 [.ref (b 0), .int p0] L M (fun r L2 M2 => r = sp_back p0) := by
  refine MI.of (own := RX8) rfl (by decide) (Nat.le_of_ble_eq_true rfl) ?_
  intro p e s m below meth c A C hrt hnm
  rcases sc3 p0 with h1 | h2 | rfl | rfl | rfl
  · skip
    refine g_iload_n C dX8_back_0 rfl (j := 1) rfl ?_
    refine g_i2l C dX8_back_1 (v := p0.toInt64) rfl ?_
    refine g_lconst C dX8_back_2 (v := 0) (by decide) ?_
    refine g_ldc2 C (v := 2) wd378 dX8_back_3 ?_
    refine g_callSI C (c_X8_in l G F (p0.toInt64) (0) (2)) lk_X8_94 rfl rfl dX8_back_6 (Nat.le_of_ble_eq_true rfl) ⟨by decide, by decide⟩ ⟨by decide, by decide⟩ (fun r3 L M hp => ?_)
    obtain ⟨r3_, F⟩ := hp
    obtain rfl : r3 = 0 := by
      rcases r3_ with ⟨-, z1, z2⟩ | ⟨z, -⟩
      · exfalso; have a1 : p0.toInt < (0 : Int32).toInt := Int32.lt_iff_toInt_lt.mp h1; have k1 : (0 : Int32).toInt = 0 := (by decide); have j1 : (0 : Int64).toInt = 0 := (by decide); have j2 : (2 : Int64).toInt = 2 := (by decide); have b1 := Int64.le_iff_toInt_le.mp z1; have b2 := Int64.le_iff_toInt_le.mp z2; rw [Int32.toInt_toInt64] at b1 b2; omega
      · exact z
    refine g_if_ne C dX8_back_9 (tgt := 15) (by decide) (fun q => absurd (by decide) q) (fun _ => ?_)
    refine g_bipush C dX8_back_12 (v := -2) (by decide) ?_
    exact g_iret C hrt dX8_back_14 (by decide) (by decide) (by have a1 : p0.toInt < (0 : Int32).toInt := Int32.lt_iff_toInt_lt.mp h1; have k1 : (0 : Int32).toInt = 0 := (by decide); unfold sp_back; repeat (first | rfl | (split) | (exfalso; omega)))
  · skip
    refine g_iload_n C dX8_back_0 rfl (j := 1) rfl ?_
    refine g_i2l C dX8_back_1 (v := p0.toInt64) rfl ?_
    refine g_lconst C dX8_back_2 (v := 0) (by decide) ?_
    refine g_ldc2 C (v := 2) wd378 dX8_back_3 ?_
    refine g_callSI C (c_X8_in l G F (p0.toInt64) (0) (2)) lk_X8_94 rfl rfl dX8_back_6 (Nat.le_of_ble_eq_true rfl) ⟨by decide, by decide⟩ ⟨by decide, by decide⟩ (fun r4 L M hp => ?_)
    obtain ⟨r4_, F⟩ := hp
    obtain rfl : r4 = 0 := by
      rcases r4_ with ⟨-, z1, z2⟩ | ⟨z, -⟩
      · exfalso; have a1 : (3 : Int32).toInt ≤ p0.toInt := Int32.le_iff_toInt_le.mp h2; have k1 : (3 : Int32).toInt = 3 := (by decide); have j1 : (0 : Int64).toInt = 0 := (by decide); have j2 : (2 : Int64).toInt = 2 := (by decide); have b1 := Int64.le_iff_toInt_le.mp z1; have b2 := Int64.le_iff_toInt_le.mp z2; rw [Int32.toInt_toInt64] at b1 b2; omega
      · exact z
    refine g_if_ne C dX8_back_9 (tgt := 15) (by decide) (fun q => absurd (by decide) q) (fun _ => ?_)
    refine g_bipush C dX8_back_12 (v := -2) (by decide) ?_
    exact g_iret C hrt dX8_back_14 (by decide) (by decide) (by have a1 : (3 : Int32).toInt ≤ p0.toInt := Int32.le_iff_toInt_le.mp h2; have k1 : (3 : Int32).toInt = 3 := (by decide); unfold sp_back; repeat (first | rfl | (split) | (exfalso; omega)))
  · skip
    refine g_iload_n C dX8_back_0 rfl (j := 1) rfl ?_
    refine g_i2l C dX8_back_1 (v := 0) (by decide) ?_
    refine g_lconst C dX8_back_2 (v := 0) (by decide) ?_
    refine g_ldc2 C (v := 2) wd378 dX8_back_3 ?_
    refine g_callSI C (c_X8_in l G F (0) (0) (2)) lk_X8_94 rfl rfl dX8_back_6 (Nat.le_of_ble_eq_true rfl) ⟨by decide, by decide⟩ ⟨by decide, by decide⟩ (fun r5 L M hp => ?_)
    obtain ⟨r5_, F⟩ := hp
    obtain rfl : r5 = 1 := by
      rcases r5_ with ⟨z, z1⟩ | ⟨z, z1⟩
      · exact z
      · exact absurd (by decide) z1
    refine g_if_ne C dX8_back_9 (tgt := 15) (by decide) (fun _ => ?_) (fun q => absurd q (by decide))
    refine g_aload_n C dX8_back_15 rfl (j := 0) rfl ?_
    refine h_get C F 0 rfl fk_X8_16 dX8_back_16 rfl ?_
    refine g_iload_n C dX8_back_19 rfl (j := 1) rfl ?_
    refine h_zald C F 3 rfl dX8_back_20 (vp_in_iff.mpr (by decide)) (v := 0) rfl ?_
    refine g_if_ne C dX8_back_21 (tgt := 27) (by decide) (fun q => absurd (by decide) q) (fun _ => ?_)
    refine g_bipush C dX8_back_24 (v := -6) (by decide) ?_
    exact g_iret C hrt dX8_back_26 (by decide) (by decide) (by decide)
  · skip
    refine g_iload_n C dX8_back_0 rfl (j := 1) rfl ?_
    refine g_i2l C dX8_back_1 (v := 1) (by decide) ?_
    refine g_lconst C dX8_back_2 (v := 0) (by decide) ?_
    refine g_ldc2 C (v := 2) wd378 dX8_back_3 ?_
    refine g_callSI C (c_X8_in l G F (1) (0) (2)) lk_X8_94 rfl rfl dX8_back_6 (Nat.le_of_ble_eq_true rfl) ⟨by decide, by decide⟩ ⟨by decide, by decide⟩ (fun r6 L M hp => ?_)
    obtain ⟨r6_, F⟩ := hp
    obtain rfl : r6 = 1 := by
      rcases r6_ with ⟨z, z1⟩ | ⟨z, z1⟩
      · exact z
      · exact absurd (by decide) z1
    refine g_if_ne C dX8_back_9 (tgt := 15) (by decide) (fun _ => ?_) (fun q => absurd q (by decide))
    refine g_aload_n C dX8_back_15 rfl (j := 0) rfl ?_
    refine h_get C F 0 rfl fk_X8_16 dX8_back_16 rfl ?_
    refine g_iload_n C dX8_back_19 rfl (j := 1) rfl ?_
    refine h_zald C F 3 rfl dX8_back_20 (vp_in_iff.mpr (by decide)) (v := 0) rfl ?_
    refine g_if_ne C dX8_back_21 (tgt := 27) (by decide) (fun q => absurd (by decide) q) (fun _ => ?_)
    refine g_bipush C dX8_back_24 (v := -6) (by decide) ?_
    exact g_iret C hrt dX8_back_26 (by decide) (by decide) (by decide)
  · skip
    refine g_iload_n C dX8_back_0 rfl (j := 1) rfl ?_
    refine g_i2l C dX8_back_1 (v := 2) (by decide) ?_
    refine g_lconst C dX8_back_2 (v := 0) (by decide) ?_
    refine g_ldc2 C (v := 2) wd378 dX8_back_3 ?_
    refine g_callSI C (c_X8_in l G F (2) (0) (2)) lk_X8_94 rfl rfl dX8_back_6 (Nat.le_of_ble_eq_true rfl) ⟨by decide, by decide⟩ ⟨by decide, by decide⟩ (fun r7 L M hp => ?_)
    obtain ⟨r7_, F⟩ := hp
    obtain rfl : r7 = 1 := by
      rcases r7_ with ⟨z, z1⟩ | ⟨z, z1⟩
      · exact z
      · exact absurd (by decide) z1
    refine g_if_ne C dX8_back_9 (tgt := 15) (by decide) (fun _ => ?_) (fun q => absurd q (by decide))
    refine g_aload_n C dX8_back_15 rfl (j := 0) rfl ?_
    refine h_get C F 0 rfl fk_X8_16 dX8_back_16 rfl ?_
    refine g_iload_n C dX8_back_19 rfl (j := 1) rfl ?_
    refine h_zald C F 3 rfl dX8_back_20 (vp_in_iff.mpr (by decide)) (v := 0) rfl ?_
    refine g_if_ne C dX8_back_21 (tgt := 27) (by decide) (fun q => absurd (by decide) q) (fun _ => ?_)
    refine g_bipush C dX8_back_24 (v := -6) (by decide) ?_
    exact g_iret C hrt dX8_back_26 (by decide) (by decide) (by decide)
set_option maxHeartbeats 4000000 in
set_option maxRecDepth 100000 in
theorem c_X8_write (l : Launch) (G : va_G) {cy : Nat → ClassId} {L : List Nat} {M : Nat → va_E} {b : Nat → Nat} {ts : Int32} {pn : Nat → Int32}  (F : FW L M (flM cy b ts pn)) (p0 : Int32) (p1 : Int32) (p2 : Int64) : MI l G cy yX8_write cX8_write 5 (some .int) 2 0 0 [.ref (b 0), .int p0, .int p1, .long p2] L M (fun r L2 M2 => r = sp_write p0) := by
  refine MI.of (own := RX8) rfl (by decide) (Nat.le_of_ble_eq_true rfl) ?_
  intro p e s m below meth c A C hrt hnm
  rcases sc4 p0 with h1 | h2 | rfl | rfl | rfl | rfl
  · skip
    refine g_iload_n C dX8_write_0 rfl (j := 1) rfl ?_
    refine g_callSI C (c_X8_isSlot l G F p0) lk_X8_394 rfl rfl dX8_write_1 (Nat.le_of_ble_eq_true rfl) ⟨by decide, by decide⟩ ⟨by decide, by decide⟩ (fun r3 L M hp => ?_)
    obtain ⟨r3_, F⟩ := hp
    obtain rfl : r3 = 0 := by
      rcases r3_ with ⟨-, z1, z2⟩ | ⟨z, -⟩
      · exfalso; have a1 : p0.toInt < (0 : Int32).toInt := Int32.lt_iff_toInt_lt.mp h1; have k1 : (0 : Int32).toInt = 0 := (by decide); have j1 : (0 : Int64).toInt = 0 := (by decide); have j2 : (3 : Int64).toInt = 3 := (by decide); have b1 := Int64.le_iff_toInt_le.mp z1; have b2 := Int64.le_iff_toInt_le.mp z2; rw [Int32.toInt_toInt64] at b1 b2; omega
      · exact z
    refine g_if_ne C dX8_write_4 (tgt := 10) (by decide) (fun q => absurd (by decide) q) (fun _ => ?_)
    refine g_bipush C dX8_write_7 (v := -2) (by decide) ?_
    exact g_iret C hrt dX8_write_9 (by decide) (by decide) (by have a1 : p0.toInt < (0 : Int32).toInt := Int32.lt_iff_toInt_lt.mp h1; have k1 : (0 : Int32).toInt = 0 := (by decide); unfold sp_write; repeat (first | rfl | (split) | (exfalso; omega)))
  · skip
    refine g_iload_n C dX8_write_0 rfl (j := 1) rfl ?_
    refine g_callSI C (c_X8_isSlot l G F p0) lk_X8_394 rfl rfl dX8_write_1 (Nat.le_of_ble_eq_true rfl) ⟨by decide, by decide⟩ ⟨by decide, by decide⟩ (fun r4 L M hp => ?_)
    obtain ⟨r4_, F⟩ := hp
    obtain rfl : r4 = 0 := by
      rcases r4_ with ⟨-, z1, z2⟩ | ⟨z, -⟩
      · exfalso; have a1 : (4 : Int32).toInt ≤ p0.toInt := Int32.le_iff_toInt_le.mp h2; have k1 : (4 : Int32).toInt = 4 := (by decide); have j1 : (0 : Int64).toInt = 0 := (by decide); have j2 : (3 : Int64).toInt = 3 := (by decide); have b1 := Int64.le_iff_toInt_le.mp z1; have b2 := Int64.le_iff_toInt_le.mp z2; rw [Int32.toInt_toInt64] at b1 b2; omega
      · exact z
    refine g_if_ne C dX8_write_4 (tgt := 10) (by decide) (fun q => absurd (by decide) q) (fun _ => ?_)
    refine g_bipush C dX8_write_7 (v := -2) (by decide) ?_
    exact g_iret C hrt dX8_write_9 (by decide) (by decide) (by have a1 : (4 : Int32).toInt ≤ p0.toInt := Int32.le_iff_toInt_le.mp h2; have k1 : (4 : Int32).toInt = 4 := (by decide); unfold sp_write; repeat (first | rfl | (split) | (exfalso; omega)))
  · skip
    refine g_iload_n C dX8_write_0 rfl (j := 1) rfl ?_
    refine g_callSI C (c_X8_isSlot l G F 0) lk_X8_394 rfl rfl dX8_write_1 (Nat.le_of_ble_eq_true rfl) ⟨by decide, by decide⟩ ⟨by decide, by decide⟩ (fun r5 L M hp => ?_)
    obtain ⟨r5_, F⟩ := hp
    obtain rfl : r5 = 1 := by
      rcases r5_ with ⟨z, z1⟩ | ⟨z, z1⟩
      · exact z
      · exact absurd (by decide) z1
    refine g_if_ne C dX8_write_4 (tgt := 10) (by decide) (fun _ => ?_) (fun q => absurd q (by decide))
    refine g_aload_n C dX8_write_10 rfl (j := 0) rfl ?_
    refine h_get C F 0 rfl fk_X8_76 dX8_write_11 rfl ?_
    refine g_iload_n C dX8_write_14 rfl (j := 1) rfl ?_
    refine h_iald C F 21 rfl dX8_write_15 (vp_in_iff.mpr (by decide)) (v := -1) (by decide) ?_
    refine g_iconst C dX8_write_16 (v := -1) (by decide) ?_
    refine g_icmp_ne C dX8_write_17 (tgt := 23) (by decide) (fun q => absurd (by decide) q) (fun _ => ?_)
    refine g_bipush C dX8_write_20 (v := -6) (by decide) ?_
    exact g_iret C hrt dX8_write_22 (by decide) (by decide) (by decide)
  · skip
    refine g_iload_n C dX8_write_0 rfl (j := 1) rfl ?_
    refine g_callSI C (c_X8_isSlot l G F 1) lk_X8_394 rfl rfl dX8_write_1 (Nat.le_of_ble_eq_true rfl) ⟨by decide, by decide⟩ ⟨by decide, by decide⟩ (fun r6 L M hp => ?_)
    obtain ⟨r6_, F⟩ := hp
    obtain rfl : r6 = 1 := by
      rcases r6_ with ⟨z, z1⟩ | ⟨z, z1⟩
      · exact z
      · exact absurd (by decide) z1
    refine g_if_ne C dX8_write_4 (tgt := 10) (by decide) (fun _ => ?_) (fun q => absurd q (by decide))
    refine g_aload_n C dX8_write_10 rfl (j := 0) rfl ?_
    refine h_get C F 0 rfl fk_X8_76 dX8_write_11 rfl ?_
    refine g_iload_n C dX8_write_14 rfl (j := 1) rfl ?_
    refine h_iald C F 21 rfl dX8_write_15 (vp_in_iff.mpr (by decide)) (v := -1) (by decide) ?_
    refine g_iconst C dX8_write_16 (v := -1) (by decide) ?_
    refine g_icmp_ne C dX8_write_17 (tgt := 23) (by decide) (fun q => absurd (by decide) q) (fun _ => ?_)
    refine g_bipush C dX8_write_20 (v := -6) (by decide) ?_
    exact g_iret C hrt dX8_write_22 (by decide) (by decide) (by decide)
  · skip
    refine g_iload_n C dX8_write_0 rfl (j := 1) rfl ?_
    refine g_callSI C (c_X8_isSlot l G F 2) lk_X8_394 rfl rfl dX8_write_1 (Nat.le_of_ble_eq_true rfl) ⟨by decide, by decide⟩ ⟨by decide, by decide⟩ (fun r7 L M hp => ?_)
    obtain ⟨r7_, F⟩ := hp
    obtain rfl : r7 = 1 := by
      rcases r7_ with ⟨z, z1⟩ | ⟨z, z1⟩
      · exact z
      · exact absurd (by decide) z1
    refine g_if_ne C dX8_write_4 (tgt := 10) (by decide) (fun _ => ?_) (fun q => absurd q (by decide))
    refine g_aload_n C dX8_write_10 rfl (j := 0) rfl ?_
    refine h_get C F 0 rfl fk_X8_76 dX8_write_11 rfl ?_
    refine g_iload_n C dX8_write_14 rfl (j := 1) rfl ?_
    refine h_iald C F 21 rfl dX8_write_15 (vp_in_iff.mpr (by decide)) (v := -1) (by decide) ?_
    refine g_iconst C dX8_write_16 (v := -1) (by decide) ?_
    refine g_icmp_ne C dX8_write_17 (tgt := 23) (by decide) (fun q => absurd (by decide) q) (fun _ => ?_)
    refine g_bipush C dX8_write_20 (v := -6) (by decide) ?_
    exact g_iret C hrt dX8_write_22 (by decide) (by decide) (by decide)
  · skip
    refine g_iload_n C dX8_write_0 rfl (j := 1) rfl ?_
    refine g_callSI C (c_X8_isSlot l G F 3) lk_X8_394 rfl rfl dX8_write_1 (Nat.le_of_ble_eq_true rfl) ⟨by decide, by decide⟩ ⟨by decide, by decide⟩ (fun r8 L M hp => ?_)
    obtain ⟨r8_, F⟩ := hp
    obtain rfl : r8 = 1 := by
      rcases r8_ with ⟨z, z1⟩ | ⟨z, z1⟩
      · exact z
      · exact absurd (by decide) z1
    refine g_if_ne C dX8_write_4 (tgt := 10) (by decide) (fun _ => ?_) (fun q => absurd q (by decide))
    refine g_aload_n C dX8_write_10 rfl (j := 0) rfl ?_
    refine h_get C F 0 rfl fk_X8_76 dX8_write_11 rfl ?_
    refine g_iload_n C dX8_write_14 rfl (j := 1) rfl ?_
    refine h_iald C F 21 rfl dX8_write_15 (vp_in_iff.mpr (by decide)) (v := -1) (by decide) ?_
    refine g_iconst C dX8_write_16 (v := -1) (by decide) ?_
    refine g_icmp_ne C dX8_write_17 (tgt := 23) (by decide) (fun q => absurd (by decide) q) (fun _ => ?_)
    refine g_bipush C dX8_write_20 (v := -6) (by decide) ?_
    exact g_iret C hrt dX8_write_22 (by decide) (by decide) (by decide)
set_option maxHeartbeats 4000000 in
set_option maxRecDepth 100000 in
theorem c_X8_paste (l : Launch) (G : va_G) {cy : Nat → ClassId} {L : List Nat} {M : Nat → va_E} {b : Nat → Nat} {ts : Int32} {pn : Nat → Int32}  (F : FW L M (flM cy b ts pn)) (p0 : Int32) (p1 : Int32) (p2 : Int32) (p3 : Int32) (p4 : Int32) : MI l G cy yX8_paste cX8_paste 7 (some .int) 2 0 0 [.ref (b 0), .int p0, .int p1, .int p2, .int p3, .int p4] L M (fun r L2 M2 => r = sp_paste p0 p2) := by
  refine MI.of (own := RX8) rfl (by decide) (Nat.le_of_ble_eq_true rfl) ?_
  intro p e s m below meth c A C hrt hnm
  rcases sc4 p0 with h1 | h2 | rfl | rfl | rfl | rfl
  · skip
    rcases sc4 p2 with h3 | h4 | rfl | rfl | rfl | rfl
    · skip
      refine g_iload_n C dX8_paste_0 rfl (j := 1) rfl ?_
      refine g_callSI C (c_X8_isSlot l G F p0) lk_X8_394 rfl rfl dX8_paste_1 (Nat.le_of_ble_eq_true rfl) ⟨by decide, by decide⟩ ⟨by decide, by decide⟩ (fun r5 L M hp => ?_)
      obtain ⟨r5_, F⟩ := hp
      obtain rfl : r5 = 0 := by
        rcases r5_ with ⟨-, z1, z2⟩ | ⟨z, -⟩
        · exfalso; have a1 : p0.toInt < (0 : Int32).toInt := Int32.lt_iff_toInt_lt.mp h1; have k1 : (0 : Int32).toInt = 0 := (by decide); have j1 : (0 : Int64).toInt = 0 := (by decide); have j2 : (3 : Int64).toInt = 3 := (by decide); have b1 := Int64.le_iff_toInt_le.mp z1; have b2 := Int64.le_iff_toInt_le.mp z2; rw [Int32.toInt_toInt64] at b1 b2; omega
        · exact z
      refine g_if_eq C dX8_paste_4 (tgt := 14) (by decide) (fun _ => ?_) (fun q => absurd (by decide) q)
      refine g_bipush C dX8_paste_14 (v := -2) (by decide) ?_
      exact g_iret C hrt dX8_paste_16 (by decide) (by decide) (by have a1 : p0.toInt < (0 : Int32).toInt := Int32.lt_iff_toInt_lt.mp h1; have a2 : p2.toInt < (0 : Int32).toInt := Int32.lt_iff_toInt_lt.mp h3; have k2 : (0 : Int32).toInt = 0 := (by decide); unfold sp_paste; repeat (first | rfl | (split) | (exfalso; omega)))
    · skip
      refine g_iload_n C dX8_paste_0 rfl (j := 1) rfl ?_
      refine g_callSI C (c_X8_isSlot l G F p0) lk_X8_394 rfl rfl dX8_paste_1 (Nat.le_of_ble_eq_true rfl) ⟨by decide, by decide⟩ ⟨by decide, by decide⟩ (fun r6 L M hp => ?_)
      obtain ⟨r6_, F⟩ := hp
      obtain rfl : r6 = 0 := by
        rcases r6_ with ⟨-, z1, z2⟩ | ⟨z, -⟩
        · exfalso; have a1 : p0.toInt < (0 : Int32).toInt := Int32.lt_iff_toInt_lt.mp h1; have k1 : (0 : Int32).toInt = 0 := (by decide); have j1 : (0 : Int64).toInt = 0 := (by decide); have j2 : (3 : Int64).toInt = 3 := (by decide); have b1 := Int64.le_iff_toInt_le.mp z1; have b2 := Int64.le_iff_toInt_le.mp z2; rw [Int32.toInt_toInt64] at b1 b2; omega
        · exact z
      refine g_if_eq C dX8_paste_4 (tgt := 14) (by decide) (fun _ => ?_) (fun q => absurd (by decide) q)
      refine g_bipush C dX8_paste_14 (v := -2) (by decide) ?_
      exact g_iret C hrt dX8_paste_16 (by decide) (by decide) (by have a1 : p0.toInt < (0 : Int32).toInt := Int32.lt_iff_toInt_lt.mp h1; have a2 : (4 : Int32).toInt ≤ p2.toInt := Int32.le_iff_toInt_le.mp h4; have k2 : (0 : Int32).toInt = 0 := (by decide); have k3 : (4 : Int32).toInt = 4 := (by decide); unfold sp_paste; repeat (first | rfl | (split) | (exfalso; omega)))
    · skip
      refine g_iload_n C dX8_paste_0 rfl (j := 1) rfl ?_
      refine g_callSI C (c_X8_isSlot l G F p0) lk_X8_394 rfl rfl dX8_paste_1 (Nat.le_of_ble_eq_true rfl) ⟨by decide, by decide⟩ ⟨by decide, by decide⟩ (fun r7 L M hp => ?_)
      obtain ⟨r7_, F⟩ := hp
      obtain rfl : r7 = 0 := by
        rcases r7_ with ⟨-, z1, z2⟩ | ⟨z, -⟩
        · exfalso; have a1 : p0.toInt < (0 : Int32).toInt := Int32.lt_iff_toInt_lt.mp h1; have k1 : (0 : Int32).toInt = 0 := (by decide); have j1 : (0 : Int64).toInt = 0 := (by decide); have j2 : (3 : Int64).toInt = 3 := (by decide); have b1 := Int64.le_iff_toInt_le.mp z1; have b2 := Int64.le_iff_toInt_le.mp z2; rw [Int32.toInt_toInt64] at b1 b2; omega
        · exact z
      refine g_if_eq C dX8_paste_4 (tgt := 14) (by decide) (fun _ => ?_) (fun q => absurd (by decide) q)
      refine g_bipush C dX8_paste_14 (v := -2) (by decide) ?_
      exact g_iret C hrt dX8_paste_16 (by decide) (by decide) (by have a1 : p0.toInt < (0 : Int32).toInt := Int32.lt_iff_toInt_lt.mp h1; have k1 : (0 : Int32).toInt = 0 := (by decide); unfold sp_paste; repeat (first | rfl | (split) | (exfalso; omega)))
    · skip
      refine g_iload_n C dX8_paste_0 rfl (j := 1) rfl ?_
      refine g_callSI C (c_X8_isSlot l G F p0) lk_X8_394 rfl rfl dX8_paste_1 (Nat.le_of_ble_eq_true rfl) ⟨by decide, by decide⟩ ⟨by decide, by decide⟩ (fun r8 L M hp => ?_)
      obtain ⟨r8_, F⟩ := hp
      obtain rfl : r8 = 0 := by
        rcases r8_ with ⟨-, z1, z2⟩ | ⟨z, -⟩
        · exfalso; have a1 : p0.toInt < (0 : Int32).toInt := Int32.lt_iff_toInt_lt.mp h1; have k1 : (0 : Int32).toInt = 0 := (by decide); have k2 : (1 : Int32).toInt = 1 := (by decide); have j1 : (0 : Int64).toInt = 0 := (by decide); have j2 : (3 : Int64).toInt = 3 := (by decide); have b1 := Int64.le_iff_toInt_le.mp z1; have b2 := Int64.le_iff_toInt_le.mp z2; rw [Int32.toInt_toInt64] at b1 b2; omega
        · exact z
      refine g_if_eq C dX8_paste_4 (tgt := 14) (by decide) (fun _ => ?_) (fun q => absurd (by decide) q)
      refine g_bipush C dX8_paste_14 (v := -2) (by decide) ?_
      exact g_iret C hrt dX8_paste_16 (by decide) (by decide) (by have a1 : p0.toInt < (0 : Int32).toInt := Int32.lt_iff_toInt_lt.mp h1; have k1 : (0 : Int32).toInt = 0 := (by decide); have k2 : (1 : Int32).toInt = 1 := (by decide); unfold sp_paste; repeat (first | rfl | (split) | (exfalso; omega)))
    · skip
      refine g_iload_n C dX8_paste_0 rfl (j := 1) rfl ?_
      refine g_callSI C (c_X8_isSlot l G F p0) lk_X8_394 rfl rfl dX8_paste_1 (Nat.le_of_ble_eq_true rfl) ⟨by decide, by decide⟩ ⟨by decide, by decide⟩ (fun r9 L M hp => ?_)
      obtain ⟨r9_, F⟩ := hp
      obtain rfl : r9 = 0 := by
        rcases r9_ with ⟨-, z1, z2⟩ | ⟨z, -⟩
        · exfalso; have a1 : p0.toInt < (0 : Int32).toInt := Int32.lt_iff_toInt_lt.mp h1; have k1 : (0 : Int32).toInt = 0 := (by decide); have k2 : (2 : Int32).toInt = 2 := (by decide); have j1 : (0 : Int64).toInt = 0 := (by decide); have j2 : (3 : Int64).toInt = 3 := (by decide); have b1 := Int64.le_iff_toInt_le.mp z1; have b2 := Int64.le_iff_toInt_le.mp z2; rw [Int32.toInt_toInt64] at b1 b2; omega
        · exact z
      refine g_if_eq C dX8_paste_4 (tgt := 14) (by decide) (fun _ => ?_) (fun q => absurd (by decide) q)
      refine g_bipush C dX8_paste_14 (v := -2) (by decide) ?_
      exact g_iret C hrt dX8_paste_16 (by decide) (by decide) (by have a1 : p0.toInt < (0 : Int32).toInt := Int32.lt_iff_toInt_lt.mp h1; have k1 : (0 : Int32).toInt = 0 := (by decide); have k2 : (2 : Int32).toInt = 2 := (by decide); unfold sp_paste; repeat (first | rfl | (split) | (exfalso; omega)))
    · skip
      refine g_iload_n C dX8_paste_0 rfl (j := 1) rfl ?_
      refine g_callSI C (c_X8_isSlot l G F p0) lk_X8_394 rfl rfl dX8_paste_1 (Nat.le_of_ble_eq_true rfl) ⟨by decide, by decide⟩ ⟨by decide, by decide⟩ (fun r10 L M hp => ?_)
      obtain ⟨r10_, F⟩ := hp
      obtain rfl : r10 = 0 := by
        rcases r10_ with ⟨-, z1, z2⟩ | ⟨z, -⟩
        · exfalso; have a1 : p0.toInt < (0 : Int32).toInt := Int32.lt_iff_toInt_lt.mp h1; have k1 : (0 : Int32).toInt = 0 := (by decide); have k2 : (3 : Int32).toInt = 3 := (by decide); have j1 : (0 : Int64).toInt = 0 := (by decide); have j2 : (3 : Int64).toInt = 3 := (by decide); have b1 := Int64.le_iff_toInt_le.mp z1; have b2 := Int64.le_iff_toInt_le.mp z2; rw [Int32.toInt_toInt64] at b1 b2; omega
        · exact z
      refine g_if_eq C dX8_paste_4 (tgt := 14) (by decide) (fun _ => ?_) (fun q => absurd (by decide) q)
      refine g_bipush C dX8_paste_14 (v := -2) (by decide) ?_
      exact g_iret C hrt dX8_paste_16 (by decide) (by decide) (by have a1 : p0.toInt < (0 : Int32).toInt := Int32.lt_iff_toInt_lt.mp h1; have k1 : (0 : Int32).toInt = 0 := (by decide); have k2 : (3 : Int32).toInt = 3 := (by decide); unfold sp_paste; repeat (first | rfl | (split) | (exfalso; omega)))
  · skip
    rcases sc4 p2 with h11 | h12 | rfl | rfl | rfl | rfl
    · skip
      refine g_iload_n C dX8_paste_0 rfl (j := 1) rfl ?_
      refine g_callSI C (c_X8_isSlot l G F p0) lk_X8_394 rfl rfl dX8_paste_1 (Nat.le_of_ble_eq_true rfl) ⟨by decide, by decide⟩ ⟨by decide, by decide⟩ (fun r13 L M hp => ?_)
      obtain ⟨r13_, F⟩ := hp
      obtain rfl : r13 = 0 := by
        rcases r13_ with ⟨-, z1, z2⟩ | ⟨z, -⟩
        · exfalso; have a1 : (4 : Int32).toInt ≤ p0.toInt := Int32.le_iff_toInt_le.mp h2; have k1 : (4 : Int32).toInt = 4 := (by decide); have j1 : (0 : Int64).toInt = 0 := (by decide); have j2 : (3 : Int64).toInt = 3 := (by decide); have b1 := Int64.le_iff_toInt_le.mp z1; have b2 := Int64.le_iff_toInt_le.mp z2; rw [Int32.toInt_toInt64] at b1 b2; omega
        · exact z
      refine g_if_eq C dX8_paste_4 (tgt := 14) (by decide) (fun _ => ?_) (fun q => absurd (by decide) q)
      refine g_bipush C dX8_paste_14 (v := -2) (by decide) ?_
      exact g_iret C hrt dX8_paste_16 (by decide) (by decide) (by have a1 : (4 : Int32).toInt ≤ p0.toInt := Int32.le_iff_toInt_le.mp h2; have a2 : p2.toInt < (0 : Int32).toInt := Int32.lt_iff_toInt_lt.mp h11; have k2 : (0 : Int32).toInt = 0 := (by decide); have k3 : (4 : Int32).toInt = 4 := (by decide); unfold sp_paste; repeat (first | rfl | (split) | (exfalso; omega)))
    · skip
      refine g_iload_n C dX8_paste_0 rfl (j := 1) rfl ?_
      refine g_callSI C (c_X8_isSlot l G F p0) lk_X8_394 rfl rfl dX8_paste_1 (Nat.le_of_ble_eq_true rfl) ⟨by decide, by decide⟩ ⟨by decide, by decide⟩ (fun r14 L M hp => ?_)
      obtain ⟨r14_, F⟩ := hp
      obtain rfl : r14 = 0 := by
        rcases r14_ with ⟨-, z1, z2⟩ | ⟨z, -⟩
        · exfalso; have a1 : (4 : Int32).toInt ≤ p0.toInt := Int32.le_iff_toInt_le.mp h2; have k1 : (4 : Int32).toInt = 4 := (by decide); have j1 : (0 : Int64).toInt = 0 := (by decide); have j2 : (3 : Int64).toInt = 3 := (by decide); have b1 := Int64.le_iff_toInt_le.mp z1; have b2 := Int64.le_iff_toInt_le.mp z2; rw [Int32.toInt_toInt64] at b1 b2; omega
        · exact z
      refine g_if_eq C dX8_paste_4 (tgt := 14) (by decide) (fun _ => ?_) (fun q => absurd (by decide) q)
      refine g_bipush C dX8_paste_14 (v := -2) (by decide) ?_
      exact g_iret C hrt dX8_paste_16 (by decide) (by decide) (by have a1 : (4 : Int32).toInt ≤ p0.toInt := Int32.le_iff_toInt_le.mp h2; have a2 : (4 : Int32).toInt ≤ p2.toInt := Int32.le_iff_toInt_le.mp h12; have k2 : (4 : Int32).toInt = 4 := (by decide); unfold sp_paste; repeat (first | rfl | (split) | (exfalso; omega)))
    · skip
      refine g_iload_n C dX8_paste_0 rfl (j := 1) rfl ?_
      refine g_callSI C (c_X8_isSlot l G F p0) lk_X8_394 rfl rfl dX8_paste_1 (Nat.le_of_ble_eq_true rfl) ⟨by decide, by decide⟩ ⟨by decide, by decide⟩ (fun r15 L M hp => ?_)
      obtain ⟨r15_, F⟩ := hp
      obtain rfl : r15 = 0 := by
        rcases r15_ with ⟨-, z1, z2⟩ | ⟨z, -⟩
        · exfalso; have a1 : (4 : Int32).toInt ≤ p0.toInt := Int32.le_iff_toInt_le.mp h2; have k1 : (0 : Int32).toInt = 0 := (by decide); have k2 : (4 : Int32).toInt = 4 := (by decide); have j1 : (0 : Int64).toInt = 0 := (by decide); have j2 : (3 : Int64).toInt = 3 := (by decide); have b1 := Int64.le_iff_toInt_le.mp z1; have b2 := Int64.le_iff_toInt_le.mp z2; rw [Int32.toInt_toInt64] at b1 b2; omega
        · exact z
      refine g_if_eq C dX8_paste_4 (tgt := 14) (by decide) (fun _ => ?_) (fun q => absurd (by decide) q)
      refine g_bipush C dX8_paste_14 (v := -2) (by decide) ?_
      exact g_iret C hrt dX8_paste_16 (by decide) (by decide) (by have a1 : (4 : Int32).toInt ≤ p0.toInt := Int32.le_iff_toInt_le.mp h2; have k1 : (0 : Int32).toInt = 0 := (by decide); have k2 : (4 : Int32).toInt = 4 := (by decide); unfold sp_paste; repeat (first | rfl | (split) | (exfalso; omega)))
    · skip
      refine g_iload_n C dX8_paste_0 rfl (j := 1) rfl ?_
      refine g_callSI C (c_X8_isSlot l G F p0) lk_X8_394 rfl rfl dX8_paste_1 (Nat.le_of_ble_eq_true rfl) ⟨by decide, by decide⟩ ⟨by decide, by decide⟩ (fun r16 L M hp => ?_)
      obtain ⟨r16_, F⟩ := hp
      obtain rfl : r16 = 0 := by
        rcases r16_ with ⟨-, z1, z2⟩ | ⟨z, -⟩
        · exfalso; have a1 : (4 : Int32).toInt ≤ p0.toInt := Int32.le_iff_toInt_le.mp h2; have k1 : (1 : Int32).toInt = 1 := (by decide); have k2 : (4 : Int32).toInt = 4 := (by decide); have j1 : (0 : Int64).toInt = 0 := (by decide); have j2 : (3 : Int64).toInt = 3 := (by decide); have b1 := Int64.le_iff_toInt_le.mp z1; have b2 := Int64.le_iff_toInt_le.mp z2; rw [Int32.toInt_toInt64] at b1 b2; omega
        · exact z
      refine g_if_eq C dX8_paste_4 (tgt := 14) (by decide) (fun _ => ?_) (fun q => absurd (by decide) q)
      refine g_bipush C dX8_paste_14 (v := -2) (by decide) ?_
      exact g_iret C hrt dX8_paste_16 (by decide) (by decide) (by have a1 : (4 : Int32).toInt ≤ p0.toInt := Int32.le_iff_toInt_le.mp h2; have k1 : (1 : Int32).toInt = 1 := (by decide); have k2 : (4 : Int32).toInt = 4 := (by decide); unfold sp_paste; repeat (first | rfl | (split) | (exfalso; omega)))
    · skip
      refine g_iload_n C dX8_paste_0 rfl (j := 1) rfl ?_
      refine g_callSI C (c_X8_isSlot l G F p0) lk_X8_394 rfl rfl dX8_paste_1 (Nat.le_of_ble_eq_true rfl) ⟨by decide, by decide⟩ ⟨by decide, by decide⟩ (fun r17 L M hp => ?_)
      obtain ⟨r17_, F⟩ := hp
      obtain rfl : r17 = 0 := by
        rcases r17_ with ⟨-, z1, z2⟩ | ⟨z, -⟩
        · exfalso; have a1 : (4 : Int32).toInt ≤ p0.toInt := Int32.le_iff_toInt_le.mp h2; have k1 : (2 : Int32).toInt = 2 := (by decide); have k2 : (4 : Int32).toInt = 4 := (by decide); have j1 : (0 : Int64).toInt = 0 := (by decide); have j2 : (3 : Int64).toInt = 3 := (by decide); have b1 := Int64.le_iff_toInt_le.mp z1; have b2 := Int64.le_iff_toInt_le.mp z2; rw [Int32.toInt_toInt64] at b1 b2; omega
        · exact z
      refine g_if_eq C dX8_paste_4 (tgt := 14) (by decide) (fun _ => ?_) (fun q => absurd (by decide) q)
      refine g_bipush C dX8_paste_14 (v := -2) (by decide) ?_
      exact g_iret C hrt dX8_paste_16 (by decide) (by decide) (by have a1 : (4 : Int32).toInt ≤ p0.toInt := Int32.le_iff_toInt_le.mp h2; have k1 : (2 : Int32).toInt = 2 := (by decide); have k2 : (4 : Int32).toInt = 4 := (by decide); unfold sp_paste; repeat (first | rfl | (split) | (exfalso; omega)))
    · skip
      refine g_iload_n C dX8_paste_0 rfl (j := 1) rfl ?_
      refine g_callSI C (c_X8_isSlot l G F p0) lk_X8_394 rfl rfl dX8_paste_1 (Nat.le_of_ble_eq_true rfl) ⟨by decide, by decide⟩ ⟨by decide, by decide⟩ (fun r18 L M hp => ?_)
      obtain ⟨r18_, F⟩ := hp
      obtain rfl : r18 = 0 := by
        rcases r18_ with ⟨-, z1, z2⟩ | ⟨z, -⟩
        · exfalso; have a1 : (4 : Int32).toInt ≤ p0.toInt := Int32.le_iff_toInt_le.mp h2; have k1 : (3 : Int32).toInt = 3 := (by decide); have k2 : (4 : Int32).toInt = 4 := (by decide); have j1 : (0 : Int64).toInt = 0 := (by decide); have j2 : (3 : Int64).toInt = 3 := (by decide); have b1 := Int64.le_iff_toInt_le.mp z1; have b2 := Int64.le_iff_toInt_le.mp z2; rw [Int32.toInt_toInt64] at b1 b2; omega
        · exact z
      refine g_if_eq C dX8_paste_4 (tgt := 14) (by decide) (fun _ => ?_) (fun q => absurd (by decide) q)
      refine g_bipush C dX8_paste_14 (v := -2) (by decide) ?_
      exact g_iret C hrt dX8_paste_16 (by decide) (by decide) (by have a1 : (4 : Int32).toInt ≤ p0.toInt := Int32.le_iff_toInt_le.mp h2; have k1 : (3 : Int32).toInt = 3 := (by decide); have k2 : (4 : Int32).toInt = 4 := (by decide); unfold sp_paste; repeat (first | rfl | (split) | (exfalso; omega)))
  · skip
    rcases sc4 p2 with h19 | h20 | rfl | rfl | rfl | rfl
    · skip
      refine g_iload_n C dX8_paste_0 rfl (j := 1) rfl ?_
      refine g_callSI C (c_X8_isSlot l G F 0) lk_X8_394 rfl rfl dX8_paste_1 (Nat.le_of_ble_eq_true rfl) ⟨by decide, by decide⟩ ⟨by decide, by decide⟩ (fun r21 L M hp => ?_)
      obtain ⟨r21_, F⟩ := hp
      obtain rfl : r21 = 1 := by
        rcases r21_ with ⟨z, z1⟩ | ⟨z, z1⟩
        · exact z
        · exact absurd (by decide) z1
      refine g_if_eq C dX8_paste_4 (tgt := 14) (by decide) (fun q => absurd q (by decide)) (fun _ => ?_)
      refine g_iload_n C dX8_paste_7 rfl (j := 3) rfl ?_
      refine g_callSI C (c_X8_isSlot l G F p2) lk_X8_394 rfl rfl dX8_paste_8 (Nat.le_of_ble_eq_true rfl) ⟨by decide, by decide⟩ ⟨by decide, by decide⟩ (fun r22 L M hp => ?_)
      obtain ⟨r22_, F⟩ := hp
      obtain rfl : r22 = 0 := by
        rcases r22_ with ⟨-, z1, z2⟩ | ⟨z, -⟩
        · exfalso; have a1 : p2.toInt < (0 : Int32).toInt := Int32.lt_iff_toInt_lt.mp h19; have k1 : (0 : Int32).toInt = 0 := (by decide); have j1 : (0 : Int64).toInt = 0 := (by decide); have j2 : (3 : Int64).toInt = 3 := (by decide); have b1 := Int64.le_iff_toInt_le.mp z1; have b2 := Int64.le_iff_toInt_le.mp z2; rw [Int32.toInt_toInt64] at b1 b2; omega
        · exact z
      refine g_if_ne C dX8_paste_11 (tgt := 17) (by decide) (fun q => absurd (by decide) q) (fun _ => ?_)
      refine g_bipush C dX8_paste_14 (v := -2) (by decide) ?_
      exact g_iret C hrt dX8_paste_16 (by decide) (by decide) (by have a1 : p2.toInt < (0 : Int32).toInt := Int32.lt_iff_toInt_lt.mp h19; have k1 : (0 : Int32).toInt = 0 := (by decide); unfold sp_paste; repeat (first | rfl | (split) | (exfalso; omega)))
    · skip
      refine g_iload_n C dX8_paste_0 rfl (j := 1) rfl ?_
      refine g_callSI C (c_X8_isSlot l G F 0) lk_X8_394 rfl rfl dX8_paste_1 (Nat.le_of_ble_eq_true rfl) ⟨by decide, by decide⟩ ⟨by decide, by decide⟩ (fun r23 L M hp => ?_)
      obtain ⟨r23_, F⟩ := hp
      obtain rfl : r23 = 1 := by
        rcases r23_ with ⟨z, z1⟩ | ⟨z, z1⟩
        · exact z
        · exact absurd (by decide) z1
      refine g_if_eq C dX8_paste_4 (tgt := 14) (by decide) (fun q => absurd q (by decide)) (fun _ => ?_)
      refine g_iload_n C dX8_paste_7 rfl (j := 3) rfl ?_
      refine g_callSI C (c_X8_isSlot l G F p2) lk_X8_394 rfl rfl dX8_paste_8 (Nat.le_of_ble_eq_true rfl) ⟨by decide, by decide⟩ ⟨by decide, by decide⟩ (fun r24 L M hp => ?_)
      obtain ⟨r24_, F⟩ := hp
      obtain rfl : r24 = 0 := by
        rcases r24_ with ⟨-, z1, z2⟩ | ⟨z, -⟩
        · exfalso; have a1 : (4 : Int32).toInt ≤ p2.toInt := Int32.le_iff_toInt_le.mp h20; have k1 : (0 : Int32).toInt = 0 := (by decide); have k2 : (4 : Int32).toInt = 4 := (by decide); have j1 : (0 : Int64).toInt = 0 := (by decide); have j2 : (3 : Int64).toInt = 3 := (by decide); have b1 := Int64.le_iff_toInt_le.mp z1; have b2 := Int64.le_iff_toInt_le.mp z2; rw [Int32.toInt_toInt64] at b1 b2; omega
        · exact z
      refine g_if_ne C dX8_paste_11 (tgt := 17) (by decide) (fun q => absurd (by decide) q) (fun _ => ?_)
      refine g_bipush C dX8_paste_14 (v := -2) (by decide) ?_
      exact g_iret C hrt dX8_paste_16 (by decide) (by decide) (by have a1 : (4 : Int32).toInt ≤ p2.toInt := Int32.le_iff_toInt_le.mp h20; have k1 : (0 : Int32).toInt = 0 := (by decide); have k2 : (4 : Int32).toInt = 4 := (by decide); unfold sp_paste; repeat (first | rfl | (split) | (exfalso; omega)))
    · skip
      refine g_iload_n C dX8_paste_0 rfl (j := 1) rfl ?_
      refine g_callSI C (c_X8_isSlot l G F 0) lk_X8_394 rfl rfl dX8_paste_1 (Nat.le_of_ble_eq_true rfl) ⟨by decide, by decide⟩ ⟨by decide, by decide⟩ (fun r25 L M hp => ?_)
      obtain ⟨r25_, F⟩ := hp
      obtain rfl : r25 = 1 := by
        rcases r25_ with ⟨z, z1⟩ | ⟨z, z1⟩
        · exact z
        · exact absurd (by decide) z1
      refine g_if_eq C dX8_paste_4 (tgt := 14) (by decide) (fun q => absurd q (by decide)) (fun _ => ?_)
      refine g_iload_n C dX8_paste_7 rfl (j := 3) rfl ?_
      refine g_callSI C (c_X8_isSlot l G F 0) lk_X8_394 rfl rfl dX8_paste_8 (Nat.le_of_ble_eq_true rfl) ⟨by decide, by decide⟩ ⟨by decide, by decide⟩ (fun r26 L M hp => ?_)
      obtain ⟨r26_, F⟩ := hp
      obtain rfl : r26 = 1 := by
        rcases r26_ with ⟨z, z1⟩ | ⟨z, z1⟩
        · exact z
        · exact absurd (by decide) z1
      refine g_if_ne C dX8_paste_11 (tgt := 17) (by decide) (fun _ => ?_) (fun q => absurd q (by decide))
      refine g_aload_n C dX8_paste_17 rfl (j := 0) rfl ?_
      refine h_get C F 0 rfl fk_X8_76 dX8_paste_18 rfl ?_
      refine g_iload_n C dX8_paste_21 rfl (j := 1) rfl ?_
      refine h_iald C F 21 rfl dX8_paste_22 (vp_in_iff.mpr (by decide)) (v := -1) (by decide) ?_
      refine g_iconst C dX8_paste_23 (v := -1) (by decide) ?_
      refine g_icmp_eq C dX8_paste_24 (tgt := 37) (by decide) (fun _ => ?_) (fun q => absurd (by decide) q)
      refine g_bipush C dX8_paste_37 (v := -6) (by decide) ?_
      exact g_iret C hrt dX8_paste_39 (by decide) (by decide) (by decide)
    · skip
      refine g_iload_n C dX8_paste_0 rfl (j := 1) rfl ?_
      refine g_callSI C (c_X8_isSlot l G F 0) lk_X8_394 rfl rfl dX8_paste_1 (Nat.le_of_ble_eq_true rfl) ⟨by decide, by decide⟩ ⟨by decide, by decide⟩ (fun r27 L M hp => ?_)
      obtain ⟨r27_, F⟩ := hp
      obtain rfl : r27 = 1 := by
        rcases r27_ with ⟨z, z1⟩ | ⟨z, z1⟩
        · exact z
        · exact absurd (by decide) z1
      refine g_if_eq C dX8_paste_4 (tgt := 14) (by decide) (fun q => absurd q (by decide)) (fun _ => ?_)
      refine g_iload_n C dX8_paste_7 rfl (j := 3) rfl ?_
      refine g_callSI C (c_X8_isSlot l G F 1) lk_X8_394 rfl rfl dX8_paste_8 (Nat.le_of_ble_eq_true rfl) ⟨by decide, by decide⟩ ⟨by decide, by decide⟩ (fun r28 L M hp => ?_)
      obtain ⟨r28_, F⟩ := hp
      obtain rfl : r28 = 1 := by
        rcases r28_ with ⟨z, z1⟩ | ⟨z, z1⟩
        · exact z
        · exact absurd (by decide) z1
      refine g_if_ne C dX8_paste_11 (tgt := 17) (by decide) (fun _ => ?_) (fun q => absurd q (by decide))
      refine g_aload_n C dX8_paste_17 rfl (j := 0) rfl ?_
      refine h_get C F 0 rfl fk_X8_76 dX8_paste_18 rfl ?_
      refine g_iload_n C dX8_paste_21 rfl (j := 1) rfl ?_
      refine h_iald C F 21 rfl dX8_paste_22 (vp_in_iff.mpr (by decide)) (v := -1) (by decide) ?_
      refine g_iconst C dX8_paste_23 (v := -1) (by decide) ?_
      refine g_icmp_eq C dX8_paste_24 (tgt := 37) (by decide) (fun _ => ?_) (fun q => absurd (by decide) q)
      refine g_bipush C dX8_paste_37 (v := -6) (by decide) ?_
      exact g_iret C hrt dX8_paste_39 (by decide) (by decide) (by decide)
    · skip
      refine g_iload_n C dX8_paste_0 rfl (j := 1) rfl ?_
      refine g_callSI C (c_X8_isSlot l G F 0) lk_X8_394 rfl rfl dX8_paste_1 (Nat.le_of_ble_eq_true rfl) ⟨by decide, by decide⟩ ⟨by decide, by decide⟩ (fun r29 L M hp => ?_)
      obtain ⟨r29_, F⟩ := hp
      obtain rfl : r29 = 1 := by
        rcases r29_ with ⟨z, z1⟩ | ⟨z, z1⟩
        · exact z
        · exact absurd (by decide) z1
      refine g_if_eq C dX8_paste_4 (tgt := 14) (by decide) (fun q => absurd q (by decide)) (fun _ => ?_)
      refine g_iload_n C dX8_paste_7 rfl (j := 3) rfl ?_
      refine g_callSI C (c_X8_isSlot l G F 2) lk_X8_394 rfl rfl dX8_paste_8 (Nat.le_of_ble_eq_true rfl) ⟨by decide, by decide⟩ ⟨by decide, by decide⟩ (fun r30 L M hp => ?_)
      obtain ⟨r30_, F⟩ := hp
      obtain rfl : r30 = 1 := by
        rcases r30_ with ⟨z, z1⟩ | ⟨z, z1⟩
        · exact z
        · exact absurd (by decide) z1
      refine g_if_ne C dX8_paste_11 (tgt := 17) (by decide) (fun _ => ?_) (fun q => absurd q (by decide))
      refine g_aload_n C dX8_paste_17 rfl (j := 0) rfl ?_
      refine h_get C F 0 rfl fk_X8_76 dX8_paste_18 rfl ?_
      refine g_iload_n C dX8_paste_21 rfl (j := 1) rfl ?_
      refine h_iald C F 21 rfl dX8_paste_22 (vp_in_iff.mpr (by decide)) (v := -1) (by decide) ?_
      refine g_iconst C dX8_paste_23 (v := -1) (by decide) ?_
      refine g_icmp_eq C dX8_paste_24 (tgt := 37) (by decide) (fun _ => ?_) (fun q => absurd (by decide) q)
      refine g_bipush C dX8_paste_37 (v := -6) (by decide) ?_
      exact g_iret C hrt dX8_paste_39 (by decide) (by decide) (by decide)
    · skip
      refine g_iload_n C dX8_paste_0 rfl (j := 1) rfl ?_
      refine g_callSI C (c_X8_isSlot l G F 0) lk_X8_394 rfl rfl dX8_paste_1 (Nat.le_of_ble_eq_true rfl) ⟨by decide, by decide⟩ ⟨by decide, by decide⟩ (fun r31 L M hp => ?_)
      obtain ⟨r31_, F⟩ := hp
      obtain rfl : r31 = 1 := by
        rcases r31_ with ⟨z, z1⟩ | ⟨z, z1⟩
        · exact z
        · exact absurd (by decide) z1
      refine g_if_eq C dX8_paste_4 (tgt := 14) (by decide) (fun q => absurd q (by decide)) (fun _ => ?_)
      refine g_iload_n C dX8_paste_7 rfl (j := 3) rfl ?_
      refine g_callSI C (c_X8_isSlot l G F 3) lk_X8_394 rfl rfl dX8_paste_8 (Nat.le_of_ble_eq_true rfl) ⟨by decide, by decide⟩ ⟨by decide, by decide⟩ (fun r32 L M hp => ?_)
      obtain ⟨r32_, F⟩ := hp
      obtain rfl : r32 = 1 := by
        rcases r32_ with ⟨z, z1⟩ | ⟨z, z1⟩
        · exact z
        · exact absurd (by decide) z1
      refine g_if_ne C dX8_paste_11 (tgt := 17) (by decide) (fun _ => ?_) (fun q => absurd q (by decide))
      refine g_aload_n C dX8_paste_17 rfl (j := 0) rfl ?_
      refine h_get C F 0 rfl fk_X8_76 dX8_paste_18 rfl ?_
      refine g_iload_n C dX8_paste_21 rfl (j := 1) rfl ?_
      refine h_iald C F 21 rfl dX8_paste_22 (vp_in_iff.mpr (by decide)) (v := -1) (by decide) ?_
      refine g_iconst C dX8_paste_23 (v := -1) (by decide) ?_
      refine g_icmp_eq C dX8_paste_24 (tgt := 37) (by decide) (fun _ => ?_) (fun q => absurd (by decide) q)
      refine g_bipush C dX8_paste_37 (v := -6) (by decide) ?_
      exact g_iret C hrt dX8_paste_39 (by decide) (by decide) (by decide)
  · skip
    rcases sc4 p2 with h33 | h34 | rfl | rfl | rfl | rfl
    · skip
      refine g_iload_n C dX8_paste_0 rfl (j := 1) rfl ?_
      refine g_callSI C (c_X8_isSlot l G F 1) lk_X8_394 rfl rfl dX8_paste_1 (Nat.le_of_ble_eq_true rfl) ⟨by decide, by decide⟩ ⟨by decide, by decide⟩ (fun r35 L M hp => ?_)
      obtain ⟨r35_, F⟩ := hp
      obtain rfl : r35 = 1 := by
        rcases r35_ with ⟨z, z1⟩ | ⟨z, z1⟩
        · exact z
        · exact absurd (by decide) z1
      refine g_if_eq C dX8_paste_4 (tgt := 14) (by decide) (fun q => absurd q (by decide)) (fun _ => ?_)
      refine g_iload_n C dX8_paste_7 rfl (j := 3) rfl ?_
      refine g_callSI C (c_X8_isSlot l G F p2) lk_X8_394 rfl rfl dX8_paste_8 (Nat.le_of_ble_eq_true rfl) ⟨by decide, by decide⟩ ⟨by decide, by decide⟩ (fun r36 L M hp => ?_)
      obtain ⟨r36_, F⟩ := hp
      obtain rfl : r36 = 0 := by
        rcases r36_ with ⟨-, z1, z2⟩ | ⟨z, -⟩
        · exfalso; have a1 : p2.toInt < (0 : Int32).toInt := Int32.lt_iff_toInt_lt.mp h33; have k1 : (0 : Int32).toInt = 0 := (by decide); have k2 : (1 : Int32).toInt = 1 := (by decide); have j1 : (0 : Int64).toInt = 0 := (by decide); have j2 : (3 : Int64).toInt = 3 := (by decide); have b1 := Int64.le_iff_toInt_le.mp z1; have b2 := Int64.le_iff_toInt_le.mp z2; rw [Int32.toInt_toInt64] at b1 b2; omega
        · exact z
      refine g_if_ne C dX8_paste_11 (tgt := 17) (by decide) (fun q => absurd (by decide) q) (fun _ => ?_)
      refine g_bipush C dX8_paste_14 (v := -2) (by decide) ?_
      exact g_iret C hrt dX8_paste_16 (by decide) (by decide) (by have a1 : p2.toInt < (0 : Int32).toInt := Int32.lt_iff_toInt_lt.mp h33; have k1 : (0 : Int32).toInt = 0 := (by decide); have k2 : (1 : Int32).toInt = 1 := (by decide); unfold sp_paste; repeat (first | rfl | (split) | (exfalso; omega)))
    · skip
      refine g_iload_n C dX8_paste_0 rfl (j := 1) rfl ?_
      refine g_callSI C (c_X8_isSlot l G F 1) lk_X8_394 rfl rfl dX8_paste_1 (Nat.le_of_ble_eq_true rfl) ⟨by decide, by decide⟩ ⟨by decide, by decide⟩ (fun r37 L M hp => ?_)
      obtain ⟨r37_, F⟩ := hp
      obtain rfl : r37 = 1 := by
        rcases r37_ with ⟨z, z1⟩ | ⟨z, z1⟩
        · exact z
        · exact absurd (by decide) z1
      refine g_if_eq C dX8_paste_4 (tgt := 14) (by decide) (fun q => absurd q (by decide)) (fun _ => ?_)
      refine g_iload_n C dX8_paste_7 rfl (j := 3) rfl ?_
      refine g_callSI C (c_X8_isSlot l G F p2) lk_X8_394 rfl rfl dX8_paste_8 (Nat.le_of_ble_eq_true rfl) ⟨by decide, by decide⟩ ⟨by decide, by decide⟩ (fun r38 L M hp => ?_)
      obtain ⟨r38_, F⟩ := hp
      obtain rfl : r38 = 0 := by
        rcases r38_ with ⟨-, z1, z2⟩ | ⟨z, -⟩
        · exfalso; have a1 : (4 : Int32).toInt ≤ p2.toInt := Int32.le_iff_toInt_le.mp h34; have k1 : (1 : Int32).toInt = 1 := (by decide); have k2 : (4 : Int32).toInt = 4 := (by decide); have j1 : (0 : Int64).toInt = 0 := (by decide); have j2 : (3 : Int64).toInt = 3 := (by decide); have b1 := Int64.le_iff_toInt_le.mp z1; have b2 := Int64.le_iff_toInt_le.mp z2; rw [Int32.toInt_toInt64] at b1 b2; omega
        · exact z
      refine g_if_ne C dX8_paste_11 (tgt := 17) (by decide) (fun q => absurd (by decide) q) (fun _ => ?_)
      refine g_bipush C dX8_paste_14 (v := -2) (by decide) ?_
      exact g_iret C hrt dX8_paste_16 (by decide) (by decide) (by have a1 : (4 : Int32).toInt ≤ p2.toInt := Int32.le_iff_toInt_le.mp h34; have k1 : (1 : Int32).toInt = 1 := (by decide); have k2 : (4 : Int32).toInt = 4 := (by decide); unfold sp_paste; repeat (first | rfl | (split) | (exfalso; omega)))
    · skip
      refine g_iload_n C dX8_paste_0 rfl (j := 1) rfl ?_
      refine g_callSI C (c_X8_isSlot l G F 1) lk_X8_394 rfl rfl dX8_paste_1 (Nat.le_of_ble_eq_true rfl) ⟨by decide, by decide⟩ ⟨by decide, by decide⟩ (fun r39 L M hp => ?_)
      obtain ⟨r39_, F⟩ := hp
      obtain rfl : r39 = 1 := by
        rcases r39_ with ⟨z, z1⟩ | ⟨z, z1⟩
        · exact z
        · exact absurd (by decide) z1
      refine g_if_eq C dX8_paste_4 (tgt := 14) (by decide) (fun q => absurd q (by decide)) (fun _ => ?_)
      refine g_iload_n C dX8_paste_7 rfl (j := 3) rfl ?_
      refine g_callSI C (c_X8_isSlot l G F 0) lk_X8_394 rfl rfl dX8_paste_8 (Nat.le_of_ble_eq_true rfl) ⟨by decide, by decide⟩ ⟨by decide, by decide⟩ (fun r40 L M hp => ?_)
      obtain ⟨r40_, F⟩ := hp
      obtain rfl : r40 = 1 := by
        rcases r40_ with ⟨z, z1⟩ | ⟨z, z1⟩
        · exact z
        · exact absurd (by decide) z1
      refine g_if_ne C dX8_paste_11 (tgt := 17) (by decide) (fun _ => ?_) (fun q => absurd q (by decide))
      refine g_aload_n C dX8_paste_17 rfl (j := 0) rfl ?_
      refine h_get C F 0 rfl fk_X8_76 dX8_paste_18 rfl ?_
      refine g_iload_n C dX8_paste_21 rfl (j := 1) rfl ?_
      refine h_iald C F 21 rfl dX8_paste_22 (vp_in_iff.mpr (by decide)) (v := -1) (by decide) ?_
      refine g_iconst C dX8_paste_23 (v := -1) (by decide) ?_
      refine g_icmp_eq C dX8_paste_24 (tgt := 37) (by decide) (fun _ => ?_) (fun q => absurd (by decide) q)
      refine g_bipush C dX8_paste_37 (v := -6) (by decide) ?_
      exact g_iret C hrt dX8_paste_39 (by decide) (by decide) (by decide)
    · skip
      refine g_iload_n C dX8_paste_0 rfl (j := 1) rfl ?_
      refine g_callSI C (c_X8_isSlot l G F 1) lk_X8_394 rfl rfl dX8_paste_1 (Nat.le_of_ble_eq_true rfl) ⟨by decide, by decide⟩ ⟨by decide, by decide⟩ (fun r41 L M hp => ?_)
      obtain ⟨r41_, F⟩ := hp
      obtain rfl : r41 = 1 := by
        rcases r41_ with ⟨z, z1⟩ | ⟨z, z1⟩
        · exact z
        · exact absurd (by decide) z1
      refine g_if_eq C dX8_paste_4 (tgt := 14) (by decide) (fun q => absurd q (by decide)) (fun _ => ?_)
      refine g_iload_n C dX8_paste_7 rfl (j := 3) rfl ?_
      refine g_callSI C (c_X8_isSlot l G F 1) lk_X8_394 rfl rfl dX8_paste_8 (Nat.le_of_ble_eq_true rfl) ⟨by decide, by decide⟩ ⟨by decide, by decide⟩ (fun r42 L M hp => ?_)
      obtain ⟨r42_, F⟩ := hp
      obtain rfl : r42 = 1 := by
        rcases r42_ with ⟨z, z1⟩ | ⟨z, z1⟩
        · exact z
        · exact absurd (by decide) z1
      refine g_if_ne C dX8_paste_11 (tgt := 17) (by decide) (fun _ => ?_) (fun q => absurd q (by decide))
      refine g_aload_n C dX8_paste_17 rfl (j := 0) rfl ?_
      refine h_get C F 0 rfl fk_X8_76 dX8_paste_18 rfl ?_
      refine g_iload_n C dX8_paste_21 rfl (j := 1) rfl ?_
      refine h_iald C F 21 rfl dX8_paste_22 (vp_in_iff.mpr (by decide)) (v := -1) (by decide) ?_
      refine g_iconst C dX8_paste_23 (v := -1) (by decide) ?_
      refine g_icmp_eq C dX8_paste_24 (tgt := 37) (by decide) (fun _ => ?_) (fun q => absurd (by decide) q)
      refine g_bipush C dX8_paste_37 (v := -6) (by decide) ?_
      exact g_iret C hrt dX8_paste_39 (by decide) (by decide) (by decide)
    · skip
      refine g_iload_n C dX8_paste_0 rfl (j := 1) rfl ?_
      refine g_callSI C (c_X8_isSlot l G F 1) lk_X8_394 rfl rfl dX8_paste_1 (Nat.le_of_ble_eq_true rfl) ⟨by decide, by decide⟩ ⟨by decide, by decide⟩ (fun r43 L M hp => ?_)
      obtain ⟨r43_, F⟩ := hp
      obtain rfl : r43 = 1 := by
        rcases r43_ with ⟨z, z1⟩ | ⟨z, z1⟩
        · exact z
        · exact absurd (by decide) z1
      refine g_if_eq C dX8_paste_4 (tgt := 14) (by decide) (fun q => absurd q (by decide)) (fun _ => ?_)
      refine g_iload_n C dX8_paste_7 rfl (j := 3) rfl ?_
      refine g_callSI C (c_X8_isSlot l G F 2) lk_X8_394 rfl rfl dX8_paste_8 (Nat.le_of_ble_eq_true rfl) ⟨by decide, by decide⟩ ⟨by decide, by decide⟩ (fun r44 L M hp => ?_)
      obtain ⟨r44_, F⟩ := hp
      obtain rfl : r44 = 1 := by
        rcases r44_ with ⟨z, z1⟩ | ⟨z, z1⟩
        · exact z
        · exact absurd (by decide) z1
      refine g_if_ne C dX8_paste_11 (tgt := 17) (by decide) (fun _ => ?_) (fun q => absurd q (by decide))
      refine g_aload_n C dX8_paste_17 rfl (j := 0) rfl ?_
      refine h_get C F 0 rfl fk_X8_76 dX8_paste_18 rfl ?_
      refine g_iload_n C dX8_paste_21 rfl (j := 1) rfl ?_
      refine h_iald C F 21 rfl dX8_paste_22 (vp_in_iff.mpr (by decide)) (v := -1) (by decide) ?_
      refine g_iconst C dX8_paste_23 (v := -1) (by decide) ?_
      refine g_icmp_eq C dX8_paste_24 (tgt := 37) (by decide) (fun _ => ?_) (fun q => absurd (by decide) q)
      refine g_bipush C dX8_paste_37 (v := -6) (by decide) ?_
      exact g_iret C hrt dX8_paste_39 (by decide) (by decide) (by decide)
    · skip
      refine g_iload_n C dX8_paste_0 rfl (j := 1) rfl ?_
      refine g_callSI C (c_X8_isSlot l G F 1) lk_X8_394 rfl rfl dX8_paste_1 (Nat.le_of_ble_eq_true rfl) ⟨by decide, by decide⟩ ⟨by decide, by decide⟩ (fun r45 L M hp => ?_)
      obtain ⟨r45_, F⟩ := hp
      obtain rfl : r45 = 1 := by
        rcases r45_ with ⟨z, z1⟩ | ⟨z, z1⟩
        · exact z
        · exact absurd (by decide) z1
      refine g_if_eq C dX8_paste_4 (tgt := 14) (by decide) (fun q => absurd q (by decide)) (fun _ => ?_)
      refine g_iload_n C dX8_paste_7 rfl (j := 3) rfl ?_
      refine g_callSI C (c_X8_isSlot l G F 3) lk_X8_394 rfl rfl dX8_paste_8 (Nat.le_of_ble_eq_true rfl) ⟨by decide, by decide⟩ ⟨by decide, by decide⟩ (fun r46 L M hp => ?_)
      obtain ⟨r46_, F⟩ := hp
      obtain rfl : r46 = 1 := by
        rcases r46_ with ⟨z, z1⟩ | ⟨z, z1⟩
        · exact z
        · exact absurd (by decide) z1
      refine g_if_ne C dX8_paste_11 (tgt := 17) (by decide) (fun _ => ?_) (fun q => absurd q (by decide))
      refine g_aload_n C dX8_paste_17 rfl (j := 0) rfl ?_
      refine h_get C F 0 rfl fk_X8_76 dX8_paste_18 rfl ?_
      refine g_iload_n C dX8_paste_21 rfl (j := 1) rfl ?_
      refine h_iald C F 21 rfl dX8_paste_22 (vp_in_iff.mpr (by decide)) (v := -1) (by decide) ?_
      refine g_iconst C dX8_paste_23 (v := -1) (by decide) ?_
      refine g_icmp_eq C dX8_paste_24 (tgt := 37) (by decide) (fun _ => ?_) (fun q => absurd (by decide) q)
      refine g_bipush C dX8_paste_37 (v := -6) (by decide) ?_
      exact g_iret C hrt dX8_paste_39 (by decide) (by decide) (by decide)
  · skip
    rcases sc4 p2 with h47 | h48 | rfl | rfl | rfl | rfl
    · skip
      refine g_iload_n C dX8_paste_0 rfl (j := 1) rfl ?_
      refine g_callSI C (c_X8_isSlot l G F 2) lk_X8_394 rfl rfl dX8_paste_1 (Nat.le_of_ble_eq_true rfl) ⟨by decide, by decide⟩ ⟨by decide, by decide⟩ (fun r49 L M hp => ?_)
      obtain ⟨r49_, F⟩ := hp
      obtain rfl : r49 = 1 := by
        rcases r49_ with ⟨z, z1⟩ | ⟨z, z1⟩
        · exact z
        · exact absurd (by decide) z1
      refine g_if_eq C dX8_paste_4 (tgt := 14) (by decide) (fun q => absurd q (by decide)) (fun _ => ?_)
      refine g_iload_n C dX8_paste_7 rfl (j := 3) rfl ?_
      refine g_callSI C (c_X8_isSlot l G F p2) lk_X8_394 rfl rfl dX8_paste_8 (Nat.le_of_ble_eq_true rfl) ⟨by decide, by decide⟩ ⟨by decide, by decide⟩ (fun r50 L M hp => ?_)
      obtain ⟨r50_, F⟩ := hp
      obtain rfl : r50 = 0 := by
        rcases r50_ with ⟨-, z1, z2⟩ | ⟨z, -⟩
        · exfalso; have a1 : p2.toInt < (0 : Int32).toInt := Int32.lt_iff_toInt_lt.mp h47; have k1 : (0 : Int32).toInt = 0 := (by decide); have k2 : (2 : Int32).toInt = 2 := (by decide); have j1 : (0 : Int64).toInt = 0 := (by decide); have j2 : (3 : Int64).toInt = 3 := (by decide); have b1 := Int64.le_iff_toInt_le.mp z1; have b2 := Int64.le_iff_toInt_le.mp z2; rw [Int32.toInt_toInt64] at b1 b2; omega
        · exact z
      refine g_if_ne C dX8_paste_11 (tgt := 17) (by decide) (fun q => absurd (by decide) q) (fun _ => ?_)
      refine g_bipush C dX8_paste_14 (v := -2) (by decide) ?_
      exact g_iret C hrt dX8_paste_16 (by decide) (by decide) (by have a1 : p2.toInt < (0 : Int32).toInt := Int32.lt_iff_toInt_lt.mp h47; have k1 : (0 : Int32).toInt = 0 := (by decide); have k2 : (2 : Int32).toInt = 2 := (by decide); unfold sp_paste; repeat (first | rfl | (split) | (exfalso; omega)))
    · skip
      refine g_iload_n C dX8_paste_0 rfl (j := 1) rfl ?_
      refine g_callSI C (c_X8_isSlot l G F 2) lk_X8_394 rfl rfl dX8_paste_1 (Nat.le_of_ble_eq_true rfl) ⟨by decide, by decide⟩ ⟨by decide, by decide⟩ (fun r51 L M hp => ?_)
      obtain ⟨r51_, F⟩ := hp
      obtain rfl : r51 = 1 := by
        rcases r51_ with ⟨z, z1⟩ | ⟨z, z1⟩
        · exact z
        · exact absurd (by decide) z1
      refine g_if_eq C dX8_paste_4 (tgt := 14) (by decide) (fun q => absurd q (by decide)) (fun _ => ?_)
      refine g_iload_n C dX8_paste_7 rfl (j := 3) rfl ?_
      refine g_callSI C (c_X8_isSlot l G F p2) lk_X8_394 rfl rfl dX8_paste_8 (Nat.le_of_ble_eq_true rfl) ⟨by decide, by decide⟩ ⟨by decide, by decide⟩ (fun r52 L M hp => ?_)
      obtain ⟨r52_, F⟩ := hp
      obtain rfl : r52 = 0 := by
        rcases r52_ with ⟨-, z1, z2⟩ | ⟨z, -⟩
        · exfalso; have a1 : (4 : Int32).toInt ≤ p2.toInt := Int32.le_iff_toInt_le.mp h48; have k1 : (2 : Int32).toInt = 2 := (by decide); have k2 : (4 : Int32).toInt = 4 := (by decide); have j1 : (0 : Int64).toInt = 0 := (by decide); have j2 : (3 : Int64).toInt = 3 := (by decide); have b1 := Int64.le_iff_toInt_le.mp z1; have b2 := Int64.le_iff_toInt_le.mp z2; rw [Int32.toInt_toInt64] at b1 b2; omega
        · exact z
      refine g_if_ne C dX8_paste_11 (tgt := 17) (by decide) (fun q => absurd (by decide) q) (fun _ => ?_)
      refine g_bipush C dX8_paste_14 (v := -2) (by decide) ?_
      exact g_iret C hrt dX8_paste_16 (by decide) (by decide) (by have a1 : (4 : Int32).toInt ≤ p2.toInt := Int32.le_iff_toInt_le.mp h48; have k1 : (2 : Int32).toInt = 2 := (by decide); have k2 : (4 : Int32).toInt = 4 := (by decide); unfold sp_paste; repeat (first | rfl | (split) | (exfalso; omega)))
    · skip
      refine g_iload_n C dX8_paste_0 rfl (j := 1) rfl ?_
      refine g_callSI C (c_X8_isSlot l G F 2) lk_X8_394 rfl rfl dX8_paste_1 (Nat.le_of_ble_eq_true rfl) ⟨by decide, by decide⟩ ⟨by decide, by decide⟩ (fun r53 L M hp => ?_)
      obtain ⟨r53_, F⟩ := hp
      obtain rfl : r53 = 1 := by
        rcases r53_ with ⟨z, z1⟩ | ⟨z, z1⟩
        · exact z
        · exact absurd (by decide) z1
      refine g_if_eq C dX8_paste_4 (tgt := 14) (by decide) (fun q => absurd q (by decide)) (fun _ => ?_)
      refine g_iload_n C dX8_paste_7 rfl (j := 3) rfl ?_
      refine g_callSI C (c_X8_isSlot l G F 0) lk_X8_394 rfl rfl dX8_paste_8 (Nat.le_of_ble_eq_true rfl) ⟨by decide, by decide⟩ ⟨by decide, by decide⟩ (fun r54 L M hp => ?_)
      obtain ⟨r54_, F⟩ := hp
      obtain rfl : r54 = 1 := by
        rcases r54_ with ⟨z, z1⟩ | ⟨z, z1⟩
        · exact z
        · exact absurd (by decide) z1
      refine g_if_ne C dX8_paste_11 (tgt := 17) (by decide) (fun _ => ?_) (fun q => absurd q (by decide))
      refine g_aload_n C dX8_paste_17 rfl (j := 0) rfl ?_
      refine h_get C F 0 rfl fk_X8_76 dX8_paste_18 rfl ?_
      refine g_iload_n C dX8_paste_21 rfl (j := 1) rfl ?_
      refine h_iald C F 21 rfl dX8_paste_22 (vp_in_iff.mpr (by decide)) (v := -1) (by decide) ?_
      refine g_iconst C dX8_paste_23 (v := -1) (by decide) ?_
      refine g_icmp_eq C dX8_paste_24 (tgt := 37) (by decide) (fun _ => ?_) (fun q => absurd (by decide) q)
      refine g_bipush C dX8_paste_37 (v := -6) (by decide) ?_
      exact g_iret C hrt dX8_paste_39 (by decide) (by decide) (by decide)
    · skip
      refine g_iload_n C dX8_paste_0 rfl (j := 1) rfl ?_
      refine g_callSI C (c_X8_isSlot l G F 2) lk_X8_394 rfl rfl dX8_paste_1 (Nat.le_of_ble_eq_true rfl) ⟨by decide, by decide⟩ ⟨by decide, by decide⟩ (fun r55 L M hp => ?_)
      obtain ⟨r55_, F⟩ := hp
      obtain rfl : r55 = 1 := by
        rcases r55_ with ⟨z, z1⟩ | ⟨z, z1⟩
        · exact z
        · exact absurd (by decide) z1
      refine g_if_eq C dX8_paste_4 (tgt := 14) (by decide) (fun q => absurd q (by decide)) (fun _ => ?_)
      refine g_iload_n C dX8_paste_7 rfl (j := 3) rfl ?_
      refine g_callSI C (c_X8_isSlot l G F 1) lk_X8_394 rfl rfl dX8_paste_8 (Nat.le_of_ble_eq_true rfl) ⟨by decide, by decide⟩ ⟨by decide, by decide⟩ (fun r56 L M hp => ?_)
      obtain ⟨r56_, F⟩ := hp
      obtain rfl : r56 = 1 := by
        rcases r56_ with ⟨z, z1⟩ | ⟨z, z1⟩
        · exact z
        · exact absurd (by decide) z1
      refine g_if_ne C dX8_paste_11 (tgt := 17) (by decide) (fun _ => ?_) (fun q => absurd q (by decide))
      refine g_aload_n C dX8_paste_17 rfl (j := 0) rfl ?_
      refine h_get C F 0 rfl fk_X8_76 dX8_paste_18 rfl ?_
      refine g_iload_n C dX8_paste_21 rfl (j := 1) rfl ?_
      refine h_iald C F 21 rfl dX8_paste_22 (vp_in_iff.mpr (by decide)) (v := -1) (by decide) ?_
      refine g_iconst C dX8_paste_23 (v := -1) (by decide) ?_
      refine g_icmp_eq C dX8_paste_24 (tgt := 37) (by decide) (fun _ => ?_) (fun q => absurd (by decide) q)
      refine g_bipush C dX8_paste_37 (v := -6) (by decide) ?_
      exact g_iret C hrt dX8_paste_39 (by decide) (by decide) (by decide)
    · skip
      refine g_iload_n C dX8_paste_0 rfl (j := 1) rfl ?_
      refine g_callSI C (c_X8_isSlot l G F 2) lk_X8_394 rfl rfl dX8_paste_1 (Nat.le_of_ble_eq_true rfl) ⟨by decide, by decide⟩ ⟨by decide, by decide⟩ (fun r57 L M hp => ?_)
      obtain ⟨r57_, F⟩ := hp
      obtain rfl : r57 = 1 := by
        rcases r57_ with ⟨z, z1⟩ | ⟨z, z1⟩
        · exact z
        · exact absurd (by decide) z1
      refine g_if_eq C dX8_paste_4 (tgt := 14) (by decide) (fun q => absurd q (by decide)) (fun _ => ?_)
      refine g_iload_n C dX8_paste_7 rfl (j := 3) rfl ?_
      refine g_callSI C (c_X8_isSlot l G F 2) lk_X8_394 rfl rfl dX8_paste_8 (Nat.le_of_ble_eq_true rfl) ⟨by decide, by decide⟩ ⟨by decide, by decide⟩ (fun r58 L M hp => ?_)
      obtain ⟨r58_, F⟩ := hp
      obtain rfl : r58 = 1 := by
        rcases r58_ with ⟨z, z1⟩ | ⟨z, z1⟩
        · exact z
        · exact absurd (by decide) z1
      refine g_if_ne C dX8_paste_11 (tgt := 17) (by decide) (fun _ => ?_) (fun q => absurd q (by decide))
      refine g_aload_n C dX8_paste_17 rfl (j := 0) rfl ?_
      refine h_get C F 0 rfl fk_X8_76 dX8_paste_18 rfl ?_
      refine g_iload_n C dX8_paste_21 rfl (j := 1) rfl ?_
      refine h_iald C F 21 rfl dX8_paste_22 (vp_in_iff.mpr (by decide)) (v := -1) (by decide) ?_
      refine g_iconst C dX8_paste_23 (v := -1) (by decide) ?_
      refine g_icmp_eq C dX8_paste_24 (tgt := 37) (by decide) (fun _ => ?_) (fun q => absurd (by decide) q)
      refine g_bipush C dX8_paste_37 (v := -6) (by decide) ?_
      exact g_iret C hrt dX8_paste_39 (by decide) (by decide) (by decide)
    · skip
      refine g_iload_n C dX8_paste_0 rfl (j := 1) rfl ?_
      refine g_callSI C (c_X8_isSlot l G F 2) lk_X8_394 rfl rfl dX8_paste_1 (Nat.le_of_ble_eq_true rfl) ⟨by decide, by decide⟩ ⟨by decide, by decide⟩ (fun r59 L M hp => ?_)
      obtain ⟨r59_, F⟩ := hp
      obtain rfl : r59 = 1 := by
        rcases r59_ with ⟨z, z1⟩ | ⟨z, z1⟩
        · exact z
        · exact absurd (by decide) z1
      refine g_if_eq C dX8_paste_4 (tgt := 14) (by decide) (fun q => absurd q (by decide)) (fun _ => ?_)
      refine g_iload_n C dX8_paste_7 rfl (j := 3) rfl ?_
      refine g_callSI C (c_X8_isSlot l G F 3) lk_X8_394 rfl rfl dX8_paste_8 (Nat.le_of_ble_eq_true rfl) ⟨by decide, by decide⟩ ⟨by decide, by decide⟩ (fun r60 L M hp => ?_)
      obtain ⟨r60_, F⟩ := hp
      obtain rfl : r60 = 1 := by
        rcases r60_ with ⟨z, z1⟩ | ⟨z, z1⟩
        · exact z
        · exact absurd (by decide) z1
      refine g_if_ne C dX8_paste_11 (tgt := 17) (by decide) (fun _ => ?_) (fun q => absurd q (by decide))
      refine g_aload_n C dX8_paste_17 rfl (j := 0) rfl ?_
      refine h_get C F 0 rfl fk_X8_76 dX8_paste_18 rfl ?_
      refine g_iload_n C dX8_paste_21 rfl (j := 1) rfl ?_
      refine h_iald C F 21 rfl dX8_paste_22 (vp_in_iff.mpr (by decide)) (v := -1) (by decide) ?_
      refine g_iconst C dX8_paste_23 (v := -1) (by decide) ?_
      refine g_icmp_eq C dX8_paste_24 (tgt := 37) (by decide) (fun _ => ?_) (fun q => absurd (by decide) q)
      refine g_bipush C dX8_paste_37 (v := -6) (by decide) ?_
      exact g_iret C hrt dX8_paste_39 (by decide) (by decide) (by decide)
  · skip
    rcases sc4 p2 with h61 | h62 | rfl | rfl | rfl | rfl
    · skip
      refine g_iload_n C dX8_paste_0 rfl (j := 1) rfl ?_
      refine g_callSI C (c_X8_isSlot l G F 3) lk_X8_394 rfl rfl dX8_paste_1 (Nat.le_of_ble_eq_true rfl) ⟨by decide, by decide⟩ ⟨by decide, by decide⟩ (fun r63 L M hp => ?_)
      obtain ⟨r63_, F⟩ := hp
      obtain rfl : r63 = 1 := by
        rcases r63_ with ⟨z, z1⟩ | ⟨z, z1⟩
        · exact z
        · exact absurd (by decide) z1
      refine g_if_eq C dX8_paste_4 (tgt := 14) (by decide) (fun q => absurd q (by decide)) (fun _ => ?_)
      refine g_iload_n C dX8_paste_7 rfl (j := 3) rfl ?_
      refine g_callSI C (c_X8_isSlot l G F p2) lk_X8_394 rfl rfl dX8_paste_8 (Nat.le_of_ble_eq_true rfl) ⟨by decide, by decide⟩ ⟨by decide, by decide⟩ (fun r64 L M hp => ?_)
      obtain ⟨r64_, F⟩ := hp
      obtain rfl : r64 = 0 := by
        rcases r64_ with ⟨-, z1, z2⟩ | ⟨z, -⟩
        · exfalso; have a1 : p2.toInt < (0 : Int32).toInt := Int32.lt_iff_toInt_lt.mp h61; have k1 : (0 : Int32).toInt = 0 := (by decide); have k2 : (3 : Int32).toInt = 3 := (by decide); have j1 : (0 : Int64).toInt = 0 := (by decide); have j2 : (3 : Int64).toInt = 3 := (by decide); have b1 := Int64.le_iff_toInt_le.mp z1; have b2 := Int64.le_iff_toInt_le.mp z2; rw [Int32.toInt_toInt64] at b1 b2; omega
        · exact z
      refine g_if_ne C dX8_paste_11 (tgt := 17) (by decide) (fun q => absurd (by decide) q) (fun _ => ?_)
      refine g_bipush C dX8_paste_14 (v := -2) (by decide) ?_
      exact g_iret C hrt dX8_paste_16 (by decide) (by decide) (by have a1 : p2.toInt < (0 : Int32).toInt := Int32.lt_iff_toInt_lt.mp h61; have k1 : (0 : Int32).toInt = 0 := (by decide); have k2 : (3 : Int32).toInt = 3 := (by decide); unfold sp_paste; repeat (first | rfl | (split) | (exfalso; omega)))
    · skip
      refine g_iload_n C dX8_paste_0 rfl (j := 1) rfl ?_
      refine g_callSI C (c_X8_isSlot l G F 3) lk_X8_394 rfl rfl dX8_paste_1 (Nat.le_of_ble_eq_true rfl) ⟨by decide, by decide⟩ ⟨by decide, by decide⟩ (fun r65 L M hp => ?_)
      obtain ⟨r65_, F⟩ := hp
      obtain rfl : r65 = 1 := by
        rcases r65_ with ⟨z, z1⟩ | ⟨z, z1⟩
        · exact z
        · exact absurd (by decide) z1
      refine g_if_eq C dX8_paste_4 (tgt := 14) (by decide) (fun q => absurd q (by decide)) (fun _ => ?_)
      refine g_iload_n C dX8_paste_7 rfl (j := 3) rfl ?_
      refine g_callSI C (c_X8_isSlot l G F p2) lk_X8_394 rfl rfl dX8_paste_8 (Nat.le_of_ble_eq_true rfl) ⟨by decide, by decide⟩ ⟨by decide, by decide⟩ (fun r66 L M hp => ?_)
      obtain ⟨r66_, F⟩ := hp
      obtain rfl : r66 = 0 := by
        rcases r66_ with ⟨-, z1, z2⟩ | ⟨z, -⟩
        · exfalso; have a1 : (4 : Int32).toInt ≤ p2.toInt := Int32.le_iff_toInt_le.mp h62; have k1 : (3 : Int32).toInt = 3 := (by decide); have k2 : (4 : Int32).toInt = 4 := (by decide); have j1 : (0 : Int64).toInt = 0 := (by decide); have j2 : (3 : Int64).toInt = 3 := (by decide); have b1 := Int64.le_iff_toInt_le.mp z1; have b2 := Int64.le_iff_toInt_le.mp z2; rw [Int32.toInt_toInt64] at b1 b2; omega
        · exact z
      refine g_if_ne C dX8_paste_11 (tgt := 17) (by decide) (fun q => absurd (by decide) q) (fun _ => ?_)
      refine g_bipush C dX8_paste_14 (v := -2) (by decide) ?_
      exact g_iret C hrt dX8_paste_16 (by decide) (by decide) (by have a1 : (4 : Int32).toInt ≤ p2.toInt := Int32.le_iff_toInt_le.mp h62; have k1 : (3 : Int32).toInt = 3 := (by decide); have k2 : (4 : Int32).toInt = 4 := (by decide); unfold sp_paste; repeat (first | rfl | (split) | (exfalso; omega)))
    · skip
      refine g_iload_n C dX8_paste_0 rfl (j := 1) rfl ?_
      refine g_callSI C (c_X8_isSlot l G F 3) lk_X8_394 rfl rfl dX8_paste_1 (Nat.le_of_ble_eq_true rfl) ⟨by decide, by decide⟩ ⟨by decide, by decide⟩ (fun r67 L M hp => ?_)
      obtain ⟨r67_, F⟩ := hp
      obtain rfl : r67 = 1 := by
        rcases r67_ with ⟨z, z1⟩ | ⟨z, z1⟩
        · exact z
        · exact absurd (by decide) z1
      refine g_if_eq C dX8_paste_4 (tgt := 14) (by decide) (fun q => absurd q (by decide)) (fun _ => ?_)
      refine g_iload_n C dX8_paste_7 rfl (j := 3) rfl ?_
      refine g_callSI C (c_X8_isSlot l G F 0) lk_X8_394 rfl rfl dX8_paste_8 (Nat.le_of_ble_eq_true rfl) ⟨by decide, by decide⟩ ⟨by decide, by decide⟩ (fun r68 L M hp => ?_)
      obtain ⟨r68_, F⟩ := hp
      obtain rfl : r68 = 1 := by
        rcases r68_ with ⟨z, z1⟩ | ⟨z, z1⟩
        · exact z
        · exact absurd (by decide) z1
      refine g_if_ne C dX8_paste_11 (tgt := 17) (by decide) (fun _ => ?_) (fun q => absurd q (by decide))
      refine g_aload_n C dX8_paste_17 rfl (j := 0) rfl ?_
      refine h_get C F 0 rfl fk_X8_76 dX8_paste_18 rfl ?_
      refine g_iload_n C dX8_paste_21 rfl (j := 1) rfl ?_
      refine h_iald C F 21 rfl dX8_paste_22 (vp_in_iff.mpr (by decide)) (v := -1) (by decide) ?_
      refine g_iconst C dX8_paste_23 (v := -1) (by decide) ?_
      refine g_icmp_eq C dX8_paste_24 (tgt := 37) (by decide) (fun _ => ?_) (fun q => absurd (by decide) q)
      refine g_bipush C dX8_paste_37 (v := -6) (by decide) ?_
      exact g_iret C hrt dX8_paste_39 (by decide) (by decide) (by decide)
    · skip
      refine g_iload_n C dX8_paste_0 rfl (j := 1) rfl ?_
      refine g_callSI C (c_X8_isSlot l G F 3) lk_X8_394 rfl rfl dX8_paste_1 (Nat.le_of_ble_eq_true rfl) ⟨by decide, by decide⟩ ⟨by decide, by decide⟩ (fun r69 L M hp => ?_)
      obtain ⟨r69_, F⟩ := hp
      obtain rfl : r69 = 1 := by
        rcases r69_ with ⟨z, z1⟩ | ⟨z, z1⟩
        · exact z
        · exact absurd (by decide) z1
      refine g_if_eq C dX8_paste_4 (tgt := 14) (by decide) (fun q => absurd q (by decide)) (fun _ => ?_)
      refine g_iload_n C dX8_paste_7 rfl (j := 3) rfl ?_
      refine g_callSI C (c_X8_isSlot l G F 1) lk_X8_394 rfl rfl dX8_paste_8 (Nat.le_of_ble_eq_true rfl) ⟨by decide, by decide⟩ ⟨by decide, by decide⟩ (fun r70 L M hp => ?_)
      obtain ⟨r70_, F⟩ := hp
      obtain rfl : r70 = 1 := by
        rcases r70_ with ⟨z, z1⟩ | ⟨z, z1⟩
        · exact z
        · exact absurd (by decide) z1
      refine g_if_ne C dX8_paste_11 (tgt := 17) (by decide) (fun _ => ?_) (fun q => absurd q (by decide))
      refine g_aload_n C dX8_paste_17 rfl (j := 0) rfl ?_
      refine h_get C F 0 rfl fk_X8_76 dX8_paste_18 rfl ?_
      refine g_iload_n C dX8_paste_21 rfl (j := 1) rfl ?_
      refine h_iald C F 21 rfl dX8_paste_22 (vp_in_iff.mpr (by decide)) (v := -1) (by decide) ?_
      refine g_iconst C dX8_paste_23 (v := -1) (by decide) ?_
      refine g_icmp_eq C dX8_paste_24 (tgt := 37) (by decide) (fun _ => ?_) (fun q => absurd (by decide) q)
      refine g_bipush C dX8_paste_37 (v := -6) (by decide) ?_
      exact g_iret C hrt dX8_paste_39 (by decide) (by decide) (by decide)
    · skip
      refine g_iload_n C dX8_paste_0 rfl (j := 1) rfl ?_
      refine g_callSI C (c_X8_isSlot l G F 3) lk_X8_394 rfl rfl dX8_paste_1 (Nat.le_of_ble_eq_true rfl) ⟨by decide, by decide⟩ ⟨by decide, by decide⟩ (fun r71 L M hp => ?_)
      obtain ⟨r71_, F⟩ := hp
      obtain rfl : r71 = 1 := by
        rcases r71_ with ⟨z, z1⟩ | ⟨z, z1⟩
        · exact z
        · exact absurd (by decide) z1
      refine g_if_eq C dX8_paste_4 (tgt := 14) (by decide) (fun q => absurd q (by decide)) (fun _ => ?_)
      refine g_iload_n C dX8_paste_7 rfl (j := 3) rfl ?_
      refine g_callSI C (c_X8_isSlot l G F 2) lk_X8_394 rfl rfl dX8_paste_8 (Nat.le_of_ble_eq_true rfl) ⟨by decide, by decide⟩ ⟨by decide, by decide⟩ (fun r72 L M hp => ?_)
      obtain ⟨r72_, F⟩ := hp
      obtain rfl : r72 = 1 := by
        rcases r72_ with ⟨z, z1⟩ | ⟨z, z1⟩
        · exact z
        · exact absurd (by decide) z1
      refine g_if_ne C dX8_paste_11 (tgt := 17) (by decide) (fun _ => ?_) (fun q => absurd q (by decide))
      refine g_aload_n C dX8_paste_17 rfl (j := 0) rfl ?_
      refine h_get C F 0 rfl fk_X8_76 dX8_paste_18 rfl ?_
      refine g_iload_n C dX8_paste_21 rfl (j := 1) rfl ?_
      refine h_iald C F 21 rfl dX8_paste_22 (vp_in_iff.mpr (by decide)) (v := -1) (by decide) ?_
      refine g_iconst C dX8_paste_23 (v := -1) (by decide) ?_
      refine g_icmp_eq C dX8_paste_24 (tgt := 37) (by decide) (fun _ => ?_) (fun q => absurd (by decide) q)
      refine g_bipush C dX8_paste_37 (v := -6) (by decide) ?_
      exact g_iret C hrt dX8_paste_39 (by decide) (by decide) (by decide)
    · skip
      refine g_iload_n C dX8_paste_0 rfl (j := 1) rfl ?_
      refine g_callSI C (c_X8_isSlot l G F 3) lk_X8_394 rfl rfl dX8_paste_1 (Nat.le_of_ble_eq_true rfl) ⟨by decide, by decide⟩ ⟨by decide, by decide⟩ (fun r73 L M hp => ?_)
      obtain ⟨r73_, F⟩ := hp
      obtain rfl : r73 = 1 := by
        rcases r73_ with ⟨z, z1⟩ | ⟨z, z1⟩
        · exact z
        · exact absurd (by decide) z1
      refine g_if_eq C dX8_paste_4 (tgt := 14) (by decide) (fun q => absurd q (by decide)) (fun _ => ?_)
      refine g_iload_n C dX8_paste_7 rfl (j := 3) rfl ?_
      refine g_callSI C (c_X8_isSlot l G F 3) lk_X8_394 rfl rfl dX8_paste_8 (Nat.le_of_ble_eq_true rfl) ⟨by decide, by decide⟩ ⟨by decide, by decide⟩ (fun r74 L M hp => ?_)
      obtain ⟨r74_, F⟩ := hp
      obtain rfl : r74 = 1 := by
        rcases r74_ with ⟨z, z1⟩ | ⟨z, z1⟩
        · exact z
        · exact absurd (by decide) z1
      refine g_if_ne C dX8_paste_11 (tgt := 17) (by decide) (fun _ => ?_) (fun q => absurd q (by decide))
      refine g_aload_n C dX8_paste_17 rfl (j := 0) rfl ?_
      refine h_get C F 0 rfl fk_X8_76 dX8_paste_18 rfl ?_
      refine g_iload_n C dX8_paste_21 rfl (j := 1) rfl ?_
      refine h_iald C F 21 rfl dX8_paste_22 (vp_in_iff.mpr (by decide)) (v := -1) (by decide) ?_
      refine g_iconst C dX8_paste_23 (v := -1) (by decide) ?_
      refine g_icmp_eq C dX8_paste_24 (tgt := 37) (by decide) (fun _ => ?_) (fun q => absurd (by decide) q)
      refine g_bipush C dX8_paste_37 (v := -6) (by decide) ?_
      exact g_iret C hrt dX8_paste_39 (by decide) (by decide) (by decide)
set_option maxHeartbeats 4000000 in
set_option maxRecDepth 100000 in
theorem c_X8_image (l : Launch) (G : va_G) {cy : Nat → ClassId} {L : List Nat} {M : Nat → va_E} {b : Nat → Nat} {ts : Int32} {pn : Nat → Int32}  (F : FW L M (flM cy b ts pn)) (p0 : Int32) : MI l G cy yX8_image cX8_image 3 (some .int) 1 0 0 [.ref (b 0), .int p0] L M (fun r L2 M2 => r = sp_image p0) := by
  refine MI.of (own := RX8) rfl (by decide) (Nat.le_of_ble_eq_true rfl) ?_
  intro p e s m below meth c A C hrt hnm
  rcases sc3 p0 with h1 | h2 | rfl | rfl | rfl
  · skip
    refine g_iload_n C dX8_image_0 rfl (j := 1) rfl ?_
    refine g_i2l C dX8_image_1 (v := p0.toInt64) rfl ?_
    refine g_lconst C dX8_image_2 (v := 0) (by decide) ?_
    refine g_ldc2 C (v := 2) wd378 dX8_image_3 ?_
    refine g_callSI C (c_X8_in l G F (p0.toInt64) (0) (2)) lk_X8_94 rfl rfl dX8_image_6 (Nat.le_of_ble_eq_true rfl) ⟨by decide, by decide⟩ ⟨by decide, by decide⟩ (fun r3 L M hp => ?_)
    obtain ⟨r3_, F⟩ := hp
    obtain rfl : r3 = 0 := by
      rcases r3_ with ⟨-, z1, z2⟩ | ⟨z, -⟩
      · exfalso; have a1 : p0.toInt < (0 : Int32).toInt := Int32.lt_iff_toInt_lt.mp h1; have k1 : (0 : Int32).toInt = 0 := (by decide); have j1 : (0 : Int64).toInt = 0 := (by decide); have j2 : (2 : Int64).toInt = 2 := (by decide); have b1 := Int64.le_iff_toInt_le.mp z1; have b2 := Int64.le_iff_toInt_le.mp z2; rw [Int32.toInt_toInt64] at b1 b2; omega
      · exact z
    refine g_if_ne C dX8_image_9 (tgt := 15) (by decide) (fun q => absurd (by decide) q) (fun _ => ?_)
    refine g_bipush C dX8_image_12 (v := -2) (by decide) ?_
    exact g_iret C hrt dX8_image_14 (by decide) (by decide) (by have a1 : p0.toInt < (0 : Int32).toInt := Int32.lt_iff_toInt_lt.mp h1; have k1 : (0 : Int32).toInt = 0 := (by decide); unfold sp_image; repeat (first | rfl | (split) | (exfalso; omega)))
  · skip
    refine g_iload_n C dX8_image_0 rfl (j := 1) rfl ?_
    refine g_i2l C dX8_image_1 (v := p0.toInt64) rfl ?_
    refine g_lconst C dX8_image_2 (v := 0) (by decide) ?_
    refine g_ldc2 C (v := 2) wd378 dX8_image_3 ?_
    refine g_callSI C (c_X8_in l G F (p0.toInt64) (0) (2)) lk_X8_94 rfl rfl dX8_image_6 (Nat.le_of_ble_eq_true rfl) ⟨by decide, by decide⟩ ⟨by decide, by decide⟩ (fun r4 L M hp => ?_)
    obtain ⟨r4_, F⟩ := hp
    obtain rfl : r4 = 0 := by
      rcases r4_ with ⟨-, z1, z2⟩ | ⟨z, -⟩
      · exfalso; have a1 : (3 : Int32).toInt ≤ p0.toInt := Int32.le_iff_toInt_le.mp h2; have k1 : (3 : Int32).toInt = 3 := (by decide); have j1 : (0 : Int64).toInt = 0 := (by decide); have j2 : (2 : Int64).toInt = 2 := (by decide); have b1 := Int64.le_iff_toInt_le.mp z1; have b2 := Int64.le_iff_toInt_le.mp z2; rw [Int32.toInt_toInt64] at b1 b2; omega
      · exact z
    refine g_if_ne C dX8_image_9 (tgt := 15) (by decide) (fun q => absurd (by decide) q) (fun _ => ?_)
    refine g_bipush C dX8_image_12 (v := -2) (by decide) ?_
    exact g_iret C hrt dX8_image_14 (by decide) (by decide) (by have a1 : (3 : Int32).toInt ≤ p0.toInt := Int32.le_iff_toInt_le.mp h2; have k1 : (3 : Int32).toInt = 3 := (by decide); unfold sp_image; repeat (first | rfl | (split) | (exfalso; omega)))
  · skip
    refine g_iload_n C dX8_image_0 rfl (j := 1) rfl ?_
    refine g_i2l C dX8_image_1 (v := 0) (by decide) ?_
    refine g_lconst C dX8_image_2 (v := 0) (by decide) ?_
    refine g_ldc2 C (v := 2) wd378 dX8_image_3 ?_
    refine g_callSI C (c_X8_in l G F (0) (0) (2)) lk_X8_94 rfl rfl dX8_image_6 (Nat.le_of_ble_eq_true rfl) ⟨by decide, by decide⟩ ⟨by decide, by decide⟩ (fun r5 L M hp => ?_)
    obtain ⟨r5_, F⟩ := hp
    obtain rfl : r5 = 1 := by
      rcases r5_ with ⟨z, z1⟩ | ⟨z, z1⟩
      · exact z
      · exact absurd (by decide) z1
    refine g_if_ne C dX8_image_9 (tgt := 15) (by decide) (fun _ => ?_) (fun q => absurd q (by decide))
    refine g_iconst C dX8_image_15 (v := 0) (by decide) ?_
    refine g_istore_n C dX8_image_16 rfl (by decide) (lv2 := [(2, .int 0), (0, .ref (b 0)), (1, .int 0)]) rfl ?_
    refine g_lv [0, 1, 2] (lv2 := [(2, .int 0), (0, .ref (b 0)), (1, .int 0)]) rfl ?_
    refine g_loop 102 (lvf := fun i17 => [(2, .int (nI i17)), (0, .ref (b 0)), (1, .int 0)]) (fun i17 M F hii17 ihi17 => ?_) (fun M F => ?_) F
    · skip
      refine g_iload_n C dX8_image_17 rfl (j := 0) rfl ?_
      refine g_bipush C dX8_image_18 (v := 102) (by decide) ?_
      refine g_icmp_ge C dX8_image_20 (tgt := 46) (by decide) (fun q => absurd q (nI_ge hii17 (by decide))) (fun _ => ?_)
      refine g_aload_n C dX8_image_23 rfl (j := 1) rfl ?_
      refine h_get C F 0 rfl fk_X8_13 dX8_image_24 rfl ?_
      refine g_bipush C dX8_image_27 (v := 102) (by decide) ?_
      refine g_iload_n C dX8_image_29 rfl (j := 2) rfl ?_
      refine g_imul C dX8_image_30 ?_
      refine Go.top (v := .int 0) (by decide) ?_
      refine g_iload_n C dX8_image_31 rfl (j := 0) rfl ?_
      refine g_iadd C dX8_image_32 ?_
      refine Go.top (v := .int (nI (0 + i17))) (congrArg Value.int (nI_add 0 i17)) ?_
      refine g_aload_n C dX8_image_33 rfl (j := 1) rfl ?_
      refine h_get C F 0 rfl fk_X8_9 dX8_image_34 rfl ?_
      refine g_iload_n C dX8_image_37 rfl (j := 0) rfl ?_
      refine h_iald C F 1 rfl dX8_image_38 (vp_in_nI (by omega) (by decide)) (v := 0) rfl ?_
      refine h_iast C F 2 rfl dX8_image_39 (vp_in_nI (by omega) (by decide)) (g := (fun _ => 0)) (upd0 _) (fl2 := flM cy b ts pn) rfl (fun M F => ?_)
      refine g_iinc C dX8_image_40 (j := 0) rfl (v := nI (i17 + 1)) (nI_1 i17) (by decide) (lv2 := [(2, .int (nI (i17 + 1))), (0, .ref (b 0)), (1, .int 0)]) rfl ?_
      refine g_goto C dX8_image_43 (tgt := 17) (by decide) ?_
      exact ihi17 M F
    · skip
      refine g_lv [0, 1, 2] (lv2 := [(2, .int 102), (0, .ref (b 0)), (1, .int 0)]) rfl ?_
      refine g_iload_n C dX8_image_17 rfl (j := 0) rfl ?_
      refine g_bipush C dX8_image_18 (v := 102) (by decide) ?_
      refine g_icmp_ge C dX8_image_20 (tgt := 46) (by decide) (fun _ => ?_) (fun q => absurd (by decide) q)
      refine g_aload_n C dX8_image_46 rfl (j := 1) rfl ?_
      refine h_get C F 0 rfl fk_X8_16 dX8_image_47 rfl ?_
      refine g_iload_n C dX8_image_50 rfl (j := 2) rfl ?_
      refine g_iconst C dX8_image_51 (v := 1) (by decide) ?_
      refine h_zastX C F 3 rfl dX8_image_52 (vp_in_iff.mpr (by decide)) (flf := fun g => (b 0, .inr (8, .int 0 :: .ref (b 1) :: .ref (b 2) :: .ref (b 3) :: .ref (b 4) :: .int 0 :: .ref (b 6) :: .int 0 :: .int 0 :: .int 0 :: .int 0 :: .int 0 :: .int 0 :: .int (-1) :: .ref (b 14) :: .ref (b 15) :: .ref (b 16) :: .int 0 :: .int 0 :: .int ts :: .ref (b 20) :: .ref (b 21) :: .ref (b 22) :: .ref (b 23) :: .ref (b 24) :: .ref (b 25) :: .ref (b 26) :: .ref (b 27) :: .ref (b 28) :: .ref (b 29) :: .int 0 :: .ref (b 31) :: .int 0 :: .ref (b 33) :: .long 0 :: .long 0 :: .long 0 :: .ref (b 37) :: .ref (b 38) :: .ref (b 39) :: .ref (b 40) :: [])) :: (b 1, .inl (cy 1, 102, .inl (fun _ => 0))) :: (b 2, .inl (cy 1, 306, .inl (fun _ => 0))) :: (b 3, .inl (cy 3, 3, .inl g)) :: (b 4, .inl (cy 0, 800, .inl (fun _ => 0))) :: (b 6, .inl (cy 1, 5, .inl (fun _ => 0))) :: (b 14, .inl (cy 1, 102, .inl (fun _ => 0))) :: (b 15, .inl (cy 1, 7, .inl (fun _ => 0))) :: (b 16, .inl (cy 1, 8, .inl (fun _ => 0))) :: (b 20, .inl (cy 1, 7, .inl (fun _ => 0))) :: (b 21, .inl (cy 1, 8, .inl pn)) :: (b 22, .inl (cy 1, 136, .inl (fun _ => 0))) :: (b 23, .inl (cy 1, 119, .inl (fun _ => 0))) :: (b 24, .inl (cy 1, 16, .inl (fun _ => 0))) :: (b 25, .inl (cy 1, 28, .inl (fun _ => 0))) :: (b 26, .inl (cy 1, 8, .inl (fun _ => 0))) :: (b 27, .inl (cy 1, 4, .inl (fun _ => 0))) :: (b 28, .inl (cy 1, 4, .inl (fun _ => 0))) :: (b 29, .inl (cy 1, 7, .inl (fun _ => 0))) :: (b 31, .inl (cy 1, 544, .inl (fun _ => 0))) :: (b 33, .inl (cy 1, 128, .inl (fun _ => 0))) :: (b 37, .inl (cy 1, 4, .inl (upd (upd (upd (upd (fun _ => 0) ((0 : Int32).toNatClampNeg) (-1)) ((1 : Int32).toNatClampNeg) (-1)) ((2 : Int32).toNatClampNeg) (-1)) ((3 : Int32).toNatClampNeg) (-1)))) :: (b 38, .inl (cy 1, 4, .inl (fun _ => 0))) :: (b 39, .inl (cy 2, 240, .inr (.inl (fun _ => 0)))) :: (b 40, .inl (cy 2, 60, .inr (.inl (fun _ => 0)))) :: []) (fun _ => rfl) (fun M g193 F => ?_)
      refine g_iconst C dX8_image_53 (v := 0) (by decide) ?_
      exact g_iret C hrt dX8_image_54 (by decide) (by decide) (by decide)
  · skip
    refine g_iload_n C dX8_image_0 rfl (j := 1) rfl ?_
    refine g_i2l C dX8_image_1 (v := 1) (by decide) ?_
    refine g_lconst C dX8_image_2 (v := 0) (by decide) ?_
    refine g_ldc2 C (v := 2) wd378 dX8_image_3 ?_
    refine g_callSI C (c_X8_in l G F (1) (0) (2)) lk_X8_94 rfl rfl dX8_image_6 (Nat.le_of_ble_eq_true rfl) ⟨by decide, by decide⟩ ⟨by decide, by decide⟩ (fun r6 L M hp => ?_)
    obtain ⟨r6_, F⟩ := hp
    obtain rfl : r6 = 1 := by
      rcases r6_ with ⟨z, z1⟩ | ⟨z, z1⟩
      · exact z
      · exact absurd (by decide) z1
    refine g_if_ne C dX8_image_9 (tgt := 15) (by decide) (fun _ => ?_) (fun q => absurd q (by decide))
    refine g_iconst C dX8_image_15 (v := 0) (by decide) ?_
    refine g_istore_n C dX8_image_16 rfl (by decide) (lv2 := [(2, .int 0), (0, .ref (b 0)), (1, .int 1)]) rfl ?_
    refine g_lv [0, 1, 2] (lv2 := [(2, .int 0), (0, .ref (b 0)), (1, .int 1)]) rfl ?_
    refine g_loop 102 (lvf := fun i17 => [(2, .int (nI i17)), (0, .ref (b 0)), (1, .int 1)]) (fun i17 M F hii17 ihi17 => ?_) (fun M F => ?_) F
    · skip
      refine g_iload_n C dX8_image_17 rfl (j := 0) rfl ?_
      refine g_bipush C dX8_image_18 (v := 102) (by decide) ?_
      refine g_icmp_ge C dX8_image_20 (tgt := 46) (by decide) (fun q => absurd q (nI_ge hii17 (by decide))) (fun _ => ?_)
      refine g_aload_n C dX8_image_23 rfl (j := 1) rfl ?_
      refine h_get C F 0 rfl fk_X8_13 dX8_image_24 rfl ?_
      refine g_bipush C dX8_image_27 (v := 102) (by decide) ?_
      refine g_iload_n C dX8_image_29 rfl (j := 2) rfl ?_
      refine g_imul C dX8_image_30 ?_
      refine Go.top (v := .int 102) (by decide) ?_
      refine g_iload_n C dX8_image_31 rfl (j := 0) rfl ?_
      refine g_iadd C dX8_image_32 ?_
      refine Go.top (v := .int (nI (102 + i17))) (congrArg Value.int (nI_add 102 i17)) ?_
      refine g_aload_n C dX8_image_33 rfl (j := 1) rfl ?_
      refine h_get C F 0 rfl fk_X8_9 dX8_image_34 rfl ?_
      refine g_iload_n C dX8_image_37 rfl (j := 0) rfl ?_
      refine h_iald C F 1 rfl dX8_image_38 (vp_in_nI (by omega) (by decide)) (v := 0) rfl ?_
      refine h_iast C F 2 rfl dX8_image_39 (vp_in_nI (by omega) (by decide)) (g := (fun _ => 0)) (upd0 _) (fl2 := flM cy b ts pn) rfl (fun M F => ?_)
      refine g_iinc C dX8_image_40 (j := 0) rfl (v := nI (i17 + 1)) (nI_1 i17) (by decide) (lv2 := [(2, .int (nI (i17 + 1))), (0, .ref (b 0)), (1, .int 1)]) rfl ?_
      refine g_goto C dX8_image_43 (tgt := 17) (by decide) ?_
      exact ihi17 M F
    · skip
      refine g_lv [0, 1, 2] (lv2 := [(2, .int 102), (0, .ref (b 0)), (1, .int 1)]) rfl ?_
      refine g_iload_n C dX8_image_17 rfl (j := 0) rfl ?_
      refine g_bipush C dX8_image_18 (v := 102) (by decide) ?_
      refine g_icmp_ge C dX8_image_20 (tgt := 46) (by decide) (fun _ => ?_) (fun q => absurd (by decide) q)
      refine g_aload_n C dX8_image_46 rfl (j := 1) rfl ?_
      refine h_get C F 0 rfl fk_X8_16 dX8_image_47 rfl ?_
      refine g_iload_n C dX8_image_50 rfl (j := 2) rfl ?_
      refine g_iconst C dX8_image_51 (v := 1) (by decide) ?_
      refine h_zastX C F 3 rfl dX8_image_52 (vp_in_iff.mpr (by decide)) (flf := fun g => (b 0, .inr (8, .int 0 :: .ref (b 1) :: .ref (b 2) :: .ref (b 3) :: .ref (b 4) :: .int 0 :: .ref (b 6) :: .int 0 :: .int 0 :: .int 0 :: .int 0 :: .int 0 :: .int 0 :: .int (-1) :: .ref (b 14) :: .ref (b 15) :: .ref (b 16) :: .int 0 :: .int 0 :: .int ts :: .ref (b 20) :: .ref (b 21) :: .ref (b 22) :: .ref (b 23) :: .ref (b 24) :: .ref (b 25) :: .ref (b 26) :: .ref (b 27) :: .ref (b 28) :: .ref (b 29) :: .int 0 :: .ref (b 31) :: .int 0 :: .ref (b 33) :: .long 0 :: .long 0 :: .long 0 :: .ref (b 37) :: .ref (b 38) :: .ref (b 39) :: .ref (b 40) :: [])) :: (b 1, .inl (cy 1, 102, .inl (fun _ => 0))) :: (b 2, .inl (cy 1, 306, .inl (fun _ => 0))) :: (b 3, .inl (cy 3, 3, .inl g)) :: (b 4, .inl (cy 0, 800, .inl (fun _ => 0))) :: (b 6, .inl (cy 1, 5, .inl (fun _ => 0))) :: (b 14, .inl (cy 1, 102, .inl (fun _ => 0))) :: (b 15, .inl (cy 1, 7, .inl (fun _ => 0))) :: (b 16, .inl (cy 1, 8, .inl (fun _ => 0))) :: (b 20, .inl (cy 1, 7, .inl (fun _ => 0))) :: (b 21, .inl (cy 1, 8, .inl pn)) :: (b 22, .inl (cy 1, 136, .inl (fun _ => 0))) :: (b 23, .inl (cy 1, 119, .inl (fun _ => 0))) :: (b 24, .inl (cy 1, 16, .inl (fun _ => 0))) :: (b 25, .inl (cy 1, 28, .inl (fun _ => 0))) :: (b 26, .inl (cy 1, 8, .inl (fun _ => 0))) :: (b 27, .inl (cy 1, 4, .inl (fun _ => 0))) :: (b 28, .inl (cy 1, 4, .inl (fun _ => 0))) :: (b 29, .inl (cy 1, 7, .inl (fun _ => 0))) :: (b 31, .inl (cy 1, 544, .inl (fun _ => 0))) :: (b 33, .inl (cy 1, 128, .inl (fun _ => 0))) :: (b 37, .inl (cy 1, 4, .inl (upd (upd (upd (upd (fun _ => 0) ((0 : Int32).toNatClampNeg) (-1)) ((1 : Int32).toNatClampNeg) (-1)) ((2 : Int32).toNatClampNeg) (-1)) ((3 : Int32).toNatClampNeg) (-1)))) :: (b 38, .inl (cy 1, 4, .inl (fun _ => 0))) :: (b 39, .inl (cy 2, 240, .inr (.inl (fun _ => 0)))) :: (b 40, .inl (cy 2, 60, .inr (.inl (fun _ => 0)))) :: []) (fun _ => rfl) (fun M g194 F => ?_)
      refine g_iconst C dX8_image_53 (v := 0) (by decide) ?_
      exact g_iret C hrt dX8_image_54 (by decide) (by decide) (by decide)
  · skip
    refine g_iload_n C dX8_image_0 rfl (j := 1) rfl ?_
    refine g_i2l C dX8_image_1 (v := 2) (by decide) ?_
    refine g_lconst C dX8_image_2 (v := 0) (by decide) ?_
    refine g_ldc2 C (v := 2) wd378 dX8_image_3 ?_
    refine g_callSI C (c_X8_in l G F (2) (0) (2)) lk_X8_94 rfl rfl dX8_image_6 (Nat.le_of_ble_eq_true rfl) ⟨by decide, by decide⟩ ⟨by decide, by decide⟩ (fun r7 L M hp => ?_)
    obtain ⟨r7_, F⟩ := hp
    obtain rfl : r7 = 1 := by
      rcases r7_ with ⟨z, z1⟩ | ⟨z, z1⟩
      · exact z
      · exact absurd (by decide) z1
    refine g_if_ne C dX8_image_9 (tgt := 15) (by decide) (fun _ => ?_) (fun q => absurd q (by decide))
    refine g_iconst C dX8_image_15 (v := 0) (by decide) ?_
    refine g_istore_n C dX8_image_16 rfl (by decide) (lv2 := [(2, .int 0), (0, .ref (b 0)), (1, .int 2)]) rfl ?_
    refine g_lv [0, 1, 2] (lv2 := [(2, .int 0), (0, .ref (b 0)), (1, .int 2)]) rfl ?_
    refine g_loop 102 (lvf := fun i17 => [(2, .int (nI i17)), (0, .ref (b 0)), (1, .int 2)]) (fun i17 M F hii17 ihi17 => ?_) (fun M F => ?_) F
    · skip
      refine g_iload_n C dX8_image_17 rfl (j := 0) rfl ?_
      refine g_bipush C dX8_image_18 (v := 102) (by decide) ?_
      refine g_icmp_ge C dX8_image_20 (tgt := 46) (by decide) (fun q => absurd q (nI_ge hii17 (by decide))) (fun _ => ?_)
      refine g_aload_n C dX8_image_23 rfl (j := 1) rfl ?_
      refine h_get C F 0 rfl fk_X8_13 dX8_image_24 rfl ?_
      refine g_bipush C dX8_image_27 (v := 102) (by decide) ?_
      refine g_iload_n C dX8_image_29 rfl (j := 2) rfl ?_
      refine g_imul C dX8_image_30 ?_
      refine Go.top (v := .int 204) (by decide) ?_
      refine g_iload_n C dX8_image_31 rfl (j := 0) rfl ?_
      refine g_iadd C dX8_image_32 ?_
      refine Go.top (v := .int (nI (204 + i17))) (congrArg Value.int (nI_add 204 i17)) ?_
      refine g_aload_n C dX8_image_33 rfl (j := 1) rfl ?_
      refine h_get C F 0 rfl fk_X8_9 dX8_image_34 rfl ?_
      refine g_iload_n C dX8_image_37 rfl (j := 0) rfl ?_
      refine h_iald C F 1 rfl dX8_image_38 (vp_in_nI (by omega) (by decide)) (v := 0) rfl ?_
      refine h_iast C F 2 rfl dX8_image_39 (vp_in_nI (by omega) (by decide)) (g := (fun _ => 0)) (upd0 _) (fl2 := flM cy b ts pn) rfl (fun M F => ?_)
      refine g_iinc C dX8_image_40 (j := 0) rfl (v := nI (i17 + 1)) (nI_1 i17) (by decide) (lv2 := [(2, .int (nI (i17 + 1))), (0, .ref (b 0)), (1, .int 2)]) rfl ?_
      refine g_goto C dX8_image_43 (tgt := 17) (by decide) ?_
      exact ihi17 M F
    · skip
      refine g_lv [0, 1, 2] (lv2 := [(2, .int 102), (0, .ref (b 0)), (1, .int 2)]) rfl ?_
      refine g_iload_n C dX8_image_17 rfl (j := 0) rfl ?_
      refine g_bipush C dX8_image_18 (v := 102) (by decide) ?_
      refine g_icmp_ge C dX8_image_20 (tgt := 46) (by decide) (fun _ => ?_) (fun q => absurd (by decide) q)
      refine g_aload_n C dX8_image_46 rfl (j := 1) rfl ?_
      refine h_get C F 0 rfl fk_X8_16 dX8_image_47 rfl ?_
      refine g_iload_n C dX8_image_50 rfl (j := 2) rfl ?_
      refine g_iconst C dX8_image_51 (v := 1) (by decide) ?_
      refine h_zastX C F 3 rfl dX8_image_52 (vp_in_iff.mpr (by decide)) (flf := fun g => (b 0, .inr (8, .int 0 :: .ref (b 1) :: .ref (b 2) :: .ref (b 3) :: .ref (b 4) :: .int 0 :: .ref (b 6) :: .int 0 :: .int 0 :: .int 0 :: .int 0 :: .int 0 :: .int 0 :: .int (-1) :: .ref (b 14) :: .ref (b 15) :: .ref (b 16) :: .int 0 :: .int 0 :: .int ts :: .ref (b 20) :: .ref (b 21) :: .ref (b 22) :: .ref (b 23) :: .ref (b 24) :: .ref (b 25) :: .ref (b 26) :: .ref (b 27) :: .ref (b 28) :: .ref (b 29) :: .int 0 :: .ref (b 31) :: .int 0 :: .ref (b 33) :: .long 0 :: .long 0 :: .long 0 :: .ref (b 37) :: .ref (b 38) :: .ref (b 39) :: .ref (b 40) :: [])) :: (b 1, .inl (cy 1, 102, .inl (fun _ => 0))) :: (b 2, .inl (cy 1, 306, .inl (fun _ => 0))) :: (b 3, .inl (cy 3, 3, .inl g)) :: (b 4, .inl (cy 0, 800, .inl (fun _ => 0))) :: (b 6, .inl (cy 1, 5, .inl (fun _ => 0))) :: (b 14, .inl (cy 1, 102, .inl (fun _ => 0))) :: (b 15, .inl (cy 1, 7, .inl (fun _ => 0))) :: (b 16, .inl (cy 1, 8, .inl (fun _ => 0))) :: (b 20, .inl (cy 1, 7, .inl (fun _ => 0))) :: (b 21, .inl (cy 1, 8, .inl pn)) :: (b 22, .inl (cy 1, 136, .inl (fun _ => 0))) :: (b 23, .inl (cy 1, 119, .inl (fun _ => 0))) :: (b 24, .inl (cy 1, 16, .inl (fun _ => 0))) :: (b 25, .inl (cy 1, 28, .inl (fun _ => 0))) :: (b 26, .inl (cy 1, 8, .inl (fun _ => 0))) :: (b 27, .inl (cy 1, 4, .inl (fun _ => 0))) :: (b 28, .inl (cy 1, 4, .inl (fun _ => 0))) :: (b 29, .inl (cy 1, 7, .inl (fun _ => 0))) :: (b 31, .inl (cy 1, 544, .inl (fun _ => 0))) :: (b 33, .inl (cy 1, 128, .inl (fun _ => 0))) :: (b 37, .inl (cy 1, 4, .inl (upd (upd (upd (upd (fun _ => 0) ((0 : Int32).toNatClampNeg) (-1)) ((1 : Int32).toNatClampNeg) (-1)) ((2 : Int32).toNatClampNeg) (-1)) ((3 : Int32).toNatClampNeg) (-1)))) :: (b 38, .inl (cy 1, 4, .inl (fun _ => 0))) :: (b 39, .inl (cy 2, 240, .inr (.inl (fun _ => 0)))) :: (b 40, .inl (cy 2, 60, .inr (.inl (fun _ => 0)))) :: []) (fun _ => rfl) (fun M g195 F => ?_)
      refine g_iconst C dX8_image_53 (v := 0) (by decide) ?_
      exact g_iret C hrt dX8_image_54 (by decide) (by decide) (by decide)
set_option maxHeartbeats 4000000 in
set_option maxRecDepth 100000 in
theorem c_X8_row (l : Launch) (G : va_G) {cy : Nat → ClassId} {L : List Nat} {M : Nat → va_E} {b : Nat → Nat} {ts : Int32} {pn : Nat → Int32}  (F : FW L M (flM cy b ts pn)) (p0 : Int32) (p1 : Int32) (p2 : Int32) : MI l G cy yX8_row cX8_row 5 (some .int) 2 0 0 [.ref (b 0), .int p0, .int p1, .int p2] L M (fun r L2 M2 => r = sp_row p0 p1 p2) := by
  refine MI.of (own := RX8) rfl (by decide) (Nat.le_of_ble_eq_true rfl) ?_
  intro p e s m below meth c A C hrt hnm
  rcases sc4 p0 with h1 | h2 | rfl | rfl | rfl | rfl
  · skip
    rcases sc4 p1 with h3 | h4 | rfl | rfl | rfl | rfl
    · skip
      refine g_iload_n C dX8_row_0 rfl (j := 1) rfl ?_
      refine g_callSI C (c_X8_isSlot l G F p0) lk_X8_394 rfl rfl dX8_row_1 (Nat.le_of_ble_eq_true rfl) ⟨by decide, by decide⟩ ⟨by decide, by decide⟩ (fun r5 L M hp => ?_)
      obtain ⟨r5_, F⟩ := hp
      obtain rfl : r5 = 0 := by
        rcases r5_ with ⟨-, z1, z2⟩ | ⟨z, -⟩
        · exfalso; have a1 : p0.toInt < (0 : Int32).toInt := Int32.lt_iff_toInt_lt.mp h1; have k1 : (0 : Int32).toInt = 0 := (by decide); have j1 : (0 : Int64).toInt = 0 := (by decide); have j2 : (3 : Int64).toInt = 3 := (by decide); have b1 := Int64.le_iff_toInt_le.mp z1; have b2 := Int64.le_iff_toInt_le.mp z2; rw [Int32.toInt_toInt64] at b1 b2; omega
        · exact z
      refine g_if_eq C dX8_row_4 (tgt := 25) (by decide) (fun _ => ?_) (fun q => absurd (by decide) q)
      refine g_bipush C dX8_row_25 (v := -2) (by decide) ?_
      exact g_iret C hrt dX8_row_27 (by decide) (by decide) (by have a1 : p0.toInt < (0 : Int32).toInt := Int32.lt_iff_toInt_lt.mp h1; have a2 : p1.toInt < (0 : Int32).toInt := Int32.lt_iff_toInt_lt.mp h3; have k2 : (0 : Int32).toInt = 0 := (by decide); unfold sp_row; repeat (first | rfl | (split) | (exfalso; omega)))
    · skip
      refine g_iload_n C dX8_row_0 rfl (j := 1) rfl ?_
      refine g_callSI C (c_X8_isSlot l G F p0) lk_X8_394 rfl rfl dX8_row_1 (Nat.le_of_ble_eq_true rfl) ⟨by decide, by decide⟩ ⟨by decide, by decide⟩ (fun r6 L M hp => ?_)
      obtain ⟨r6_, F⟩ := hp
      obtain rfl : r6 = 0 := by
        rcases r6_ with ⟨-, z1, z2⟩ | ⟨z, -⟩
        · exfalso; have a1 : p0.toInt < (0 : Int32).toInt := Int32.lt_iff_toInt_lt.mp h1; have k1 : (0 : Int32).toInt = 0 := (by decide); have j1 : (0 : Int64).toInt = 0 := (by decide); have j2 : (3 : Int64).toInt = 3 := (by decide); have b1 := Int64.le_iff_toInt_le.mp z1; have b2 := Int64.le_iff_toInt_le.mp z2; rw [Int32.toInt_toInt64] at b1 b2; omega
        · exact z
      refine g_if_eq C dX8_row_4 (tgt := 25) (by decide) (fun _ => ?_) (fun q => absurd (by decide) q)
      refine g_bipush C dX8_row_25 (v := -2) (by decide) ?_
      exact g_iret C hrt dX8_row_27 (by decide) (by decide) (by have a1 : p0.toInt < (0 : Int32).toInt := Int32.lt_iff_toInt_lt.mp h1; have a2 : (4 : Int32).toInt ≤ p1.toInt := Int32.le_iff_toInt_le.mp h4; have k2 : (0 : Int32).toInt = 0 := (by decide); have k3 : (4 : Int32).toInt = 4 := (by decide); unfold sp_row; repeat (first | rfl | (split) | (exfalso; omega)))
    · skip
      refine g_iload_n C dX8_row_0 rfl (j := 1) rfl ?_
      refine g_callSI C (c_X8_isSlot l G F p0) lk_X8_394 rfl rfl dX8_row_1 (Nat.le_of_ble_eq_true rfl) ⟨by decide, by decide⟩ ⟨by decide, by decide⟩ (fun r7 L M hp => ?_)
      obtain ⟨r7_, F⟩ := hp
      obtain rfl : r7 = 0 := by
        rcases r7_ with ⟨-, z1, z2⟩ | ⟨z, -⟩
        · exfalso; have a1 : p0.toInt < (0 : Int32).toInt := Int32.lt_iff_toInt_lt.mp h1; have k1 : (0 : Int32).toInt = 0 := (by decide); have j1 : (0 : Int64).toInt = 0 := (by decide); have j2 : (3 : Int64).toInt = 3 := (by decide); have b1 := Int64.le_iff_toInt_le.mp z1; have b2 := Int64.le_iff_toInt_le.mp z2; rw [Int32.toInt_toInt64] at b1 b2; omega
        · exact z
      refine g_if_eq C dX8_row_4 (tgt := 25) (by decide) (fun _ => ?_) (fun q => absurd (by decide) q)
      refine g_bipush C dX8_row_25 (v := -2) (by decide) ?_
      exact g_iret C hrt dX8_row_27 (by decide) (by decide) (by have a1 : p0.toInt < (0 : Int32).toInt := Int32.lt_iff_toInt_lt.mp h1; have k1 : (0 : Int32).toInt = 0 := (by decide); unfold sp_row; repeat (first | rfl | (split) | (exfalso; omega)))
    · skip
      refine g_iload_n C dX8_row_0 rfl (j := 1) rfl ?_
      refine g_callSI C (c_X8_isSlot l G F p0) lk_X8_394 rfl rfl dX8_row_1 (Nat.le_of_ble_eq_true rfl) ⟨by decide, by decide⟩ ⟨by decide, by decide⟩ (fun r8 L M hp => ?_)
      obtain ⟨r8_, F⟩ := hp
      obtain rfl : r8 = 0 := by
        rcases r8_ with ⟨-, z1, z2⟩ | ⟨z, -⟩
        · exfalso; have a1 : p0.toInt < (0 : Int32).toInt := Int32.lt_iff_toInt_lt.mp h1; have k1 : (0 : Int32).toInt = 0 := (by decide); have k2 : (1 : Int32).toInt = 1 := (by decide); have j1 : (0 : Int64).toInt = 0 := (by decide); have j2 : (3 : Int64).toInt = 3 := (by decide); have b1 := Int64.le_iff_toInt_le.mp z1; have b2 := Int64.le_iff_toInt_le.mp z2; rw [Int32.toInt_toInt64] at b1 b2; omega
        · exact z
      refine g_if_eq C dX8_row_4 (tgt := 25) (by decide) (fun _ => ?_) (fun q => absurd (by decide) q)
      refine g_bipush C dX8_row_25 (v := -2) (by decide) ?_
      exact g_iret C hrt dX8_row_27 (by decide) (by decide) (by have a1 : p0.toInt < (0 : Int32).toInt := Int32.lt_iff_toInt_lt.mp h1; have k1 : (0 : Int32).toInt = 0 := (by decide); have k2 : (1 : Int32).toInt = 1 := (by decide); unfold sp_row; repeat (first | rfl | (split) | (exfalso; omega)))
    · skip
      refine g_iload_n C dX8_row_0 rfl (j := 1) rfl ?_
      refine g_callSI C (c_X8_isSlot l G F p0) lk_X8_394 rfl rfl dX8_row_1 (Nat.le_of_ble_eq_true rfl) ⟨by decide, by decide⟩ ⟨by decide, by decide⟩ (fun r9 L M hp => ?_)
      obtain ⟨r9_, F⟩ := hp
      obtain rfl : r9 = 0 := by
        rcases r9_ with ⟨-, z1, z2⟩ | ⟨z, -⟩
        · exfalso; have a1 : p0.toInt < (0 : Int32).toInt := Int32.lt_iff_toInt_lt.mp h1; have k1 : (0 : Int32).toInt = 0 := (by decide); have k2 : (2 : Int32).toInt = 2 := (by decide); have j1 : (0 : Int64).toInt = 0 := (by decide); have j2 : (3 : Int64).toInt = 3 := (by decide); have b1 := Int64.le_iff_toInt_le.mp z1; have b2 := Int64.le_iff_toInt_le.mp z2; rw [Int32.toInt_toInt64] at b1 b2; omega
        · exact z
      refine g_if_eq C dX8_row_4 (tgt := 25) (by decide) (fun _ => ?_) (fun q => absurd (by decide) q)
      refine g_bipush C dX8_row_25 (v := -2) (by decide) ?_
      exact g_iret C hrt dX8_row_27 (by decide) (by decide) (by have a1 : p0.toInt < (0 : Int32).toInt := Int32.lt_iff_toInt_lt.mp h1; have k1 : (0 : Int32).toInt = 0 := (by decide); have k2 : (2 : Int32).toInt = 2 := (by decide); unfold sp_row; repeat (first | rfl | (split) | (exfalso; omega)))
    · skip
      refine g_iload_n C dX8_row_0 rfl (j := 1) rfl ?_
      refine g_callSI C (c_X8_isSlot l G F p0) lk_X8_394 rfl rfl dX8_row_1 (Nat.le_of_ble_eq_true rfl) ⟨by decide, by decide⟩ ⟨by decide, by decide⟩ (fun r10 L M hp => ?_)
      obtain ⟨r10_, F⟩ := hp
      obtain rfl : r10 = 0 := by
        rcases r10_ with ⟨-, z1, z2⟩ | ⟨z, -⟩
        · exfalso; have a1 : p0.toInt < (0 : Int32).toInt := Int32.lt_iff_toInt_lt.mp h1; have k1 : (0 : Int32).toInt = 0 := (by decide); have k2 : (3 : Int32).toInt = 3 := (by decide); have j1 : (0 : Int64).toInt = 0 := (by decide); have j2 : (3 : Int64).toInt = 3 := (by decide); have b1 := Int64.le_iff_toInt_le.mp z1; have b2 := Int64.le_iff_toInt_le.mp z2; rw [Int32.toInt_toInt64] at b1 b2; omega
        · exact z
      refine g_if_eq C dX8_row_4 (tgt := 25) (by decide) (fun _ => ?_) (fun q => absurd (by decide) q)
      refine g_bipush C dX8_row_25 (v := -2) (by decide) ?_
      exact g_iret C hrt dX8_row_27 (by decide) (by decide) (by have a1 : p0.toInt < (0 : Int32).toInt := Int32.lt_iff_toInt_lt.mp h1; have k1 : (0 : Int32).toInt = 0 := (by decide); have k2 : (3 : Int32).toInt = 3 := (by decide); unfold sp_row; repeat (first | rfl | (split) | (exfalso; omega)))
  · skip
    rcases sc4 p1 with h11 | h12 | rfl | rfl | rfl | rfl
    · skip
      refine g_iload_n C dX8_row_0 rfl (j := 1) rfl ?_
      refine g_callSI C (c_X8_isSlot l G F p0) lk_X8_394 rfl rfl dX8_row_1 (Nat.le_of_ble_eq_true rfl) ⟨by decide, by decide⟩ ⟨by decide, by decide⟩ (fun r13 L M hp => ?_)
      obtain ⟨r13_, F⟩ := hp
      obtain rfl : r13 = 0 := by
        rcases r13_ with ⟨-, z1, z2⟩ | ⟨z, -⟩
        · exfalso; have a1 : (4 : Int32).toInt ≤ p0.toInt := Int32.le_iff_toInt_le.mp h2; have k1 : (4 : Int32).toInt = 4 := (by decide); have j1 : (0 : Int64).toInt = 0 := (by decide); have j2 : (3 : Int64).toInt = 3 := (by decide); have b1 := Int64.le_iff_toInt_le.mp z1; have b2 := Int64.le_iff_toInt_le.mp z2; rw [Int32.toInt_toInt64] at b1 b2; omega
        · exact z
      refine g_if_eq C dX8_row_4 (tgt := 25) (by decide) (fun _ => ?_) (fun q => absurd (by decide) q)
      refine g_bipush C dX8_row_25 (v := -2) (by decide) ?_
      exact g_iret C hrt dX8_row_27 (by decide) (by decide) (by have a1 : (4 : Int32).toInt ≤ p0.toInt := Int32.le_iff_toInt_le.mp h2; have a2 : p1.toInt < (0 : Int32).toInt := Int32.lt_iff_toInt_lt.mp h11; have k2 : (0 : Int32).toInt = 0 := (by decide); have k3 : (4 : Int32).toInt = 4 := (by decide); unfold sp_row; repeat (first | rfl | (split) | (exfalso; omega)))
    · skip
      refine g_iload_n C dX8_row_0 rfl (j := 1) rfl ?_
      refine g_callSI C (c_X8_isSlot l G F p0) lk_X8_394 rfl rfl dX8_row_1 (Nat.le_of_ble_eq_true rfl) ⟨by decide, by decide⟩ ⟨by decide, by decide⟩ (fun r14 L M hp => ?_)
      obtain ⟨r14_, F⟩ := hp
      obtain rfl : r14 = 0 := by
        rcases r14_ with ⟨-, z1, z2⟩ | ⟨z, -⟩
        · exfalso; have a1 : (4 : Int32).toInt ≤ p0.toInt := Int32.le_iff_toInt_le.mp h2; have k1 : (4 : Int32).toInt = 4 := (by decide); have j1 : (0 : Int64).toInt = 0 := (by decide); have j2 : (3 : Int64).toInt = 3 := (by decide); have b1 := Int64.le_iff_toInt_le.mp z1; have b2 := Int64.le_iff_toInt_le.mp z2; rw [Int32.toInt_toInt64] at b1 b2; omega
        · exact z
      refine g_if_eq C dX8_row_4 (tgt := 25) (by decide) (fun _ => ?_) (fun q => absurd (by decide) q)
      refine g_bipush C dX8_row_25 (v := -2) (by decide) ?_
      exact g_iret C hrt dX8_row_27 (by decide) (by decide) (by have a1 : (4 : Int32).toInt ≤ p0.toInt := Int32.le_iff_toInt_le.mp h2; have a2 : (4 : Int32).toInt ≤ p1.toInt := Int32.le_iff_toInt_le.mp h12; have k2 : (4 : Int32).toInt = 4 := (by decide); unfold sp_row; repeat (first | rfl | (split) | (exfalso; omega)))
    · skip
      refine g_iload_n C dX8_row_0 rfl (j := 1) rfl ?_
      refine g_callSI C (c_X8_isSlot l G F p0) lk_X8_394 rfl rfl dX8_row_1 (Nat.le_of_ble_eq_true rfl) ⟨by decide, by decide⟩ ⟨by decide, by decide⟩ (fun r15 L M hp => ?_)
      obtain ⟨r15_, F⟩ := hp
      obtain rfl : r15 = 0 := by
        rcases r15_ with ⟨-, z1, z2⟩ | ⟨z, -⟩
        · exfalso; have a1 : (4 : Int32).toInt ≤ p0.toInt := Int32.le_iff_toInt_le.mp h2; have k1 : (0 : Int32).toInt = 0 := (by decide); have k2 : (4 : Int32).toInt = 4 := (by decide); have j1 : (0 : Int64).toInt = 0 := (by decide); have j2 : (3 : Int64).toInt = 3 := (by decide); have b1 := Int64.le_iff_toInt_le.mp z1; have b2 := Int64.le_iff_toInt_le.mp z2; rw [Int32.toInt_toInt64] at b1 b2; omega
        · exact z
      refine g_if_eq C dX8_row_4 (tgt := 25) (by decide) (fun _ => ?_) (fun q => absurd (by decide) q)
      refine g_bipush C dX8_row_25 (v := -2) (by decide) ?_
      exact g_iret C hrt dX8_row_27 (by decide) (by decide) (by have a1 : (4 : Int32).toInt ≤ p0.toInt := Int32.le_iff_toInt_le.mp h2; have k1 : (0 : Int32).toInt = 0 := (by decide); have k2 : (4 : Int32).toInt = 4 := (by decide); unfold sp_row; repeat (first | rfl | (split) | (exfalso; omega)))
    · skip
      refine g_iload_n C dX8_row_0 rfl (j := 1) rfl ?_
      refine g_callSI C (c_X8_isSlot l G F p0) lk_X8_394 rfl rfl dX8_row_1 (Nat.le_of_ble_eq_true rfl) ⟨by decide, by decide⟩ ⟨by decide, by decide⟩ (fun r16 L M hp => ?_)
      obtain ⟨r16_, F⟩ := hp
      obtain rfl : r16 = 0 := by
        rcases r16_ with ⟨-, z1, z2⟩ | ⟨z, -⟩
        · exfalso; have a1 : (4 : Int32).toInt ≤ p0.toInt := Int32.le_iff_toInt_le.mp h2; have k1 : (1 : Int32).toInt = 1 := (by decide); have k2 : (4 : Int32).toInt = 4 := (by decide); have j1 : (0 : Int64).toInt = 0 := (by decide); have j2 : (3 : Int64).toInt = 3 := (by decide); have b1 := Int64.le_iff_toInt_le.mp z1; have b2 := Int64.le_iff_toInt_le.mp z2; rw [Int32.toInt_toInt64] at b1 b2; omega
        · exact z
      refine g_if_eq C dX8_row_4 (tgt := 25) (by decide) (fun _ => ?_) (fun q => absurd (by decide) q)
      refine g_bipush C dX8_row_25 (v := -2) (by decide) ?_
      exact g_iret C hrt dX8_row_27 (by decide) (by decide) (by have a1 : (4 : Int32).toInt ≤ p0.toInt := Int32.le_iff_toInt_le.mp h2; have k1 : (1 : Int32).toInt = 1 := (by decide); have k2 : (4 : Int32).toInt = 4 := (by decide); unfold sp_row; repeat (first | rfl | (split) | (exfalso; omega)))
    · skip
      refine g_iload_n C dX8_row_0 rfl (j := 1) rfl ?_
      refine g_callSI C (c_X8_isSlot l G F p0) lk_X8_394 rfl rfl dX8_row_1 (Nat.le_of_ble_eq_true rfl) ⟨by decide, by decide⟩ ⟨by decide, by decide⟩ (fun r17 L M hp => ?_)
      obtain ⟨r17_, F⟩ := hp
      obtain rfl : r17 = 0 := by
        rcases r17_ with ⟨-, z1, z2⟩ | ⟨z, -⟩
        · exfalso; have a1 : (4 : Int32).toInt ≤ p0.toInt := Int32.le_iff_toInt_le.mp h2; have k1 : (2 : Int32).toInt = 2 := (by decide); have k2 : (4 : Int32).toInt = 4 := (by decide); have j1 : (0 : Int64).toInt = 0 := (by decide); have j2 : (3 : Int64).toInt = 3 := (by decide); have b1 := Int64.le_iff_toInt_le.mp z1; have b2 := Int64.le_iff_toInt_le.mp z2; rw [Int32.toInt_toInt64] at b1 b2; omega
        · exact z
      refine g_if_eq C dX8_row_4 (tgt := 25) (by decide) (fun _ => ?_) (fun q => absurd (by decide) q)
      refine g_bipush C dX8_row_25 (v := -2) (by decide) ?_
      exact g_iret C hrt dX8_row_27 (by decide) (by decide) (by have a1 : (4 : Int32).toInt ≤ p0.toInt := Int32.le_iff_toInt_le.mp h2; have k1 : (2 : Int32).toInt = 2 := (by decide); have k2 : (4 : Int32).toInt = 4 := (by decide); unfold sp_row; repeat (first | rfl | (split) | (exfalso; omega)))
    · skip
      refine g_iload_n C dX8_row_0 rfl (j := 1) rfl ?_
      refine g_callSI C (c_X8_isSlot l G F p0) lk_X8_394 rfl rfl dX8_row_1 (Nat.le_of_ble_eq_true rfl) ⟨by decide, by decide⟩ ⟨by decide, by decide⟩ (fun r18 L M hp => ?_)
      obtain ⟨r18_, F⟩ := hp
      obtain rfl : r18 = 0 := by
        rcases r18_ with ⟨-, z1, z2⟩ | ⟨z, -⟩
        · exfalso; have a1 : (4 : Int32).toInt ≤ p0.toInt := Int32.le_iff_toInt_le.mp h2; have k1 : (3 : Int32).toInt = 3 := (by decide); have k2 : (4 : Int32).toInt = 4 := (by decide); have j1 : (0 : Int64).toInt = 0 := (by decide); have j2 : (3 : Int64).toInt = 3 := (by decide); have b1 := Int64.le_iff_toInt_le.mp z1; have b2 := Int64.le_iff_toInt_le.mp z2; rw [Int32.toInt_toInt64] at b1 b2; omega
        · exact z
      refine g_if_eq C dX8_row_4 (tgt := 25) (by decide) (fun _ => ?_) (fun q => absurd (by decide) q)
      refine g_bipush C dX8_row_25 (v := -2) (by decide) ?_
      exact g_iret C hrt dX8_row_27 (by decide) (by decide) (by have a1 : (4 : Int32).toInt ≤ p0.toInt := Int32.le_iff_toInt_le.mp h2; have k1 : (3 : Int32).toInt = 3 := (by decide); have k2 : (4 : Int32).toInt = 4 := (by decide); unfold sp_row; repeat (first | rfl | (split) | (exfalso; omega)))
  · skip
    rcases sc4 p1 with h19 | h20 | rfl | rfl | rfl | rfl
    · skip
      refine g_iload_n C dX8_row_0 rfl (j := 1) rfl ?_
      refine g_callSI C (c_X8_isSlot l G F 0) lk_X8_394 rfl rfl dX8_row_1 (Nat.le_of_ble_eq_true rfl) ⟨by decide, by decide⟩ ⟨by decide, by decide⟩ (fun r21 L M hp => ?_)
      obtain ⟨r21_, F⟩ := hp
      obtain rfl : r21 = 1 := by
        rcases r21_ with ⟨z, z1⟩ | ⟨z, z1⟩
        · exact z
        · exact absurd (by decide) z1
      refine g_if_eq C dX8_row_4 (tgt := 25) (by decide) (fun q => absurd q (by decide)) (fun _ => ?_)
      refine g_iload_n C dX8_row_7 rfl (j := 2) rfl ?_
      refine g_i2l C dX8_row_8 (v := p1.toInt64) rfl ?_
      refine g_lconst C dX8_row_9 (v := 0) (by decide) ?_
      refine g_ldc2 C (v := 3) wd235 dX8_row_10 ?_
      refine g_callSI C (c_X8_in l G F (p1.toInt64) (0) (3)) lk_X8_94 rfl rfl dX8_row_13 (Nat.le_of_ble_eq_true rfl) ⟨by decide, by decide⟩ ⟨by decide, by decide⟩ (fun r22 L M hp => ?_)
      obtain ⟨r22_, F⟩ := hp
      obtain rfl : r22 = 0 := by
        rcases r22_ with ⟨-, z1, z2⟩ | ⟨z, -⟩
        · exfalso; have a1 : p1.toInt < (0 : Int32).toInt := Int32.lt_iff_toInt_lt.mp h19; have k1 : (0 : Int32).toInt = 0 := (by decide); have j1 : (0 : Int64).toInt = 0 := (by decide); have j2 : (3 : Int64).toInt = 3 := (by decide); have b1 := Int64.le_iff_toInt_le.mp z1; have b2 := Int64.le_iff_toInt_le.mp z2; rw [Int32.toInt_toInt64] at b1 b2; omega
        · exact z
      refine g_if_eq C dX8_row_16 (tgt := 25) (by decide) (fun _ => ?_) (fun q => absurd (by decide) q)
      refine g_bipush C dX8_row_25 (v := -2) (by decide) ?_
      exact g_iret C hrt dX8_row_27 (by decide) (by decide) (by have a1 : p1.toInt < (0 : Int32).toInt := Int32.lt_iff_toInt_lt.mp h19; have k1 : (0 : Int32).toInt = 0 := (by decide); unfold sp_row; repeat (first | rfl | (split) | (exfalso; omega)))
    · skip
      refine g_iload_n C dX8_row_0 rfl (j := 1) rfl ?_
      refine g_callSI C (c_X8_isSlot l G F 0) lk_X8_394 rfl rfl dX8_row_1 (Nat.le_of_ble_eq_true rfl) ⟨by decide, by decide⟩ ⟨by decide, by decide⟩ (fun r23 L M hp => ?_)
      obtain ⟨r23_, F⟩ := hp
      obtain rfl : r23 = 1 := by
        rcases r23_ with ⟨z, z1⟩ | ⟨z, z1⟩
        · exact z
        · exact absurd (by decide) z1
      refine g_if_eq C dX8_row_4 (tgt := 25) (by decide) (fun q => absurd q (by decide)) (fun _ => ?_)
      refine g_iload_n C dX8_row_7 rfl (j := 2) rfl ?_
      refine g_i2l C dX8_row_8 (v := p1.toInt64) rfl ?_
      refine g_lconst C dX8_row_9 (v := 0) (by decide) ?_
      refine g_ldc2 C (v := 3) wd235 dX8_row_10 ?_
      refine g_callSI C (c_X8_in l G F (p1.toInt64) (0) (3)) lk_X8_94 rfl rfl dX8_row_13 (Nat.le_of_ble_eq_true rfl) ⟨by decide, by decide⟩ ⟨by decide, by decide⟩ (fun r24 L M hp => ?_)
      obtain ⟨r24_, F⟩ := hp
      obtain rfl : r24 = 0 := by
        rcases r24_ with ⟨-, z1, z2⟩ | ⟨z, -⟩
        · exfalso; have a1 : (4 : Int32).toInt ≤ p1.toInt := Int32.le_iff_toInt_le.mp h20; have k1 : (0 : Int32).toInt = 0 := (by decide); have k2 : (4 : Int32).toInt = 4 := (by decide); have j1 : (0 : Int64).toInt = 0 := (by decide); have j2 : (3 : Int64).toInt = 3 := (by decide); have b1 := Int64.le_iff_toInt_le.mp z1; have b2 := Int64.le_iff_toInt_le.mp z2; rw [Int32.toInt_toInt64] at b1 b2; omega
        · exact z
      refine g_if_eq C dX8_row_16 (tgt := 25) (by decide) (fun _ => ?_) (fun q => absurd (by decide) q)
      refine g_bipush C dX8_row_25 (v := -2) (by decide) ?_
      exact g_iret C hrt dX8_row_27 (by decide) (by decide) (by have a1 : (4 : Int32).toInt ≤ p1.toInt := Int32.le_iff_toInt_le.mp h20; have k1 : (0 : Int32).toInt = 0 := (by decide); have k2 : (4 : Int32).toInt = 4 := (by decide); unfold sp_row; repeat (first | rfl | (split) | (exfalso; omega)))
    · skip
      refine g_iload_n C dX8_row_0 rfl (j := 1) rfl ?_
      refine g_callSI C (c_X8_isSlot l G F 0) lk_X8_394 rfl rfl dX8_row_1 (Nat.le_of_ble_eq_true rfl) ⟨by decide, by decide⟩ ⟨by decide, by decide⟩ (fun r25 L M hp => ?_)
      obtain ⟨r25_, F⟩ := hp
      obtain rfl : r25 = 1 := by
        rcases r25_ with ⟨z, z1⟩ | ⟨z, z1⟩
        · exact z
        · exact absurd (by decide) z1
      refine g_if_eq C dX8_row_4 (tgt := 25) (by decide) (fun q => absurd q (by decide)) (fun _ => ?_)
      refine g_iload_n C dX8_row_7 rfl (j := 2) rfl ?_
      refine g_i2l C dX8_row_8 (v := 0) (by decide) ?_
      refine g_lconst C dX8_row_9 (v := 0) (by decide) ?_
      refine g_ldc2 C (v := 3) wd235 dX8_row_10 ?_
      refine g_callSI C (c_X8_in l G F (0) (0) (3)) lk_X8_94 rfl rfl dX8_row_13 (Nat.le_of_ble_eq_true rfl) ⟨by decide, by decide⟩ ⟨by decide, by decide⟩ (fun r26 L M hp => ?_)
      obtain ⟨r26_, F⟩ := hp
      obtain rfl : r26 = 1 := by
        rcases r26_ with ⟨z, z1⟩ | ⟨z, z1⟩
        · exact z
        · exact absurd (by decide) z1
      refine g_if_eq C dX8_row_16 (tgt := 25) (by decide) (fun q => absurd q (by decide)) (fun _ => ?_)
      refine g_iload_n C dX8_row_19 rfl (j := 3) rfl ?_
      refine g_bipush C dX8_row_20 (v := 60) (by decide) ?_
      refine g_icmp_le C dX8_row_22 (tgt := 28) (by decide) (fun q27 => ?_) (fun q27 => ?_)
      · skip
        refine g_iload_n C dX8_row_28 rfl (j := 3) rfl ?_
        refine g_if_ge C dX8_row_29 (tgt := 35) (by decide) (fun q28 => ?_) (fun q28 => ?_)
        · skip
          refine g_aload_n C dX8_row_35 rfl (j := 0) rfl ?_
          refine h_get C F 0 rfl fk_X8_76 dX8_row_36 rfl ?_
          refine g_iload_n C dX8_row_39 rfl (j := 1) rfl ?_
          refine g_iload_n C dX8_row_40 rfl (j := 3) rfl ?_
          refine h_iastX C F 21 rfl dX8_row_41 (vp_in_iff.mpr (by decide)) (flf := fun g => (b 0, .inr (8, .int 0 :: .ref (b 1) :: .ref (b 2) :: .ref (b 3) :: .ref (b 4) :: .int 0 :: .ref (b 6) :: .int 0 :: .int 0 :: .int 0 :: .int 0 :: .int 0 :: .int 0 :: .int (-1) :: .ref (b 14) :: .ref (b 15) :: .ref (b 16) :: .int 0 :: .int 0 :: .int ts :: .ref (b 20) :: .ref (b 21) :: .ref (b 22) :: .ref (b 23) :: .ref (b 24) :: .ref (b 25) :: .ref (b 26) :: .ref (b 27) :: .ref (b 28) :: .ref (b 29) :: .int 0 :: .ref (b 31) :: .int 0 :: .ref (b 33) :: .long 0 :: .long 0 :: .long 0 :: .ref (b 37) :: .ref (b 38) :: .ref (b 39) :: .ref (b 40) :: [])) :: (b 1, .inl (cy 1, 102, .inl (fun _ => 0))) :: (b 2, .inl (cy 1, 306, .inl (fun _ => 0))) :: (b 3, .inl (cy 3, 3, .inl (fun _ => 0))) :: (b 4, .inl (cy 0, 800, .inl (fun _ => 0))) :: (b 6, .inl (cy 1, 5, .inl (fun _ => 0))) :: (b 14, .inl (cy 1, 102, .inl (fun _ => 0))) :: (b 15, .inl (cy 1, 7, .inl (fun _ => 0))) :: (b 16, .inl (cy 1, 8, .inl (fun _ => 0))) :: (b 20, .inl (cy 1, 7, .inl (fun _ => 0))) :: (b 21, .inl (cy 1, 8, .inl pn)) :: (b 22, .inl (cy 1, 136, .inl (fun _ => 0))) :: (b 23, .inl (cy 1, 119, .inl (fun _ => 0))) :: (b 24, .inl (cy 1, 16, .inl (fun _ => 0))) :: (b 25, .inl (cy 1, 28, .inl (fun _ => 0))) :: (b 26, .inl (cy 1, 8, .inl (fun _ => 0))) :: (b 27, .inl (cy 1, 4, .inl (fun _ => 0))) :: (b 28, .inl (cy 1, 4, .inl (fun _ => 0))) :: (b 29, .inl (cy 1, 7, .inl (fun _ => 0))) :: (b 31, .inl (cy 1, 544, .inl (fun _ => 0))) :: (b 33, .inl (cy 1, 128, .inl (fun _ => 0))) :: (b 37, .inl (cy 1, 4, .inl g)) :: (b 38, .inl (cy 1, 4, .inl (fun _ => 0))) :: (b 39, .inl (cy 2, 240, .inr (.inl (fun _ => 0)))) :: (b 40, .inl (cy 2, 60, .inr (.inl (fun _ => 0)))) :: []) (fun _ => rfl) (fun M g196 F => ?_)
          refine g_aload_n C dX8_row_42 rfl (j := 0) rfl ?_
          refine h_get C F 0 rfl fk_X8_79 dX8_row_43 rfl ?_
          refine g_iload_n C dX8_row_46 rfl (j := 1) rfl ?_
          refine g_iload_n C dX8_row_47 rfl (j := 2) rfl ?_
          refine h_iast C F 22 rfl dX8_row_48 (vp_in_iff.mpr (by decide)) (g := (fun _ => 0)) (upd0 _) (fl2 := (b 0, .inr (8, .int 0 :: .ref (b 1) :: .ref (b 2) :: .ref (b 3) :: .ref (b 4) :: .int 0 :: .ref (b 6) :: .int 0 :: .int 0 :: .int 0 :: .int 0 :: .int 0 :: .int 0 :: .int (-1) :: .ref (b 14) :: .ref (b 15) :: .ref (b 16) :: .int 0 :: .int 0 :: .int ts :: .ref (b 20) :: .ref (b 21) :: .ref (b 22) :: .ref (b 23) :: .ref (b 24) :: .ref (b 25) :: .ref (b 26) :: .ref (b 27) :: .ref (b 28) :: .ref (b 29) :: .int 0 :: .ref (b 31) :: .int 0 :: .ref (b 33) :: .long 0 :: .long 0 :: .long 0 :: .ref (b 37) :: .ref (b 38) :: .ref (b 39) :: .ref (b 40) :: [])) :: (b 1, .inl (cy 1, 102, .inl (fun _ => 0))) :: (b 2, .inl (cy 1, 306, .inl (fun _ => 0))) :: (b 3, .inl (cy 3, 3, .inl (fun _ => 0))) :: (b 4, .inl (cy 0, 800, .inl (fun _ => 0))) :: (b 6, .inl (cy 1, 5, .inl (fun _ => 0))) :: (b 14, .inl (cy 1, 102, .inl (fun _ => 0))) :: (b 15, .inl (cy 1, 7, .inl (fun _ => 0))) :: (b 16, .inl (cy 1, 8, .inl (fun _ => 0))) :: (b 20, .inl (cy 1, 7, .inl (fun _ => 0))) :: (b 21, .inl (cy 1, 8, .inl pn)) :: (b 22, .inl (cy 1, 136, .inl (fun _ => 0))) :: (b 23, .inl (cy 1, 119, .inl (fun _ => 0))) :: (b 24, .inl (cy 1, 16, .inl (fun _ => 0))) :: (b 25, .inl (cy 1, 28, .inl (fun _ => 0))) :: (b 26, .inl (cy 1, 8, .inl (fun _ => 0))) :: (b 27, .inl (cy 1, 4, .inl (fun _ => 0))) :: (b 28, .inl (cy 1, 4, .inl (fun _ => 0))) :: (b 29, .inl (cy 1, 7, .inl (fun _ => 0))) :: (b 31, .inl (cy 1, 544, .inl (fun _ => 0))) :: (b 33, .inl (cy 1, 128, .inl (fun _ => 0))) :: (b 37, .inl (cy 1, 4, .inl g196)) :: (b 38, .inl (cy 1, 4, .inl (fun _ => 0))) :: (b 39, .inl (cy 2, 240, .inr (.inl (fun _ => 0)))) :: (b 40, .inl (cy 2, 60, .inr (.inl (fun _ => 0)))) :: []) rfl (fun M F => ?_)
          refine g_iconst C dX8_row_49 (v := 0) (by decide) ?_
          refine g_istore C dX8_row_50 (by decide) (lv2 := [(4, .int 0), (0, .ref (b 0)), (1, .int 0), (2, .int 0), (3, .int p2)]) rfl ?_
          refine g_lv [0, 1, 2, 3, 4] (lv2 := [(4, .int 0), (0, .ref (b 0)), (1, .int 0), (2, .int 0), (3, .int p2)]) rfl ?_
          refine g_loop 60 (lvf := fun i52 => [(4, .int (nI i52)), (0, .ref (b 0)), (1, .int 0), (2, .int 0), (3, .int p2)]) (fun i52 M F hii52 ihi52 => ?_) (fun M F => ?_) F
          · skip
            refine g_iload C dX8_row_52 (j := 0) rfl ?_
            refine g_bipush C dX8_row_54 (v := 60) (by decide) ?_
            refine g_icmp_ge C dX8_row_56 (tgt := 78) (by decide) (fun q => absurd q (nI_ge hii52 (by decide))) (fun _ => ?_)
            refine g_aload_n C dX8_row_59 rfl (j := 1) rfl ?_
            refine h_get C F 0 rfl fk_X8_82 dX8_row_60 rfl ?_
            refine g_bipush C dX8_row_63 (v := 60) (by decide) ?_
            refine g_iload_n C dX8_row_65 rfl (j := 2) rfl ?_
            refine g_imul C dX8_row_66 ?_
            refine Go.top (v := .int 0) (by decide) ?_
            refine g_iload C dX8_row_67 (j := 0) rfl ?_
            refine g_iadd C dX8_row_69 ?_
            refine Go.top (v := .int (nI (0 + i52))) (congrArg Value.int (nI_add 0 i52)) ?_
            refine g_lconst C dX8_row_70 (v := 0) (by decide) ?_
            refine h_last C F 23 rfl dX8_row_71 (vp_in_nI (by omega) (by decide)) (g := (fun _ => 0)) (updL0 _) (fl2 := (b 0, .inr (8, .int 0 :: .ref (b 1) :: .ref (b 2) :: .ref (b 3) :: .ref (b 4) :: .int 0 :: .ref (b 6) :: .int 0 :: .int 0 :: .int 0 :: .int 0 :: .int 0 :: .int 0 :: .int (-1) :: .ref (b 14) :: .ref (b 15) :: .ref (b 16) :: .int 0 :: .int 0 :: .int ts :: .ref (b 20) :: .ref (b 21) :: .ref (b 22) :: .ref (b 23) :: .ref (b 24) :: .ref (b 25) :: .ref (b 26) :: .ref (b 27) :: .ref (b 28) :: .ref (b 29) :: .int 0 :: .ref (b 31) :: .int 0 :: .ref (b 33) :: .long 0 :: .long 0 :: .long 0 :: .ref (b 37) :: .ref (b 38) :: .ref (b 39) :: .ref (b 40) :: [])) :: (b 1, .inl (cy 1, 102, .inl (fun _ => 0))) :: (b 2, .inl (cy 1, 306, .inl (fun _ => 0))) :: (b 3, .inl (cy 3, 3, .inl (fun _ => 0))) :: (b 4, .inl (cy 0, 800, .inl (fun _ => 0))) :: (b 6, .inl (cy 1, 5, .inl (fun _ => 0))) :: (b 14, .inl (cy 1, 102, .inl (fun _ => 0))) :: (b 15, .inl (cy 1, 7, .inl (fun _ => 0))) :: (b 16, .inl (cy 1, 8, .inl (fun _ => 0))) :: (b 20, .inl (cy 1, 7, .inl (fun _ => 0))) :: (b 21, .inl (cy 1, 8, .inl pn)) :: (b 22, .inl (cy 1, 136, .inl (fun _ => 0))) :: (b 23, .inl (cy 1, 119, .inl (fun _ => 0))) :: (b 24, .inl (cy 1, 16, .inl (fun _ => 0))) :: (b 25, .inl (cy 1, 28, .inl (fun _ => 0))) :: (b 26, .inl (cy 1, 8, .inl (fun _ => 0))) :: (b 27, .inl (cy 1, 4, .inl (fun _ => 0))) :: (b 28, .inl (cy 1, 4, .inl (fun _ => 0))) :: (b 29, .inl (cy 1, 7, .inl (fun _ => 0))) :: (b 31, .inl (cy 1, 544, .inl (fun _ => 0))) :: (b 33, .inl (cy 1, 128, .inl (fun _ => 0))) :: (b 37, .inl (cy 1, 4, .inl g196)) :: (b 38, .inl (cy 1, 4, .inl (fun _ => 0))) :: (b 39, .inl (cy 2, 240, .inr (.inl (fun _ => 0)))) :: (b 40, .inl (cy 2, 60, .inr (.inl (fun _ => 0)))) :: []) rfl (fun M F => ?_)
            refine g_iinc C dX8_row_72 (j := 0) rfl (v := nI (i52 + 1)) (nI_1 i52) (by decide) (lv2 := [(4, .int (nI (i52 + 1))), (0, .ref (b 0)), (1, .int 0), (2, .int 0), (3, .int p2)]) rfl ?_
            refine g_goto C dX8_row_75 (tgt := 52) (by decide) ?_
            exact ihi52 M F
          · skip
            refine g_lv [0, 1, 2, 3, 4] (lv2 := [(4, .int 60), (0, .ref (b 0)), (1, .int 0), (2, .int 0), (3, .int p2)]) rfl ?_
            refine g_iload C dX8_row_52 (j := 0) rfl ?_
            refine g_bipush C dX8_row_54 (v := 60) (by decide) ?_
            refine g_icmp_ge C dX8_row_56 (tgt := 78) (by decide) (fun _ => ?_) (fun q => absurd (by decide) q)
            refine g_iconst C dX8_row_78 (v := 0) (by decide) ?_
            exact g_iret C hrt dX8_row_79 (by decide) (by decide) (by have a1 : p2.toInt ≤ (60 : Int32).toInt := Int32.le_iff_toInt_le.mp q27; have a2 : (0 : Int32).toInt ≤ p2.toInt := Int32.le_iff_toInt_le.mp q28; have k2 : (0 : Int32).toInt = 0 := (by decide); have k3 : (60 : Int32).toInt = 60 := (by decide); unfold sp_row; repeat (first | rfl | (split) | (exfalso; omega)))
        · skip
          refine g_bipush C dX8_row_32 (v := -3) (by decide) ?_
          exact g_iret C hrt dX8_row_34 (by decide) (by decide) (by have a1 : p2.toInt ≤ (60 : Int32).toInt := Int32.le_iff_toInt_le.mp q27; have a2 : ¬ (0 : Int32).toInt ≤ p2.toInt := fun z => q28 (Int32.le_iff_toInt_le.mpr z); have k2 : (0 : Int32).toInt = 0 := (by decide); have k3 : (60 : Int32).toInt = 60 := (by decide); unfold sp_row; repeat (first | rfl | (split) | (exfalso; omega)))
      · skip
        refine g_bipush C dX8_row_25 (v := -2) (by decide) ?_
        exact g_iret C hrt dX8_row_27 (by decide) (by decide) (by have a1 : ¬ p2.toInt ≤ (60 : Int32).toInt := fun z => q27 (Int32.le_iff_toInt_le.mpr z); have k1 : (0 : Int32).toInt = 0 := (by decide); have k2 : (60 : Int32).toInt = 60 := (by decide); unfold sp_row; repeat (first | rfl | (split) | (exfalso; omega)))
    · skip
      refine g_iload_n C dX8_row_0 rfl (j := 1) rfl ?_
      refine g_callSI C (c_X8_isSlot l G F 0) lk_X8_394 rfl rfl dX8_row_1 (Nat.le_of_ble_eq_true rfl) ⟨by decide, by decide⟩ ⟨by decide, by decide⟩ (fun r29 L M hp => ?_)
      obtain ⟨r29_, F⟩ := hp
      obtain rfl : r29 = 1 := by
        rcases r29_ with ⟨z, z1⟩ | ⟨z, z1⟩
        · exact z
        · exact absurd (by decide) z1
      refine g_if_eq C dX8_row_4 (tgt := 25) (by decide) (fun q => absurd q (by decide)) (fun _ => ?_)
      refine g_iload_n C dX8_row_7 rfl (j := 2) rfl ?_
      refine g_i2l C dX8_row_8 (v := 1) (by decide) ?_
      refine g_lconst C dX8_row_9 (v := 0) (by decide) ?_
      refine g_ldc2 C (v := 3) wd235 dX8_row_10 ?_
      refine g_callSI C (c_X8_in l G F (1) (0) (3)) lk_X8_94 rfl rfl dX8_row_13 (Nat.le_of_ble_eq_true rfl) ⟨by decide, by decide⟩ ⟨by decide, by decide⟩ (fun r30 L M hp => ?_)
      obtain ⟨r30_, F⟩ := hp
      obtain rfl : r30 = 1 := by
        rcases r30_ with ⟨z, z1⟩ | ⟨z, z1⟩
        · exact z
        · exact absurd (by decide) z1
      refine g_if_eq C dX8_row_16 (tgt := 25) (by decide) (fun q => absurd q (by decide)) (fun _ => ?_)
      refine g_iload_n C dX8_row_19 rfl (j := 3) rfl ?_
      refine g_bipush C dX8_row_20 (v := 60) (by decide) ?_
      refine g_icmp_le C dX8_row_22 (tgt := 28) (by decide) (fun q31 => ?_) (fun q31 => ?_)
      · skip
        refine g_iload_n C dX8_row_28 rfl (j := 3) rfl ?_
        refine g_if_ge C dX8_row_29 (tgt := 35) (by decide) (fun q32 => ?_) (fun q32 => ?_)
        · skip
          refine g_aload_n C dX8_row_35 rfl (j := 0) rfl ?_
          refine h_get C F 0 rfl fk_X8_76 dX8_row_36 rfl ?_
          refine g_iload_n C dX8_row_39 rfl (j := 1) rfl ?_
          refine g_iload_n C dX8_row_40 rfl (j := 3) rfl ?_
          refine h_iastX C F 21 rfl dX8_row_41 (vp_in_iff.mpr (by decide)) (flf := fun g => (b 0, .inr (8, .int 0 :: .ref (b 1) :: .ref (b 2) :: .ref (b 3) :: .ref (b 4) :: .int 0 :: .ref (b 6) :: .int 0 :: .int 0 :: .int 0 :: .int 0 :: .int 0 :: .int 0 :: .int (-1) :: .ref (b 14) :: .ref (b 15) :: .ref (b 16) :: .int 0 :: .int 0 :: .int ts :: .ref (b 20) :: .ref (b 21) :: .ref (b 22) :: .ref (b 23) :: .ref (b 24) :: .ref (b 25) :: .ref (b 26) :: .ref (b 27) :: .ref (b 28) :: .ref (b 29) :: .int 0 :: .ref (b 31) :: .int 0 :: .ref (b 33) :: .long 0 :: .long 0 :: .long 0 :: .ref (b 37) :: .ref (b 38) :: .ref (b 39) :: .ref (b 40) :: [])) :: (b 1, .inl (cy 1, 102, .inl (fun _ => 0))) :: (b 2, .inl (cy 1, 306, .inl (fun _ => 0))) :: (b 3, .inl (cy 3, 3, .inl (fun _ => 0))) :: (b 4, .inl (cy 0, 800, .inl (fun _ => 0))) :: (b 6, .inl (cy 1, 5, .inl (fun _ => 0))) :: (b 14, .inl (cy 1, 102, .inl (fun _ => 0))) :: (b 15, .inl (cy 1, 7, .inl (fun _ => 0))) :: (b 16, .inl (cy 1, 8, .inl (fun _ => 0))) :: (b 20, .inl (cy 1, 7, .inl (fun _ => 0))) :: (b 21, .inl (cy 1, 8, .inl pn)) :: (b 22, .inl (cy 1, 136, .inl (fun _ => 0))) :: (b 23, .inl (cy 1, 119, .inl (fun _ => 0))) :: (b 24, .inl (cy 1, 16, .inl (fun _ => 0))) :: (b 25, .inl (cy 1, 28, .inl (fun _ => 0))) :: (b 26, .inl (cy 1, 8, .inl (fun _ => 0))) :: (b 27, .inl (cy 1, 4, .inl (fun _ => 0))) :: (b 28, .inl (cy 1, 4, .inl (fun _ => 0))) :: (b 29, .inl (cy 1, 7, .inl (fun _ => 0))) :: (b 31, .inl (cy 1, 544, .inl (fun _ => 0))) :: (b 33, .inl (cy 1, 128, .inl (fun _ => 0))) :: (b 37, .inl (cy 1, 4, .inl g)) :: (b 38, .inl (cy 1, 4, .inl (fun _ => 0))) :: (b 39, .inl (cy 2, 240, .inr (.inl (fun _ => 0)))) :: (b 40, .inl (cy 2, 60, .inr (.inl (fun _ => 0)))) :: []) (fun _ => rfl) (fun M g197 F => ?_)
          refine g_aload_n C dX8_row_42 rfl (j := 0) rfl ?_
          refine h_get C F 0 rfl fk_X8_79 dX8_row_43 rfl ?_
          refine g_iload_n C dX8_row_46 rfl (j := 1) rfl ?_
          refine g_iload_n C dX8_row_47 rfl (j := 2) rfl ?_
          refine h_iastX C F 22 rfl dX8_row_48 (vp_in_iff.mpr (by decide)) (flf := fun g => (b 0, .inr (8, .int 0 :: .ref (b 1) :: .ref (b 2) :: .ref (b 3) :: .ref (b 4) :: .int 0 :: .ref (b 6) :: .int 0 :: .int 0 :: .int 0 :: .int 0 :: .int 0 :: .int 0 :: .int (-1) :: .ref (b 14) :: .ref (b 15) :: .ref (b 16) :: .int 0 :: .int 0 :: .int ts :: .ref (b 20) :: .ref (b 21) :: .ref (b 22) :: .ref (b 23) :: .ref (b 24) :: .ref (b 25) :: .ref (b 26) :: .ref (b 27) :: .ref (b 28) :: .ref (b 29) :: .int 0 :: .ref (b 31) :: .int 0 :: .ref (b 33) :: .long 0 :: .long 0 :: .long 0 :: .ref (b 37) :: .ref (b 38) :: .ref (b 39) :: .ref (b 40) :: [])) :: (b 1, .inl (cy 1, 102, .inl (fun _ => 0))) :: (b 2, .inl (cy 1, 306, .inl (fun _ => 0))) :: (b 3, .inl (cy 3, 3, .inl (fun _ => 0))) :: (b 4, .inl (cy 0, 800, .inl (fun _ => 0))) :: (b 6, .inl (cy 1, 5, .inl (fun _ => 0))) :: (b 14, .inl (cy 1, 102, .inl (fun _ => 0))) :: (b 15, .inl (cy 1, 7, .inl (fun _ => 0))) :: (b 16, .inl (cy 1, 8, .inl (fun _ => 0))) :: (b 20, .inl (cy 1, 7, .inl (fun _ => 0))) :: (b 21, .inl (cy 1, 8, .inl pn)) :: (b 22, .inl (cy 1, 136, .inl (fun _ => 0))) :: (b 23, .inl (cy 1, 119, .inl (fun _ => 0))) :: (b 24, .inl (cy 1, 16, .inl (fun _ => 0))) :: (b 25, .inl (cy 1, 28, .inl (fun _ => 0))) :: (b 26, .inl (cy 1, 8, .inl (fun _ => 0))) :: (b 27, .inl (cy 1, 4, .inl (fun _ => 0))) :: (b 28, .inl (cy 1, 4, .inl (fun _ => 0))) :: (b 29, .inl (cy 1, 7, .inl (fun _ => 0))) :: (b 31, .inl (cy 1, 544, .inl (fun _ => 0))) :: (b 33, .inl (cy 1, 128, .inl (fun _ => 0))) :: (b 37, .inl (cy 1, 4, .inl g197)) :: (b 38, .inl (cy 1, 4, .inl g)) :: (b 39, .inl (cy 2, 240, .inr (.inl (fun _ => 0)))) :: (b 40, .inl (cy 2, 60, .inr (.inl (fun _ => 0)))) :: []) (fun _ => rfl) (fun M g198 F => ?_)
          refine g_iconst C dX8_row_49 (v := 0) (by decide) ?_
          refine g_istore C dX8_row_50 (by decide) (lv2 := [(4, .int 0), (0, .ref (b 0)), (1, .int 0), (2, .int 1), (3, .int p2)]) rfl ?_
          refine g_lv [0, 1, 2, 3, 4] (lv2 := [(4, .int 0), (0, .ref (b 0)), (1, .int 0), (2, .int 1), (3, .int p2)]) rfl ?_
          refine g_loop 60 (lvf := fun i52 => [(4, .int (nI i52)), (0, .ref (b 0)), (1, .int 0), (2, .int 1), (3, .int p2)]) (fun i52 M F hii52 ihi52 => ?_) (fun M F => ?_) F
          · skip
            refine g_iload C dX8_row_52 (j := 0) rfl ?_
            refine g_bipush C dX8_row_54 (v := 60) (by decide) ?_
            refine g_icmp_ge C dX8_row_56 (tgt := 78) (by decide) (fun q => absurd q (nI_ge hii52 (by decide))) (fun _ => ?_)
            refine g_aload_n C dX8_row_59 rfl (j := 1) rfl ?_
            refine h_get C F 0 rfl fk_X8_82 dX8_row_60 rfl ?_
            refine g_bipush C dX8_row_63 (v := 60) (by decide) ?_
            refine g_iload_n C dX8_row_65 rfl (j := 2) rfl ?_
            refine g_imul C dX8_row_66 ?_
            refine Go.top (v := .int 0) (by decide) ?_
            refine g_iload C dX8_row_67 (j := 0) rfl ?_
            refine g_iadd C dX8_row_69 ?_
            refine Go.top (v := .int (nI (0 + i52))) (congrArg Value.int (nI_add 0 i52)) ?_
            refine g_lconst C dX8_row_70 (v := 0) (by decide) ?_
            refine h_last C F 23 rfl dX8_row_71 (vp_in_nI (by omega) (by decide)) (g := (fun _ => 0)) (updL0 _) (fl2 := (b 0, .inr (8, .int 0 :: .ref (b 1) :: .ref (b 2) :: .ref (b 3) :: .ref (b 4) :: .int 0 :: .ref (b 6) :: .int 0 :: .int 0 :: .int 0 :: .int 0 :: .int 0 :: .int 0 :: .int (-1) :: .ref (b 14) :: .ref (b 15) :: .ref (b 16) :: .int 0 :: .int 0 :: .int ts :: .ref (b 20) :: .ref (b 21) :: .ref (b 22) :: .ref (b 23) :: .ref (b 24) :: .ref (b 25) :: .ref (b 26) :: .ref (b 27) :: .ref (b 28) :: .ref (b 29) :: .int 0 :: .ref (b 31) :: .int 0 :: .ref (b 33) :: .long 0 :: .long 0 :: .long 0 :: .ref (b 37) :: .ref (b 38) :: .ref (b 39) :: .ref (b 40) :: [])) :: (b 1, .inl (cy 1, 102, .inl (fun _ => 0))) :: (b 2, .inl (cy 1, 306, .inl (fun _ => 0))) :: (b 3, .inl (cy 3, 3, .inl (fun _ => 0))) :: (b 4, .inl (cy 0, 800, .inl (fun _ => 0))) :: (b 6, .inl (cy 1, 5, .inl (fun _ => 0))) :: (b 14, .inl (cy 1, 102, .inl (fun _ => 0))) :: (b 15, .inl (cy 1, 7, .inl (fun _ => 0))) :: (b 16, .inl (cy 1, 8, .inl (fun _ => 0))) :: (b 20, .inl (cy 1, 7, .inl (fun _ => 0))) :: (b 21, .inl (cy 1, 8, .inl pn)) :: (b 22, .inl (cy 1, 136, .inl (fun _ => 0))) :: (b 23, .inl (cy 1, 119, .inl (fun _ => 0))) :: (b 24, .inl (cy 1, 16, .inl (fun _ => 0))) :: (b 25, .inl (cy 1, 28, .inl (fun _ => 0))) :: (b 26, .inl (cy 1, 8, .inl (fun _ => 0))) :: (b 27, .inl (cy 1, 4, .inl (fun _ => 0))) :: (b 28, .inl (cy 1, 4, .inl (fun _ => 0))) :: (b 29, .inl (cy 1, 7, .inl (fun _ => 0))) :: (b 31, .inl (cy 1, 544, .inl (fun _ => 0))) :: (b 33, .inl (cy 1, 128, .inl (fun _ => 0))) :: (b 37, .inl (cy 1, 4, .inl g197)) :: (b 38, .inl (cy 1, 4, .inl g198)) :: (b 39, .inl (cy 2, 240, .inr (.inl (fun _ => 0)))) :: (b 40, .inl (cy 2, 60, .inr (.inl (fun _ => 0)))) :: []) rfl (fun M F => ?_)
            refine g_iinc C dX8_row_72 (j := 0) rfl (v := nI (i52 + 1)) (nI_1 i52) (by decide) (lv2 := [(4, .int (nI (i52 + 1))), (0, .ref (b 0)), (1, .int 0), (2, .int 1), (3, .int p2)]) rfl ?_
            refine g_goto C dX8_row_75 (tgt := 52) (by decide) ?_
            exact ihi52 M F
          · skip
            refine g_lv [0, 1, 2, 3, 4] (lv2 := [(4, .int 60), (0, .ref (b 0)), (1, .int 0), (2, .int 1), (3, .int p2)]) rfl ?_
            refine g_iload C dX8_row_52 (j := 0) rfl ?_
            refine g_bipush C dX8_row_54 (v := 60) (by decide) ?_
            refine g_icmp_ge C dX8_row_56 (tgt := 78) (by decide) (fun _ => ?_) (fun q => absurd (by decide) q)
            refine g_iconst C dX8_row_78 (v := 0) (by decide) ?_
            exact g_iret C hrt dX8_row_79 (by decide) (by decide) (by have a1 : p2.toInt ≤ (60 : Int32).toInt := Int32.le_iff_toInt_le.mp q31; have a2 : (0 : Int32).toInt ≤ p2.toInt := Int32.le_iff_toInt_le.mp q32; have k2 : (0 : Int32).toInt = 0 := (by decide); have k3 : (1 : Int32).toInt = 1 := (by decide); have k4 : (60 : Int32).toInt = 60 := (by decide); unfold sp_row; repeat (first | rfl | (split) | (exfalso; omega)))
        · skip
          refine g_bipush C dX8_row_32 (v := -3) (by decide) ?_
          exact g_iret C hrt dX8_row_34 (by decide) (by decide) (by have a1 : p2.toInt ≤ (60 : Int32).toInt := Int32.le_iff_toInt_le.mp q31; have a2 : ¬ (0 : Int32).toInt ≤ p2.toInt := fun z => q32 (Int32.le_iff_toInt_le.mpr z); have k2 : (0 : Int32).toInt = 0 := (by decide); have k3 : (1 : Int32).toInt = 1 := (by decide); have k4 : (60 : Int32).toInt = 60 := (by decide); unfold sp_row; repeat (first | rfl | (split) | (exfalso; omega)))
      · skip
        refine g_bipush C dX8_row_25 (v := -2) (by decide) ?_
        exact g_iret C hrt dX8_row_27 (by decide) (by decide) (by have a1 : ¬ p2.toInt ≤ (60 : Int32).toInt := fun z => q31 (Int32.le_iff_toInt_le.mpr z); have k1 : (0 : Int32).toInt = 0 := (by decide); have k2 : (1 : Int32).toInt = 1 := (by decide); have k3 : (60 : Int32).toInt = 60 := (by decide); unfold sp_row; repeat (first | rfl | (split) | (exfalso; omega)))
    · skip
      refine g_iload_n C dX8_row_0 rfl (j := 1) rfl ?_
      refine g_callSI C (c_X8_isSlot l G F 0) lk_X8_394 rfl rfl dX8_row_1 (Nat.le_of_ble_eq_true rfl) ⟨by decide, by decide⟩ ⟨by decide, by decide⟩ (fun r33 L M hp => ?_)
      obtain ⟨r33_, F⟩ := hp
      obtain rfl : r33 = 1 := by
        rcases r33_ with ⟨z, z1⟩ | ⟨z, z1⟩
        · exact z
        · exact absurd (by decide) z1
      refine g_if_eq C dX8_row_4 (tgt := 25) (by decide) (fun q => absurd q (by decide)) (fun _ => ?_)
      refine g_iload_n C dX8_row_7 rfl (j := 2) rfl ?_
      refine g_i2l C dX8_row_8 (v := 2) (by decide) ?_
      refine g_lconst C dX8_row_9 (v := 0) (by decide) ?_
      refine g_ldc2 C (v := 3) wd235 dX8_row_10 ?_
      refine g_callSI C (c_X8_in l G F (2) (0) (3)) lk_X8_94 rfl rfl dX8_row_13 (Nat.le_of_ble_eq_true rfl) ⟨by decide, by decide⟩ ⟨by decide, by decide⟩ (fun r34 L M hp => ?_)
      obtain ⟨r34_, F⟩ := hp
      obtain rfl : r34 = 1 := by
        rcases r34_ with ⟨z, z1⟩ | ⟨z, z1⟩
        · exact z
        · exact absurd (by decide) z1
      refine g_if_eq C dX8_row_16 (tgt := 25) (by decide) (fun q => absurd q (by decide)) (fun _ => ?_)
      refine g_iload_n C dX8_row_19 rfl (j := 3) rfl ?_
      refine g_bipush C dX8_row_20 (v := 60) (by decide) ?_
      refine g_icmp_le C dX8_row_22 (tgt := 28) (by decide) (fun q35 => ?_) (fun q35 => ?_)
      · skip
        refine g_iload_n C dX8_row_28 rfl (j := 3) rfl ?_
        refine g_if_ge C dX8_row_29 (tgt := 35) (by decide) (fun q36 => ?_) (fun q36 => ?_)
        · skip
          refine g_aload_n C dX8_row_35 rfl (j := 0) rfl ?_
          refine h_get C F 0 rfl fk_X8_76 dX8_row_36 rfl ?_
          refine g_iload_n C dX8_row_39 rfl (j := 1) rfl ?_
          refine g_iload_n C dX8_row_40 rfl (j := 3) rfl ?_
          refine h_iastX C F 21 rfl dX8_row_41 (vp_in_iff.mpr (by decide)) (flf := fun g => (b 0, .inr (8, .int 0 :: .ref (b 1) :: .ref (b 2) :: .ref (b 3) :: .ref (b 4) :: .int 0 :: .ref (b 6) :: .int 0 :: .int 0 :: .int 0 :: .int 0 :: .int 0 :: .int 0 :: .int (-1) :: .ref (b 14) :: .ref (b 15) :: .ref (b 16) :: .int 0 :: .int 0 :: .int ts :: .ref (b 20) :: .ref (b 21) :: .ref (b 22) :: .ref (b 23) :: .ref (b 24) :: .ref (b 25) :: .ref (b 26) :: .ref (b 27) :: .ref (b 28) :: .ref (b 29) :: .int 0 :: .ref (b 31) :: .int 0 :: .ref (b 33) :: .long 0 :: .long 0 :: .long 0 :: .ref (b 37) :: .ref (b 38) :: .ref (b 39) :: .ref (b 40) :: [])) :: (b 1, .inl (cy 1, 102, .inl (fun _ => 0))) :: (b 2, .inl (cy 1, 306, .inl (fun _ => 0))) :: (b 3, .inl (cy 3, 3, .inl (fun _ => 0))) :: (b 4, .inl (cy 0, 800, .inl (fun _ => 0))) :: (b 6, .inl (cy 1, 5, .inl (fun _ => 0))) :: (b 14, .inl (cy 1, 102, .inl (fun _ => 0))) :: (b 15, .inl (cy 1, 7, .inl (fun _ => 0))) :: (b 16, .inl (cy 1, 8, .inl (fun _ => 0))) :: (b 20, .inl (cy 1, 7, .inl (fun _ => 0))) :: (b 21, .inl (cy 1, 8, .inl pn)) :: (b 22, .inl (cy 1, 136, .inl (fun _ => 0))) :: (b 23, .inl (cy 1, 119, .inl (fun _ => 0))) :: (b 24, .inl (cy 1, 16, .inl (fun _ => 0))) :: (b 25, .inl (cy 1, 28, .inl (fun _ => 0))) :: (b 26, .inl (cy 1, 8, .inl (fun _ => 0))) :: (b 27, .inl (cy 1, 4, .inl (fun _ => 0))) :: (b 28, .inl (cy 1, 4, .inl (fun _ => 0))) :: (b 29, .inl (cy 1, 7, .inl (fun _ => 0))) :: (b 31, .inl (cy 1, 544, .inl (fun _ => 0))) :: (b 33, .inl (cy 1, 128, .inl (fun _ => 0))) :: (b 37, .inl (cy 1, 4, .inl g)) :: (b 38, .inl (cy 1, 4, .inl (fun _ => 0))) :: (b 39, .inl (cy 2, 240, .inr (.inl (fun _ => 0)))) :: (b 40, .inl (cy 2, 60, .inr (.inl (fun _ => 0)))) :: []) (fun _ => rfl) (fun M g199 F => ?_)
          refine g_aload_n C dX8_row_42 rfl (j := 0) rfl ?_
          refine h_get C F 0 rfl fk_X8_79 dX8_row_43 rfl ?_
          refine g_iload_n C dX8_row_46 rfl (j := 1) rfl ?_
          refine g_iload_n C dX8_row_47 rfl (j := 2) rfl ?_
          refine h_iastX C F 22 rfl dX8_row_48 (vp_in_iff.mpr (by decide)) (flf := fun g => (b 0, .inr (8, .int 0 :: .ref (b 1) :: .ref (b 2) :: .ref (b 3) :: .ref (b 4) :: .int 0 :: .ref (b 6) :: .int 0 :: .int 0 :: .int 0 :: .int 0 :: .int 0 :: .int 0 :: .int (-1) :: .ref (b 14) :: .ref (b 15) :: .ref (b 16) :: .int 0 :: .int 0 :: .int ts :: .ref (b 20) :: .ref (b 21) :: .ref (b 22) :: .ref (b 23) :: .ref (b 24) :: .ref (b 25) :: .ref (b 26) :: .ref (b 27) :: .ref (b 28) :: .ref (b 29) :: .int 0 :: .ref (b 31) :: .int 0 :: .ref (b 33) :: .long 0 :: .long 0 :: .long 0 :: .ref (b 37) :: .ref (b 38) :: .ref (b 39) :: .ref (b 40) :: [])) :: (b 1, .inl (cy 1, 102, .inl (fun _ => 0))) :: (b 2, .inl (cy 1, 306, .inl (fun _ => 0))) :: (b 3, .inl (cy 3, 3, .inl (fun _ => 0))) :: (b 4, .inl (cy 0, 800, .inl (fun _ => 0))) :: (b 6, .inl (cy 1, 5, .inl (fun _ => 0))) :: (b 14, .inl (cy 1, 102, .inl (fun _ => 0))) :: (b 15, .inl (cy 1, 7, .inl (fun _ => 0))) :: (b 16, .inl (cy 1, 8, .inl (fun _ => 0))) :: (b 20, .inl (cy 1, 7, .inl (fun _ => 0))) :: (b 21, .inl (cy 1, 8, .inl pn)) :: (b 22, .inl (cy 1, 136, .inl (fun _ => 0))) :: (b 23, .inl (cy 1, 119, .inl (fun _ => 0))) :: (b 24, .inl (cy 1, 16, .inl (fun _ => 0))) :: (b 25, .inl (cy 1, 28, .inl (fun _ => 0))) :: (b 26, .inl (cy 1, 8, .inl (fun _ => 0))) :: (b 27, .inl (cy 1, 4, .inl (fun _ => 0))) :: (b 28, .inl (cy 1, 4, .inl (fun _ => 0))) :: (b 29, .inl (cy 1, 7, .inl (fun _ => 0))) :: (b 31, .inl (cy 1, 544, .inl (fun _ => 0))) :: (b 33, .inl (cy 1, 128, .inl (fun _ => 0))) :: (b 37, .inl (cy 1, 4, .inl g199)) :: (b 38, .inl (cy 1, 4, .inl g)) :: (b 39, .inl (cy 2, 240, .inr (.inl (fun _ => 0)))) :: (b 40, .inl (cy 2, 60, .inr (.inl (fun _ => 0)))) :: []) (fun _ => rfl) (fun M g200 F => ?_)
          refine g_iconst C dX8_row_49 (v := 0) (by decide) ?_
          refine g_istore C dX8_row_50 (by decide) (lv2 := [(4, .int 0), (0, .ref (b 0)), (1, .int 0), (2, .int 2), (3, .int p2)]) rfl ?_
          refine g_lv [0, 1, 2, 3, 4] (lv2 := [(4, .int 0), (0, .ref (b 0)), (1, .int 0), (2, .int 2), (3, .int p2)]) rfl ?_
          refine g_loop 60 (lvf := fun i52 => [(4, .int (nI i52)), (0, .ref (b 0)), (1, .int 0), (2, .int 2), (3, .int p2)]) (fun i52 M F hii52 ihi52 => ?_) (fun M F => ?_) F
          · skip
            refine g_iload C dX8_row_52 (j := 0) rfl ?_
            refine g_bipush C dX8_row_54 (v := 60) (by decide) ?_
            refine g_icmp_ge C dX8_row_56 (tgt := 78) (by decide) (fun q => absurd q (nI_ge hii52 (by decide))) (fun _ => ?_)
            refine g_aload_n C dX8_row_59 rfl (j := 1) rfl ?_
            refine h_get C F 0 rfl fk_X8_82 dX8_row_60 rfl ?_
            refine g_bipush C dX8_row_63 (v := 60) (by decide) ?_
            refine g_iload_n C dX8_row_65 rfl (j := 2) rfl ?_
            refine g_imul C dX8_row_66 ?_
            refine Go.top (v := .int 0) (by decide) ?_
            refine g_iload C dX8_row_67 (j := 0) rfl ?_
            refine g_iadd C dX8_row_69 ?_
            refine Go.top (v := .int (nI (0 + i52))) (congrArg Value.int (nI_add 0 i52)) ?_
            refine g_lconst C dX8_row_70 (v := 0) (by decide) ?_
            refine h_last C F 23 rfl dX8_row_71 (vp_in_nI (by omega) (by decide)) (g := (fun _ => 0)) (updL0 _) (fl2 := (b 0, .inr (8, .int 0 :: .ref (b 1) :: .ref (b 2) :: .ref (b 3) :: .ref (b 4) :: .int 0 :: .ref (b 6) :: .int 0 :: .int 0 :: .int 0 :: .int 0 :: .int 0 :: .int 0 :: .int (-1) :: .ref (b 14) :: .ref (b 15) :: .ref (b 16) :: .int 0 :: .int 0 :: .int ts :: .ref (b 20) :: .ref (b 21) :: .ref (b 22) :: .ref (b 23) :: .ref (b 24) :: .ref (b 25) :: .ref (b 26) :: .ref (b 27) :: .ref (b 28) :: .ref (b 29) :: .int 0 :: .ref (b 31) :: .int 0 :: .ref (b 33) :: .long 0 :: .long 0 :: .long 0 :: .ref (b 37) :: .ref (b 38) :: .ref (b 39) :: .ref (b 40) :: [])) :: (b 1, .inl (cy 1, 102, .inl (fun _ => 0))) :: (b 2, .inl (cy 1, 306, .inl (fun _ => 0))) :: (b 3, .inl (cy 3, 3, .inl (fun _ => 0))) :: (b 4, .inl (cy 0, 800, .inl (fun _ => 0))) :: (b 6, .inl (cy 1, 5, .inl (fun _ => 0))) :: (b 14, .inl (cy 1, 102, .inl (fun _ => 0))) :: (b 15, .inl (cy 1, 7, .inl (fun _ => 0))) :: (b 16, .inl (cy 1, 8, .inl (fun _ => 0))) :: (b 20, .inl (cy 1, 7, .inl (fun _ => 0))) :: (b 21, .inl (cy 1, 8, .inl pn)) :: (b 22, .inl (cy 1, 136, .inl (fun _ => 0))) :: (b 23, .inl (cy 1, 119, .inl (fun _ => 0))) :: (b 24, .inl (cy 1, 16, .inl (fun _ => 0))) :: (b 25, .inl (cy 1, 28, .inl (fun _ => 0))) :: (b 26, .inl (cy 1, 8, .inl (fun _ => 0))) :: (b 27, .inl (cy 1, 4, .inl (fun _ => 0))) :: (b 28, .inl (cy 1, 4, .inl (fun _ => 0))) :: (b 29, .inl (cy 1, 7, .inl (fun _ => 0))) :: (b 31, .inl (cy 1, 544, .inl (fun _ => 0))) :: (b 33, .inl (cy 1, 128, .inl (fun _ => 0))) :: (b 37, .inl (cy 1, 4, .inl g199)) :: (b 38, .inl (cy 1, 4, .inl g200)) :: (b 39, .inl (cy 2, 240, .inr (.inl (fun _ => 0)))) :: (b 40, .inl (cy 2, 60, .inr (.inl (fun _ => 0)))) :: []) rfl (fun M F => ?_)
            refine g_iinc C dX8_row_72 (j := 0) rfl (v := nI (i52 + 1)) (nI_1 i52) (by decide) (lv2 := [(4, .int (nI (i52 + 1))), (0, .ref (b 0)), (1, .int 0), (2, .int 2), (3, .int p2)]) rfl ?_
            refine g_goto C dX8_row_75 (tgt := 52) (by decide) ?_
            exact ihi52 M F
          · skip
            refine g_lv [0, 1, 2, 3, 4] (lv2 := [(4, .int 60), (0, .ref (b 0)), (1, .int 0), (2, .int 2), (3, .int p2)]) rfl ?_
            refine g_iload C dX8_row_52 (j := 0) rfl ?_
            refine g_bipush C dX8_row_54 (v := 60) (by decide) ?_
            refine g_icmp_ge C dX8_row_56 (tgt := 78) (by decide) (fun _ => ?_) (fun q => absurd (by decide) q)
            refine g_iconst C dX8_row_78 (v := 0) (by decide) ?_
            exact g_iret C hrt dX8_row_79 (by decide) (by decide) (by have a1 : p2.toInt ≤ (60 : Int32).toInt := Int32.le_iff_toInt_le.mp q35; have a2 : (0 : Int32).toInt ≤ p2.toInt := Int32.le_iff_toInt_le.mp q36; have k2 : (0 : Int32).toInt = 0 := (by decide); have k3 : (2 : Int32).toInt = 2 := (by decide); have k4 : (60 : Int32).toInt = 60 := (by decide); unfold sp_row; repeat (first | rfl | (split) | (exfalso; omega)))
        · skip
          refine g_bipush C dX8_row_32 (v := -3) (by decide) ?_
          exact g_iret C hrt dX8_row_34 (by decide) (by decide) (by have a1 : p2.toInt ≤ (60 : Int32).toInt := Int32.le_iff_toInt_le.mp q35; have a2 : ¬ (0 : Int32).toInt ≤ p2.toInt := fun z => q36 (Int32.le_iff_toInt_le.mpr z); have k2 : (0 : Int32).toInt = 0 := (by decide); have k3 : (2 : Int32).toInt = 2 := (by decide); have k4 : (60 : Int32).toInt = 60 := (by decide); unfold sp_row; repeat (first | rfl | (split) | (exfalso; omega)))
      · skip
        refine g_bipush C dX8_row_25 (v := -2) (by decide) ?_
        exact g_iret C hrt dX8_row_27 (by decide) (by decide) (by have a1 : ¬ p2.toInt ≤ (60 : Int32).toInt := fun z => q35 (Int32.le_iff_toInt_le.mpr z); have k1 : (0 : Int32).toInt = 0 := (by decide); have k2 : (2 : Int32).toInt = 2 := (by decide); have k3 : (60 : Int32).toInt = 60 := (by decide); unfold sp_row; repeat (first | rfl | (split) | (exfalso; omega)))
    · skip
      refine g_iload_n C dX8_row_0 rfl (j := 1) rfl ?_
      refine g_callSI C (c_X8_isSlot l G F 0) lk_X8_394 rfl rfl dX8_row_1 (Nat.le_of_ble_eq_true rfl) ⟨by decide, by decide⟩ ⟨by decide, by decide⟩ (fun r37 L M hp => ?_)
      obtain ⟨r37_, F⟩ := hp
      obtain rfl : r37 = 1 := by
        rcases r37_ with ⟨z, z1⟩ | ⟨z, z1⟩
        · exact z
        · exact absurd (by decide) z1
      refine g_if_eq C dX8_row_4 (tgt := 25) (by decide) (fun q => absurd q (by decide)) (fun _ => ?_)
      refine g_iload_n C dX8_row_7 rfl (j := 2) rfl ?_
      refine g_i2l C dX8_row_8 (v := 3) (by decide) ?_
      refine g_lconst C dX8_row_9 (v := 0) (by decide) ?_
      refine g_ldc2 C (v := 3) wd235 dX8_row_10 ?_
      refine g_callSI C (c_X8_in l G F (3) (0) (3)) lk_X8_94 rfl rfl dX8_row_13 (Nat.le_of_ble_eq_true rfl) ⟨by decide, by decide⟩ ⟨by decide, by decide⟩ (fun r38 L M hp => ?_)
      obtain ⟨r38_, F⟩ := hp
      obtain rfl : r38 = 1 := by
        rcases r38_ with ⟨z, z1⟩ | ⟨z, z1⟩
        · exact z
        · exact absurd (by decide) z1
      refine g_if_eq C dX8_row_16 (tgt := 25) (by decide) (fun q => absurd q (by decide)) (fun _ => ?_)
      refine g_iload_n C dX8_row_19 rfl (j := 3) rfl ?_
      refine g_bipush C dX8_row_20 (v := 60) (by decide) ?_
      refine g_icmp_le C dX8_row_22 (tgt := 28) (by decide) (fun q39 => ?_) (fun q39 => ?_)
      · skip
        refine g_iload_n C dX8_row_28 rfl (j := 3) rfl ?_
        refine g_if_ge C dX8_row_29 (tgt := 35) (by decide) (fun q40 => ?_) (fun q40 => ?_)
        · skip
          refine g_aload_n C dX8_row_35 rfl (j := 0) rfl ?_
          refine h_get C F 0 rfl fk_X8_76 dX8_row_36 rfl ?_
          refine g_iload_n C dX8_row_39 rfl (j := 1) rfl ?_
          refine g_iload_n C dX8_row_40 rfl (j := 3) rfl ?_
          refine h_iastX C F 21 rfl dX8_row_41 (vp_in_iff.mpr (by decide)) (flf := fun g => (b 0, .inr (8, .int 0 :: .ref (b 1) :: .ref (b 2) :: .ref (b 3) :: .ref (b 4) :: .int 0 :: .ref (b 6) :: .int 0 :: .int 0 :: .int 0 :: .int 0 :: .int 0 :: .int 0 :: .int (-1) :: .ref (b 14) :: .ref (b 15) :: .ref (b 16) :: .int 0 :: .int 0 :: .int ts :: .ref (b 20) :: .ref (b 21) :: .ref (b 22) :: .ref (b 23) :: .ref (b 24) :: .ref (b 25) :: .ref (b 26) :: .ref (b 27) :: .ref (b 28) :: .ref (b 29) :: .int 0 :: .ref (b 31) :: .int 0 :: .ref (b 33) :: .long 0 :: .long 0 :: .long 0 :: .ref (b 37) :: .ref (b 38) :: .ref (b 39) :: .ref (b 40) :: [])) :: (b 1, .inl (cy 1, 102, .inl (fun _ => 0))) :: (b 2, .inl (cy 1, 306, .inl (fun _ => 0))) :: (b 3, .inl (cy 3, 3, .inl (fun _ => 0))) :: (b 4, .inl (cy 0, 800, .inl (fun _ => 0))) :: (b 6, .inl (cy 1, 5, .inl (fun _ => 0))) :: (b 14, .inl (cy 1, 102, .inl (fun _ => 0))) :: (b 15, .inl (cy 1, 7, .inl (fun _ => 0))) :: (b 16, .inl (cy 1, 8, .inl (fun _ => 0))) :: (b 20, .inl (cy 1, 7, .inl (fun _ => 0))) :: (b 21, .inl (cy 1, 8, .inl pn)) :: (b 22, .inl (cy 1, 136, .inl (fun _ => 0))) :: (b 23, .inl (cy 1, 119, .inl (fun _ => 0))) :: (b 24, .inl (cy 1, 16, .inl (fun _ => 0))) :: (b 25, .inl (cy 1, 28, .inl (fun _ => 0))) :: (b 26, .inl (cy 1, 8, .inl (fun _ => 0))) :: (b 27, .inl (cy 1, 4, .inl (fun _ => 0))) :: (b 28, .inl (cy 1, 4, .inl (fun _ => 0))) :: (b 29, .inl (cy 1, 7, .inl (fun _ => 0))) :: (b 31, .inl (cy 1, 544, .inl (fun _ => 0))) :: (b 33, .inl (cy 1, 128, .inl (fun _ => 0))) :: (b 37, .inl (cy 1, 4, .inl g)) :: (b 38, .inl (cy 1, 4, .inl (fun _ => 0))) :: (b 39, .inl (cy 2, 240, .inr (.inl (fun _ => 0)))) :: (b 40, .inl (cy 2, 60, .inr (.inl (fun _ => 0)))) :: []) (fun _ => rfl) (fun M g201 F => ?_)
          refine g_aload_n C dX8_row_42 rfl (j := 0) rfl ?_
          refine h_get C F 0 rfl fk_X8_79 dX8_row_43 rfl ?_
          refine g_iload_n C dX8_row_46 rfl (j := 1) rfl ?_
          refine g_iload_n C dX8_row_47 rfl (j := 2) rfl ?_
          refine h_iastX C F 22 rfl dX8_row_48 (vp_in_iff.mpr (by decide)) (flf := fun g => (b 0, .inr (8, .int 0 :: .ref (b 1) :: .ref (b 2) :: .ref (b 3) :: .ref (b 4) :: .int 0 :: .ref (b 6) :: .int 0 :: .int 0 :: .int 0 :: .int 0 :: .int 0 :: .int 0 :: .int (-1) :: .ref (b 14) :: .ref (b 15) :: .ref (b 16) :: .int 0 :: .int 0 :: .int ts :: .ref (b 20) :: .ref (b 21) :: .ref (b 22) :: .ref (b 23) :: .ref (b 24) :: .ref (b 25) :: .ref (b 26) :: .ref (b 27) :: .ref (b 28) :: .ref (b 29) :: .int 0 :: .ref (b 31) :: .int 0 :: .ref (b 33) :: .long 0 :: .long 0 :: .long 0 :: .ref (b 37) :: .ref (b 38) :: .ref (b 39) :: .ref (b 40) :: [])) :: (b 1, .inl (cy 1, 102, .inl (fun _ => 0))) :: (b 2, .inl (cy 1, 306, .inl (fun _ => 0))) :: (b 3, .inl (cy 3, 3, .inl (fun _ => 0))) :: (b 4, .inl (cy 0, 800, .inl (fun _ => 0))) :: (b 6, .inl (cy 1, 5, .inl (fun _ => 0))) :: (b 14, .inl (cy 1, 102, .inl (fun _ => 0))) :: (b 15, .inl (cy 1, 7, .inl (fun _ => 0))) :: (b 16, .inl (cy 1, 8, .inl (fun _ => 0))) :: (b 20, .inl (cy 1, 7, .inl (fun _ => 0))) :: (b 21, .inl (cy 1, 8, .inl pn)) :: (b 22, .inl (cy 1, 136, .inl (fun _ => 0))) :: (b 23, .inl (cy 1, 119, .inl (fun _ => 0))) :: (b 24, .inl (cy 1, 16, .inl (fun _ => 0))) :: (b 25, .inl (cy 1, 28, .inl (fun _ => 0))) :: (b 26, .inl (cy 1, 8, .inl (fun _ => 0))) :: (b 27, .inl (cy 1, 4, .inl (fun _ => 0))) :: (b 28, .inl (cy 1, 4, .inl (fun _ => 0))) :: (b 29, .inl (cy 1, 7, .inl (fun _ => 0))) :: (b 31, .inl (cy 1, 544, .inl (fun _ => 0))) :: (b 33, .inl (cy 1, 128, .inl (fun _ => 0))) :: (b 37, .inl (cy 1, 4, .inl g201)) :: (b 38, .inl (cy 1, 4, .inl g)) :: (b 39, .inl (cy 2, 240, .inr (.inl (fun _ => 0)))) :: (b 40, .inl (cy 2, 60, .inr (.inl (fun _ => 0)))) :: []) (fun _ => rfl) (fun M g202 F => ?_)
          refine g_iconst C dX8_row_49 (v := 0) (by decide) ?_
          refine g_istore C dX8_row_50 (by decide) (lv2 := [(4, .int 0), (0, .ref (b 0)), (1, .int 0), (2, .int 3), (3, .int p2)]) rfl ?_
          refine g_lv [0, 1, 2, 3, 4] (lv2 := [(4, .int 0), (0, .ref (b 0)), (1, .int 0), (2, .int 3), (3, .int p2)]) rfl ?_
          refine g_loop 60 (lvf := fun i52 => [(4, .int (nI i52)), (0, .ref (b 0)), (1, .int 0), (2, .int 3), (3, .int p2)]) (fun i52 M F hii52 ihi52 => ?_) (fun M F => ?_) F
          · skip
            refine g_iload C dX8_row_52 (j := 0) rfl ?_
            refine g_bipush C dX8_row_54 (v := 60) (by decide) ?_
            refine g_icmp_ge C dX8_row_56 (tgt := 78) (by decide) (fun q => absurd q (nI_ge hii52 (by decide))) (fun _ => ?_)
            refine g_aload_n C dX8_row_59 rfl (j := 1) rfl ?_
            refine h_get C F 0 rfl fk_X8_82 dX8_row_60 rfl ?_
            refine g_bipush C dX8_row_63 (v := 60) (by decide) ?_
            refine g_iload_n C dX8_row_65 rfl (j := 2) rfl ?_
            refine g_imul C dX8_row_66 ?_
            refine Go.top (v := .int 0) (by decide) ?_
            refine g_iload C dX8_row_67 (j := 0) rfl ?_
            refine g_iadd C dX8_row_69 ?_
            refine Go.top (v := .int (nI (0 + i52))) (congrArg Value.int (nI_add 0 i52)) ?_
            refine g_lconst C dX8_row_70 (v := 0) (by decide) ?_
            refine h_last C F 23 rfl dX8_row_71 (vp_in_nI (by omega) (by decide)) (g := (fun _ => 0)) (updL0 _) (fl2 := (b 0, .inr (8, .int 0 :: .ref (b 1) :: .ref (b 2) :: .ref (b 3) :: .ref (b 4) :: .int 0 :: .ref (b 6) :: .int 0 :: .int 0 :: .int 0 :: .int 0 :: .int 0 :: .int 0 :: .int (-1) :: .ref (b 14) :: .ref (b 15) :: .ref (b 16) :: .int 0 :: .int 0 :: .int ts :: .ref (b 20) :: .ref (b 21) :: .ref (b 22) :: .ref (b 23) :: .ref (b 24) :: .ref (b 25) :: .ref (b 26) :: .ref (b 27) :: .ref (b 28) :: .ref (b 29) :: .int 0 :: .ref (b 31) :: .int 0 :: .ref (b 33) :: .long 0 :: .long 0 :: .long 0 :: .ref (b 37) :: .ref (b 38) :: .ref (b 39) :: .ref (b 40) :: [])) :: (b 1, .inl (cy 1, 102, .inl (fun _ => 0))) :: (b 2, .inl (cy 1, 306, .inl (fun _ => 0))) :: (b 3, .inl (cy 3, 3, .inl (fun _ => 0))) :: (b 4, .inl (cy 0, 800, .inl (fun _ => 0))) :: (b 6, .inl (cy 1, 5, .inl (fun _ => 0))) :: (b 14, .inl (cy 1, 102, .inl (fun _ => 0))) :: (b 15, .inl (cy 1, 7, .inl (fun _ => 0))) :: (b 16, .inl (cy 1, 8, .inl (fun _ => 0))) :: (b 20, .inl (cy 1, 7, .inl (fun _ => 0))) :: (b 21, .inl (cy 1, 8, .inl pn)) :: (b 22, .inl (cy 1, 136, .inl (fun _ => 0))) :: (b 23, .inl (cy 1, 119, .inl (fun _ => 0))) :: (b 24, .inl (cy 1, 16, .inl (fun _ => 0))) :: (b 25, .inl (cy 1, 28, .inl (fun _ => 0))) :: (b 26, .inl (cy 1, 8, .inl (fun _ => 0))) :: (b 27, .inl (cy 1, 4, .inl (fun _ => 0))) :: (b 28, .inl (cy 1, 4, .inl (fun _ => 0))) :: (b 29, .inl (cy 1, 7, .inl (fun _ => 0))) :: (b 31, .inl (cy 1, 544, .inl (fun _ => 0))) :: (b 33, .inl (cy 1, 128, .inl (fun _ => 0))) :: (b 37, .inl (cy 1, 4, .inl g201)) :: (b 38, .inl (cy 1, 4, .inl g202)) :: (b 39, .inl (cy 2, 240, .inr (.inl (fun _ => 0)))) :: (b 40, .inl (cy 2, 60, .inr (.inl (fun _ => 0)))) :: []) rfl (fun M F => ?_)
            refine g_iinc C dX8_row_72 (j := 0) rfl (v := nI (i52 + 1)) (nI_1 i52) (by decide) (lv2 := [(4, .int (nI (i52 + 1))), (0, .ref (b 0)), (1, .int 0), (2, .int 3), (3, .int p2)]) rfl ?_
            refine g_goto C dX8_row_75 (tgt := 52) (by decide) ?_
            exact ihi52 M F
          · skip
            refine g_lv [0, 1, 2, 3, 4] (lv2 := [(4, .int 60), (0, .ref (b 0)), (1, .int 0), (2, .int 3), (3, .int p2)]) rfl ?_
            refine g_iload C dX8_row_52 (j := 0) rfl ?_
            refine g_bipush C dX8_row_54 (v := 60) (by decide) ?_
            refine g_icmp_ge C dX8_row_56 (tgt := 78) (by decide) (fun _ => ?_) (fun q => absurd (by decide) q)
            refine g_iconst C dX8_row_78 (v := 0) (by decide) ?_
            exact g_iret C hrt dX8_row_79 (by decide) (by decide) (by have a1 : p2.toInt ≤ (60 : Int32).toInt := Int32.le_iff_toInt_le.mp q39; have a2 : (0 : Int32).toInt ≤ p2.toInt := Int32.le_iff_toInt_le.mp q40; have k2 : (0 : Int32).toInt = 0 := (by decide); have k3 : (3 : Int32).toInt = 3 := (by decide); have k4 : (60 : Int32).toInt = 60 := (by decide); unfold sp_row; repeat (first | rfl | (split) | (exfalso; omega)))
        · skip
          refine g_bipush C dX8_row_32 (v := -3) (by decide) ?_
          exact g_iret C hrt dX8_row_34 (by decide) (by decide) (by have a1 : p2.toInt ≤ (60 : Int32).toInt := Int32.le_iff_toInt_le.mp q39; have a2 : ¬ (0 : Int32).toInt ≤ p2.toInt := fun z => q40 (Int32.le_iff_toInt_le.mpr z); have k2 : (0 : Int32).toInt = 0 := (by decide); have k3 : (3 : Int32).toInt = 3 := (by decide); have k4 : (60 : Int32).toInt = 60 := (by decide); unfold sp_row; repeat (first | rfl | (split) | (exfalso; omega)))
      · skip
        refine g_bipush C dX8_row_25 (v := -2) (by decide) ?_
        exact g_iret C hrt dX8_row_27 (by decide) (by decide) (by have a1 : ¬ p2.toInt ≤ (60 : Int32).toInt := fun z => q39 (Int32.le_iff_toInt_le.mpr z); have k1 : (0 : Int32).toInt = 0 := (by decide); have k2 : (3 : Int32).toInt = 3 := (by decide); have k3 : (60 : Int32).toInt = 60 := (by decide); unfold sp_row; repeat (first | rfl | (split) | (exfalso; omega)))
  · skip
    rcases sc4 p1 with h41 | h42 | rfl | rfl | rfl | rfl
    · skip
      refine g_iload_n C dX8_row_0 rfl (j := 1) rfl ?_
      refine g_callSI C (c_X8_isSlot l G F 1) lk_X8_394 rfl rfl dX8_row_1 (Nat.le_of_ble_eq_true rfl) ⟨by decide, by decide⟩ ⟨by decide, by decide⟩ (fun r43 L M hp => ?_)
      obtain ⟨r43_, F⟩ := hp
      obtain rfl : r43 = 1 := by
        rcases r43_ with ⟨z, z1⟩ | ⟨z, z1⟩
        · exact z
        · exact absurd (by decide) z1
      refine g_if_eq C dX8_row_4 (tgt := 25) (by decide) (fun q => absurd q (by decide)) (fun _ => ?_)
      refine g_iload_n C dX8_row_7 rfl (j := 2) rfl ?_
      refine g_i2l C dX8_row_8 (v := p1.toInt64) rfl ?_
      refine g_lconst C dX8_row_9 (v := 0) (by decide) ?_
      refine g_ldc2 C (v := 3) wd235 dX8_row_10 ?_
      refine g_callSI C (c_X8_in l G F (p1.toInt64) (0) (3)) lk_X8_94 rfl rfl dX8_row_13 (Nat.le_of_ble_eq_true rfl) ⟨by decide, by decide⟩ ⟨by decide, by decide⟩ (fun r44 L M hp => ?_)
      obtain ⟨r44_, F⟩ := hp
      obtain rfl : r44 = 0 := by
        rcases r44_ with ⟨-, z1, z2⟩ | ⟨z, -⟩
        · exfalso; have a1 : p1.toInt < (0 : Int32).toInt := Int32.lt_iff_toInt_lt.mp h41; have k1 : (0 : Int32).toInt = 0 := (by decide); have k2 : (1 : Int32).toInt = 1 := (by decide); have j1 : (0 : Int64).toInt = 0 := (by decide); have j2 : (3 : Int64).toInt = 3 := (by decide); have b1 := Int64.le_iff_toInt_le.mp z1; have b2 := Int64.le_iff_toInt_le.mp z2; rw [Int32.toInt_toInt64] at b1 b2; omega
        · exact z
      refine g_if_eq C dX8_row_16 (tgt := 25) (by decide) (fun _ => ?_) (fun q => absurd (by decide) q)
      refine g_bipush C dX8_row_25 (v := -2) (by decide) ?_
      exact g_iret C hrt dX8_row_27 (by decide) (by decide) (by have a1 : p1.toInt < (0 : Int32).toInt := Int32.lt_iff_toInt_lt.mp h41; have k1 : (0 : Int32).toInt = 0 := (by decide); have k2 : (1 : Int32).toInt = 1 := (by decide); unfold sp_row; repeat (first | rfl | (split) | (exfalso; omega)))
    · skip
      refine g_iload_n C dX8_row_0 rfl (j := 1) rfl ?_
      refine g_callSI C (c_X8_isSlot l G F 1) lk_X8_394 rfl rfl dX8_row_1 (Nat.le_of_ble_eq_true rfl) ⟨by decide, by decide⟩ ⟨by decide, by decide⟩ (fun r45 L M hp => ?_)
      obtain ⟨r45_, F⟩ := hp
      obtain rfl : r45 = 1 := by
        rcases r45_ with ⟨z, z1⟩ | ⟨z, z1⟩
        · exact z
        · exact absurd (by decide) z1
      refine g_if_eq C dX8_row_4 (tgt := 25) (by decide) (fun q => absurd q (by decide)) (fun _ => ?_)
      refine g_iload_n C dX8_row_7 rfl (j := 2) rfl ?_
      refine g_i2l C dX8_row_8 (v := p1.toInt64) rfl ?_
      refine g_lconst C dX8_row_9 (v := 0) (by decide) ?_
      refine g_ldc2 C (v := 3) wd235 dX8_row_10 ?_
      refine g_callSI C (c_X8_in l G F (p1.toInt64) (0) (3)) lk_X8_94 rfl rfl dX8_row_13 (Nat.le_of_ble_eq_true rfl) ⟨by decide, by decide⟩ ⟨by decide, by decide⟩ (fun r46 L M hp => ?_)
      obtain ⟨r46_, F⟩ := hp
      obtain rfl : r46 = 0 := by
        rcases r46_ with ⟨-, z1, z2⟩ | ⟨z, -⟩
        · exfalso; have a1 : (4 : Int32).toInt ≤ p1.toInt := Int32.le_iff_toInt_le.mp h42; have k1 : (1 : Int32).toInt = 1 := (by decide); have k2 : (4 : Int32).toInt = 4 := (by decide); have j1 : (0 : Int64).toInt = 0 := (by decide); have j2 : (3 : Int64).toInt = 3 := (by decide); have b1 := Int64.le_iff_toInt_le.mp z1; have b2 := Int64.le_iff_toInt_le.mp z2; rw [Int32.toInt_toInt64] at b1 b2; omega
        · exact z
      refine g_if_eq C dX8_row_16 (tgt := 25) (by decide) (fun _ => ?_) (fun q => absurd (by decide) q)
      refine g_bipush C dX8_row_25 (v := -2) (by decide) ?_
      exact g_iret C hrt dX8_row_27 (by decide) (by decide) (by have a1 : (4 : Int32).toInt ≤ p1.toInt := Int32.le_iff_toInt_le.mp h42; have k1 : (1 : Int32).toInt = 1 := (by decide); have k2 : (4 : Int32).toInt = 4 := (by decide); unfold sp_row; repeat (first | rfl | (split) | (exfalso; omega)))
    · skip
      refine g_iload_n C dX8_row_0 rfl (j := 1) rfl ?_
      refine g_callSI C (c_X8_isSlot l G F 1) lk_X8_394 rfl rfl dX8_row_1 (Nat.le_of_ble_eq_true rfl) ⟨by decide, by decide⟩ ⟨by decide, by decide⟩ (fun r47 L M hp => ?_)
      obtain ⟨r47_, F⟩ := hp
      obtain rfl : r47 = 1 := by
        rcases r47_ with ⟨z, z1⟩ | ⟨z, z1⟩
        · exact z
        · exact absurd (by decide) z1
      refine g_if_eq C dX8_row_4 (tgt := 25) (by decide) (fun q => absurd q (by decide)) (fun _ => ?_)
      refine g_iload_n C dX8_row_7 rfl (j := 2) rfl ?_
      refine g_i2l C dX8_row_8 (v := 0) (by decide) ?_
      refine g_lconst C dX8_row_9 (v := 0) (by decide) ?_
      refine g_ldc2 C (v := 3) wd235 dX8_row_10 ?_
      refine g_callSI C (c_X8_in l G F (0) (0) (3)) lk_X8_94 rfl rfl dX8_row_13 (Nat.le_of_ble_eq_true rfl) ⟨by decide, by decide⟩ ⟨by decide, by decide⟩ (fun r48 L M hp => ?_)
      obtain ⟨r48_, F⟩ := hp
      obtain rfl : r48 = 1 := by
        rcases r48_ with ⟨z, z1⟩ | ⟨z, z1⟩
        · exact z
        · exact absurd (by decide) z1
      refine g_if_eq C dX8_row_16 (tgt := 25) (by decide) (fun q => absurd q (by decide)) (fun _ => ?_)
      refine g_iload_n C dX8_row_19 rfl (j := 3) rfl ?_
      refine g_bipush C dX8_row_20 (v := 60) (by decide) ?_
      refine g_icmp_le C dX8_row_22 (tgt := 28) (by decide) (fun q49 => ?_) (fun q49 => ?_)
      · skip
        refine g_iload_n C dX8_row_28 rfl (j := 3) rfl ?_
        refine g_if_ge C dX8_row_29 (tgt := 35) (by decide) (fun q50 => ?_) (fun q50 => ?_)
        · skip
          refine g_aload_n C dX8_row_35 rfl (j := 0) rfl ?_
          refine h_get C F 0 rfl fk_X8_76 dX8_row_36 rfl ?_
          refine g_iload_n C dX8_row_39 rfl (j := 1) rfl ?_
          refine g_iload_n C dX8_row_40 rfl (j := 3) rfl ?_
          refine h_iastX C F 21 rfl dX8_row_41 (vp_in_iff.mpr (by decide)) (flf := fun g => (b 0, .inr (8, .int 0 :: .ref (b 1) :: .ref (b 2) :: .ref (b 3) :: .ref (b 4) :: .int 0 :: .ref (b 6) :: .int 0 :: .int 0 :: .int 0 :: .int 0 :: .int 0 :: .int 0 :: .int (-1) :: .ref (b 14) :: .ref (b 15) :: .ref (b 16) :: .int 0 :: .int 0 :: .int ts :: .ref (b 20) :: .ref (b 21) :: .ref (b 22) :: .ref (b 23) :: .ref (b 24) :: .ref (b 25) :: .ref (b 26) :: .ref (b 27) :: .ref (b 28) :: .ref (b 29) :: .int 0 :: .ref (b 31) :: .int 0 :: .ref (b 33) :: .long 0 :: .long 0 :: .long 0 :: .ref (b 37) :: .ref (b 38) :: .ref (b 39) :: .ref (b 40) :: [])) :: (b 1, .inl (cy 1, 102, .inl (fun _ => 0))) :: (b 2, .inl (cy 1, 306, .inl (fun _ => 0))) :: (b 3, .inl (cy 3, 3, .inl (fun _ => 0))) :: (b 4, .inl (cy 0, 800, .inl (fun _ => 0))) :: (b 6, .inl (cy 1, 5, .inl (fun _ => 0))) :: (b 14, .inl (cy 1, 102, .inl (fun _ => 0))) :: (b 15, .inl (cy 1, 7, .inl (fun _ => 0))) :: (b 16, .inl (cy 1, 8, .inl (fun _ => 0))) :: (b 20, .inl (cy 1, 7, .inl (fun _ => 0))) :: (b 21, .inl (cy 1, 8, .inl pn)) :: (b 22, .inl (cy 1, 136, .inl (fun _ => 0))) :: (b 23, .inl (cy 1, 119, .inl (fun _ => 0))) :: (b 24, .inl (cy 1, 16, .inl (fun _ => 0))) :: (b 25, .inl (cy 1, 28, .inl (fun _ => 0))) :: (b 26, .inl (cy 1, 8, .inl (fun _ => 0))) :: (b 27, .inl (cy 1, 4, .inl (fun _ => 0))) :: (b 28, .inl (cy 1, 4, .inl (fun _ => 0))) :: (b 29, .inl (cy 1, 7, .inl (fun _ => 0))) :: (b 31, .inl (cy 1, 544, .inl (fun _ => 0))) :: (b 33, .inl (cy 1, 128, .inl (fun _ => 0))) :: (b 37, .inl (cy 1, 4, .inl g)) :: (b 38, .inl (cy 1, 4, .inl (fun _ => 0))) :: (b 39, .inl (cy 2, 240, .inr (.inl (fun _ => 0)))) :: (b 40, .inl (cy 2, 60, .inr (.inl (fun _ => 0)))) :: []) (fun _ => rfl) (fun M g203 F => ?_)
          refine g_aload_n C dX8_row_42 rfl (j := 0) rfl ?_
          refine h_get C F 0 rfl fk_X8_79 dX8_row_43 rfl ?_
          refine g_iload_n C dX8_row_46 rfl (j := 1) rfl ?_
          refine g_iload_n C dX8_row_47 rfl (j := 2) rfl ?_
          refine h_iast C F 22 rfl dX8_row_48 (vp_in_iff.mpr (by decide)) (g := (fun _ => 0)) (upd0 _) (fl2 := (b 0, .inr (8, .int 0 :: .ref (b 1) :: .ref (b 2) :: .ref (b 3) :: .ref (b 4) :: .int 0 :: .ref (b 6) :: .int 0 :: .int 0 :: .int 0 :: .int 0 :: .int 0 :: .int 0 :: .int (-1) :: .ref (b 14) :: .ref (b 15) :: .ref (b 16) :: .int 0 :: .int 0 :: .int ts :: .ref (b 20) :: .ref (b 21) :: .ref (b 22) :: .ref (b 23) :: .ref (b 24) :: .ref (b 25) :: .ref (b 26) :: .ref (b 27) :: .ref (b 28) :: .ref (b 29) :: .int 0 :: .ref (b 31) :: .int 0 :: .ref (b 33) :: .long 0 :: .long 0 :: .long 0 :: .ref (b 37) :: .ref (b 38) :: .ref (b 39) :: .ref (b 40) :: [])) :: (b 1, .inl (cy 1, 102, .inl (fun _ => 0))) :: (b 2, .inl (cy 1, 306, .inl (fun _ => 0))) :: (b 3, .inl (cy 3, 3, .inl (fun _ => 0))) :: (b 4, .inl (cy 0, 800, .inl (fun _ => 0))) :: (b 6, .inl (cy 1, 5, .inl (fun _ => 0))) :: (b 14, .inl (cy 1, 102, .inl (fun _ => 0))) :: (b 15, .inl (cy 1, 7, .inl (fun _ => 0))) :: (b 16, .inl (cy 1, 8, .inl (fun _ => 0))) :: (b 20, .inl (cy 1, 7, .inl (fun _ => 0))) :: (b 21, .inl (cy 1, 8, .inl pn)) :: (b 22, .inl (cy 1, 136, .inl (fun _ => 0))) :: (b 23, .inl (cy 1, 119, .inl (fun _ => 0))) :: (b 24, .inl (cy 1, 16, .inl (fun _ => 0))) :: (b 25, .inl (cy 1, 28, .inl (fun _ => 0))) :: (b 26, .inl (cy 1, 8, .inl (fun _ => 0))) :: (b 27, .inl (cy 1, 4, .inl (fun _ => 0))) :: (b 28, .inl (cy 1, 4, .inl (fun _ => 0))) :: (b 29, .inl (cy 1, 7, .inl (fun _ => 0))) :: (b 31, .inl (cy 1, 544, .inl (fun _ => 0))) :: (b 33, .inl (cy 1, 128, .inl (fun _ => 0))) :: (b 37, .inl (cy 1, 4, .inl g203)) :: (b 38, .inl (cy 1, 4, .inl (fun _ => 0))) :: (b 39, .inl (cy 2, 240, .inr (.inl (fun _ => 0)))) :: (b 40, .inl (cy 2, 60, .inr (.inl (fun _ => 0)))) :: []) rfl (fun M F => ?_)
          refine g_iconst C dX8_row_49 (v := 0) (by decide) ?_
          refine g_istore C dX8_row_50 (by decide) (lv2 := [(4, .int 0), (0, .ref (b 0)), (1, .int 1), (2, .int 0), (3, .int p2)]) rfl ?_
          refine g_lv [0, 1, 2, 3, 4] (lv2 := [(4, .int 0), (0, .ref (b 0)), (1, .int 1), (2, .int 0), (3, .int p2)]) rfl ?_
          refine g_loop 60 (lvf := fun i52 => [(4, .int (nI i52)), (0, .ref (b 0)), (1, .int 1), (2, .int 0), (3, .int p2)]) (fun i52 M F hii52 ihi52 => ?_) (fun M F => ?_) F
          · skip
            refine g_iload C dX8_row_52 (j := 0) rfl ?_
            refine g_bipush C dX8_row_54 (v := 60) (by decide) ?_
            refine g_icmp_ge C dX8_row_56 (tgt := 78) (by decide) (fun q => absurd q (nI_ge hii52 (by decide))) (fun _ => ?_)
            refine g_aload_n C dX8_row_59 rfl (j := 1) rfl ?_
            refine h_get C F 0 rfl fk_X8_82 dX8_row_60 rfl ?_
            refine g_bipush C dX8_row_63 (v := 60) (by decide) ?_
            refine g_iload_n C dX8_row_65 rfl (j := 2) rfl ?_
            refine g_imul C dX8_row_66 ?_
            refine Go.top (v := .int 60) (by decide) ?_
            refine g_iload C dX8_row_67 (j := 0) rfl ?_
            refine g_iadd C dX8_row_69 ?_
            refine Go.top (v := .int (nI (60 + i52))) (congrArg Value.int (nI_add 60 i52)) ?_
            refine g_lconst C dX8_row_70 (v := 0) (by decide) ?_
            refine h_last C F 23 rfl dX8_row_71 (vp_in_nI (by omega) (by decide)) (g := (fun _ => 0)) (updL0 _) (fl2 := (b 0, .inr (8, .int 0 :: .ref (b 1) :: .ref (b 2) :: .ref (b 3) :: .ref (b 4) :: .int 0 :: .ref (b 6) :: .int 0 :: .int 0 :: .int 0 :: .int 0 :: .int 0 :: .int 0 :: .int (-1) :: .ref (b 14) :: .ref (b 15) :: .ref (b 16) :: .int 0 :: .int 0 :: .int ts :: .ref (b 20) :: .ref (b 21) :: .ref (b 22) :: .ref (b 23) :: .ref (b 24) :: .ref (b 25) :: .ref (b 26) :: .ref (b 27) :: .ref (b 28) :: .ref (b 29) :: .int 0 :: .ref (b 31) :: .int 0 :: .ref (b 33) :: .long 0 :: .long 0 :: .long 0 :: .ref (b 37) :: .ref (b 38) :: .ref (b 39) :: .ref (b 40) :: [])) :: (b 1, .inl (cy 1, 102, .inl (fun _ => 0))) :: (b 2, .inl (cy 1, 306, .inl (fun _ => 0))) :: (b 3, .inl (cy 3, 3, .inl (fun _ => 0))) :: (b 4, .inl (cy 0, 800, .inl (fun _ => 0))) :: (b 6, .inl (cy 1, 5, .inl (fun _ => 0))) :: (b 14, .inl (cy 1, 102, .inl (fun _ => 0))) :: (b 15, .inl (cy 1, 7, .inl (fun _ => 0))) :: (b 16, .inl (cy 1, 8, .inl (fun _ => 0))) :: (b 20, .inl (cy 1, 7, .inl (fun _ => 0))) :: (b 21, .inl (cy 1, 8, .inl pn)) :: (b 22, .inl (cy 1, 136, .inl (fun _ => 0))) :: (b 23, .inl (cy 1, 119, .inl (fun _ => 0))) :: (b 24, .inl (cy 1, 16, .inl (fun _ => 0))) :: (b 25, .inl (cy 1, 28, .inl (fun _ => 0))) :: (b 26, .inl (cy 1, 8, .inl (fun _ => 0))) :: (b 27, .inl (cy 1, 4, .inl (fun _ => 0))) :: (b 28, .inl (cy 1, 4, .inl (fun _ => 0))) :: (b 29, .inl (cy 1, 7, .inl (fun _ => 0))) :: (b 31, .inl (cy 1, 544, .inl (fun _ => 0))) :: (b 33, .inl (cy 1, 128, .inl (fun _ => 0))) :: (b 37, .inl (cy 1, 4, .inl g203)) :: (b 38, .inl (cy 1, 4, .inl (fun _ => 0))) :: (b 39, .inl (cy 2, 240, .inr (.inl (fun _ => 0)))) :: (b 40, .inl (cy 2, 60, .inr (.inl (fun _ => 0)))) :: []) rfl (fun M F => ?_)
            refine g_iinc C dX8_row_72 (j := 0) rfl (v := nI (i52 + 1)) (nI_1 i52) (by decide) (lv2 := [(4, .int (nI (i52 + 1))), (0, .ref (b 0)), (1, .int 1), (2, .int 0), (3, .int p2)]) rfl ?_
            refine g_goto C dX8_row_75 (tgt := 52) (by decide) ?_
            exact ihi52 M F
          · skip
            refine g_lv [0, 1, 2, 3, 4] (lv2 := [(4, .int 60), (0, .ref (b 0)), (1, .int 1), (2, .int 0), (3, .int p2)]) rfl ?_
            refine g_iload C dX8_row_52 (j := 0) rfl ?_
            refine g_bipush C dX8_row_54 (v := 60) (by decide) ?_
            refine g_icmp_ge C dX8_row_56 (tgt := 78) (by decide) (fun _ => ?_) (fun q => absurd (by decide) q)
            refine g_iconst C dX8_row_78 (v := 0) (by decide) ?_
            exact g_iret C hrt dX8_row_79 (by decide) (by decide) (by have a1 : p2.toInt ≤ (60 : Int32).toInt := Int32.le_iff_toInt_le.mp q49; have a2 : (0 : Int32).toInt ≤ p2.toInt := Int32.le_iff_toInt_le.mp q50; have k2 : (0 : Int32).toInt = 0 := (by decide); have k3 : (1 : Int32).toInt = 1 := (by decide); have k4 : (60 : Int32).toInt = 60 := (by decide); unfold sp_row; repeat (first | rfl | (split) | (exfalso; omega)))
        · skip
          refine g_bipush C dX8_row_32 (v := -3) (by decide) ?_
          exact g_iret C hrt dX8_row_34 (by decide) (by decide) (by have a1 : p2.toInt ≤ (60 : Int32).toInt := Int32.le_iff_toInt_le.mp q49; have a2 : ¬ (0 : Int32).toInt ≤ p2.toInt := fun z => q50 (Int32.le_iff_toInt_le.mpr z); have k2 : (0 : Int32).toInt = 0 := (by decide); have k3 : (1 : Int32).toInt = 1 := (by decide); have k4 : (60 : Int32).toInt = 60 := (by decide); unfold sp_row; repeat (first | rfl | (split) | (exfalso; omega)))
      · skip
        refine g_bipush C dX8_row_25 (v := -2) (by decide) ?_
        exact g_iret C hrt dX8_row_27 (by decide) (by decide) (by have a1 : ¬ p2.toInt ≤ (60 : Int32).toInt := fun z => q49 (Int32.le_iff_toInt_le.mpr z); have k1 : (0 : Int32).toInt = 0 := (by decide); have k2 : (1 : Int32).toInt = 1 := (by decide); have k3 : (60 : Int32).toInt = 60 := (by decide); unfold sp_row; repeat (first | rfl | (split) | (exfalso; omega)))
    · skip
      refine g_iload_n C dX8_row_0 rfl (j := 1) rfl ?_
      refine g_callSI C (c_X8_isSlot l G F 1) lk_X8_394 rfl rfl dX8_row_1 (Nat.le_of_ble_eq_true rfl) ⟨by decide, by decide⟩ ⟨by decide, by decide⟩ (fun r51 L M hp => ?_)
      obtain ⟨r51_, F⟩ := hp
      obtain rfl : r51 = 1 := by
        rcases r51_ with ⟨z, z1⟩ | ⟨z, z1⟩
        · exact z
        · exact absurd (by decide) z1
      refine g_if_eq C dX8_row_4 (tgt := 25) (by decide) (fun q => absurd q (by decide)) (fun _ => ?_)
      refine g_iload_n C dX8_row_7 rfl (j := 2) rfl ?_
      refine g_i2l C dX8_row_8 (v := 1) (by decide) ?_
      refine g_lconst C dX8_row_9 (v := 0) (by decide) ?_
      refine g_ldc2 C (v := 3) wd235 dX8_row_10 ?_
      refine g_callSI C (c_X8_in l G F (1) (0) (3)) lk_X8_94 rfl rfl dX8_row_13 (Nat.le_of_ble_eq_true rfl) ⟨by decide, by decide⟩ ⟨by decide, by decide⟩ (fun r52 L M hp => ?_)
      obtain ⟨r52_, F⟩ := hp
      obtain rfl : r52 = 1 := by
        rcases r52_ with ⟨z, z1⟩ | ⟨z, z1⟩
        · exact z
        · exact absurd (by decide) z1
      refine g_if_eq C dX8_row_16 (tgt := 25) (by decide) (fun q => absurd q (by decide)) (fun _ => ?_)
      refine g_iload_n C dX8_row_19 rfl (j := 3) rfl ?_
      refine g_bipush C dX8_row_20 (v := 60) (by decide) ?_
      refine g_icmp_le C dX8_row_22 (tgt := 28) (by decide) (fun q53 => ?_) (fun q53 => ?_)
      · skip
        refine g_iload_n C dX8_row_28 rfl (j := 3) rfl ?_
        refine g_if_ge C dX8_row_29 (tgt := 35) (by decide) (fun q54 => ?_) (fun q54 => ?_)
        · skip
          refine g_aload_n C dX8_row_35 rfl (j := 0) rfl ?_
          refine h_get C F 0 rfl fk_X8_76 dX8_row_36 rfl ?_
          refine g_iload_n C dX8_row_39 rfl (j := 1) rfl ?_
          refine g_iload_n C dX8_row_40 rfl (j := 3) rfl ?_
          refine h_iastX C F 21 rfl dX8_row_41 (vp_in_iff.mpr (by decide)) (flf := fun g => (b 0, .inr (8, .int 0 :: .ref (b 1) :: .ref (b 2) :: .ref (b 3) :: .ref (b 4) :: .int 0 :: .ref (b 6) :: .int 0 :: .int 0 :: .int 0 :: .int 0 :: .int 0 :: .int 0 :: .int (-1) :: .ref (b 14) :: .ref (b 15) :: .ref (b 16) :: .int 0 :: .int 0 :: .int ts :: .ref (b 20) :: .ref (b 21) :: .ref (b 22) :: .ref (b 23) :: .ref (b 24) :: .ref (b 25) :: .ref (b 26) :: .ref (b 27) :: .ref (b 28) :: .ref (b 29) :: .int 0 :: .ref (b 31) :: .int 0 :: .ref (b 33) :: .long 0 :: .long 0 :: .long 0 :: .ref (b 37) :: .ref (b 38) :: .ref (b 39) :: .ref (b 40) :: [])) :: (b 1, .inl (cy 1, 102, .inl (fun _ => 0))) :: (b 2, .inl (cy 1, 306, .inl (fun _ => 0))) :: (b 3, .inl (cy 3, 3, .inl (fun _ => 0))) :: (b 4, .inl (cy 0, 800, .inl (fun _ => 0))) :: (b 6, .inl (cy 1, 5, .inl (fun _ => 0))) :: (b 14, .inl (cy 1, 102, .inl (fun _ => 0))) :: (b 15, .inl (cy 1, 7, .inl (fun _ => 0))) :: (b 16, .inl (cy 1, 8, .inl (fun _ => 0))) :: (b 20, .inl (cy 1, 7, .inl (fun _ => 0))) :: (b 21, .inl (cy 1, 8, .inl pn)) :: (b 22, .inl (cy 1, 136, .inl (fun _ => 0))) :: (b 23, .inl (cy 1, 119, .inl (fun _ => 0))) :: (b 24, .inl (cy 1, 16, .inl (fun _ => 0))) :: (b 25, .inl (cy 1, 28, .inl (fun _ => 0))) :: (b 26, .inl (cy 1, 8, .inl (fun _ => 0))) :: (b 27, .inl (cy 1, 4, .inl (fun _ => 0))) :: (b 28, .inl (cy 1, 4, .inl (fun _ => 0))) :: (b 29, .inl (cy 1, 7, .inl (fun _ => 0))) :: (b 31, .inl (cy 1, 544, .inl (fun _ => 0))) :: (b 33, .inl (cy 1, 128, .inl (fun _ => 0))) :: (b 37, .inl (cy 1, 4, .inl g)) :: (b 38, .inl (cy 1, 4, .inl (fun _ => 0))) :: (b 39, .inl (cy 2, 240, .inr (.inl (fun _ => 0)))) :: (b 40, .inl (cy 2, 60, .inr (.inl (fun _ => 0)))) :: []) (fun _ => rfl) (fun M g204 F => ?_)
          refine g_aload_n C dX8_row_42 rfl (j := 0) rfl ?_
          refine h_get C F 0 rfl fk_X8_79 dX8_row_43 rfl ?_
          refine g_iload_n C dX8_row_46 rfl (j := 1) rfl ?_
          refine g_iload_n C dX8_row_47 rfl (j := 2) rfl ?_
          refine h_iastX C F 22 rfl dX8_row_48 (vp_in_iff.mpr (by decide)) (flf := fun g => (b 0, .inr (8, .int 0 :: .ref (b 1) :: .ref (b 2) :: .ref (b 3) :: .ref (b 4) :: .int 0 :: .ref (b 6) :: .int 0 :: .int 0 :: .int 0 :: .int 0 :: .int 0 :: .int 0 :: .int (-1) :: .ref (b 14) :: .ref (b 15) :: .ref (b 16) :: .int 0 :: .int 0 :: .int ts :: .ref (b 20) :: .ref (b 21) :: .ref (b 22) :: .ref (b 23) :: .ref (b 24) :: .ref (b 25) :: .ref (b 26) :: .ref (b 27) :: .ref (b 28) :: .ref (b 29) :: .int 0 :: .ref (b 31) :: .int 0 :: .ref (b 33) :: .long 0 :: .long 0 :: .long 0 :: .ref (b 37) :: .ref (b 38) :: .ref (b 39) :: .ref (b 40) :: [])) :: (b 1, .inl (cy 1, 102, .inl (fun _ => 0))) :: (b 2, .inl (cy 1, 306, .inl (fun _ => 0))) :: (b 3, .inl (cy 3, 3, .inl (fun _ => 0))) :: (b 4, .inl (cy 0, 800, .inl (fun _ => 0))) :: (b 6, .inl (cy 1, 5, .inl (fun _ => 0))) :: (b 14, .inl (cy 1, 102, .inl (fun _ => 0))) :: (b 15, .inl (cy 1, 7, .inl (fun _ => 0))) :: (b 16, .inl (cy 1, 8, .inl (fun _ => 0))) :: (b 20, .inl (cy 1, 7, .inl (fun _ => 0))) :: (b 21, .inl (cy 1, 8, .inl pn)) :: (b 22, .inl (cy 1, 136, .inl (fun _ => 0))) :: (b 23, .inl (cy 1, 119, .inl (fun _ => 0))) :: (b 24, .inl (cy 1, 16, .inl (fun _ => 0))) :: (b 25, .inl (cy 1, 28, .inl (fun _ => 0))) :: (b 26, .inl (cy 1, 8, .inl (fun _ => 0))) :: (b 27, .inl (cy 1, 4, .inl (fun _ => 0))) :: (b 28, .inl (cy 1, 4, .inl (fun _ => 0))) :: (b 29, .inl (cy 1, 7, .inl (fun _ => 0))) :: (b 31, .inl (cy 1, 544, .inl (fun _ => 0))) :: (b 33, .inl (cy 1, 128, .inl (fun _ => 0))) :: (b 37, .inl (cy 1, 4, .inl g204)) :: (b 38, .inl (cy 1, 4, .inl g)) :: (b 39, .inl (cy 2, 240, .inr (.inl (fun _ => 0)))) :: (b 40, .inl (cy 2, 60, .inr (.inl (fun _ => 0)))) :: []) (fun _ => rfl) (fun M g205 F => ?_)
          refine g_iconst C dX8_row_49 (v := 0) (by decide) ?_
          refine g_istore C dX8_row_50 (by decide) (lv2 := [(4, .int 0), (0, .ref (b 0)), (1, .int 1), (2, .int 1), (3, .int p2)]) rfl ?_
          refine g_lv [0, 1, 2, 3, 4] (lv2 := [(4, .int 0), (0, .ref (b 0)), (1, .int 1), (2, .int 1), (3, .int p2)]) rfl ?_
          refine g_loop 60 (lvf := fun i52 => [(4, .int (nI i52)), (0, .ref (b 0)), (1, .int 1), (2, .int 1), (3, .int p2)]) (fun i52 M F hii52 ihi52 => ?_) (fun M F => ?_) F
          · skip
            refine g_iload C dX8_row_52 (j := 0) rfl ?_
            refine g_bipush C dX8_row_54 (v := 60) (by decide) ?_
            refine g_icmp_ge C dX8_row_56 (tgt := 78) (by decide) (fun q => absurd q (nI_ge hii52 (by decide))) (fun _ => ?_)
            refine g_aload_n C dX8_row_59 rfl (j := 1) rfl ?_
            refine h_get C F 0 rfl fk_X8_82 dX8_row_60 rfl ?_
            refine g_bipush C dX8_row_63 (v := 60) (by decide) ?_
            refine g_iload_n C dX8_row_65 rfl (j := 2) rfl ?_
            refine g_imul C dX8_row_66 ?_
            refine Go.top (v := .int 60) (by decide) ?_
            refine g_iload C dX8_row_67 (j := 0) rfl ?_
            refine g_iadd C dX8_row_69 ?_
            refine Go.top (v := .int (nI (60 + i52))) (congrArg Value.int (nI_add 60 i52)) ?_
            refine g_lconst C dX8_row_70 (v := 0) (by decide) ?_
            refine h_last C F 23 rfl dX8_row_71 (vp_in_nI (by omega) (by decide)) (g := (fun _ => 0)) (updL0 _) (fl2 := (b 0, .inr (8, .int 0 :: .ref (b 1) :: .ref (b 2) :: .ref (b 3) :: .ref (b 4) :: .int 0 :: .ref (b 6) :: .int 0 :: .int 0 :: .int 0 :: .int 0 :: .int 0 :: .int 0 :: .int (-1) :: .ref (b 14) :: .ref (b 15) :: .ref (b 16) :: .int 0 :: .int 0 :: .int ts :: .ref (b 20) :: .ref (b 21) :: .ref (b 22) :: .ref (b 23) :: .ref (b 24) :: .ref (b 25) :: .ref (b 26) :: .ref (b 27) :: .ref (b 28) :: .ref (b 29) :: .int 0 :: .ref (b 31) :: .int 0 :: .ref (b 33) :: .long 0 :: .long 0 :: .long 0 :: .ref (b 37) :: .ref (b 38) :: .ref (b 39) :: .ref (b 40) :: [])) :: (b 1, .inl (cy 1, 102, .inl (fun _ => 0))) :: (b 2, .inl (cy 1, 306, .inl (fun _ => 0))) :: (b 3, .inl (cy 3, 3, .inl (fun _ => 0))) :: (b 4, .inl (cy 0, 800, .inl (fun _ => 0))) :: (b 6, .inl (cy 1, 5, .inl (fun _ => 0))) :: (b 14, .inl (cy 1, 102, .inl (fun _ => 0))) :: (b 15, .inl (cy 1, 7, .inl (fun _ => 0))) :: (b 16, .inl (cy 1, 8, .inl (fun _ => 0))) :: (b 20, .inl (cy 1, 7, .inl (fun _ => 0))) :: (b 21, .inl (cy 1, 8, .inl pn)) :: (b 22, .inl (cy 1, 136, .inl (fun _ => 0))) :: (b 23, .inl (cy 1, 119, .inl (fun _ => 0))) :: (b 24, .inl (cy 1, 16, .inl (fun _ => 0))) :: (b 25, .inl (cy 1, 28, .inl (fun _ => 0))) :: (b 26, .inl (cy 1, 8, .inl (fun _ => 0))) :: (b 27, .inl (cy 1, 4, .inl (fun _ => 0))) :: (b 28, .inl (cy 1, 4, .inl (fun _ => 0))) :: (b 29, .inl (cy 1, 7, .inl (fun _ => 0))) :: (b 31, .inl (cy 1, 544, .inl (fun _ => 0))) :: (b 33, .inl (cy 1, 128, .inl (fun _ => 0))) :: (b 37, .inl (cy 1, 4, .inl g204)) :: (b 38, .inl (cy 1, 4, .inl g205)) :: (b 39, .inl (cy 2, 240, .inr (.inl (fun _ => 0)))) :: (b 40, .inl (cy 2, 60, .inr (.inl (fun _ => 0)))) :: []) rfl (fun M F => ?_)
            refine g_iinc C dX8_row_72 (j := 0) rfl (v := nI (i52 + 1)) (nI_1 i52) (by decide) (lv2 := [(4, .int (nI (i52 + 1))), (0, .ref (b 0)), (1, .int 1), (2, .int 1), (3, .int p2)]) rfl ?_
            refine g_goto C dX8_row_75 (tgt := 52) (by decide) ?_
            exact ihi52 M F
          · skip
            refine g_lv [0, 1, 2, 3, 4] (lv2 := [(4, .int 60), (0, .ref (b 0)), (1, .int 1), (2, .int 1), (3, .int p2)]) rfl ?_
            refine g_iload C dX8_row_52 (j := 0) rfl ?_
            refine g_bipush C dX8_row_54 (v := 60) (by decide) ?_
            refine g_icmp_ge C dX8_row_56 (tgt := 78) (by decide) (fun _ => ?_) (fun q => absurd (by decide) q)
            refine g_iconst C dX8_row_78 (v := 0) (by decide) ?_
            exact g_iret C hrt dX8_row_79 (by decide) (by decide) (by have a1 : p2.toInt ≤ (60 : Int32).toInt := Int32.le_iff_toInt_le.mp q53; have a2 : (0 : Int32).toInt ≤ p2.toInt := Int32.le_iff_toInt_le.mp q54; have k2 : (0 : Int32).toInt = 0 := (by decide); have k3 : (1 : Int32).toInt = 1 := (by decide); have k4 : (60 : Int32).toInt = 60 := (by decide); unfold sp_row; repeat (first | rfl | (split) | (exfalso; omega)))
        · skip
          refine g_bipush C dX8_row_32 (v := -3) (by decide) ?_
          exact g_iret C hrt dX8_row_34 (by decide) (by decide) (by have a1 : p2.toInt ≤ (60 : Int32).toInt := Int32.le_iff_toInt_le.mp q53; have a2 : ¬ (0 : Int32).toInt ≤ p2.toInt := fun z => q54 (Int32.le_iff_toInt_le.mpr z); have k2 : (0 : Int32).toInt = 0 := (by decide); have k3 : (1 : Int32).toInt = 1 := (by decide); have k4 : (60 : Int32).toInt = 60 := (by decide); unfold sp_row; repeat (first | rfl | (split) | (exfalso; omega)))
      · skip
        refine g_bipush C dX8_row_25 (v := -2) (by decide) ?_
        exact g_iret C hrt dX8_row_27 (by decide) (by decide) (by have a1 : ¬ p2.toInt ≤ (60 : Int32).toInt := fun z => q53 (Int32.le_iff_toInt_le.mpr z); have k1 : (1 : Int32).toInt = 1 := (by decide); have k2 : (60 : Int32).toInt = 60 := (by decide); unfold sp_row; repeat (first | rfl | (split) | (exfalso; omega)))
    · skip
      refine g_iload_n C dX8_row_0 rfl (j := 1) rfl ?_
      refine g_callSI C (c_X8_isSlot l G F 1) lk_X8_394 rfl rfl dX8_row_1 (Nat.le_of_ble_eq_true rfl) ⟨by decide, by decide⟩ ⟨by decide, by decide⟩ (fun r55 L M hp => ?_)
      obtain ⟨r55_, F⟩ := hp
      obtain rfl : r55 = 1 := by
        rcases r55_ with ⟨z, z1⟩ | ⟨z, z1⟩
        · exact z
        · exact absurd (by decide) z1
      refine g_if_eq C dX8_row_4 (tgt := 25) (by decide) (fun q => absurd q (by decide)) (fun _ => ?_)
      refine g_iload_n C dX8_row_7 rfl (j := 2) rfl ?_
      refine g_i2l C dX8_row_8 (v := 2) (by decide) ?_
      refine g_lconst C dX8_row_9 (v := 0) (by decide) ?_
      refine g_ldc2 C (v := 3) wd235 dX8_row_10 ?_
      refine g_callSI C (c_X8_in l G F (2) (0) (3)) lk_X8_94 rfl rfl dX8_row_13 (Nat.le_of_ble_eq_true rfl) ⟨by decide, by decide⟩ ⟨by decide, by decide⟩ (fun r56 L M hp => ?_)
      obtain ⟨r56_, F⟩ := hp
      obtain rfl : r56 = 1 := by
        rcases r56_ with ⟨z, z1⟩ | ⟨z, z1⟩
        · exact z
        · exact absurd (by decide) z1
      refine g_if_eq C dX8_row_16 (tgt := 25) (by decide) (fun q => absurd q (by decide)) (fun _ => ?_)
      refine g_iload_n C dX8_row_19 rfl (j := 3) rfl ?_
      refine g_bipush C dX8_row_20 (v := 60) (by decide) ?_
      refine g_icmp_le C dX8_row_22 (tgt := 28) (by decide) (fun q57 => ?_) (fun q57 => ?_)
      · skip
        refine g_iload_n C dX8_row_28 rfl (j := 3) rfl ?_
        refine g_if_ge C dX8_row_29 (tgt := 35) (by decide) (fun q58 => ?_) (fun q58 => ?_)
        · skip
          refine g_aload_n C dX8_row_35 rfl (j := 0) rfl ?_
          refine h_get C F 0 rfl fk_X8_76 dX8_row_36 rfl ?_
          refine g_iload_n C dX8_row_39 rfl (j := 1) rfl ?_
          refine g_iload_n C dX8_row_40 rfl (j := 3) rfl ?_
          refine h_iastX C F 21 rfl dX8_row_41 (vp_in_iff.mpr (by decide)) (flf := fun g => (b 0, .inr (8, .int 0 :: .ref (b 1) :: .ref (b 2) :: .ref (b 3) :: .ref (b 4) :: .int 0 :: .ref (b 6) :: .int 0 :: .int 0 :: .int 0 :: .int 0 :: .int 0 :: .int 0 :: .int (-1) :: .ref (b 14) :: .ref (b 15) :: .ref (b 16) :: .int 0 :: .int 0 :: .int ts :: .ref (b 20) :: .ref (b 21) :: .ref (b 22) :: .ref (b 23) :: .ref (b 24) :: .ref (b 25) :: .ref (b 26) :: .ref (b 27) :: .ref (b 28) :: .ref (b 29) :: .int 0 :: .ref (b 31) :: .int 0 :: .ref (b 33) :: .long 0 :: .long 0 :: .long 0 :: .ref (b 37) :: .ref (b 38) :: .ref (b 39) :: .ref (b 40) :: [])) :: (b 1, .inl (cy 1, 102, .inl (fun _ => 0))) :: (b 2, .inl (cy 1, 306, .inl (fun _ => 0))) :: (b 3, .inl (cy 3, 3, .inl (fun _ => 0))) :: (b 4, .inl (cy 0, 800, .inl (fun _ => 0))) :: (b 6, .inl (cy 1, 5, .inl (fun _ => 0))) :: (b 14, .inl (cy 1, 102, .inl (fun _ => 0))) :: (b 15, .inl (cy 1, 7, .inl (fun _ => 0))) :: (b 16, .inl (cy 1, 8, .inl (fun _ => 0))) :: (b 20, .inl (cy 1, 7, .inl (fun _ => 0))) :: (b 21, .inl (cy 1, 8, .inl pn)) :: (b 22, .inl (cy 1, 136, .inl (fun _ => 0))) :: (b 23, .inl (cy 1, 119, .inl (fun _ => 0))) :: (b 24, .inl (cy 1, 16, .inl (fun _ => 0))) :: (b 25, .inl (cy 1, 28, .inl (fun _ => 0))) :: (b 26, .inl (cy 1, 8, .inl (fun _ => 0))) :: (b 27, .inl (cy 1, 4, .inl (fun _ => 0))) :: (b 28, .inl (cy 1, 4, .inl (fun _ => 0))) :: (b 29, .inl (cy 1, 7, .inl (fun _ => 0))) :: (b 31, .inl (cy 1, 544, .inl (fun _ => 0))) :: (b 33, .inl (cy 1, 128, .inl (fun _ => 0))) :: (b 37, .inl (cy 1, 4, .inl g)) :: (b 38, .inl (cy 1, 4, .inl (fun _ => 0))) :: (b 39, .inl (cy 2, 240, .inr (.inl (fun _ => 0)))) :: (b 40, .inl (cy 2, 60, .inr (.inl (fun _ => 0)))) :: []) (fun _ => rfl) (fun M g206 F => ?_)
          refine g_aload_n C dX8_row_42 rfl (j := 0) rfl ?_
          refine h_get C F 0 rfl fk_X8_79 dX8_row_43 rfl ?_
          refine g_iload_n C dX8_row_46 rfl (j := 1) rfl ?_
          refine g_iload_n C dX8_row_47 rfl (j := 2) rfl ?_
          refine h_iastX C F 22 rfl dX8_row_48 (vp_in_iff.mpr (by decide)) (flf := fun g => (b 0, .inr (8, .int 0 :: .ref (b 1) :: .ref (b 2) :: .ref (b 3) :: .ref (b 4) :: .int 0 :: .ref (b 6) :: .int 0 :: .int 0 :: .int 0 :: .int 0 :: .int 0 :: .int 0 :: .int (-1) :: .ref (b 14) :: .ref (b 15) :: .ref (b 16) :: .int 0 :: .int 0 :: .int ts :: .ref (b 20) :: .ref (b 21) :: .ref (b 22) :: .ref (b 23) :: .ref (b 24) :: .ref (b 25) :: .ref (b 26) :: .ref (b 27) :: .ref (b 28) :: .ref (b 29) :: .int 0 :: .ref (b 31) :: .int 0 :: .ref (b 33) :: .long 0 :: .long 0 :: .long 0 :: .ref (b 37) :: .ref (b 38) :: .ref (b 39) :: .ref (b 40) :: [])) :: (b 1, .inl (cy 1, 102, .inl (fun _ => 0))) :: (b 2, .inl (cy 1, 306, .inl (fun _ => 0))) :: (b 3, .inl (cy 3, 3, .inl (fun _ => 0))) :: (b 4, .inl (cy 0, 800, .inl (fun _ => 0))) :: (b 6, .inl (cy 1, 5, .inl (fun _ => 0))) :: (b 14, .inl (cy 1, 102, .inl (fun _ => 0))) :: (b 15, .inl (cy 1, 7, .inl (fun _ => 0))) :: (b 16, .inl (cy 1, 8, .inl (fun _ => 0))) :: (b 20, .inl (cy 1, 7, .inl (fun _ => 0))) :: (b 21, .inl (cy 1, 8, .inl pn)) :: (b 22, .inl (cy 1, 136, .inl (fun _ => 0))) :: (b 23, .inl (cy 1, 119, .inl (fun _ => 0))) :: (b 24, .inl (cy 1, 16, .inl (fun _ => 0))) :: (b 25, .inl (cy 1, 28, .inl (fun _ => 0))) :: (b 26, .inl (cy 1, 8, .inl (fun _ => 0))) :: (b 27, .inl (cy 1, 4, .inl (fun _ => 0))) :: (b 28, .inl (cy 1, 4, .inl (fun _ => 0))) :: (b 29, .inl (cy 1, 7, .inl (fun _ => 0))) :: (b 31, .inl (cy 1, 544, .inl (fun _ => 0))) :: (b 33, .inl (cy 1, 128, .inl (fun _ => 0))) :: (b 37, .inl (cy 1, 4, .inl g206)) :: (b 38, .inl (cy 1, 4, .inl g)) :: (b 39, .inl (cy 2, 240, .inr (.inl (fun _ => 0)))) :: (b 40, .inl (cy 2, 60, .inr (.inl (fun _ => 0)))) :: []) (fun _ => rfl) (fun M g207 F => ?_)
          refine g_iconst C dX8_row_49 (v := 0) (by decide) ?_
          refine g_istore C dX8_row_50 (by decide) (lv2 := [(4, .int 0), (0, .ref (b 0)), (1, .int 1), (2, .int 2), (3, .int p2)]) rfl ?_
          refine g_lv [0, 1, 2, 3, 4] (lv2 := [(4, .int 0), (0, .ref (b 0)), (1, .int 1), (2, .int 2), (3, .int p2)]) rfl ?_
          refine g_loop 60 (lvf := fun i52 => [(4, .int (nI i52)), (0, .ref (b 0)), (1, .int 1), (2, .int 2), (3, .int p2)]) (fun i52 M F hii52 ihi52 => ?_) (fun M F => ?_) F
          · skip
            refine g_iload C dX8_row_52 (j := 0) rfl ?_
            refine g_bipush C dX8_row_54 (v := 60) (by decide) ?_
            refine g_icmp_ge C dX8_row_56 (tgt := 78) (by decide) (fun q => absurd q (nI_ge hii52 (by decide))) (fun _ => ?_)
            refine g_aload_n C dX8_row_59 rfl (j := 1) rfl ?_
            refine h_get C F 0 rfl fk_X8_82 dX8_row_60 rfl ?_
            refine g_bipush C dX8_row_63 (v := 60) (by decide) ?_
            refine g_iload_n C dX8_row_65 rfl (j := 2) rfl ?_
            refine g_imul C dX8_row_66 ?_
            refine Go.top (v := .int 60) (by decide) ?_
            refine g_iload C dX8_row_67 (j := 0) rfl ?_
            refine g_iadd C dX8_row_69 ?_
            refine Go.top (v := .int (nI (60 + i52))) (congrArg Value.int (nI_add 60 i52)) ?_
            refine g_lconst C dX8_row_70 (v := 0) (by decide) ?_
            refine h_last C F 23 rfl dX8_row_71 (vp_in_nI (by omega) (by decide)) (g := (fun _ => 0)) (updL0 _) (fl2 := (b 0, .inr (8, .int 0 :: .ref (b 1) :: .ref (b 2) :: .ref (b 3) :: .ref (b 4) :: .int 0 :: .ref (b 6) :: .int 0 :: .int 0 :: .int 0 :: .int 0 :: .int 0 :: .int 0 :: .int (-1) :: .ref (b 14) :: .ref (b 15) :: .ref (b 16) :: .int 0 :: .int 0 :: .int ts :: .ref (b 20) :: .ref (b 21) :: .ref (b 22) :: .ref (b 23) :: .ref (b 24) :: .ref (b 25) :: .ref (b 26) :: .ref (b 27) :: .ref (b 28) :: .ref (b 29) :: .int 0 :: .ref (b 31) :: .int 0 :: .ref (b 33) :: .long 0 :: .long 0 :: .long 0 :: .ref (b 37) :: .ref (b 38) :: .ref (b 39) :: .ref (b 40) :: [])) :: (b 1, .inl (cy 1, 102, .inl (fun _ => 0))) :: (b 2, .inl (cy 1, 306, .inl (fun _ => 0))) :: (b 3, .inl (cy 3, 3, .inl (fun _ => 0))) :: (b 4, .inl (cy 0, 800, .inl (fun _ => 0))) :: (b 6, .inl (cy 1, 5, .inl (fun _ => 0))) :: (b 14, .inl (cy 1, 102, .inl (fun _ => 0))) :: (b 15, .inl (cy 1, 7, .inl (fun _ => 0))) :: (b 16, .inl (cy 1, 8, .inl (fun _ => 0))) :: (b 20, .inl (cy 1, 7, .inl (fun _ => 0))) :: (b 21, .inl (cy 1, 8, .inl pn)) :: (b 22, .inl (cy 1, 136, .inl (fun _ => 0))) :: (b 23, .inl (cy 1, 119, .inl (fun _ => 0))) :: (b 24, .inl (cy 1, 16, .inl (fun _ => 0))) :: (b 25, .inl (cy 1, 28, .inl (fun _ => 0))) :: (b 26, .inl (cy 1, 8, .inl (fun _ => 0))) :: (b 27, .inl (cy 1, 4, .inl (fun _ => 0))) :: (b 28, .inl (cy 1, 4, .inl (fun _ => 0))) :: (b 29, .inl (cy 1, 7, .inl (fun _ => 0))) :: (b 31, .inl (cy 1, 544, .inl (fun _ => 0))) :: (b 33, .inl (cy 1, 128, .inl (fun _ => 0))) :: (b 37, .inl (cy 1, 4, .inl g206)) :: (b 38, .inl (cy 1, 4, .inl g207)) :: (b 39, .inl (cy 2, 240, .inr (.inl (fun _ => 0)))) :: (b 40, .inl (cy 2, 60, .inr (.inl (fun _ => 0)))) :: []) rfl (fun M F => ?_)
            refine g_iinc C dX8_row_72 (j := 0) rfl (v := nI (i52 + 1)) (nI_1 i52) (by decide) (lv2 := [(4, .int (nI (i52 + 1))), (0, .ref (b 0)), (1, .int 1), (2, .int 2), (3, .int p2)]) rfl ?_
            refine g_goto C dX8_row_75 (tgt := 52) (by decide) ?_
            exact ihi52 M F
          · skip
            refine g_lv [0, 1, 2, 3, 4] (lv2 := [(4, .int 60), (0, .ref (b 0)), (1, .int 1), (2, .int 2), (3, .int p2)]) rfl ?_
            refine g_iload C dX8_row_52 (j := 0) rfl ?_
            refine g_bipush C dX8_row_54 (v := 60) (by decide) ?_
            refine g_icmp_ge C dX8_row_56 (tgt := 78) (by decide) (fun _ => ?_) (fun q => absurd (by decide) q)
            refine g_iconst C dX8_row_78 (v := 0) (by decide) ?_
            exact g_iret C hrt dX8_row_79 (by decide) (by decide) (by have a1 : p2.toInt ≤ (60 : Int32).toInt := Int32.le_iff_toInt_le.mp q57; have a2 : (0 : Int32).toInt ≤ p2.toInt := Int32.le_iff_toInt_le.mp q58; have k2 : (0 : Int32).toInt = 0 := (by decide); have k3 : (1 : Int32).toInt = 1 := (by decide); have k4 : (2 : Int32).toInt = 2 := (by decide); have k5 : (60 : Int32).toInt = 60 := (by decide); unfold sp_row; repeat (first | rfl | (split) | (exfalso; omega)))
        · skip
          refine g_bipush C dX8_row_32 (v := -3) (by decide) ?_
          exact g_iret C hrt dX8_row_34 (by decide) (by decide) (by have a1 : p2.toInt ≤ (60 : Int32).toInt := Int32.le_iff_toInt_le.mp q57; have a2 : ¬ (0 : Int32).toInt ≤ p2.toInt := fun z => q58 (Int32.le_iff_toInt_le.mpr z); have k2 : (0 : Int32).toInt = 0 := (by decide); have k3 : (1 : Int32).toInt = 1 := (by decide); have k4 : (2 : Int32).toInt = 2 := (by decide); have k5 : (60 : Int32).toInt = 60 := (by decide); unfold sp_row; repeat (first | rfl | (split) | (exfalso; omega)))
      · skip
        refine g_bipush C dX8_row_25 (v := -2) (by decide) ?_
        exact g_iret C hrt dX8_row_27 (by decide) (by decide) (by have a1 : ¬ p2.toInt ≤ (60 : Int32).toInt := fun z => q57 (Int32.le_iff_toInt_le.mpr z); have k1 : (1 : Int32).toInt = 1 := (by decide); have k2 : (2 : Int32).toInt = 2 := (by decide); have k3 : (60 : Int32).toInt = 60 := (by decide); unfold sp_row; repeat (first | rfl | (split) | (exfalso; omega)))
    · skip
      refine g_iload_n C dX8_row_0 rfl (j := 1) rfl ?_
      refine g_callSI C (c_X8_isSlot l G F 1) lk_X8_394 rfl rfl dX8_row_1 (Nat.le_of_ble_eq_true rfl) ⟨by decide, by decide⟩ ⟨by decide, by decide⟩ (fun r59 L M hp => ?_)
      obtain ⟨r59_, F⟩ := hp
      obtain rfl : r59 = 1 := by
        rcases r59_ with ⟨z, z1⟩ | ⟨z, z1⟩
        · exact z
        · exact absurd (by decide) z1
      refine g_if_eq C dX8_row_4 (tgt := 25) (by decide) (fun q => absurd q (by decide)) (fun _ => ?_)
      refine g_iload_n C dX8_row_7 rfl (j := 2) rfl ?_
      refine g_i2l C dX8_row_8 (v := 3) (by decide) ?_
      refine g_lconst C dX8_row_9 (v := 0) (by decide) ?_
      refine g_ldc2 C (v := 3) wd235 dX8_row_10 ?_
      refine g_callSI C (c_X8_in l G F (3) (0) (3)) lk_X8_94 rfl rfl dX8_row_13 (Nat.le_of_ble_eq_true rfl) ⟨by decide, by decide⟩ ⟨by decide, by decide⟩ (fun r60 L M hp => ?_)
      obtain ⟨r60_, F⟩ := hp
      obtain rfl : r60 = 1 := by
        rcases r60_ with ⟨z, z1⟩ | ⟨z, z1⟩
        · exact z
        · exact absurd (by decide) z1
      refine g_if_eq C dX8_row_16 (tgt := 25) (by decide) (fun q => absurd q (by decide)) (fun _ => ?_)
      refine g_iload_n C dX8_row_19 rfl (j := 3) rfl ?_
      refine g_bipush C dX8_row_20 (v := 60) (by decide) ?_
      refine g_icmp_le C dX8_row_22 (tgt := 28) (by decide) (fun q61 => ?_) (fun q61 => ?_)
      · skip
        refine g_iload_n C dX8_row_28 rfl (j := 3) rfl ?_
        refine g_if_ge C dX8_row_29 (tgt := 35) (by decide) (fun q62 => ?_) (fun q62 => ?_)
        · skip
          refine g_aload_n C dX8_row_35 rfl (j := 0) rfl ?_
          refine h_get C F 0 rfl fk_X8_76 dX8_row_36 rfl ?_
          refine g_iload_n C dX8_row_39 rfl (j := 1) rfl ?_
          refine g_iload_n C dX8_row_40 rfl (j := 3) rfl ?_
          refine h_iastX C F 21 rfl dX8_row_41 (vp_in_iff.mpr (by decide)) (flf := fun g => (b 0, .inr (8, .int 0 :: .ref (b 1) :: .ref (b 2) :: .ref (b 3) :: .ref (b 4) :: .int 0 :: .ref (b 6) :: .int 0 :: .int 0 :: .int 0 :: .int 0 :: .int 0 :: .int 0 :: .int (-1) :: .ref (b 14) :: .ref (b 15) :: .ref (b 16) :: .int 0 :: .int 0 :: .int ts :: .ref (b 20) :: .ref (b 21) :: .ref (b 22) :: .ref (b 23) :: .ref (b 24) :: .ref (b 25) :: .ref (b 26) :: .ref (b 27) :: .ref (b 28) :: .ref (b 29) :: .int 0 :: .ref (b 31) :: .int 0 :: .ref (b 33) :: .long 0 :: .long 0 :: .long 0 :: .ref (b 37) :: .ref (b 38) :: .ref (b 39) :: .ref (b 40) :: [])) :: (b 1, .inl (cy 1, 102, .inl (fun _ => 0))) :: (b 2, .inl (cy 1, 306, .inl (fun _ => 0))) :: (b 3, .inl (cy 3, 3, .inl (fun _ => 0))) :: (b 4, .inl (cy 0, 800, .inl (fun _ => 0))) :: (b 6, .inl (cy 1, 5, .inl (fun _ => 0))) :: (b 14, .inl (cy 1, 102, .inl (fun _ => 0))) :: (b 15, .inl (cy 1, 7, .inl (fun _ => 0))) :: (b 16, .inl (cy 1, 8, .inl (fun _ => 0))) :: (b 20, .inl (cy 1, 7, .inl (fun _ => 0))) :: (b 21, .inl (cy 1, 8, .inl pn)) :: (b 22, .inl (cy 1, 136, .inl (fun _ => 0))) :: (b 23, .inl (cy 1, 119, .inl (fun _ => 0))) :: (b 24, .inl (cy 1, 16, .inl (fun _ => 0))) :: (b 25, .inl (cy 1, 28, .inl (fun _ => 0))) :: (b 26, .inl (cy 1, 8, .inl (fun _ => 0))) :: (b 27, .inl (cy 1, 4, .inl (fun _ => 0))) :: (b 28, .inl (cy 1, 4, .inl (fun _ => 0))) :: (b 29, .inl (cy 1, 7, .inl (fun _ => 0))) :: (b 31, .inl (cy 1, 544, .inl (fun _ => 0))) :: (b 33, .inl (cy 1, 128, .inl (fun _ => 0))) :: (b 37, .inl (cy 1, 4, .inl g)) :: (b 38, .inl (cy 1, 4, .inl (fun _ => 0))) :: (b 39, .inl (cy 2, 240, .inr (.inl (fun _ => 0)))) :: (b 40, .inl (cy 2, 60, .inr (.inl (fun _ => 0)))) :: []) (fun _ => rfl) (fun M g208 F => ?_)
          refine g_aload_n C dX8_row_42 rfl (j := 0) rfl ?_
          refine h_get C F 0 rfl fk_X8_79 dX8_row_43 rfl ?_
          refine g_iload_n C dX8_row_46 rfl (j := 1) rfl ?_
          refine g_iload_n C dX8_row_47 rfl (j := 2) rfl ?_
          refine h_iastX C F 22 rfl dX8_row_48 (vp_in_iff.mpr (by decide)) (flf := fun g => (b 0, .inr (8, .int 0 :: .ref (b 1) :: .ref (b 2) :: .ref (b 3) :: .ref (b 4) :: .int 0 :: .ref (b 6) :: .int 0 :: .int 0 :: .int 0 :: .int 0 :: .int 0 :: .int 0 :: .int (-1) :: .ref (b 14) :: .ref (b 15) :: .ref (b 16) :: .int 0 :: .int 0 :: .int ts :: .ref (b 20) :: .ref (b 21) :: .ref (b 22) :: .ref (b 23) :: .ref (b 24) :: .ref (b 25) :: .ref (b 26) :: .ref (b 27) :: .ref (b 28) :: .ref (b 29) :: .int 0 :: .ref (b 31) :: .int 0 :: .ref (b 33) :: .long 0 :: .long 0 :: .long 0 :: .ref (b 37) :: .ref (b 38) :: .ref (b 39) :: .ref (b 40) :: [])) :: (b 1, .inl (cy 1, 102, .inl (fun _ => 0))) :: (b 2, .inl (cy 1, 306, .inl (fun _ => 0))) :: (b 3, .inl (cy 3, 3, .inl (fun _ => 0))) :: (b 4, .inl (cy 0, 800, .inl (fun _ => 0))) :: (b 6, .inl (cy 1, 5, .inl (fun _ => 0))) :: (b 14, .inl (cy 1, 102, .inl (fun _ => 0))) :: (b 15, .inl (cy 1, 7, .inl (fun _ => 0))) :: (b 16, .inl (cy 1, 8, .inl (fun _ => 0))) :: (b 20, .inl (cy 1, 7, .inl (fun _ => 0))) :: (b 21, .inl (cy 1, 8, .inl pn)) :: (b 22, .inl (cy 1, 136, .inl (fun _ => 0))) :: (b 23, .inl (cy 1, 119, .inl (fun _ => 0))) :: (b 24, .inl (cy 1, 16, .inl (fun _ => 0))) :: (b 25, .inl (cy 1, 28, .inl (fun _ => 0))) :: (b 26, .inl (cy 1, 8, .inl (fun _ => 0))) :: (b 27, .inl (cy 1, 4, .inl (fun _ => 0))) :: (b 28, .inl (cy 1, 4, .inl (fun _ => 0))) :: (b 29, .inl (cy 1, 7, .inl (fun _ => 0))) :: (b 31, .inl (cy 1, 544, .inl (fun _ => 0))) :: (b 33, .inl (cy 1, 128, .inl (fun _ => 0))) :: (b 37, .inl (cy 1, 4, .inl g208)) :: (b 38, .inl (cy 1, 4, .inl g)) :: (b 39, .inl (cy 2, 240, .inr (.inl (fun _ => 0)))) :: (b 40, .inl (cy 2, 60, .inr (.inl (fun _ => 0)))) :: []) (fun _ => rfl) (fun M g209 F => ?_)
          refine g_iconst C dX8_row_49 (v := 0) (by decide) ?_
          refine g_istore C dX8_row_50 (by decide) (lv2 := [(4, .int 0), (0, .ref (b 0)), (1, .int 1), (2, .int 3), (3, .int p2)]) rfl ?_
          refine g_lv [0, 1, 2, 3, 4] (lv2 := [(4, .int 0), (0, .ref (b 0)), (1, .int 1), (2, .int 3), (3, .int p2)]) rfl ?_
          refine g_loop 60 (lvf := fun i52 => [(4, .int (nI i52)), (0, .ref (b 0)), (1, .int 1), (2, .int 3), (3, .int p2)]) (fun i52 M F hii52 ihi52 => ?_) (fun M F => ?_) F
          · skip
            refine g_iload C dX8_row_52 (j := 0) rfl ?_
            refine g_bipush C dX8_row_54 (v := 60) (by decide) ?_
            refine g_icmp_ge C dX8_row_56 (tgt := 78) (by decide) (fun q => absurd q (nI_ge hii52 (by decide))) (fun _ => ?_)
            refine g_aload_n C dX8_row_59 rfl (j := 1) rfl ?_
            refine h_get C F 0 rfl fk_X8_82 dX8_row_60 rfl ?_
            refine g_bipush C dX8_row_63 (v := 60) (by decide) ?_
            refine g_iload_n C dX8_row_65 rfl (j := 2) rfl ?_
            refine g_imul C dX8_row_66 ?_
            refine Go.top (v := .int 60) (by decide) ?_
            refine g_iload C dX8_row_67 (j := 0) rfl ?_
            refine g_iadd C dX8_row_69 ?_
            refine Go.top (v := .int (nI (60 + i52))) (congrArg Value.int (nI_add 60 i52)) ?_
            refine g_lconst C dX8_row_70 (v := 0) (by decide) ?_
            refine h_last C F 23 rfl dX8_row_71 (vp_in_nI (by omega) (by decide)) (g := (fun _ => 0)) (updL0 _) (fl2 := (b 0, .inr (8, .int 0 :: .ref (b 1) :: .ref (b 2) :: .ref (b 3) :: .ref (b 4) :: .int 0 :: .ref (b 6) :: .int 0 :: .int 0 :: .int 0 :: .int 0 :: .int 0 :: .int 0 :: .int (-1) :: .ref (b 14) :: .ref (b 15) :: .ref (b 16) :: .int 0 :: .int 0 :: .int ts :: .ref (b 20) :: .ref (b 21) :: .ref (b 22) :: .ref (b 23) :: .ref (b 24) :: .ref (b 25) :: .ref (b 26) :: .ref (b 27) :: .ref (b 28) :: .ref (b 29) :: .int 0 :: .ref (b 31) :: .int 0 :: .ref (b 33) :: .long 0 :: .long 0 :: .long 0 :: .ref (b 37) :: .ref (b 38) :: .ref (b 39) :: .ref (b 40) :: [])) :: (b 1, .inl (cy 1, 102, .inl (fun _ => 0))) :: (b 2, .inl (cy 1, 306, .inl (fun _ => 0))) :: (b 3, .inl (cy 3, 3, .inl (fun _ => 0))) :: (b 4, .inl (cy 0, 800, .inl (fun _ => 0))) :: (b 6, .inl (cy 1, 5, .inl (fun _ => 0))) :: (b 14, .inl (cy 1, 102, .inl (fun _ => 0))) :: (b 15, .inl (cy 1, 7, .inl (fun _ => 0))) :: (b 16, .inl (cy 1, 8, .inl (fun _ => 0))) :: (b 20, .inl (cy 1, 7, .inl (fun _ => 0))) :: (b 21, .inl (cy 1, 8, .inl pn)) :: (b 22, .inl (cy 1, 136, .inl (fun _ => 0))) :: (b 23, .inl (cy 1, 119, .inl (fun _ => 0))) :: (b 24, .inl (cy 1, 16, .inl (fun _ => 0))) :: (b 25, .inl (cy 1, 28, .inl (fun _ => 0))) :: (b 26, .inl (cy 1, 8, .inl (fun _ => 0))) :: (b 27, .inl (cy 1, 4, .inl (fun _ => 0))) :: (b 28, .inl (cy 1, 4, .inl (fun _ => 0))) :: (b 29, .inl (cy 1, 7, .inl (fun _ => 0))) :: (b 31, .inl (cy 1, 544, .inl (fun _ => 0))) :: (b 33, .inl (cy 1, 128, .inl (fun _ => 0))) :: (b 37, .inl (cy 1, 4, .inl g208)) :: (b 38, .inl (cy 1, 4, .inl g209)) :: (b 39, .inl (cy 2, 240, .inr (.inl (fun _ => 0)))) :: (b 40, .inl (cy 2, 60, .inr (.inl (fun _ => 0)))) :: []) rfl (fun M F => ?_)
            refine g_iinc C dX8_row_72 (j := 0) rfl (v := nI (i52 + 1)) (nI_1 i52) (by decide) (lv2 := [(4, .int (nI (i52 + 1))), (0, .ref (b 0)), (1, .int 1), (2, .int 3), (3, .int p2)]) rfl ?_
            refine g_goto C dX8_row_75 (tgt := 52) (by decide) ?_
            exact ihi52 M F
          · skip
            refine g_lv [0, 1, 2, 3, 4] (lv2 := [(4, .int 60), (0, .ref (b 0)), (1, .int 1), (2, .int 3), (3, .int p2)]) rfl ?_
            refine g_iload C dX8_row_52 (j := 0) rfl ?_
            refine g_bipush C dX8_row_54 (v := 60) (by decide) ?_
            refine g_icmp_ge C dX8_row_56 (tgt := 78) (by decide) (fun _ => ?_) (fun q => absurd (by decide) q)
            refine g_iconst C dX8_row_78 (v := 0) (by decide) ?_
            exact g_iret C hrt dX8_row_79 (by decide) (by decide) (by have a1 : p2.toInt ≤ (60 : Int32).toInt := Int32.le_iff_toInt_le.mp q61; have a2 : (0 : Int32).toInt ≤ p2.toInt := Int32.le_iff_toInt_le.mp q62; have k2 : (0 : Int32).toInt = 0 := (by decide); have k3 : (1 : Int32).toInt = 1 := (by decide); have k4 : (3 : Int32).toInt = 3 := (by decide); have k5 : (60 : Int32).toInt = 60 := (by decide); unfold sp_row; repeat (first | rfl | (split) | (exfalso; omega)))
        · skip
          refine g_bipush C dX8_row_32 (v := -3) (by decide) ?_
          exact g_iret C hrt dX8_row_34 (by decide) (by decide) (by have a1 : p2.toInt ≤ (60 : Int32).toInt := Int32.le_iff_toInt_le.mp q61; have a2 : ¬ (0 : Int32).toInt ≤ p2.toInt := fun z => q62 (Int32.le_iff_toInt_le.mpr z); have k2 : (0 : Int32).toInt = 0 := (by decide); have k3 : (1 : Int32).toInt = 1 := (by decide); have k4 : (3 : Int32).toInt = 3 := (by decide); have k5 : (60 : Int32).toInt = 60 := (by decide); unfold sp_row; repeat (first | rfl | (split) | (exfalso; omega)))
      · skip
        refine g_bipush C dX8_row_25 (v := -2) (by decide) ?_
        exact g_iret C hrt dX8_row_27 (by decide) (by decide) (by have a1 : ¬ p2.toInt ≤ (60 : Int32).toInt := fun z => q61 (Int32.le_iff_toInt_le.mpr z); have k1 : (1 : Int32).toInt = 1 := (by decide); have k2 : (3 : Int32).toInt = 3 := (by decide); have k3 : (60 : Int32).toInt = 60 := (by decide); unfold sp_row; repeat (first | rfl | (split) | (exfalso; omega)))
  · skip
    rcases sc4 p1 with h63 | h64 | rfl | rfl | rfl | rfl
    · skip
      refine g_iload_n C dX8_row_0 rfl (j := 1) rfl ?_
      refine g_callSI C (c_X8_isSlot l G F 2) lk_X8_394 rfl rfl dX8_row_1 (Nat.le_of_ble_eq_true rfl) ⟨by decide, by decide⟩ ⟨by decide, by decide⟩ (fun r65 L M hp => ?_)
      obtain ⟨r65_, F⟩ := hp
      obtain rfl : r65 = 1 := by
        rcases r65_ with ⟨z, z1⟩ | ⟨z, z1⟩
        · exact z
        · exact absurd (by decide) z1
      refine g_if_eq C dX8_row_4 (tgt := 25) (by decide) (fun q => absurd q (by decide)) (fun _ => ?_)
      refine g_iload_n C dX8_row_7 rfl (j := 2) rfl ?_
      refine g_i2l C dX8_row_8 (v := p1.toInt64) rfl ?_
      refine g_lconst C dX8_row_9 (v := 0) (by decide) ?_
      refine g_ldc2 C (v := 3) wd235 dX8_row_10 ?_
      refine g_callSI C (c_X8_in l G F (p1.toInt64) (0) (3)) lk_X8_94 rfl rfl dX8_row_13 (Nat.le_of_ble_eq_true rfl) ⟨by decide, by decide⟩ ⟨by decide, by decide⟩ (fun r66 L M hp => ?_)
      obtain ⟨r66_, F⟩ := hp
      obtain rfl : r66 = 0 := by
        rcases r66_ with ⟨-, z1, z2⟩ | ⟨z, -⟩
        · exfalso; have a1 : p1.toInt < (0 : Int32).toInt := Int32.lt_iff_toInt_lt.mp h63; have k1 : (0 : Int32).toInt = 0 := (by decide); have k2 : (2 : Int32).toInt = 2 := (by decide); have j1 : (0 : Int64).toInt = 0 := (by decide); have j2 : (3 : Int64).toInt = 3 := (by decide); have b1 := Int64.le_iff_toInt_le.mp z1; have b2 := Int64.le_iff_toInt_le.mp z2; rw [Int32.toInt_toInt64] at b1 b2; omega
        · exact z
      refine g_if_eq C dX8_row_16 (tgt := 25) (by decide) (fun _ => ?_) (fun q => absurd (by decide) q)
      refine g_bipush C dX8_row_25 (v := -2) (by decide) ?_
      exact g_iret C hrt dX8_row_27 (by decide) (by decide) (by have a1 : p1.toInt < (0 : Int32).toInt := Int32.lt_iff_toInt_lt.mp h63; have k1 : (0 : Int32).toInt = 0 := (by decide); have k2 : (2 : Int32).toInt = 2 := (by decide); unfold sp_row; repeat (first | rfl | (split) | (exfalso; omega)))
    · skip
      refine g_iload_n C dX8_row_0 rfl (j := 1) rfl ?_
      refine g_callSI C (c_X8_isSlot l G F 2) lk_X8_394 rfl rfl dX8_row_1 (Nat.le_of_ble_eq_true rfl) ⟨by decide, by decide⟩ ⟨by decide, by decide⟩ (fun r67 L M hp => ?_)
      obtain ⟨r67_, F⟩ := hp
      obtain rfl : r67 = 1 := by
        rcases r67_ with ⟨z, z1⟩ | ⟨z, z1⟩
        · exact z
        · exact absurd (by decide) z1
      refine g_if_eq C dX8_row_4 (tgt := 25) (by decide) (fun q => absurd q (by decide)) (fun _ => ?_)
      refine g_iload_n C dX8_row_7 rfl (j := 2) rfl ?_
      refine g_i2l C dX8_row_8 (v := p1.toInt64) rfl ?_
      refine g_lconst C dX8_row_9 (v := 0) (by decide) ?_
      refine g_ldc2 C (v := 3) wd235 dX8_row_10 ?_
      refine g_callSI C (c_X8_in l G F (p1.toInt64) (0) (3)) lk_X8_94 rfl rfl dX8_row_13 (Nat.le_of_ble_eq_true rfl) ⟨by decide, by decide⟩ ⟨by decide, by decide⟩ (fun r68 L M hp => ?_)
      obtain ⟨r68_, F⟩ := hp
      obtain rfl : r68 = 0 := by
        rcases r68_ with ⟨-, z1, z2⟩ | ⟨z, -⟩
        · exfalso; have a1 : (4 : Int32).toInt ≤ p1.toInt := Int32.le_iff_toInt_le.mp h64; have k1 : (2 : Int32).toInt = 2 := (by decide); have k2 : (4 : Int32).toInt = 4 := (by decide); have j1 : (0 : Int64).toInt = 0 := (by decide); have j2 : (3 : Int64).toInt = 3 := (by decide); have b1 := Int64.le_iff_toInt_le.mp z1; have b2 := Int64.le_iff_toInt_le.mp z2; rw [Int32.toInt_toInt64] at b1 b2; omega
        · exact z
      refine g_if_eq C dX8_row_16 (tgt := 25) (by decide) (fun _ => ?_) (fun q => absurd (by decide) q)
      refine g_bipush C dX8_row_25 (v := -2) (by decide) ?_
      exact g_iret C hrt dX8_row_27 (by decide) (by decide) (by have a1 : (4 : Int32).toInt ≤ p1.toInt := Int32.le_iff_toInt_le.mp h64; have k1 : (2 : Int32).toInt = 2 := (by decide); have k2 : (4 : Int32).toInt = 4 := (by decide); unfold sp_row; repeat (first | rfl | (split) | (exfalso; omega)))
    · skip
      refine g_iload_n C dX8_row_0 rfl (j := 1) rfl ?_
      refine g_callSI C (c_X8_isSlot l G F 2) lk_X8_394 rfl rfl dX8_row_1 (Nat.le_of_ble_eq_true rfl) ⟨by decide, by decide⟩ ⟨by decide, by decide⟩ (fun r69 L M hp => ?_)
      obtain ⟨r69_, F⟩ := hp
      obtain rfl : r69 = 1 := by
        rcases r69_ with ⟨z, z1⟩ | ⟨z, z1⟩
        · exact z
        · exact absurd (by decide) z1
      refine g_if_eq C dX8_row_4 (tgt := 25) (by decide) (fun q => absurd q (by decide)) (fun _ => ?_)
      refine g_iload_n C dX8_row_7 rfl (j := 2) rfl ?_
      refine g_i2l C dX8_row_8 (v := 0) (by decide) ?_
      refine g_lconst C dX8_row_9 (v := 0) (by decide) ?_
      refine g_ldc2 C (v := 3) wd235 dX8_row_10 ?_
      refine g_callSI C (c_X8_in l G F (0) (0) (3)) lk_X8_94 rfl rfl dX8_row_13 (Nat.le_of_ble_eq_true rfl) ⟨by decide, by decide⟩ ⟨by decide, by decide⟩ (fun r70 L M hp => ?_)
      obtain ⟨r70_, F⟩ := hp
      obtain rfl : r70 = 1 := by
        rcases r70_ with ⟨z, z1⟩ | ⟨z, z1⟩
        · exact z
        · exact absurd (by decide) z1
      refine g_if_eq C dX8_row_16 (tgt := 25) (by decide) (fun q => absurd q (by decide)) (fun _ => ?_)
      refine g_iload_n C dX8_row_19 rfl (j := 3) rfl ?_
      refine g_bipush C dX8_row_20 (v := 60) (by decide) ?_
      refine g_icmp_le C dX8_row_22 (tgt := 28) (by decide) (fun q71 => ?_) (fun q71 => ?_)
      · skip
        refine g_iload_n C dX8_row_28 rfl (j := 3) rfl ?_
        refine g_if_ge C dX8_row_29 (tgt := 35) (by decide) (fun q72 => ?_) (fun q72 => ?_)
        · skip
          refine g_aload_n C dX8_row_35 rfl (j := 0) rfl ?_
          refine h_get C F 0 rfl fk_X8_76 dX8_row_36 rfl ?_
          refine g_iload_n C dX8_row_39 rfl (j := 1) rfl ?_
          refine g_iload_n C dX8_row_40 rfl (j := 3) rfl ?_
          refine h_iastX C F 21 rfl dX8_row_41 (vp_in_iff.mpr (by decide)) (flf := fun g => (b 0, .inr (8, .int 0 :: .ref (b 1) :: .ref (b 2) :: .ref (b 3) :: .ref (b 4) :: .int 0 :: .ref (b 6) :: .int 0 :: .int 0 :: .int 0 :: .int 0 :: .int 0 :: .int 0 :: .int (-1) :: .ref (b 14) :: .ref (b 15) :: .ref (b 16) :: .int 0 :: .int 0 :: .int ts :: .ref (b 20) :: .ref (b 21) :: .ref (b 22) :: .ref (b 23) :: .ref (b 24) :: .ref (b 25) :: .ref (b 26) :: .ref (b 27) :: .ref (b 28) :: .ref (b 29) :: .int 0 :: .ref (b 31) :: .int 0 :: .ref (b 33) :: .long 0 :: .long 0 :: .long 0 :: .ref (b 37) :: .ref (b 38) :: .ref (b 39) :: .ref (b 40) :: [])) :: (b 1, .inl (cy 1, 102, .inl (fun _ => 0))) :: (b 2, .inl (cy 1, 306, .inl (fun _ => 0))) :: (b 3, .inl (cy 3, 3, .inl (fun _ => 0))) :: (b 4, .inl (cy 0, 800, .inl (fun _ => 0))) :: (b 6, .inl (cy 1, 5, .inl (fun _ => 0))) :: (b 14, .inl (cy 1, 102, .inl (fun _ => 0))) :: (b 15, .inl (cy 1, 7, .inl (fun _ => 0))) :: (b 16, .inl (cy 1, 8, .inl (fun _ => 0))) :: (b 20, .inl (cy 1, 7, .inl (fun _ => 0))) :: (b 21, .inl (cy 1, 8, .inl pn)) :: (b 22, .inl (cy 1, 136, .inl (fun _ => 0))) :: (b 23, .inl (cy 1, 119, .inl (fun _ => 0))) :: (b 24, .inl (cy 1, 16, .inl (fun _ => 0))) :: (b 25, .inl (cy 1, 28, .inl (fun _ => 0))) :: (b 26, .inl (cy 1, 8, .inl (fun _ => 0))) :: (b 27, .inl (cy 1, 4, .inl (fun _ => 0))) :: (b 28, .inl (cy 1, 4, .inl (fun _ => 0))) :: (b 29, .inl (cy 1, 7, .inl (fun _ => 0))) :: (b 31, .inl (cy 1, 544, .inl (fun _ => 0))) :: (b 33, .inl (cy 1, 128, .inl (fun _ => 0))) :: (b 37, .inl (cy 1, 4, .inl g)) :: (b 38, .inl (cy 1, 4, .inl (fun _ => 0))) :: (b 39, .inl (cy 2, 240, .inr (.inl (fun _ => 0)))) :: (b 40, .inl (cy 2, 60, .inr (.inl (fun _ => 0)))) :: []) (fun _ => rfl) (fun M g210 F => ?_)
          refine g_aload_n C dX8_row_42 rfl (j := 0) rfl ?_
          refine h_get C F 0 rfl fk_X8_79 dX8_row_43 rfl ?_
          refine g_iload_n C dX8_row_46 rfl (j := 1) rfl ?_
          refine g_iload_n C dX8_row_47 rfl (j := 2) rfl ?_
          refine h_iast C F 22 rfl dX8_row_48 (vp_in_iff.mpr (by decide)) (g := (fun _ => 0)) (upd0 _) (fl2 := (b 0, .inr (8, .int 0 :: .ref (b 1) :: .ref (b 2) :: .ref (b 3) :: .ref (b 4) :: .int 0 :: .ref (b 6) :: .int 0 :: .int 0 :: .int 0 :: .int 0 :: .int 0 :: .int 0 :: .int (-1) :: .ref (b 14) :: .ref (b 15) :: .ref (b 16) :: .int 0 :: .int 0 :: .int ts :: .ref (b 20) :: .ref (b 21) :: .ref (b 22) :: .ref (b 23) :: .ref (b 24) :: .ref (b 25) :: .ref (b 26) :: .ref (b 27) :: .ref (b 28) :: .ref (b 29) :: .int 0 :: .ref (b 31) :: .int 0 :: .ref (b 33) :: .long 0 :: .long 0 :: .long 0 :: .ref (b 37) :: .ref (b 38) :: .ref (b 39) :: .ref (b 40) :: [])) :: (b 1, .inl (cy 1, 102, .inl (fun _ => 0))) :: (b 2, .inl (cy 1, 306, .inl (fun _ => 0))) :: (b 3, .inl (cy 3, 3, .inl (fun _ => 0))) :: (b 4, .inl (cy 0, 800, .inl (fun _ => 0))) :: (b 6, .inl (cy 1, 5, .inl (fun _ => 0))) :: (b 14, .inl (cy 1, 102, .inl (fun _ => 0))) :: (b 15, .inl (cy 1, 7, .inl (fun _ => 0))) :: (b 16, .inl (cy 1, 8, .inl (fun _ => 0))) :: (b 20, .inl (cy 1, 7, .inl (fun _ => 0))) :: (b 21, .inl (cy 1, 8, .inl pn)) :: (b 22, .inl (cy 1, 136, .inl (fun _ => 0))) :: (b 23, .inl (cy 1, 119, .inl (fun _ => 0))) :: (b 24, .inl (cy 1, 16, .inl (fun _ => 0))) :: (b 25, .inl (cy 1, 28, .inl (fun _ => 0))) :: (b 26, .inl (cy 1, 8, .inl (fun _ => 0))) :: (b 27, .inl (cy 1, 4, .inl (fun _ => 0))) :: (b 28, .inl (cy 1, 4, .inl (fun _ => 0))) :: (b 29, .inl (cy 1, 7, .inl (fun _ => 0))) :: (b 31, .inl (cy 1, 544, .inl (fun _ => 0))) :: (b 33, .inl (cy 1, 128, .inl (fun _ => 0))) :: (b 37, .inl (cy 1, 4, .inl g210)) :: (b 38, .inl (cy 1, 4, .inl (fun _ => 0))) :: (b 39, .inl (cy 2, 240, .inr (.inl (fun _ => 0)))) :: (b 40, .inl (cy 2, 60, .inr (.inl (fun _ => 0)))) :: []) rfl (fun M F => ?_)
          refine g_iconst C dX8_row_49 (v := 0) (by decide) ?_
          refine g_istore C dX8_row_50 (by decide) (lv2 := [(4, .int 0), (0, .ref (b 0)), (1, .int 2), (2, .int 0), (3, .int p2)]) rfl ?_
          refine g_lv [0, 1, 2, 3, 4] (lv2 := [(4, .int 0), (0, .ref (b 0)), (1, .int 2), (2, .int 0), (3, .int p2)]) rfl ?_
          refine g_loop 60 (lvf := fun i52 => [(4, .int (nI i52)), (0, .ref (b 0)), (1, .int 2), (2, .int 0), (3, .int p2)]) (fun i52 M F hii52 ihi52 => ?_) (fun M F => ?_) F
          · skip
            refine g_iload C dX8_row_52 (j := 0) rfl ?_
            refine g_bipush C dX8_row_54 (v := 60) (by decide) ?_
            refine g_icmp_ge C dX8_row_56 (tgt := 78) (by decide) (fun q => absurd q (nI_ge hii52 (by decide))) (fun _ => ?_)
            refine g_aload_n C dX8_row_59 rfl (j := 1) rfl ?_
            refine h_get C F 0 rfl fk_X8_82 dX8_row_60 rfl ?_
            refine g_bipush C dX8_row_63 (v := 60) (by decide) ?_
            refine g_iload_n C dX8_row_65 rfl (j := 2) rfl ?_
            refine g_imul C dX8_row_66 ?_
            refine Go.top (v := .int 120) (by decide) ?_
            refine g_iload C dX8_row_67 (j := 0) rfl ?_
            refine g_iadd C dX8_row_69 ?_
            refine Go.top (v := .int (nI (120 + i52))) (congrArg Value.int (nI_add 120 i52)) ?_
            refine g_lconst C dX8_row_70 (v := 0) (by decide) ?_
            refine h_last C F 23 rfl dX8_row_71 (vp_in_nI (by omega) (by decide)) (g := (fun _ => 0)) (updL0 _) (fl2 := (b 0, .inr (8, .int 0 :: .ref (b 1) :: .ref (b 2) :: .ref (b 3) :: .ref (b 4) :: .int 0 :: .ref (b 6) :: .int 0 :: .int 0 :: .int 0 :: .int 0 :: .int 0 :: .int 0 :: .int (-1) :: .ref (b 14) :: .ref (b 15) :: .ref (b 16) :: .int 0 :: .int 0 :: .int ts :: .ref (b 20) :: .ref (b 21) :: .ref (b 22) :: .ref (b 23) :: .ref (b 24) :: .ref (b 25) :: .ref (b 26) :: .ref (b 27) :: .ref (b 28) :: .ref (b 29) :: .int 0 :: .ref (b 31) :: .int 0 :: .ref (b 33) :: .long 0 :: .long 0 :: .long 0 :: .ref (b 37) :: .ref (b 38) :: .ref (b 39) :: .ref (b 40) :: [])) :: (b 1, .inl (cy 1, 102, .inl (fun _ => 0))) :: (b 2, .inl (cy 1, 306, .inl (fun _ => 0))) :: (b 3, .inl (cy 3, 3, .inl (fun _ => 0))) :: (b 4, .inl (cy 0, 800, .inl (fun _ => 0))) :: (b 6, .inl (cy 1, 5, .inl (fun _ => 0))) :: (b 14, .inl (cy 1, 102, .inl (fun _ => 0))) :: (b 15, .inl (cy 1, 7, .inl (fun _ => 0))) :: (b 16, .inl (cy 1, 8, .inl (fun _ => 0))) :: (b 20, .inl (cy 1, 7, .inl (fun _ => 0))) :: (b 21, .inl (cy 1, 8, .inl pn)) :: (b 22, .inl (cy 1, 136, .inl (fun _ => 0))) :: (b 23, .inl (cy 1, 119, .inl (fun _ => 0))) :: (b 24, .inl (cy 1, 16, .inl (fun _ => 0))) :: (b 25, .inl (cy 1, 28, .inl (fun _ => 0))) :: (b 26, .inl (cy 1, 8, .inl (fun _ => 0))) :: (b 27, .inl (cy 1, 4, .inl (fun _ => 0))) :: (b 28, .inl (cy 1, 4, .inl (fun _ => 0))) :: (b 29, .inl (cy 1, 7, .inl (fun _ => 0))) :: (b 31, .inl (cy 1, 544, .inl (fun _ => 0))) :: (b 33, .inl (cy 1, 128, .inl (fun _ => 0))) :: (b 37, .inl (cy 1, 4, .inl g210)) :: (b 38, .inl (cy 1, 4, .inl (fun _ => 0))) :: (b 39, .inl (cy 2, 240, .inr (.inl (fun _ => 0)))) :: (b 40, .inl (cy 2, 60, .inr (.inl (fun _ => 0)))) :: []) rfl (fun M F => ?_)
            refine g_iinc C dX8_row_72 (j := 0) rfl (v := nI (i52 + 1)) (nI_1 i52) (by decide) (lv2 := [(4, .int (nI (i52 + 1))), (0, .ref (b 0)), (1, .int 2), (2, .int 0), (3, .int p2)]) rfl ?_
            refine g_goto C dX8_row_75 (tgt := 52) (by decide) ?_
            exact ihi52 M F
          · skip
            refine g_lv [0, 1, 2, 3, 4] (lv2 := [(4, .int 60), (0, .ref (b 0)), (1, .int 2), (2, .int 0), (3, .int p2)]) rfl ?_
            refine g_iload C dX8_row_52 (j := 0) rfl ?_
            refine g_bipush C dX8_row_54 (v := 60) (by decide) ?_
            refine g_icmp_ge C dX8_row_56 (tgt := 78) (by decide) (fun _ => ?_) (fun q => absurd (by decide) q)
            refine g_iconst C dX8_row_78 (v := 0) (by decide) ?_
            exact g_iret C hrt dX8_row_79 (by decide) (by decide) (by have a1 : p2.toInt ≤ (60 : Int32).toInt := Int32.le_iff_toInt_le.mp q71; have a2 : (0 : Int32).toInt ≤ p2.toInt := Int32.le_iff_toInt_le.mp q72; have k2 : (0 : Int32).toInt = 0 := (by decide); have k3 : (2 : Int32).toInt = 2 := (by decide); have k4 : (60 : Int32).toInt = 60 := (by decide); unfold sp_row; repeat (first | rfl | (split) | (exfalso; omega)))
        · skip
          refine g_bipush C dX8_row_32 (v := -3) (by decide) ?_
          exact g_iret C hrt dX8_row_34 (by decide) (by decide) (by have a1 : p2.toInt ≤ (60 : Int32).toInt := Int32.le_iff_toInt_le.mp q71; have a2 : ¬ (0 : Int32).toInt ≤ p2.toInt := fun z => q72 (Int32.le_iff_toInt_le.mpr z); have k2 : (0 : Int32).toInt = 0 := (by decide); have k3 : (2 : Int32).toInt = 2 := (by decide); have k4 : (60 : Int32).toInt = 60 := (by decide); unfold sp_row; repeat (first | rfl | (split) | (exfalso; omega)))
      · skip
        refine g_bipush C dX8_row_25 (v := -2) (by decide) ?_
        exact g_iret C hrt dX8_row_27 (by decide) (by decide) (by have a1 : ¬ p2.toInt ≤ (60 : Int32).toInt := fun z => q71 (Int32.le_iff_toInt_le.mpr z); have k1 : (0 : Int32).toInt = 0 := (by decide); have k2 : (2 : Int32).toInt = 2 := (by decide); have k3 : (60 : Int32).toInt = 60 := (by decide); unfold sp_row; repeat (first | rfl | (split) | (exfalso; omega)))
    · skip
      refine g_iload_n C dX8_row_0 rfl (j := 1) rfl ?_
      refine g_callSI C (c_X8_isSlot l G F 2) lk_X8_394 rfl rfl dX8_row_1 (Nat.le_of_ble_eq_true rfl) ⟨by decide, by decide⟩ ⟨by decide, by decide⟩ (fun r73 L M hp => ?_)
      obtain ⟨r73_, F⟩ := hp
      obtain rfl : r73 = 1 := by
        rcases r73_ with ⟨z, z1⟩ | ⟨z, z1⟩
        · exact z
        · exact absurd (by decide) z1
      refine g_if_eq C dX8_row_4 (tgt := 25) (by decide) (fun q => absurd q (by decide)) (fun _ => ?_)
      refine g_iload_n C dX8_row_7 rfl (j := 2) rfl ?_
      refine g_i2l C dX8_row_8 (v := 1) (by decide) ?_
      refine g_lconst C dX8_row_9 (v := 0) (by decide) ?_
      refine g_ldc2 C (v := 3) wd235 dX8_row_10 ?_
      refine g_callSI C (c_X8_in l G F (1) (0) (3)) lk_X8_94 rfl rfl dX8_row_13 (Nat.le_of_ble_eq_true rfl) ⟨by decide, by decide⟩ ⟨by decide, by decide⟩ (fun r74 L M hp => ?_)
      obtain ⟨r74_, F⟩ := hp
      obtain rfl : r74 = 1 := by
        rcases r74_ with ⟨z, z1⟩ | ⟨z, z1⟩
        · exact z
        · exact absurd (by decide) z1
      refine g_if_eq C dX8_row_16 (tgt := 25) (by decide) (fun q => absurd q (by decide)) (fun _ => ?_)
      refine g_iload_n C dX8_row_19 rfl (j := 3) rfl ?_
      refine g_bipush C dX8_row_20 (v := 60) (by decide) ?_
      refine g_icmp_le C dX8_row_22 (tgt := 28) (by decide) (fun q75 => ?_) (fun q75 => ?_)
      · skip
        refine g_iload_n C dX8_row_28 rfl (j := 3) rfl ?_
        refine g_if_ge C dX8_row_29 (tgt := 35) (by decide) (fun q76 => ?_) (fun q76 => ?_)
        · skip
          refine g_aload_n C dX8_row_35 rfl (j := 0) rfl ?_
          refine h_get C F 0 rfl fk_X8_76 dX8_row_36 rfl ?_
          refine g_iload_n C dX8_row_39 rfl (j := 1) rfl ?_
          refine g_iload_n C dX8_row_40 rfl (j := 3) rfl ?_
          refine h_iastX C F 21 rfl dX8_row_41 (vp_in_iff.mpr (by decide)) (flf := fun g => (b 0, .inr (8, .int 0 :: .ref (b 1) :: .ref (b 2) :: .ref (b 3) :: .ref (b 4) :: .int 0 :: .ref (b 6) :: .int 0 :: .int 0 :: .int 0 :: .int 0 :: .int 0 :: .int 0 :: .int (-1) :: .ref (b 14) :: .ref (b 15) :: .ref (b 16) :: .int 0 :: .int 0 :: .int ts :: .ref (b 20) :: .ref (b 21) :: .ref (b 22) :: .ref (b 23) :: .ref (b 24) :: .ref (b 25) :: .ref (b 26) :: .ref (b 27) :: .ref (b 28) :: .ref (b 29) :: .int 0 :: .ref (b 31) :: .int 0 :: .ref (b 33) :: .long 0 :: .long 0 :: .long 0 :: .ref (b 37) :: .ref (b 38) :: .ref (b 39) :: .ref (b 40) :: [])) :: (b 1, .inl (cy 1, 102, .inl (fun _ => 0))) :: (b 2, .inl (cy 1, 306, .inl (fun _ => 0))) :: (b 3, .inl (cy 3, 3, .inl (fun _ => 0))) :: (b 4, .inl (cy 0, 800, .inl (fun _ => 0))) :: (b 6, .inl (cy 1, 5, .inl (fun _ => 0))) :: (b 14, .inl (cy 1, 102, .inl (fun _ => 0))) :: (b 15, .inl (cy 1, 7, .inl (fun _ => 0))) :: (b 16, .inl (cy 1, 8, .inl (fun _ => 0))) :: (b 20, .inl (cy 1, 7, .inl (fun _ => 0))) :: (b 21, .inl (cy 1, 8, .inl pn)) :: (b 22, .inl (cy 1, 136, .inl (fun _ => 0))) :: (b 23, .inl (cy 1, 119, .inl (fun _ => 0))) :: (b 24, .inl (cy 1, 16, .inl (fun _ => 0))) :: (b 25, .inl (cy 1, 28, .inl (fun _ => 0))) :: (b 26, .inl (cy 1, 8, .inl (fun _ => 0))) :: (b 27, .inl (cy 1, 4, .inl (fun _ => 0))) :: (b 28, .inl (cy 1, 4, .inl (fun _ => 0))) :: (b 29, .inl (cy 1, 7, .inl (fun _ => 0))) :: (b 31, .inl (cy 1, 544, .inl (fun _ => 0))) :: (b 33, .inl (cy 1, 128, .inl (fun _ => 0))) :: (b 37, .inl (cy 1, 4, .inl g)) :: (b 38, .inl (cy 1, 4, .inl (fun _ => 0))) :: (b 39, .inl (cy 2, 240, .inr (.inl (fun _ => 0)))) :: (b 40, .inl (cy 2, 60, .inr (.inl (fun _ => 0)))) :: []) (fun _ => rfl) (fun M g211 F => ?_)
          refine g_aload_n C dX8_row_42 rfl (j := 0) rfl ?_
          refine h_get C F 0 rfl fk_X8_79 dX8_row_43 rfl ?_
          refine g_iload_n C dX8_row_46 rfl (j := 1) rfl ?_
          refine g_iload_n C dX8_row_47 rfl (j := 2) rfl ?_
          refine h_iastX C F 22 rfl dX8_row_48 (vp_in_iff.mpr (by decide)) (flf := fun g => (b 0, .inr (8, .int 0 :: .ref (b 1) :: .ref (b 2) :: .ref (b 3) :: .ref (b 4) :: .int 0 :: .ref (b 6) :: .int 0 :: .int 0 :: .int 0 :: .int 0 :: .int 0 :: .int 0 :: .int (-1) :: .ref (b 14) :: .ref (b 15) :: .ref (b 16) :: .int 0 :: .int 0 :: .int ts :: .ref (b 20) :: .ref (b 21) :: .ref (b 22) :: .ref (b 23) :: .ref (b 24) :: .ref (b 25) :: .ref (b 26) :: .ref (b 27) :: .ref (b 28) :: .ref (b 29) :: .int 0 :: .ref (b 31) :: .int 0 :: .ref (b 33) :: .long 0 :: .long 0 :: .long 0 :: .ref (b 37) :: .ref (b 38) :: .ref (b 39) :: .ref (b 40) :: [])) :: (b 1, .inl (cy 1, 102, .inl (fun _ => 0))) :: (b 2, .inl (cy 1, 306, .inl (fun _ => 0))) :: (b 3, .inl (cy 3, 3, .inl (fun _ => 0))) :: (b 4, .inl (cy 0, 800, .inl (fun _ => 0))) :: (b 6, .inl (cy 1, 5, .inl (fun _ => 0))) :: (b 14, .inl (cy 1, 102, .inl (fun _ => 0))) :: (b 15, .inl (cy 1, 7, .inl (fun _ => 0))) :: (b 16, .inl (cy 1, 8, .inl (fun _ => 0))) :: (b 20, .inl (cy 1, 7, .inl (fun _ => 0))) :: (b 21, .inl (cy 1, 8, .inl pn)) :: (b 22, .inl (cy 1, 136, .inl (fun _ => 0))) :: (b 23, .inl (cy 1, 119, .inl (fun _ => 0))) :: (b 24, .inl (cy 1, 16, .inl (fun _ => 0))) :: (b 25, .inl (cy 1, 28, .inl (fun _ => 0))) :: (b 26, .inl (cy 1, 8, .inl (fun _ => 0))) :: (b 27, .inl (cy 1, 4, .inl (fun _ => 0))) :: (b 28, .inl (cy 1, 4, .inl (fun _ => 0))) :: (b 29, .inl (cy 1, 7, .inl (fun _ => 0))) :: (b 31, .inl (cy 1, 544, .inl (fun _ => 0))) :: (b 33, .inl (cy 1, 128, .inl (fun _ => 0))) :: (b 37, .inl (cy 1, 4, .inl g211)) :: (b 38, .inl (cy 1, 4, .inl g)) :: (b 39, .inl (cy 2, 240, .inr (.inl (fun _ => 0)))) :: (b 40, .inl (cy 2, 60, .inr (.inl (fun _ => 0)))) :: []) (fun _ => rfl) (fun M g212 F => ?_)
          refine g_iconst C dX8_row_49 (v := 0) (by decide) ?_
          refine g_istore C dX8_row_50 (by decide) (lv2 := [(4, .int 0), (0, .ref (b 0)), (1, .int 2), (2, .int 1), (3, .int p2)]) rfl ?_
          refine g_lv [0, 1, 2, 3, 4] (lv2 := [(4, .int 0), (0, .ref (b 0)), (1, .int 2), (2, .int 1), (3, .int p2)]) rfl ?_
          refine g_loop 60 (lvf := fun i52 => [(4, .int (nI i52)), (0, .ref (b 0)), (1, .int 2), (2, .int 1), (3, .int p2)]) (fun i52 M F hii52 ihi52 => ?_) (fun M F => ?_) F
          · skip
            refine g_iload C dX8_row_52 (j := 0) rfl ?_
            refine g_bipush C dX8_row_54 (v := 60) (by decide) ?_
            refine g_icmp_ge C dX8_row_56 (tgt := 78) (by decide) (fun q => absurd q (nI_ge hii52 (by decide))) (fun _ => ?_)
            refine g_aload_n C dX8_row_59 rfl (j := 1) rfl ?_
            refine h_get C F 0 rfl fk_X8_82 dX8_row_60 rfl ?_
            refine g_bipush C dX8_row_63 (v := 60) (by decide) ?_
            refine g_iload_n C dX8_row_65 rfl (j := 2) rfl ?_
            refine g_imul C dX8_row_66 ?_
            refine Go.top (v := .int 120) (by decide) ?_
            refine g_iload C dX8_row_67 (j := 0) rfl ?_
            refine g_iadd C dX8_row_69 ?_
            refine Go.top (v := .int (nI (120 + i52))) (congrArg Value.int (nI_add 120 i52)) ?_
            refine g_lconst C dX8_row_70 (v := 0) (by decide) ?_
            refine h_last C F 23 rfl dX8_row_71 (vp_in_nI (by omega) (by decide)) (g := (fun _ => 0)) (updL0 _) (fl2 := (b 0, .inr (8, .int 0 :: .ref (b 1) :: .ref (b 2) :: .ref (b 3) :: .ref (b 4) :: .int 0 :: .ref (b 6) :: .int 0 :: .int 0 :: .int 0 :: .int 0 :: .int 0 :: .int 0 :: .int (-1) :: .ref (b 14) :: .ref (b 15) :: .ref (b 16) :: .int 0 :: .int 0 :: .int ts :: .ref (b 20) :: .ref (b 21) :: .ref (b 22) :: .ref (b 23) :: .ref (b 24) :: .ref (b 25) :: .ref (b 26) :: .ref (b 27) :: .ref (b 28) :: .ref (b 29) :: .int 0 :: .ref (b 31) :: .int 0 :: .ref (b 33) :: .long 0 :: .long 0 :: .long 0 :: .ref (b 37) :: .ref (b 38) :: .ref (b 39) :: .ref (b 40) :: [])) :: (b 1, .inl (cy 1, 102, .inl (fun _ => 0))) :: (b 2, .inl (cy 1, 306, .inl (fun _ => 0))) :: (b 3, .inl (cy 3, 3, .inl (fun _ => 0))) :: (b 4, .inl (cy 0, 800, .inl (fun _ => 0))) :: (b 6, .inl (cy 1, 5, .inl (fun _ => 0))) :: (b 14, .inl (cy 1, 102, .inl (fun _ => 0))) :: (b 15, .inl (cy 1, 7, .inl (fun _ => 0))) :: (b 16, .inl (cy 1, 8, .inl (fun _ => 0))) :: (b 20, .inl (cy 1, 7, .inl (fun _ => 0))) :: (b 21, .inl (cy 1, 8, .inl pn)) :: (b 22, .inl (cy 1, 136, .inl (fun _ => 0))) :: (b 23, .inl (cy 1, 119, .inl (fun _ => 0))) :: (b 24, .inl (cy 1, 16, .inl (fun _ => 0))) :: (b 25, .inl (cy 1, 28, .inl (fun _ => 0))) :: (b 26, .inl (cy 1, 8, .inl (fun _ => 0))) :: (b 27, .inl (cy 1, 4, .inl (fun _ => 0))) :: (b 28, .inl (cy 1, 4, .inl (fun _ => 0))) :: (b 29, .inl (cy 1, 7, .inl (fun _ => 0))) :: (b 31, .inl (cy 1, 544, .inl (fun _ => 0))) :: (b 33, .inl (cy 1, 128, .inl (fun _ => 0))) :: (b 37, .inl (cy 1, 4, .inl g211)) :: (b 38, .inl (cy 1, 4, .inl g212)) :: (b 39, .inl (cy 2, 240, .inr (.inl (fun _ => 0)))) :: (b 40, .inl (cy 2, 60, .inr (.inl (fun _ => 0)))) :: []) rfl (fun M F => ?_)
            refine g_iinc C dX8_row_72 (j := 0) rfl (v := nI (i52 + 1)) (nI_1 i52) (by decide) (lv2 := [(4, .int (nI (i52 + 1))), (0, .ref (b 0)), (1, .int 2), (2, .int 1), (3, .int p2)]) rfl ?_
            refine g_goto C dX8_row_75 (tgt := 52) (by decide) ?_
            exact ihi52 M F
          · skip
            refine g_lv [0, 1, 2, 3, 4] (lv2 := [(4, .int 60), (0, .ref (b 0)), (1, .int 2), (2, .int 1), (3, .int p2)]) rfl ?_
            refine g_iload C dX8_row_52 (j := 0) rfl ?_
            refine g_bipush C dX8_row_54 (v := 60) (by decide) ?_
            refine g_icmp_ge C dX8_row_56 (tgt := 78) (by decide) (fun _ => ?_) (fun q => absurd (by decide) q)
            refine g_iconst C dX8_row_78 (v := 0) (by decide) ?_
            exact g_iret C hrt dX8_row_79 (by decide) (by decide) (by have a1 : p2.toInt ≤ (60 : Int32).toInt := Int32.le_iff_toInt_le.mp q75; have a2 : (0 : Int32).toInt ≤ p2.toInt := Int32.le_iff_toInt_le.mp q76; have k2 : (0 : Int32).toInt = 0 := (by decide); have k3 : (1 : Int32).toInt = 1 := (by decide); have k4 : (2 : Int32).toInt = 2 := (by decide); have k5 : (60 : Int32).toInt = 60 := (by decide); unfold sp_row; repeat (first | rfl | (split) | (exfalso; omega)))
        · skip
          refine g_bipush C dX8_row_32 (v := -3) (by decide) ?_
          exact g_iret C hrt dX8_row_34 (by decide) (by decide) (by have a1 : p2.toInt ≤ (60 : Int32).toInt := Int32.le_iff_toInt_le.mp q75; have a2 : ¬ (0 : Int32).toInt ≤ p2.toInt := fun z => q76 (Int32.le_iff_toInt_le.mpr z); have k2 : (0 : Int32).toInt = 0 := (by decide); have k3 : (1 : Int32).toInt = 1 := (by decide); have k4 : (2 : Int32).toInt = 2 := (by decide); have k5 : (60 : Int32).toInt = 60 := (by decide); unfold sp_row; repeat (first | rfl | (split) | (exfalso; omega)))
      · skip
        refine g_bipush C dX8_row_25 (v := -2) (by decide) ?_
        exact g_iret C hrt dX8_row_27 (by decide) (by decide) (by have a1 : ¬ p2.toInt ≤ (60 : Int32).toInt := fun z => q75 (Int32.le_iff_toInt_le.mpr z); have k1 : (1 : Int32).toInt = 1 := (by decide); have k2 : (2 : Int32).toInt = 2 := (by decide); have k3 : (60 : Int32).toInt = 60 := (by decide); unfold sp_row; repeat (first | rfl | (split) | (exfalso; omega)))
    · skip
      refine g_iload_n C dX8_row_0 rfl (j := 1) rfl ?_
      refine g_callSI C (c_X8_isSlot l G F 2) lk_X8_394 rfl rfl dX8_row_1 (Nat.le_of_ble_eq_true rfl) ⟨by decide, by decide⟩ ⟨by decide, by decide⟩ (fun r77 L M hp => ?_)
      obtain ⟨r77_, F⟩ := hp
      obtain rfl : r77 = 1 := by
        rcases r77_ with ⟨z, z1⟩ | ⟨z, z1⟩
        · exact z
        · exact absurd (by decide) z1
      refine g_if_eq C dX8_row_4 (tgt := 25) (by decide) (fun q => absurd q (by decide)) (fun _ => ?_)
      refine g_iload_n C dX8_row_7 rfl (j := 2) rfl ?_
      refine g_i2l C dX8_row_8 (v := 2) (by decide) ?_
      refine g_lconst C dX8_row_9 (v := 0) (by decide) ?_
      refine g_ldc2 C (v := 3) wd235 dX8_row_10 ?_
      refine g_callSI C (c_X8_in l G F (2) (0) (3)) lk_X8_94 rfl rfl dX8_row_13 (Nat.le_of_ble_eq_true rfl) ⟨by decide, by decide⟩ ⟨by decide, by decide⟩ (fun r78 L M hp => ?_)
      obtain ⟨r78_, F⟩ := hp
      obtain rfl : r78 = 1 := by
        rcases r78_ with ⟨z, z1⟩ | ⟨z, z1⟩
        · exact z
        · exact absurd (by decide) z1
      refine g_if_eq C dX8_row_16 (tgt := 25) (by decide) (fun q => absurd q (by decide)) (fun _ => ?_)
      refine g_iload_n C dX8_row_19 rfl (j := 3) rfl ?_
      refine g_bipush C dX8_row_20 (v := 60) (by decide) ?_
      refine g_icmp_le C dX8_row_22 (tgt := 28) (by decide) (fun q79 => ?_) (fun q79 => ?_)
      · skip
        refine g_iload_n C dX8_row_28 rfl (j := 3) rfl ?_
        refine g_if_ge C dX8_row_29 (tgt := 35) (by decide) (fun q80 => ?_) (fun q80 => ?_)
        · skip
          refine g_aload_n C dX8_row_35 rfl (j := 0) rfl ?_
          refine h_get C F 0 rfl fk_X8_76 dX8_row_36 rfl ?_
          refine g_iload_n C dX8_row_39 rfl (j := 1) rfl ?_
          refine g_iload_n C dX8_row_40 rfl (j := 3) rfl ?_
          refine h_iastX C F 21 rfl dX8_row_41 (vp_in_iff.mpr (by decide)) (flf := fun g => (b 0, .inr (8, .int 0 :: .ref (b 1) :: .ref (b 2) :: .ref (b 3) :: .ref (b 4) :: .int 0 :: .ref (b 6) :: .int 0 :: .int 0 :: .int 0 :: .int 0 :: .int 0 :: .int 0 :: .int (-1) :: .ref (b 14) :: .ref (b 15) :: .ref (b 16) :: .int 0 :: .int 0 :: .int ts :: .ref (b 20) :: .ref (b 21) :: .ref (b 22) :: .ref (b 23) :: .ref (b 24) :: .ref (b 25) :: .ref (b 26) :: .ref (b 27) :: .ref (b 28) :: .ref (b 29) :: .int 0 :: .ref (b 31) :: .int 0 :: .ref (b 33) :: .long 0 :: .long 0 :: .long 0 :: .ref (b 37) :: .ref (b 38) :: .ref (b 39) :: .ref (b 40) :: [])) :: (b 1, .inl (cy 1, 102, .inl (fun _ => 0))) :: (b 2, .inl (cy 1, 306, .inl (fun _ => 0))) :: (b 3, .inl (cy 3, 3, .inl (fun _ => 0))) :: (b 4, .inl (cy 0, 800, .inl (fun _ => 0))) :: (b 6, .inl (cy 1, 5, .inl (fun _ => 0))) :: (b 14, .inl (cy 1, 102, .inl (fun _ => 0))) :: (b 15, .inl (cy 1, 7, .inl (fun _ => 0))) :: (b 16, .inl (cy 1, 8, .inl (fun _ => 0))) :: (b 20, .inl (cy 1, 7, .inl (fun _ => 0))) :: (b 21, .inl (cy 1, 8, .inl pn)) :: (b 22, .inl (cy 1, 136, .inl (fun _ => 0))) :: (b 23, .inl (cy 1, 119, .inl (fun _ => 0))) :: (b 24, .inl (cy 1, 16, .inl (fun _ => 0))) :: (b 25, .inl (cy 1, 28, .inl (fun _ => 0))) :: (b 26, .inl (cy 1, 8, .inl (fun _ => 0))) :: (b 27, .inl (cy 1, 4, .inl (fun _ => 0))) :: (b 28, .inl (cy 1, 4, .inl (fun _ => 0))) :: (b 29, .inl (cy 1, 7, .inl (fun _ => 0))) :: (b 31, .inl (cy 1, 544, .inl (fun _ => 0))) :: (b 33, .inl (cy 1, 128, .inl (fun _ => 0))) :: (b 37, .inl (cy 1, 4, .inl g)) :: (b 38, .inl (cy 1, 4, .inl (fun _ => 0))) :: (b 39, .inl (cy 2, 240, .inr (.inl (fun _ => 0)))) :: (b 40, .inl (cy 2, 60, .inr (.inl (fun _ => 0)))) :: []) (fun _ => rfl) (fun M g213 F => ?_)
          refine g_aload_n C dX8_row_42 rfl (j := 0) rfl ?_
          refine h_get C F 0 rfl fk_X8_79 dX8_row_43 rfl ?_
          refine g_iload_n C dX8_row_46 rfl (j := 1) rfl ?_
          refine g_iload_n C dX8_row_47 rfl (j := 2) rfl ?_
          refine h_iastX C F 22 rfl dX8_row_48 (vp_in_iff.mpr (by decide)) (flf := fun g => (b 0, .inr (8, .int 0 :: .ref (b 1) :: .ref (b 2) :: .ref (b 3) :: .ref (b 4) :: .int 0 :: .ref (b 6) :: .int 0 :: .int 0 :: .int 0 :: .int 0 :: .int 0 :: .int 0 :: .int (-1) :: .ref (b 14) :: .ref (b 15) :: .ref (b 16) :: .int 0 :: .int 0 :: .int ts :: .ref (b 20) :: .ref (b 21) :: .ref (b 22) :: .ref (b 23) :: .ref (b 24) :: .ref (b 25) :: .ref (b 26) :: .ref (b 27) :: .ref (b 28) :: .ref (b 29) :: .int 0 :: .ref (b 31) :: .int 0 :: .ref (b 33) :: .long 0 :: .long 0 :: .long 0 :: .ref (b 37) :: .ref (b 38) :: .ref (b 39) :: .ref (b 40) :: [])) :: (b 1, .inl (cy 1, 102, .inl (fun _ => 0))) :: (b 2, .inl (cy 1, 306, .inl (fun _ => 0))) :: (b 3, .inl (cy 3, 3, .inl (fun _ => 0))) :: (b 4, .inl (cy 0, 800, .inl (fun _ => 0))) :: (b 6, .inl (cy 1, 5, .inl (fun _ => 0))) :: (b 14, .inl (cy 1, 102, .inl (fun _ => 0))) :: (b 15, .inl (cy 1, 7, .inl (fun _ => 0))) :: (b 16, .inl (cy 1, 8, .inl (fun _ => 0))) :: (b 20, .inl (cy 1, 7, .inl (fun _ => 0))) :: (b 21, .inl (cy 1, 8, .inl pn)) :: (b 22, .inl (cy 1, 136, .inl (fun _ => 0))) :: (b 23, .inl (cy 1, 119, .inl (fun _ => 0))) :: (b 24, .inl (cy 1, 16, .inl (fun _ => 0))) :: (b 25, .inl (cy 1, 28, .inl (fun _ => 0))) :: (b 26, .inl (cy 1, 8, .inl (fun _ => 0))) :: (b 27, .inl (cy 1, 4, .inl (fun _ => 0))) :: (b 28, .inl (cy 1, 4, .inl (fun _ => 0))) :: (b 29, .inl (cy 1, 7, .inl (fun _ => 0))) :: (b 31, .inl (cy 1, 544, .inl (fun _ => 0))) :: (b 33, .inl (cy 1, 128, .inl (fun _ => 0))) :: (b 37, .inl (cy 1, 4, .inl g213)) :: (b 38, .inl (cy 1, 4, .inl g)) :: (b 39, .inl (cy 2, 240, .inr (.inl (fun _ => 0)))) :: (b 40, .inl (cy 2, 60, .inr (.inl (fun _ => 0)))) :: []) (fun _ => rfl) (fun M g214 F => ?_)
          refine g_iconst C dX8_row_49 (v := 0) (by decide) ?_
          refine g_istore C dX8_row_50 (by decide) (lv2 := [(4, .int 0), (0, .ref (b 0)), (1, .int 2), (2, .int 2), (3, .int p2)]) rfl ?_
          refine g_lv [0, 1, 2, 3, 4] (lv2 := [(4, .int 0), (0, .ref (b 0)), (1, .int 2), (2, .int 2), (3, .int p2)]) rfl ?_
          refine g_loop 60 (lvf := fun i52 => [(4, .int (nI i52)), (0, .ref (b 0)), (1, .int 2), (2, .int 2), (3, .int p2)]) (fun i52 M F hii52 ihi52 => ?_) (fun M F => ?_) F
          · skip
            refine g_iload C dX8_row_52 (j := 0) rfl ?_
            refine g_bipush C dX8_row_54 (v := 60) (by decide) ?_
            refine g_icmp_ge C dX8_row_56 (tgt := 78) (by decide) (fun q => absurd q (nI_ge hii52 (by decide))) (fun _ => ?_)
            refine g_aload_n C dX8_row_59 rfl (j := 1) rfl ?_
            refine h_get C F 0 rfl fk_X8_82 dX8_row_60 rfl ?_
            refine g_bipush C dX8_row_63 (v := 60) (by decide) ?_
            refine g_iload_n C dX8_row_65 rfl (j := 2) rfl ?_
            refine g_imul C dX8_row_66 ?_
            refine Go.top (v := .int 120) (by decide) ?_
            refine g_iload C dX8_row_67 (j := 0) rfl ?_
            refine g_iadd C dX8_row_69 ?_
            refine Go.top (v := .int (nI (120 + i52))) (congrArg Value.int (nI_add 120 i52)) ?_
            refine g_lconst C dX8_row_70 (v := 0) (by decide) ?_
            refine h_last C F 23 rfl dX8_row_71 (vp_in_nI (by omega) (by decide)) (g := (fun _ => 0)) (updL0 _) (fl2 := (b 0, .inr (8, .int 0 :: .ref (b 1) :: .ref (b 2) :: .ref (b 3) :: .ref (b 4) :: .int 0 :: .ref (b 6) :: .int 0 :: .int 0 :: .int 0 :: .int 0 :: .int 0 :: .int 0 :: .int (-1) :: .ref (b 14) :: .ref (b 15) :: .ref (b 16) :: .int 0 :: .int 0 :: .int ts :: .ref (b 20) :: .ref (b 21) :: .ref (b 22) :: .ref (b 23) :: .ref (b 24) :: .ref (b 25) :: .ref (b 26) :: .ref (b 27) :: .ref (b 28) :: .ref (b 29) :: .int 0 :: .ref (b 31) :: .int 0 :: .ref (b 33) :: .long 0 :: .long 0 :: .long 0 :: .ref (b 37) :: .ref (b 38) :: .ref (b 39) :: .ref (b 40) :: [])) :: (b 1, .inl (cy 1, 102, .inl (fun _ => 0))) :: (b 2, .inl (cy 1, 306, .inl (fun _ => 0))) :: (b 3, .inl (cy 3, 3, .inl (fun _ => 0))) :: (b 4, .inl (cy 0, 800, .inl (fun _ => 0))) :: (b 6, .inl (cy 1, 5, .inl (fun _ => 0))) :: (b 14, .inl (cy 1, 102, .inl (fun _ => 0))) :: (b 15, .inl (cy 1, 7, .inl (fun _ => 0))) :: (b 16, .inl (cy 1, 8, .inl (fun _ => 0))) :: (b 20, .inl (cy 1, 7, .inl (fun _ => 0))) :: (b 21, .inl (cy 1, 8, .inl pn)) :: (b 22, .inl (cy 1, 136, .inl (fun _ => 0))) :: (b 23, .inl (cy 1, 119, .inl (fun _ => 0))) :: (b 24, .inl (cy 1, 16, .inl (fun _ => 0))) :: (b 25, .inl (cy 1, 28, .inl (fun _ => 0))) :: (b 26, .inl (cy 1, 8, .inl (fun _ => 0))) :: (b 27, .inl (cy 1, 4, .inl (fun _ => 0))) :: (b 28, .inl (cy 1, 4, .inl (fun _ => 0))) :: (b 29, .inl (cy 1, 7, .inl (fun _ => 0))) :: (b 31, .inl (cy 1, 544, .inl (fun _ => 0))) :: (b 33, .inl (cy 1, 128, .inl (fun _ => 0))) :: (b 37, .inl (cy 1, 4, .inl g213)) :: (b 38, .inl (cy 1, 4, .inl g214)) :: (b 39, .inl (cy 2, 240, .inr (.inl (fun _ => 0)))) :: (b 40, .inl (cy 2, 60, .inr (.inl (fun _ => 0)))) :: []) rfl (fun M F => ?_)
            refine g_iinc C dX8_row_72 (j := 0) rfl (v := nI (i52 + 1)) (nI_1 i52) (by decide) (lv2 := [(4, .int (nI (i52 + 1))), (0, .ref (b 0)), (1, .int 2), (2, .int 2), (3, .int p2)]) rfl ?_
            refine g_goto C dX8_row_75 (tgt := 52) (by decide) ?_
            exact ihi52 M F
          · skip
            refine g_lv [0, 1, 2, 3, 4] (lv2 := [(4, .int 60), (0, .ref (b 0)), (1, .int 2), (2, .int 2), (3, .int p2)]) rfl ?_
            refine g_iload C dX8_row_52 (j := 0) rfl ?_
            refine g_bipush C dX8_row_54 (v := 60) (by decide) ?_
            refine g_icmp_ge C dX8_row_56 (tgt := 78) (by decide) (fun _ => ?_) (fun q => absurd (by decide) q)
            refine g_iconst C dX8_row_78 (v := 0) (by decide) ?_
            exact g_iret C hrt dX8_row_79 (by decide) (by decide) (by have a1 : p2.toInt ≤ (60 : Int32).toInt := Int32.le_iff_toInt_le.mp q79; have a2 : (0 : Int32).toInt ≤ p2.toInt := Int32.le_iff_toInt_le.mp q80; have k2 : (0 : Int32).toInt = 0 := (by decide); have k3 : (2 : Int32).toInt = 2 := (by decide); have k4 : (60 : Int32).toInt = 60 := (by decide); unfold sp_row; repeat (first | rfl | (split) | (exfalso; omega)))
        · skip
          refine g_bipush C dX8_row_32 (v := -3) (by decide) ?_
          exact g_iret C hrt dX8_row_34 (by decide) (by decide) (by have a1 : p2.toInt ≤ (60 : Int32).toInt := Int32.le_iff_toInt_le.mp q79; have a2 : ¬ (0 : Int32).toInt ≤ p2.toInt := fun z => q80 (Int32.le_iff_toInt_le.mpr z); have k2 : (0 : Int32).toInt = 0 := (by decide); have k3 : (2 : Int32).toInt = 2 := (by decide); have k4 : (60 : Int32).toInt = 60 := (by decide); unfold sp_row; repeat (first | rfl | (split) | (exfalso; omega)))
      · skip
        refine g_bipush C dX8_row_25 (v := -2) (by decide) ?_
        exact g_iret C hrt dX8_row_27 (by decide) (by decide) (by have a1 : ¬ p2.toInt ≤ (60 : Int32).toInt := fun z => q79 (Int32.le_iff_toInt_le.mpr z); have k1 : (2 : Int32).toInt = 2 := (by decide); have k2 : (60 : Int32).toInt = 60 := (by decide); unfold sp_row; repeat (first | rfl | (split) | (exfalso; omega)))
    · skip
      refine g_iload_n C dX8_row_0 rfl (j := 1) rfl ?_
      refine g_callSI C (c_X8_isSlot l G F 2) lk_X8_394 rfl rfl dX8_row_1 (Nat.le_of_ble_eq_true rfl) ⟨by decide, by decide⟩ ⟨by decide, by decide⟩ (fun r81 L M hp => ?_)
      obtain ⟨r81_, F⟩ := hp
      obtain rfl : r81 = 1 := by
        rcases r81_ with ⟨z, z1⟩ | ⟨z, z1⟩
        · exact z
        · exact absurd (by decide) z1
      refine g_if_eq C dX8_row_4 (tgt := 25) (by decide) (fun q => absurd q (by decide)) (fun _ => ?_)
      refine g_iload_n C dX8_row_7 rfl (j := 2) rfl ?_
      refine g_i2l C dX8_row_8 (v := 3) (by decide) ?_
      refine g_lconst C dX8_row_9 (v := 0) (by decide) ?_
      refine g_ldc2 C (v := 3) wd235 dX8_row_10 ?_
      refine g_callSI C (c_X8_in l G F (3) (0) (3)) lk_X8_94 rfl rfl dX8_row_13 (Nat.le_of_ble_eq_true rfl) ⟨by decide, by decide⟩ ⟨by decide, by decide⟩ (fun r82 L M hp => ?_)
      obtain ⟨r82_, F⟩ := hp
      obtain rfl : r82 = 1 := by
        rcases r82_ with ⟨z, z1⟩ | ⟨z, z1⟩
        · exact z
        · exact absurd (by decide) z1
      refine g_if_eq C dX8_row_16 (tgt := 25) (by decide) (fun q => absurd q (by decide)) (fun _ => ?_)
      refine g_iload_n C dX8_row_19 rfl (j := 3) rfl ?_
      refine g_bipush C dX8_row_20 (v := 60) (by decide) ?_
      refine g_icmp_le C dX8_row_22 (tgt := 28) (by decide) (fun q83 => ?_) (fun q83 => ?_)
      · skip
        refine g_iload_n C dX8_row_28 rfl (j := 3) rfl ?_
        refine g_if_ge C dX8_row_29 (tgt := 35) (by decide) (fun q84 => ?_) (fun q84 => ?_)
        · skip
          refine g_aload_n C dX8_row_35 rfl (j := 0) rfl ?_
          refine h_get C F 0 rfl fk_X8_76 dX8_row_36 rfl ?_
          refine g_iload_n C dX8_row_39 rfl (j := 1) rfl ?_
          refine g_iload_n C dX8_row_40 rfl (j := 3) rfl ?_
          refine h_iastX C F 21 rfl dX8_row_41 (vp_in_iff.mpr (by decide)) (flf := fun g => (b 0, .inr (8, .int 0 :: .ref (b 1) :: .ref (b 2) :: .ref (b 3) :: .ref (b 4) :: .int 0 :: .ref (b 6) :: .int 0 :: .int 0 :: .int 0 :: .int 0 :: .int 0 :: .int 0 :: .int (-1) :: .ref (b 14) :: .ref (b 15) :: .ref (b 16) :: .int 0 :: .int 0 :: .int ts :: .ref (b 20) :: .ref (b 21) :: .ref (b 22) :: .ref (b 23) :: .ref (b 24) :: .ref (b 25) :: .ref (b 26) :: .ref (b 27) :: .ref (b 28) :: .ref (b 29) :: .int 0 :: .ref (b 31) :: .int 0 :: .ref (b 33) :: .long 0 :: .long 0 :: .long 0 :: .ref (b 37) :: .ref (b 38) :: .ref (b 39) :: .ref (b 40) :: [])) :: (b 1, .inl (cy 1, 102, .inl (fun _ => 0))) :: (b 2, .inl (cy 1, 306, .inl (fun _ => 0))) :: (b 3, .inl (cy 3, 3, .inl (fun _ => 0))) :: (b 4, .inl (cy 0, 800, .inl (fun _ => 0))) :: (b 6, .inl (cy 1, 5, .inl (fun _ => 0))) :: (b 14, .inl (cy 1, 102, .inl (fun _ => 0))) :: (b 15, .inl (cy 1, 7, .inl (fun _ => 0))) :: (b 16, .inl (cy 1, 8, .inl (fun _ => 0))) :: (b 20, .inl (cy 1, 7, .inl (fun _ => 0))) :: (b 21, .inl (cy 1, 8, .inl pn)) :: (b 22, .inl (cy 1, 136, .inl (fun _ => 0))) :: (b 23, .inl (cy 1, 119, .inl (fun _ => 0))) :: (b 24, .inl (cy 1, 16, .inl (fun _ => 0))) :: (b 25, .inl (cy 1, 28, .inl (fun _ => 0))) :: (b 26, .inl (cy 1, 8, .inl (fun _ => 0))) :: (b 27, .inl (cy 1, 4, .inl (fun _ => 0))) :: (b 28, .inl (cy 1, 4, .inl (fun _ => 0))) :: (b 29, .inl (cy 1, 7, .inl (fun _ => 0))) :: (b 31, .inl (cy 1, 544, .inl (fun _ => 0))) :: (b 33, .inl (cy 1, 128, .inl (fun _ => 0))) :: (b 37, .inl (cy 1, 4, .inl g)) :: (b 38, .inl (cy 1, 4, .inl (fun _ => 0))) :: (b 39, .inl (cy 2, 240, .inr (.inl (fun _ => 0)))) :: (b 40, .inl (cy 2, 60, .inr (.inl (fun _ => 0)))) :: []) (fun _ => rfl) (fun M g215 F => ?_)
          refine g_aload_n C dX8_row_42 rfl (j := 0) rfl ?_
          refine h_get C F 0 rfl fk_X8_79 dX8_row_43 rfl ?_
          refine g_iload_n C dX8_row_46 rfl (j := 1) rfl ?_
          refine g_iload_n C dX8_row_47 rfl (j := 2) rfl ?_
          refine h_iastX C F 22 rfl dX8_row_48 (vp_in_iff.mpr (by decide)) (flf := fun g => (b 0, .inr (8, .int 0 :: .ref (b 1) :: .ref (b 2) :: .ref (b 3) :: .ref (b 4) :: .int 0 :: .ref (b 6) :: .int 0 :: .int 0 :: .int 0 :: .int 0 :: .int 0 :: .int 0 :: .int (-1) :: .ref (b 14) :: .ref (b 15) :: .ref (b 16) :: .int 0 :: .int 0 :: .int ts :: .ref (b 20) :: .ref (b 21) :: .ref (b 22) :: .ref (b 23) :: .ref (b 24) :: .ref (b 25) :: .ref (b 26) :: .ref (b 27) :: .ref (b 28) :: .ref (b 29) :: .int 0 :: .ref (b 31) :: .int 0 :: .ref (b 33) :: .long 0 :: .long 0 :: .long 0 :: .ref (b 37) :: .ref (b 38) :: .ref (b 39) :: .ref (b 40) :: [])) :: (b 1, .inl (cy 1, 102, .inl (fun _ => 0))) :: (b 2, .inl (cy 1, 306, .inl (fun _ => 0))) :: (b 3, .inl (cy 3, 3, .inl (fun _ => 0))) :: (b 4, .inl (cy 0, 800, .inl (fun _ => 0))) :: (b 6, .inl (cy 1, 5, .inl (fun _ => 0))) :: (b 14, .inl (cy 1, 102, .inl (fun _ => 0))) :: (b 15, .inl (cy 1, 7, .inl (fun _ => 0))) :: (b 16, .inl (cy 1, 8, .inl (fun _ => 0))) :: (b 20, .inl (cy 1, 7, .inl (fun _ => 0))) :: (b 21, .inl (cy 1, 8, .inl pn)) :: (b 22, .inl (cy 1, 136, .inl (fun _ => 0))) :: (b 23, .inl (cy 1, 119, .inl (fun _ => 0))) :: (b 24, .inl (cy 1, 16, .inl (fun _ => 0))) :: (b 25, .inl (cy 1, 28, .inl (fun _ => 0))) :: (b 26, .inl (cy 1, 8, .inl (fun _ => 0))) :: (b 27, .inl (cy 1, 4, .inl (fun _ => 0))) :: (b 28, .inl (cy 1, 4, .inl (fun _ => 0))) :: (b 29, .inl (cy 1, 7, .inl (fun _ => 0))) :: (b 31, .inl (cy 1, 544, .inl (fun _ => 0))) :: (b 33, .inl (cy 1, 128, .inl (fun _ => 0))) :: (b 37, .inl (cy 1, 4, .inl g215)) :: (b 38, .inl (cy 1, 4, .inl g)) :: (b 39, .inl (cy 2, 240, .inr (.inl (fun _ => 0)))) :: (b 40, .inl (cy 2, 60, .inr (.inl (fun _ => 0)))) :: []) (fun _ => rfl) (fun M g216 F => ?_)
          refine g_iconst C dX8_row_49 (v := 0) (by decide) ?_
          refine g_istore C dX8_row_50 (by decide) (lv2 := [(4, .int 0), (0, .ref (b 0)), (1, .int 2), (2, .int 3), (3, .int p2)]) rfl ?_
          refine g_lv [0, 1, 2, 3, 4] (lv2 := [(4, .int 0), (0, .ref (b 0)), (1, .int 2), (2, .int 3), (3, .int p2)]) rfl ?_
          refine g_loop 60 (lvf := fun i52 => [(4, .int (nI i52)), (0, .ref (b 0)), (1, .int 2), (2, .int 3), (3, .int p2)]) (fun i52 M F hii52 ihi52 => ?_) (fun M F => ?_) F
          · skip
            refine g_iload C dX8_row_52 (j := 0) rfl ?_
            refine g_bipush C dX8_row_54 (v := 60) (by decide) ?_
            refine g_icmp_ge C dX8_row_56 (tgt := 78) (by decide) (fun q => absurd q (nI_ge hii52 (by decide))) (fun _ => ?_)
            refine g_aload_n C dX8_row_59 rfl (j := 1) rfl ?_
            refine h_get C F 0 rfl fk_X8_82 dX8_row_60 rfl ?_
            refine g_bipush C dX8_row_63 (v := 60) (by decide) ?_
            refine g_iload_n C dX8_row_65 rfl (j := 2) rfl ?_
            refine g_imul C dX8_row_66 ?_
            refine Go.top (v := .int 120) (by decide) ?_
            refine g_iload C dX8_row_67 (j := 0) rfl ?_
            refine g_iadd C dX8_row_69 ?_
            refine Go.top (v := .int (nI (120 + i52))) (congrArg Value.int (nI_add 120 i52)) ?_
            refine g_lconst C dX8_row_70 (v := 0) (by decide) ?_
            refine h_last C F 23 rfl dX8_row_71 (vp_in_nI (by omega) (by decide)) (g := (fun _ => 0)) (updL0 _) (fl2 := (b 0, .inr (8, .int 0 :: .ref (b 1) :: .ref (b 2) :: .ref (b 3) :: .ref (b 4) :: .int 0 :: .ref (b 6) :: .int 0 :: .int 0 :: .int 0 :: .int 0 :: .int 0 :: .int 0 :: .int (-1) :: .ref (b 14) :: .ref (b 15) :: .ref (b 16) :: .int 0 :: .int 0 :: .int ts :: .ref (b 20) :: .ref (b 21) :: .ref (b 22) :: .ref (b 23) :: .ref (b 24) :: .ref (b 25) :: .ref (b 26) :: .ref (b 27) :: .ref (b 28) :: .ref (b 29) :: .int 0 :: .ref (b 31) :: .int 0 :: .ref (b 33) :: .long 0 :: .long 0 :: .long 0 :: .ref (b 37) :: .ref (b 38) :: .ref (b 39) :: .ref (b 40) :: [])) :: (b 1, .inl (cy 1, 102, .inl (fun _ => 0))) :: (b 2, .inl (cy 1, 306, .inl (fun _ => 0))) :: (b 3, .inl (cy 3, 3, .inl (fun _ => 0))) :: (b 4, .inl (cy 0, 800, .inl (fun _ => 0))) :: (b 6, .inl (cy 1, 5, .inl (fun _ => 0))) :: (b 14, .inl (cy 1, 102, .inl (fun _ => 0))) :: (b 15, .inl (cy 1, 7, .inl (fun _ => 0))) :: (b 16, .inl (cy 1, 8, .inl (fun _ => 0))) :: (b 20, .inl (cy 1, 7, .inl (fun _ => 0))) :: (b 21, .inl (cy 1, 8, .inl pn)) :: (b 22, .inl (cy 1, 136, .inl (fun _ => 0))) :: (b 23, .inl (cy 1, 119, .inl (fun _ => 0))) :: (b 24, .inl (cy 1, 16, .inl (fun _ => 0))) :: (b 25, .inl (cy 1, 28, .inl (fun _ => 0))) :: (b 26, .inl (cy 1, 8, .inl (fun _ => 0))) :: (b 27, .inl (cy 1, 4, .inl (fun _ => 0))) :: (b 28, .inl (cy 1, 4, .inl (fun _ => 0))) :: (b 29, .inl (cy 1, 7, .inl (fun _ => 0))) :: (b 31, .inl (cy 1, 544, .inl (fun _ => 0))) :: (b 33, .inl (cy 1, 128, .inl (fun _ => 0))) :: (b 37, .inl (cy 1, 4, .inl g215)) :: (b 38, .inl (cy 1, 4, .inl g216)) :: (b 39, .inl (cy 2, 240, .inr (.inl (fun _ => 0)))) :: (b 40, .inl (cy 2, 60, .inr (.inl (fun _ => 0)))) :: []) rfl (fun M F => ?_)
            refine g_iinc C dX8_row_72 (j := 0) rfl (v := nI (i52 + 1)) (nI_1 i52) (by decide) (lv2 := [(4, .int (nI (i52 + 1))), (0, .ref (b 0)), (1, .int 2), (2, .int 3), (3, .int p2)]) rfl ?_
            refine g_goto C dX8_row_75 (tgt := 52) (by decide) ?_
            exact ihi52 M F
          · skip
            refine g_lv [0, 1, 2, 3, 4] (lv2 := [(4, .int 60), (0, .ref (b 0)), (1, .int 2), (2, .int 3), (3, .int p2)]) rfl ?_
            refine g_iload C dX8_row_52 (j := 0) rfl ?_
            refine g_bipush C dX8_row_54 (v := 60) (by decide) ?_
            refine g_icmp_ge C dX8_row_56 (tgt := 78) (by decide) (fun _ => ?_) (fun q => absurd (by decide) q)
            refine g_iconst C dX8_row_78 (v := 0) (by decide) ?_
            exact g_iret C hrt dX8_row_79 (by decide) (by decide) (by have a1 : p2.toInt ≤ (60 : Int32).toInt := Int32.le_iff_toInt_le.mp q83; have a2 : (0 : Int32).toInt ≤ p2.toInt := Int32.le_iff_toInt_le.mp q84; have k2 : (0 : Int32).toInt = 0 := (by decide); have k3 : (2 : Int32).toInt = 2 := (by decide); have k4 : (3 : Int32).toInt = 3 := (by decide); have k5 : (60 : Int32).toInt = 60 := (by decide); unfold sp_row; repeat (first | rfl | (split) | (exfalso; omega)))
        · skip
          refine g_bipush C dX8_row_32 (v := -3) (by decide) ?_
          exact g_iret C hrt dX8_row_34 (by decide) (by decide) (by have a1 : p2.toInt ≤ (60 : Int32).toInt := Int32.le_iff_toInt_le.mp q83; have a2 : ¬ (0 : Int32).toInt ≤ p2.toInt := fun z => q84 (Int32.le_iff_toInt_le.mpr z); have k2 : (0 : Int32).toInt = 0 := (by decide); have k3 : (2 : Int32).toInt = 2 := (by decide); have k4 : (3 : Int32).toInt = 3 := (by decide); have k5 : (60 : Int32).toInt = 60 := (by decide); unfold sp_row; repeat (first | rfl | (split) | (exfalso; omega)))
      · skip
        refine g_bipush C dX8_row_25 (v := -2) (by decide) ?_
        exact g_iret C hrt dX8_row_27 (by decide) (by decide) (by have a1 : ¬ p2.toInt ≤ (60 : Int32).toInt := fun z => q83 (Int32.le_iff_toInt_le.mpr z); have k1 : (2 : Int32).toInt = 2 := (by decide); have k2 : (3 : Int32).toInt = 3 := (by decide); have k3 : (60 : Int32).toInt = 60 := (by decide); unfold sp_row; repeat (first | rfl | (split) | (exfalso; omega)))
  · skip
    rcases sc4 p1 with h85 | h86 | rfl | rfl | rfl | rfl
    · skip
      refine g_iload_n C dX8_row_0 rfl (j := 1) rfl ?_
      refine g_callSI C (c_X8_isSlot l G F 3) lk_X8_394 rfl rfl dX8_row_1 (Nat.le_of_ble_eq_true rfl) ⟨by decide, by decide⟩ ⟨by decide, by decide⟩ (fun r87 L M hp => ?_)
      obtain ⟨r87_, F⟩ := hp
      obtain rfl : r87 = 1 := by
        rcases r87_ with ⟨z, z1⟩ | ⟨z, z1⟩
        · exact z
        · exact absurd (by decide) z1
      refine g_if_eq C dX8_row_4 (tgt := 25) (by decide) (fun q => absurd q (by decide)) (fun _ => ?_)
      refine g_iload_n C dX8_row_7 rfl (j := 2) rfl ?_
      refine g_i2l C dX8_row_8 (v := p1.toInt64) rfl ?_
      refine g_lconst C dX8_row_9 (v := 0) (by decide) ?_
      refine g_ldc2 C (v := 3) wd235 dX8_row_10 ?_
      refine g_callSI C (c_X8_in l G F (p1.toInt64) (0) (3)) lk_X8_94 rfl rfl dX8_row_13 (Nat.le_of_ble_eq_true rfl) ⟨by decide, by decide⟩ ⟨by decide, by decide⟩ (fun r88 L M hp => ?_)
      obtain ⟨r88_, F⟩ := hp
      obtain rfl : r88 = 0 := by
        rcases r88_ with ⟨-, z1, z2⟩ | ⟨z, -⟩
        · exfalso; have a1 : p1.toInt < (0 : Int32).toInt := Int32.lt_iff_toInt_lt.mp h85; have k1 : (0 : Int32).toInt = 0 := (by decide); have k2 : (3 : Int32).toInt = 3 := (by decide); have j1 : (0 : Int64).toInt = 0 := (by decide); have j2 : (3 : Int64).toInt = 3 := (by decide); have b1 := Int64.le_iff_toInt_le.mp z1; have b2 := Int64.le_iff_toInt_le.mp z2; rw [Int32.toInt_toInt64] at b1 b2; omega
        · exact z
      refine g_if_eq C dX8_row_16 (tgt := 25) (by decide) (fun _ => ?_) (fun q => absurd (by decide) q)
      refine g_bipush C dX8_row_25 (v := -2) (by decide) ?_
      exact g_iret C hrt dX8_row_27 (by decide) (by decide) (by have a1 : p1.toInt < (0 : Int32).toInt := Int32.lt_iff_toInt_lt.mp h85; have k1 : (0 : Int32).toInt = 0 := (by decide); have k2 : (3 : Int32).toInt = 3 := (by decide); unfold sp_row; repeat (first | rfl | (split) | (exfalso; omega)))
    · skip
      refine g_iload_n C dX8_row_0 rfl (j := 1) rfl ?_
      refine g_callSI C (c_X8_isSlot l G F 3) lk_X8_394 rfl rfl dX8_row_1 (Nat.le_of_ble_eq_true rfl) ⟨by decide, by decide⟩ ⟨by decide, by decide⟩ (fun r89 L M hp => ?_)
      obtain ⟨r89_, F⟩ := hp
      obtain rfl : r89 = 1 := by
        rcases r89_ with ⟨z, z1⟩ | ⟨z, z1⟩
        · exact z
        · exact absurd (by decide) z1
      refine g_if_eq C dX8_row_4 (tgt := 25) (by decide) (fun q => absurd q (by decide)) (fun _ => ?_)
      refine g_iload_n C dX8_row_7 rfl (j := 2) rfl ?_
      refine g_i2l C dX8_row_8 (v := p1.toInt64) rfl ?_
      refine g_lconst C dX8_row_9 (v := 0) (by decide) ?_
      refine g_ldc2 C (v := 3) wd235 dX8_row_10 ?_
      refine g_callSI C (c_X8_in l G F (p1.toInt64) (0) (3)) lk_X8_94 rfl rfl dX8_row_13 (Nat.le_of_ble_eq_true rfl) ⟨by decide, by decide⟩ ⟨by decide, by decide⟩ (fun r90 L M hp => ?_)
      obtain ⟨r90_, F⟩ := hp
      obtain rfl : r90 = 0 := by
        rcases r90_ with ⟨-, z1, z2⟩ | ⟨z, -⟩
        · exfalso; have a1 : (4 : Int32).toInt ≤ p1.toInt := Int32.le_iff_toInt_le.mp h86; have k1 : (3 : Int32).toInt = 3 := (by decide); have k2 : (4 : Int32).toInt = 4 := (by decide); have j1 : (0 : Int64).toInt = 0 := (by decide); have j2 : (3 : Int64).toInt = 3 := (by decide); have b1 := Int64.le_iff_toInt_le.mp z1; have b2 := Int64.le_iff_toInt_le.mp z2; rw [Int32.toInt_toInt64] at b1 b2; omega
        · exact z
      refine g_if_eq C dX8_row_16 (tgt := 25) (by decide) (fun _ => ?_) (fun q => absurd (by decide) q)
      refine g_bipush C dX8_row_25 (v := -2) (by decide) ?_
      exact g_iret C hrt dX8_row_27 (by decide) (by decide) (by have a1 : (4 : Int32).toInt ≤ p1.toInt := Int32.le_iff_toInt_le.mp h86; have k1 : (3 : Int32).toInt = 3 := (by decide); have k2 : (4 : Int32).toInt = 4 := (by decide); unfold sp_row; repeat (first | rfl | (split) | (exfalso; omega)))
    · skip
      refine g_iload_n C dX8_row_0 rfl (j := 1) rfl ?_
      refine g_callSI C (c_X8_isSlot l G F 3) lk_X8_394 rfl rfl dX8_row_1 (Nat.le_of_ble_eq_true rfl) ⟨by decide, by decide⟩ ⟨by decide, by decide⟩ (fun r91 L M hp => ?_)
      obtain ⟨r91_, F⟩ := hp
      obtain rfl : r91 = 1 := by
        rcases r91_ with ⟨z, z1⟩ | ⟨z, z1⟩
        · exact z
        · exact absurd (by decide) z1
      refine g_if_eq C dX8_row_4 (tgt := 25) (by decide) (fun q => absurd q (by decide)) (fun _ => ?_)
      refine g_iload_n C dX8_row_7 rfl (j := 2) rfl ?_
      refine g_i2l C dX8_row_8 (v := 0) (by decide) ?_
      refine g_lconst C dX8_row_9 (v := 0) (by decide) ?_
      refine g_ldc2 C (v := 3) wd235 dX8_row_10 ?_
      refine g_callSI C (c_X8_in l G F (0) (0) (3)) lk_X8_94 rfl rfl dX8_row_13 (Nat.le_of_ble_eq_true rfl) ⟨by decide, by decide⟩ ⟨by decide, by decide⟩ (fun r92 L M hp => ?_)
      obtain ⟨r92_, F⟩ := hp
      obtain rfl : r92 = 1 := by
        rcases r92_ with ⟨z, z1⟩ | ⟨z, z1⟩
        · exact z
        · exact absurd (by decide) z1
      refine g_if_eq C dX8_row_16 (tgt := 25) (by decide) (fun q => absurd q (by decide)) (fun _ => ?_)
      refine g_iload_n C dX8_row_19 rfl (j := 3) rfl ?_
      refine g_bipush C dX8_row_20 (v := 60) (by decide) ?_
      refine g_icmp_le C dX8_row_22 (tgt := 28) (by decide) (fun q93 => ?_) (fun q93 => ?_)
      · skip
        refine g_iload_n C dX8_row_28 rfl (j := 3) rfl ?_
        refine g_if_ge C dX8_row_29 (tgt := 35) (by decide) (fun q94 => ?_) (fun q94 => ?_)
        · skip
          refine g_aload_n C dX8_row_35 rfl (j := 0) rfl ?_
          refine h_get C F 0 rfl fk_X8_76 dX8_row_36 rfl ?_
          refine g_iload_n C dX8_row_39 rfl (j := 1) rfl ?_
          refine g_iload_n C dX8_row_40 rfl (j := 3) rfl ?_
          refine h_iastX C F 21 rfl dX8_row_41 (vp_in_iff.mpr (by decide)) (flf := fun g => (b 0, .inr (8, .int 0 :: .ref (b 1) :: .ref (b 2) :: .ref (b 3) :: .ref (b 4) :: .int 0 :: .ref (b 6) :: .int 0 :: .int 0 :: .int 0 :: .int 0 :: .int 0 :: .int 0 :: .int (-1) :: .ref (b 14) :: .ref (b 15) :: .ref (b 16) :: .int 0 :: .int 0 :: .int ts :: .ref (b 20) :: .ref (b 21) :: .ref (b 22) :: .ref (b 23) :: .ref (b 24) :: .ref (b 25) :: .ref (b 26) :: .ref (b 27) :: .ref (b 28) :: .ref (b 29) :: .int 0 :: .ref (b 31) :: .int 0 :: .ref (b 33) :: .long 0 :: .long 0 :: .long 0 :: .ref (b 37) :: .ref (b 38) :: .ref (b 39) :: .ref (b 40) :: [])) :: (b 1, .inl (cy 1, 102, .inl (fun _ => 0))) :: (b 2, .inl (cy 1, 306, .inl (fun _ => 0))) :: (b 3, .inl (cy 3, 3, .inl (fun _ => 0))) :: (b 4, .inl (cy 0, 800, .inl (fun _ => 0))) :: (b 6, .inl (cy 1, 5, .inl (fun _ => 0))) :: (b 14, .inl (cy 1, 102, .inl (fun _ => 0))) :: (b 15, .inl (cy 1, 7, .inl (fun _ => 0))) :: (b 16, .inl (cy 1, 8, .inl (fun _ => 0))) :: (b 20, .inl (cy 1, 7, .inl (fun _ => 0))) :: (b 21, .inl (cy 1, 8, .inl pn)) :: (b 22, .inl (cy 1, 136, .inl (fun _ => 0))) :: (b 23, .inl (cy 1, 119, .inl (fun _ => 0))) :: (b 24, .inl (cy 1, 16, .inl (fun _ => 0))) :: (b 25, .inl (cy 1, 28, .inl (fun _ => 0))) :: (b 26, .inl (cy 1, 8, .inl (fun _ => 0))) :: (b 27, .inl (cy 1, 4, .inl (fun _ => 0))) :: (b 28, .inl (cy 1, 4, .inl (fun _ => 0))) :: (b 29, .inl (cy 1, 7, .inl (fun _ => 0))) :: (b 31, .inl (cy 1, 544, .inl (fun _ => 0))) :: (b 33, .inl (cy 1, 128, .inl (fun _ => 0))) :: (b 37, .inl (cy 1, 4, .inl g)) :: (b 38, .inl (cy 1, 4, .inl (fun _ => 0))) :: (b 39, .inl (cy 2, 240, .inr (.inl (fun _ => 0)))) :: (b 40, .inl (cy 2, 60, .inr (.inl (fun _ => 0)))) :: []) (fun _ => rfl) (fun M g217 F => ?_)
          refine g_aload_n C dX8_row_42 rfl (j := 0) rfl ?_
          refine h_get C F 0 rfl fk_X8_79 dX8_row_43 rfl ?_
          refine g_iload_n C dX8_row_46 rfl (j := 1) rfl ?_
          refine g_iload_n C dX8_row_47 rfl (j := 2) rfl ?_
          refine h_iast C F 22 rfl dX8_row_48 (vp_in_iff.mpr (by decide)) (g := (fun _ => 0)) (upd0 _) (fl2 := (b 0, .inr (8, .int 0 :: .ref (b 1) :: .ref (b 2) :: .ref (b 3) :: .ref (b 4) :: .int 0 :: .ref (b 6) :: .int 0 :: .int 0 :: .int 0 :: .int 0 :: .int 0 :: .int 0 :: .int (-1) :: .ref (b 14) :: .ref (b 15) :: .ref (b 16) :: .int 0 :: .int 0 :: .int ts :: .ref (b 20) :: .ref (b 21) :: .ref (b 22) :: .ref (b 23) :: .ref (b 24) :: .ref (b 25) :: .ref (b 26) :: .ref (b 27) :: .ref (b 28) :: .ref (b 29) :: .int 0 :: .ref (b 31) :: .int 0 :: .ref (b 33) :: .long 0 :: .long 0 :: .long 0 :: .ref (b 37) :: .ref (b 38) :: .ref (b 39) :: .ref (b 40) :: [])) :: (b 1, .inl (cy 1, 102, .inl (fun _ => 0))) :: (b 2, .inl (cy 1, 306, .inl (fun _ => 0))) :: (b 3, .inl (cy 3, 3, .inl (fun _ => 0))) :: (b 4, .inl (cy 0, 800, .inl (fun _ => 0))) :: (b 6, .inl (cy 1, 5, .inl (fun _ => 0))) :: (b 14, .inl (cy 1, 102, .inl (fun _ => 0))) :: (b 15, .inl (cy 1, 7, .inl (fun _ => 0))) :: (b 16, .inl (cy 1, 8, .inl (fun _ => 0))) :: (b 20, .inl (cy 1, 7, .inl (fun _ => 0))) :: (b 21, .inl (cy 1, 8, .inl pn)) :: (b 22, .inl (cy 1, 136, .inl (fun _ => 0))) :: (b 23, .inl (cy 1, 119, .inl (fun _ => 0))) :: (b 24, .inl (cy 1, 16, .inl (fun _ => 0))) :: (b 25, .inl (cy 1, 28, .inl (fun _ => 0))) :: (b 26, .inl (cy 1, 8, .inl (fun _ => 0))) :: (b 27, .inl (cy 1, 4, .inl (fun _ => 0))) :: (b 28, .inl (cy 1, 4, .inl (fun _ => 0))) :: (b 29, .inl (cy 1, 7, .inl (fun _ => 0))) :: (b 31, .inl (cy 1, 544, .inl (fun _ => 0))) :: (b 33, .inl (cy 1, 128, .inl (fun _ => 0))) :: (b 37, .inl (cy 1, 4, .inl g217)) :: (b 38, .inl (cy 1, 4, .inl (fun _ => 0))) :: (b 39, .inl (cy 2, 240, .inr (.inl (fun _ => 0)))) :: (b 40, .inl (cy 2, 60, .inr (.inl (fun _ => 0)))) :: []) rfl (fun M F => ?_)
          refine g_iconst C dX8_row_49 (v := 0) (by decide) ?_
          refine g_istore C dX8_row_50 (by decide) (lv2 := [(4, .int 0), (0, .ref (b 0)), (1, .int 3), (2, .int 0), (3, .int p2)]) rfl ?_
          refine g_lv [0, 1, 2, 3, 4] (lv2 := [(4, .int 0), (0, .ref (b 0)), (1, .int 3), (2, .int 0), (3, .int p2)]) rfl ?_
          refine g_loop 60 (lvf := fun i52 => [(4, .int (nI i52)), (0, .ref (b 0)), (1, .int 3), (2, .int 0), (3, .int p2)]) (fun i52 M F hii52 ihi52 => ?_) (fun M F => ?_) F
          · skip
            refine g_iload C dX8_row_52 (j := 0) rfl ?_
            refine g_bipush C dX8_row_54 (v := 60) (by decide) ?_
            refine g_icmp_ge C dX8_row_56 (tgt := 78) (by decide) (fun q => absurd q (nI_ge hii52 (by decide))) (fun _ => ?_)
            refine g_aload_n C dX8_row_59 rfl (j := 1) rfl ?_
            refine h_get C F 0 rfl fk_X8_82 dX8_row_60 rfl ?_
            refine g_bipush C dX8_row_63 (v := 60) (by decide) ?_
            refine g_iload_n C dX8_row_65 rfl (j := 2) rfl ?_
            refine g_imul C dX8_row_66 ?_
            refine Go.top (v := .int 180) (by decide) ?_
            refine g_iload C dX8_row_67 (j := 0) rfl ?_
            refine g_iadd C dX8_row_69 ?_
            refine Go.top (v := .int (nI (180 + i52))) (congrArg Value.int (nI_add 180 i52)) ?_
            refine g_lconst C dX8_row_70 (v := 0) (by decide) ?_
            refine h_last C F 23 rfl dX8_row_71 (vp_in_nI (by omega) (by decide)) (g := (fun _ => 0)) (updL0 _) (fl2 := (b 0, .inr (8, .int 0 :: .ref (b 1) :: .ref (b 2) :: .ref (b 3) :: .ref (b 4) :: .int 0 :: .ref (b 6) :: .int 0 :: .int 0 :: .int 0 :: .int 0 :: .int 0 :: .int 0 :: .int (-1) :: .ref (b 14) :: .ref (b 15) :: .ref (b 16) :: .int 0 :: .int 0 :: .int ts :: .ref (b 20) :: .ref (b 21) :: .ref (b 22) :: .ref (b 23) :: .ref (b 24) :: .ref (b 25) :: .ref (b 26) :: .ref (b 27) :: .ref (b 28) :: .ref (b 29) :: .int 0 :: .ref (b 31) :: .int 0 :: .ref (b 33) :: .long 0 :: .long 0 :: .long 0 :: .ref (b 37) :: .ref (b 38) :: .ref (b 39) :: .ref (b 40) :: [])) :: (b 1, .inl (cy 1, 102, .inl (fun _ => 0))) :: (b 2, .inl (cy 1, 306, .inl (fun _ => 0))) :: (b 3, .inl (cy 3, 3, .inl (fun _ => 0))) :: (b 4, .inl (cy 0, 800, .inl (fun _ => 0))) :: (b 6, .inl (cy 1, 5, .inl (fun _ => 0))) :: (b 14, .inl (cy 1, 102, .inl (fun _ => 0))) :: (b 15, .inl (cy 1, 7, .inl (fun _ => 0))) :: (b 16, .inl (cy 1, 8, .inl (fun _ => 0))) :: (b 20, .inl (cy 1, 7, .inl (fun _ => 0))) :: (b 21, .inl (cy 1, 8, .inl pn)) :: (b 22, .inl (cy 1, 136, .inl (fun _ => 0))) :: (b 23, .inl (cy 1, 119, .inl (fun _ => 0))) :: (b 24, .inl (cy 1, 16, .inl (fun _ => 0))) :: (b 25, .inl (cy 1, 28, .inl (fun _ => 0))) :: (b 26, .inl (cy 1, 8, .inl (fun _ => 0))) :: (b 27, .inl (cy 1, 4, .inl (fun _ => 0))) :: (b 28, .inl (cy 1, 4, .inl (fun _ => 0))) :: (b 29, .inl (cy 1, 7, .inl (fun _ => 0))) :: (b 31, .inl (cy 1, 544, .inl (fun _ => 0))) :: (b 33, .inl (cy 1, 128, .inl (fun _ => 0))) :: (b 37, .inl (cy 1, 4, .inl g217)) :: (b 38, .inl (cy 1, 4, .inl (fun _ => 0))) :: (b 39, .inl (cy 2, 240, .inr (.inl (fun _ => 0)))) :: (b 40, .inl (cy 2, 60, .inr (.inl (fun _ => 0)))) :: []) rfl (fun M F => ?_)
            refine g_iinc C dX8_row_72 (j := 0) rfl (v := nI (i52 + 1)) (nI_1 i52) (by decide) (lv2 := [(4, .int (nI (i52 + 1))), (0, .ref (b 0)), (1, .int 3), (2, .int 0), (3, .int p2)]) rfl ?_
            refine g_goto C dX8_row_75 (tgt := 52) (by decide) ?_
            exact ihi52 M F
          · skip
            refine g_lv [0, 1, 2, 3, 4] (lv2 := [(4, .int 60), (0, .ref (b 0)), (1, .int 3), (2, .int 0), (3, .int p2)]) rfl ?_
            refine g_iload C dX8_row_52 (j := 0) rfl ?_
            refine g_bipush C dX8_row_54 (v := 60) (by decide) ?_
            refine g_icmp_ge C dX8_row_56 (tgt := 78) (by decide) (fun _ => ?_) (fun q => absurd (by decide) q)
            refine g_iconst C dX8_row_78 (v := 0) (by decide) ?_
            exact g_iret C hrt dX8_row_79 (by decide) (by decide) (by have a1 : p2.toInt ≤ (60 : Int32).toInt := Int32.le_iff_toInt_le.mp q93; have a2 : (0 : Int32).toInt ≤ p2.toInt := Int32.le_iff_toInt_le.mp q94; have k2 : (0 : Int32).toInt = 0 := (by decide); have k3 : (3 : Int32).toInt = 3 := (by decide); have k4 : (60 : Int32).toInt = 60 := (by decide); unfold sp_row; repeat (first | rfl | (split) | (exfalso; omega)))
        · skip
          refine g_bipush C dX8_row_32 (v := -3) (by decide) ?_
          exact g_iret C hrt dX8_row_34 (by decide) (by decide) (by have a1 : p2.toInt ≤ (60 : Int32).toInt := Int32.le_iff_toInt_le.mp q93; have a2 : ¬ (0 : Int32).toInt ≤ p2.toInt := fun z => q94 (Int32.le_iff_toInt_le.mpr z); have k2 : (0 : Int32).toInt = 0 := (by decide); have k3 : (3 : Int32).toInt = 3 := (by decide); have k4 : (60 : Int32).toInt = 60 := (by decide); unfold sp_row; repeat (first | rfl | (split) | (exfalso; omega)))
      · skip
        refine g_bipush C dX8_row_25 (v := -2) (by decide) ?_
        exact g_iret C hrt dX8_row_27 (by decide) (by decide) (by have a1 : ¬ p2.toInt ≤ (60 : Int32).toInt := fun z => q93 (Int32.le_iff_toInt_le.mpr z); have k1 : (0 : Int32).toInt = 0 := (by decide); have k2 : (3 : Int32).toInt = 3 := (by decide); have k3 : (60 : Int32).toInt = 60 := (by decide); unfold sp_row; repeat (first | rfl | (split) | (exfalso; omega)))
    · skip
      refine g_iload_n C dX8_row_0 rfl (j := 1) rfl ?_
      refine g_callSI C (c_X8_isSlot l G F 3) lk_X8_394 rfl rfl dX8_row_1 (Nat.le_of_ble_eq_true rfl) ⟨by decide, by decide⟩ ⟨by decide, by decide⟩ (fun r95 L M hp => ?_)
      obtain ⟨r95_, F⟩ := hp
      obtain rfl : r95 = 1 := by
        rcases r95_ with ⟨z, z1⟩ | ⟨z, z1⟩
        · exact z
        · exact absurd (by decide) z1
      refine g_if_eq C dX8_row_4 (tgt := 25) (by decide) (fun q => absurd q (by decide)) (fun _ => ?_)
      refine g_iload_n C dX8_row_7 rfl (j := 2) rfl ?_
      refine g_i2l C dX8_row_8 (v := 1) (by decide) ?_
      refine g_lconst C dX8_row_9 (v := 0) (by decide) ?_
      refine g_ldc2 C (v := 3) wd235 dX8_row_10 ?_
      refine g_callSI C (c_X8_in l G F (1) (0) (3)) lk_X8_94 rfl rfl dX8_row_13 (Nat.le_of_ble_eq_true rfl) ⟨by decide, by decide⟩ ⟨by decide, by decide⟩ (fun r96 L M hp => ?_)
      obtain ⟨r96_, F⟩ := hp
      obtain rfl : r96 = 1 := by
        rcases r96_ with ⟨z, z1⟩ | ⟨z, z1⟩
        · exact z
        · exact absurd (by decide) z1
      refine g_if_eq C dX8_row_16 (tgt := 25) (by decide) (fun q => absurd q (by decide)) (fun _ => ?_)
      refine g_iload_n C dX8_row_19 rfl (j := 3) rfl ?_
      refine g_bipush C dX8_row_20 (v := 60) (by decide) ?_
      refine g_icmp_le C dX8_row_22 (tgt := 28) (by decide) (fun q97 => ?_) (fun q97 => ?_)
      · skip
        refine g_iload_n C dX8_row_28 rfl (j := 3) rfl ?_
        refine g_if_ge C dX8_row_29 (tgt := 35) (by decide) (fun q98 => ?_) (fun q98 => ?_)
        · skip
          refine g_aload_n C dX8_row_35 rfl (j := 0) rfl ?_
          refine h_get C F 0 rfl fk_X8_76 dX8_row_36 rfl ?_
          refine g_iload_n C dX8_row_39 rfl (j := 1) rfl ?_
          refine g_iload_n C dX8_row_40 rfl (j := 3) rfl ?_
          refine h_iastX C F 21 rfl dX8_row_41 (vp_in_iff.mpr (by decide)) (flf := fun g => (b 0, .inr (8, .int 0 :: .ref (b 1) :: .ref (b 2) :: .ref (b 3) :: .ref (b 4) :: .int 0 :: .ref (b 6) :: .int 0 :: .int 0 :: .int 0 :: .int 0 :: .int 0 :: .int 0 :: .int (-1) :: .ref (b 14) :: .ref (b 15) :: .ref (b 16) :: .int 0 :: .int 0 :: .int ts :: .ref (b 20) :: .ref (b 21) :: .ref (b 22) :: .ref (b 23) :: .ref (b 24) :: .ref (b 25) :: .ref (b 26) :: .ref (b 27) :: .ref (b 28) :: .ref (b 29) :: .int 0 :: .ref (b 31) :: .int 0 :: .ref (b 33) :: .long 0 :: .long 0 :: .long 0 :: .ref (b 37) :: .ref (b 38) :: .ref (b 39) :: .ref (b 40) :: [])) :: (b 1, .inl (cy 1, 102, .inl (fun _ => 0))) :: (b 2, .inl (cy 1, 306, .inl (fun _ => 0))) :: (b 3, .inl (cy 3, 3, .inl (fun _ => 0))) :: (b 4, .inl (cy 0, 800, .inl (fun _ => 0))) :: (b 6, .inl (cy 1, 5, .inl (fun _ => 0))) :: (b 14, .inl (cy 1, 102, .inl (fun _ => 0))) :: (b 15, .inl (cy 1, 7, .inl (fun _ => 0))) :: (b 16, .inl (cy 1, 8, .inl (fun _ => 0))) :: (b 20, .inl (cy 1, 7, .inl (fun _ => 0))) :: (b 21, .inl (cy 1, 8, .inl pn)) :: (b 22, .inl (cy 1, 136, .inl (fun _ => 0))) :: (b 23, .inl (cy 1, 119, .inl (fun _ => 0))) :: (b 24, .inl (cy 1, 16, .inl (fun _ => 0))) :: (b 25, .inl (cy 1, 28, .inl (fun _ => 0))) :: (b 26, .inl (cy 1, 8, .inl (fun _ => 0))) :: (b 27, .inl (cy 1, 4, .inl (fun _ => 0))) :: (b 28, .inl (cy 1, 4, .inl (fun _ => 0))) :: (b 29, .inl (cy 1, 7, .inl (fun _ => 0))) :: (b 31, .inl (cy 1, 544, .inl (fun _ => 0))) :: (b 33, .inl (cy 1, 128, .inl (fun _ => 0))) :: (b 37, .inl (cy 1, 4, .inl g)) :: (b 38, .inl (cy 1, 4, .inl (fun _ => 0))) :: (b 39, .inl (cy 2, 240, .inr (.inl (fun _ => 0)))) :: (b 40, .inl (cy 2, 60, .inr (.inl (fun _ => 0)))) :: []) (fun _ => rfl) (fun M g218 F => ?_)
          refine g_aload_n C dX8_row_42 rfl (j := 0) rfl ?_
          refine h_get C F 0 rfl fk_X8_79 dX8_row_43 rfl ?_
          refine g_iload_n C dX8_row_46 rfl (j := 1) rfl ?_
          refine g_iload_n C dX8_row_47 rfl (j := 2) rfl ?_
          refine h_iastX C F 22 rfl dX8_row_48 (vp_in_iff.mpr (by decide)) (flf := fun g => (b 0, .inr (8, .int 0 :: .ref (b 1) :: .ref (b 2) :: .ref (b 3) :: .ref (b 4) :: .int 0 :: .ref (b 6) :: .int 0 :: .int 0 :: .int 0 :: .int 0 :: .int 0 :: .int 0 :: .int (-1) :: .ref (b 14) :: .ref (b 15) :: .ref (b 16) :: .int 0 :: .int 0 :: .int ts :: .ref (b 20) :: .ref (b 21) :: .ref (b 22) :: .ref (b 23) :: .ref (b 24) :: .ref (b 25) :: .ref (b 26) :: .ref (b 27) :: .ref (b 28) :: .ref (b 29) :: .int 0 :: .ref (b 31) :: .int 0 :: .ref (b 33) :: .long 0 :: .long 0 :: .long 0 :: .ref (b 37) :: .ref (b 38) :: .ref (b 39) :: .ref (b 40) :: [])) :: (b 1, .inl (cy 1, 102, .inl (fun _ => 0))) :: (b 2, .inl (cy 1, 306, .inl (fun _ => 0))) :: (b 3, .inl (cy 3, 3, .inl (fun _ => 0))) :: (b 4, .inl (cy 0, 800, .inl (fun _ => 0))) :: (b 6, .inl (cy 1, 5, .inl (fun _ => 0))) :: (b 14, .inl (cy 1, 102, .inl (fun _ => 0))) :: (b 15, .inl (cy 1, 7, .inl (fun _ => 0))) :: (b 16, .inl (cy 1, 8, .inl (fun _ => 0))) :: (b 20, .inl (cy 1, 7, .inl (fun _ => 0))) :: (b 21, .inl (cy 1, 8, .inl pn)) :: (b 22, .inl (cy 1, 136, .inl (fun _ => 0))) :: (b 23, .inl (cy 1, 119, .inl (fun _ => 0))) :: (b 24, .inl (cy 1, 16, .inl (fun _ => 0))) :: (b 25, .inl (cy 1, 28, .inl (fun _ => 0))) :: (b 26, .inl (cy 1, 8, .inl (fun _ => 0))) :: (b 27, .inl (cy 1, 4, .inl (fun _ => 0))) :: (b 28, .inl (cy 1, 4, .inl (fun _ => 0))) :: (b 29, .inl (cy 1, 7, .inl (fun _ => 0))) :: (b 31, .inl (cy 1, 544, .inl (fun _ => 0))) :: (b 33, .inl (cy 1, 128, .inl (fun _ => 0))) :: (b 37, .inl (cy 1, 4, .inl g218)) :: (b 38, .inl (cy 1, 4, .inl g)) :: (b 39, .inl (cy 2, 240, .inr (.inl (fun _ => 0)))) :: (b 40, .inl (cy 2, 60, .inr (.inl (fun _ => 0)))) :: []) (fun _ => rfl) (fun M g219 F => ?_)
          refine g_iconst C dX8_row_49 (v := 0) (by decide) ?_
          refine g_istore C dX8_row_50 (by decide) (lv2 := [(4, .int 0), (0, .ref (b 0)), (1, .int 3), (2, .int 1), (3, .int p2)]) rfl ?_
          refine g_lv [0, 1, 2, 3, 4] (lv2 := [(4, .int 0), (0, .ref (b 0)), (1, .int 3), (2, .int 1), (3, .int p2)]) rfl ?_
          refine g_loop 60 (lvf := fun i52 => [(4, .int (nI i52)), (0, .ref (b 0)), (1, .int 3), (2, .int 1), (3, .int p2)]) (fun i52 M F hii52 ihi52 => ?_) (fun M F => ?_) F
          · skip
            refine g_iload C dX8_row_52 (j := 0) rfl ?_
            refine g_bipush C dX8_row_54 (v := 60) (by decide) ?_
            refine g_icmp_ge C dX8_row_56 (tgt := 78) (by decide) (fun q => absurd q (nI_ge hii52 (by decide))) (fun _ => ?_)
            refine g_aload_n C dX8_row_59 rfl (j := 1) rfl ?_
            refine h_get C F 0 rfl fk_X8_82 dX8_row_60 rfl ?_
            refine g_bipush C dX8_row_63 (v := 60) (by decide) ?_
            refine g_iload_n C dX8_row_65 rfl (j := 2) rfl ?_
            refine g_imul C dX8_row_66 ?_
            refine Go.top (v := .int 180) (by decide) ?_
            refine g_iload C dX8_row_67 (j := 0) rfl ?_
            refine g_iadd C dX8_row_69 ?_
            refine Go.top (v := .int (nI (180 + i52))) (congrArg Value.int (nI_add 180 i52)) ?_
            refine g_lconst C dX8_row_70 (v := 0) (by decide) ?_
            refine h_last C F 23 rfl dX8_row_71 (vp_in_nI (by omega) (by decide)) (g := (fun _ => 0)) (updL0 _) (fl2 := (b 0, .inr (8, .int 0 :: .ref (b 1) :: .ref (b 2) :: .ref (b 3) :: .ref (b 4) :: .int 0 :: .ref (b 6) :: .int 0 :: .int 0 :: .int 0 :: .int 0 :: .int 0 :: .int 0 :: .int (-1) :: .ref (b 14) :: .ref (b 15) :: .ref (b 16) :: .int 0 :: .int 0 :: .int ts :: .ref (b 20) :: .ref (b 21) :: .ref (b 22) :: .ref (b 23) :: .ref (b 24) :: .ref (b 25) :: .ref (b 26) :: .ref (b 27) :: .ref (b 28) :: .ref (b 29) :: .int 0 :: .ref (b 31) :: .int 0 :: .ref (b 33) :: .long 0 :: .long 0 :: .long 0 :: .ref (b 37) :: .ref (b 38) :: .ref (b 39) :: .ref (b 40) :: [])) :: (b 1, .inl (cy 1, 102, .inl (fun _ => 0))) :: (b 2, .inl (cy 1, 306, .inl (fun _ => 0))) :: (b 3, .inl (cy 3, 3, .inl (fun _ => 0))) :: (b 4, .inl (cy 0, 800, .inl (fun _ => 0))) :: (b 6, .inl (cy 1, 5, .inl (fun _ => 0))) :: (b 14, .inl (cy 1, 102, .inl (fun _ => 0))) :: (b 15, .inl (cy 1, 7, .inl (fun _ => 0))) :: (b 16, .inl (cy 1, 8, .inl (fun _ => 0))) :: (b 20, .inl (cy 1, 7, .inl (fun _ => 0))) :: (b 21, .inl (cy 1, 8, .inl pn)) :: (b 22, .inl (cy 1, 136, .inl (fun _ => 0))) :: (b 23, .inl (cy 1, 119, .inl (fun _ => 0))) :: (b 24, .inl (cy 1, 16, .inl (fun _ => 0))) :: (b 25, .inl (cy 1, 28, .inl (fun _ => 0))) :: (b 26, .inl (cy 1, 8, .inl (fun _ => 0))) :: (b 27, .inl (cy 1, 4, .inl (fun _ => 0))) :: (b 28, .inl (cy 1, 4, .inl (fun _ => 0))) :: (b 29, .inl (cy 1, 7, .inl (fun _ => 0))) :: (b 31, .inl (cy 1, 544, .inl (fun _ => 0))) :: (b 33, .inl (cy 1, 128, .inl (fun _ => 0))) :: (b 37, .inl (cy 1, 4, .inl g218)) :: (b 38, .inl (cy 1, 4, .inl g219)) :: (b 39, .inl (cy 2, 240, .inr (.inl (fun _ => 0)))) :: (b 40, .inl (cy 2, 60, .inr (.inl (fun _ => 0)))) :: []) rfl (fun M F => ?_)
            refine g_iinc C dX8_row_72 (j := 0) rfl (v := nI (i52 + 1)) (nI_1 i52) (by decide) (lv2 := [(4, .int (nI (i52 + 1))), (0, .ref (b 0)), (1, .int 3), (2, .int 1), (3, .int p2)]) rfl ?_
            refine g_goto C dX8_row_75 (tgt := 52) (by decide) ?_
            exact ihi52 M F
          · skip
            refine g_lv [0, 1, 2, 3, 4] (lv2 := [(4, .int 60), (0, .ref (b 0)), (1, .int 3), (2, .int 1), (3, .int p2)]) rfl ?_
            refine g_iload C dX8_row_52 (j := 0) rfl ?_
            refine g_bipush C dX8_row_54 (v := 60) (by decide) ?_
            refine g_icmp_ge C dX8_row_56 (tgt := 78) (by decide) (fun _ => ?_) (fun q => absurd (by decide) q)
            refine g_iconst C dX8_row_78 (v := 0) (by decide) ?_
            exact g_iret C hrt dX8_row_79 (by decide) (by decide) (by have a1 : p2.toInt ≤ (60 : Int32).toInt := Int32.le_iff_toInt_le.mp q97; have a2 : (0 : Int32).toInt ≤ p2.toInt := Int32.le_iff_toInt_le.mp q98; have k2 : (0 : Int32).toInt = 0 := (by decide); have k3 : (1 : Int32).toInt = 1 := (by decide); have k4 : (3 : Int32).toInt = 3 := (by decide); have k5 : (60 : Int32).toInt = 60 := (by decide); unfold sp_row; repeat (first | rfl | (split) | (exfalso; omega)))
        · skip
          refine g_bipush C dX8_row_32 (v := -3) (by decide) ?_
          exact g_iret C hrt dX8_row_34 (by decide) (by decide) (by have a1 : p2.toInt ≤ (60 : Int32).toInt := Int32.le_iff_toInt_le.mp q97; have a2 : ¬ (0 : Int32).toInt ≤ p2.toInt := fun z => q98 (Int32.le_iff_toInt_le.mpr z); have k2 : (0 : Int32).toInt = 0 := (by decide); have k3 : (1 : Int32).toInt = 1 := (by decide); have k4 : (3 : Int32).toInt = 3 := (by decide); have k5 : (60 : Int32).toInt = 60 := (by decide); unfold sp_row; repeat (first | rfl | (split) | (exfalso; omega)))
      · skip
        refine g_bipush C dX8_row_25 (v := -2) (by decide) ?_
        exact g_iret C hrt dX8_row_27 (by decide) (by decide) (by have a1 : ¬ p2.toInt ≤ (60 : Int32).toInt := fun z => q97 (Int32.le_iff_toInt_le.mpr z); have k1 : (1 : Int32).toInt = 1 := (by decide); have k2 : (3 : Int32).toInt = 3 := (by decide); have k3 : (60 : Int32).toInt = 60 := (by decide); unfold sp_row; repeat (first | rfl | (split) | (exfalso; omega)))
    · skip
      refine g_iload_n C dX8_row_0 rfl (j := 1) rfl ?_
      refine g_callSI C (c_X8_isSlot l G F 3) lk_X8_394 rfl rfl dX8_row_1 (Nat.le_of_ble_eq_true rfl) ⟨by decide, by decide⟩ ⟨by decide, by decide⟩ (fun r99 L M hp => ?_)
      obtain ⟨r99_, F⟩ := hp
      obtain rfl : r99 = 1 := by
        rcases r99_ with ⟨z, z1⟩ | ⟨z, z1⟩
        · exact z
        · exact absurd (by decide) z1
      refine g_if_eq C dX8_row_4 (tgt := 25) (by decide) (fun q => absurd q (by decide)) (fun _ => ?_)
      refine g_iload_n C dX8_row_7 rfl (j := 2) rfl ?_
      refine g_i2l C dX8_row_8 (v := 2) (by decide) ?_
      refine g_lconst C dX8_row_9 (v := 0) (by decide) ?_
      refine g_ldc2 C (v := 3) wd235 dX8_row_10 ?_
      refine g_callSI C (c_X8_in l G F (2) (0) (3)) lk_X8_94 rfl rfl dX8_row_13 (Nat.le_of_ble_eq_true rfl) ⟨by decide, by decide⟩ ⟨by decide, by decide⟩ (fun r100 L M hp => ?_)
      obtain ⟨r100_, F⟩ := hp
      obtain rfl : r100 = 1 := by
        rcases r100_ with ⟨z, z1⟩ | ⟨z, z1⟩
        · exact z
        · exact absurd (by decide) z1
      refine g_if_eq C dX8_row_16 (tgt := 25) (by decide) (fun q => absurd q (by decide)) (fun _ => ?_)
      refine g_iload_n C dX8_row_19 rfl (j := 3) rfl ?_
      refine g_bipush C dX8_row_20 (v := 60) (by decide) ?_
      refine g_icmp_le C dX8_row_22 (tgt := 28) (by decide) (fun q101 => ?_) (fun q101 => ?_)
      · skip
        refine g_iload_n C dX8_row_28 rfl (j := 3) rfl ?_
        refine g_if_ge C dX8_row_29 (tgt := 35) (by decide) (fun q102 => ?_) (fun q102 => ?_)
        · skip
          refine g_aload_n C dX8_row_35 rfl (j := 0) rfl ?_
          refine h_get C F 0 rfl fk_X8_76 dX8_row_36 rfl ?_
          refine g_iload_n C dX8_row_39 rfl (j := 1) rfl ?_
          refine g_iload_n C dX8_row_40 rfl (j := 3) rfl ?_
          refine h_iastX C F 21 rfl dX8_row_41 (vp_in_iff.mpr (by decide)) (flf := fun g => (b 0, .inr (8, .int 0 :: .ref (b 1) :: .ref (b 2) :: .ref (b 3) :: .ref (b 4) :: .int 0 :: .ref (b 6) :: .int 0 :: .int 0 :: .int 0 :: .int 0 :: .int 0 :: .int 0 :: .int (-1) :: .ref (b 14) :: .ref (b 15) :: .ref (b 16) :: .int 0 :: .int 0 :: .int ts :: .ref (b 20) :: .ref (b 21) :: .ref (b 22) :: .ref (b 23) :: .ref (b 24) :: .ref (b 25) :: .ref (b 26) :: .ref (b 27) :: .ref (b 28) :: .ref (b 29) :: .int 0 :: .ref (b 31) :: .int 0 :: .ref (b 33) :: .long 0 :: .long 0 :: .long 0 :: .ref (b 37) :: .ref (b 38) :: .ref (b 39) :: .ref (b 40) :: [])) :: (b 1, .inl (cy 1, 102, .inl (fun _ => 0))) :: (b 2, .inl (cy 1, 306, .inl (fun _ => 0))) :: (b 3, .inl (cy 3, 3, .inl (fun _ => 0))) :: (b 4, .inl (cy 0, 800, .inl (fun _ => 0))) :: (b 6, .inl (cy 1, 5, .inl (fun _ => 0))) :: (b 14, .inl (cy 1, 102, .inl (fun _ => 0))) :: (b 15, .inl (cy 1, 7, .inl (fun _ => 0))) :: (b 16, .inl (cy 1, 8, .inl (fun _ => 0))) :: (b 20, .inl (cy 1, 7, .inl (fun _ => 0))) :: (b 21, .inl (cy 1, 8, .inl pn)) :: (b 22, .inl (cy 1, 136, .inl (fun _ => 0))) :: (b 23, .inl (cy 1, 119, .inl (fun _ => 0))) :: (b 24, .inl (cy 1, 16, .inl (fun _ => 0))) :: (b 25, .inl (cy 1, 28, .inl (fun _ => 0))) :: (b 26, .inl (cy 1, 8, .inl (fun _ => 0))) :: (b 27, .inl (cy 1, 4, .inl (fun _ => 0))) :: (b 28, .inl (cy 1, 4, .inl (fun _ => 0))) :: (b 29, .inl (cy 1, 7, .inl (fun _ => 0))) :: (b 31, .inl (cy 1, 544, .inl (fun _ => 0))) :: (b 33, .inl (cy 1, 128, .inl (fun _ => 0))) :: (b 37, .inl (cy 1, 4, .inl g)) :: (b 38, .inl (cy 1, 4, .inl (fun _ => 0))) :: (b 39, .inl (cy 2, 240, .inr (.inl (fun _ => 0)))) :: (b 40, .inl (cy 2, 60, .inr (.inl (fun _ => 0)))) :: []) (fun _ => rfl) (fun M g220 F => ?_)
          refine g_aload_n C dX8_row_42 rfl (j := 0) rfl ?_
          refine h_get C F 0 rfl fk_X8_79 dX8_row_43 rfl ?_
          refine g_iload_n C dX8_row_46 rfl (j := 1) rfl ?_
          refine g_iload_n C dX8_row_47 rfl (j := 2) rfl ?_
          refine h_iastX C F 22 rfl dX8_row_48 (vp_in_iff.mpr (by decide)) (flf := fun g => (b 0, .inr (8, .int 0 :: .ref (b 1) :: .ref (b 2) :: .ref (b 3) :: .ref (b 4) :: .int 0 :: .ref (b 6) :: .int 0 :: .int 0 :: .int 0 :: .int 0 :: .int 0 :: .int 0 :: .int (-1) :: .ref (b 14) :: .ref (b 15) :: .ref (b 16) :: .int 0 :: .int 0 :: .int ts :: .ref (b 20) :: .ref (b 21) :: .ref (b 22) :: .ref (b 23) :: .ref (b 24) :: .ref (b 25) :: .ref (b 26) :: .ref (b 27) :: .ref (b 28) :: .ref (b 29) :: .int 0 :: .ref (b 31) :: .int 0 :: .ref (b 33) :: .long 0 :: .long 0 :: .long 0 :: .ref (b 37) :: .ref (b 38) :: .ref (b 39) :: .ref (b 40) :: [])) :: (b 1, .inl (cy 1, 102, .inl (fun _ => 0))) :: (b 2, .inl (cy 1, 306, .inl (fun _ => 0))) :: (b 3, .inl (cy 3, 3, .inl (fun _ => 0))) :: (b 4, .inl (cy 0, 800, .inl (fun _ => 0))) :: (b 6, .inl (cy 1, 5, .inl (fun _ => 0))) :: (b 14, .inl (cy 1, 102, .inl (fun _ => 0))) :: (b 15, .inl (cy 1, 7, .inl (fun _ => 0))) :: (b 16, .inl (cy 1, 8, .inl (fun _ => 0))) :: (b 20, .inl (cy 1, 7, .inl (fun _ => 0))) :: (b 21, .inl (cy 1, 8, .inl pn)) :: (b 22, .inl (cy 1, 136, .inl (fun _ => 0))) :: (b 23, .inl (cy 1, 119, .inl (fun _ => 0))) :: (b 24, .inl (cy 1, 16, .inl (fun _ => 0))) :: (b 25, .inl (cy 1, 28, .inl (fun _ => 0))) :: (b 26, .inl (cy 1, 8, .inl (fun _ => 0))) :: (b 27, .inl (cy 1, 4, .inl (fun _ => 0))) :: (b 28, .inl (cy 1, 4, .inl (fun _ => 0))) :: (b 29, .inl (cy 1, 7, .inl (fun _ => 0))) :: (b 31, .inl (cy 1, 544, .inl (fun _ => 0))) :: (b 33, .inl (cy 1, 128, .inl (fun _ => 0))) :: (b 37, .inl (cy 1, 4, .inl g220)) :: (b 38, .inl (cy 1, 4, .inl g)) :: (b 39, .inl (cy 2, 240, .inr (.inl (fun _ => 0)))) :: (b 40, .inl (cy 2, 60, .inr (.inl (fun _ => 0)))) :: []) (fun _ => rfl) (fun M g221 F => ?_)
          refine g_iconst C dX8_row_49 (v := 0) (by decide) ?_
          refine g_istore C dX8_row_50 (by decide) (lv2 := [(4, .int 0), (0, .ref (b 0)), (1, .int 3), (2, .int 2), (3, .int p2)]) rfl ?_
          refine g_lv [0, 1, 2, 3, 4] (lv2 := [(4, .int 0), (0, .ref (b 0)), (1, .int 3), (2, .int 2), (3, .int p2)]) rfl ?_
          refine g_loop 60 (lvf := fun i52 => [(4, .int (nI i52)), (0, .ref (b 0)), (1, .int 3), (2, .int 2), (3, .int p2)]) (fun i52 M F hii52 ihi52 => ?_) (fun M F => ?_) F
          · skip
            refine g_iload C dX8_row_52 (j := 0) rfl ?_
            refine g_bipush C dX8_row_54 (v := 60) (by decide) ?_
            refine g_icmp_ge C dX8_row_56 (tgt := 78) (by decide) (fun q => absurd q (nI_ge hii52 (by decide))) (fun _ => ?_)
            refine g_aload_n C dX8_row_59 rfl (j := 1) rfl ?_
            refine h_get C F 0 rfl fk_X8_82 dX8_row_60 rfl ?_
            refine g_bipush C dX8_row_63 (v := 60) (by decide) ?_
            refine g_iload_n C dX8_row_65 rfl (j := 2) rfl ?_
            refine g_imul C dX8_row_66 ?_
            refine Go.top (v := .int 180) (by decide) ?_
            refine g_iload C dX8_row_67 (j := 0) rfl ?_
            refine g_iadd C dX8_row_69 ?_
            refine Go.top (v := .int (nI (180 + i52))) (congrArg Value.int (nI_add 180 i52)) ?_
            refine g_lconst C dX8_row_70 (v := 0) (by decide) ?_
            refine h_last C F 23 rfl dX8_row_71 (vp_in_nI (by omega) (by decide)) (g := (fun _ => 0)) (updL0 _) (fl2 := (b 0, .inr (8, .int 0 :: .ref (b 1) :: .ref (b 2) :: .ref (b 3) :: .ref (b 4) :: .int 0 :: .ref (b 6) :: .int 0 :: .int 0 :: .int 0 :: .int 0 :: .int 0 :: .int 0 :: .int (-1) :: .ref (b 14) :: .ref (b 15) :: .ref (b 16) :: .int 0 :: .int 0 :: .int ts :: .ref (b 20) :: .ref (b 21) :: .ref (b 22) :: .ref (b 23) :: .ref (b 24) :: .ref (b 25) :: .ref (b 26) :: .ref (b 27) :: .ref (b 28) :: .ref (b 29) :: .int 0 :: .ref (b 31) :: .int 0 :: .ref (b 33) :: .long 0 :: .long 0 :: .long 0 :: .ref (b 37) :: .ref (b 38) :: .ref (b 39) :: .ref (b 40) :: [])) :: (b 1, .inl (cy 1, 102, .inl (fun _ => 0))) :: (b 2, .inl (cy 1, 306, .inl (fun _ => 0))) :: (b 3, .inl (cy 3, 3, .inl (fun _ => 0))) :: (b 4, .inl (cy 0, 800, .inl (fun _ => 0))) :: (b 6, .inl (cy 1, 5, .inl (fun _ => 0))) :: (b 14, .inl (cy 1, 102, .inl (fun _ => 0))) :: (b 15, .inl (cy 1, 7, .inl (fun _ => 0))) :: (b 16, .inl (cy 1, 8, .inl (fun _ => 0))) :: (b 20, .inl (cy 1, 7, .inl (fun _ => 0))) :: (b 21, .inl (cy 1, 8, .inl pn)) :: (b 22, .inl (cy 1, 136, .inl (fun _ => 0))) :: (b 23, .inl (cy 1, 119, .inl (fun _ => 0))) :: (b 24, .inl (cy 1, 16, .inl (fun _ => 0))) :: (b 25, .inl (cy 1, 28, .inl (fun _ => 0))) :: (b 26, .inl (cy 1, 8, .inl (fun _ => 0))) :: (b 27, .inl (cy 1, 4, .inl (fun _ => 0))) :: (b 28, .inl (cy 1, 4, .inl (fun _ => 0))) :: (b 29, .inl (cy 1, 7, .inl (fun _ => 0))) :: (b 31, .inl (cy 1, 544, .inl (fun _ => 0))) :: (b 33, .inl (cy 1, 128, .inl (fun _ => 0))) :: (b 37, .inl (cy 1, 4, .inl g220)) :: (b 38, .inl (cy 1, 4, .inl g221)) :: (b 39, .inl (cy 2, 240, .inr (.inl (fun _ => 0)))) :: (b 40, .inl (cy 2, 60, .inr (.inl (fun _ => 0)))) :: []) rfl (fun M F => ?_)
            refine g_iinc C dX8_row_72 (j := 0) rfl (v := nI (i52 + 1)) (nI_1 i52) (by decide) (lv2 := [(4, .int (nI (i52 + 1))), (0, .ref (b 0)), (1, .int 3), (2, .int 2), (3, .int p2)]) rfl ?_
            refine g_goto C dX8_row_75 (tgt := 52) (by decide) ?_
            exact ihi52 M F
          · skip
            refine g_lv [0, 1, 2, 3, 4] (lv2 := [(4, .int 60), (0, .ref (b 0)), (1, .int 3), (2, .int 2), (3, .int p2)]) rfl ?_
            refine g_iload C dX8_row_52 (j := 0) rfl ?_
            refine g_bipush C dX8_row_54 (v := 60) (by decide) ?_
            refine g_icmp_ge C dX8_row_56 (tgt := 78) (by decide) (fun _ => ?_) (fun q => absurd (by decide) q)
            refine g_iconst C dX8_row_78 (v := 0) (by decide) ?_
            exact g_iret C hrt dX8_row_79 (by decide) (by decide) (by have a1 : p2.toInt ≤ (60 : Int32).toInt := Int32.le_iff_toInt_le.mp q101; have a2 : (0 : Int32).toInt ≤ p2.toInt := Int32.le_iff_toInt_le.mp q102; have k2 : (0 : Int32).toInt = 0 := (by decide); have k3 : (2 : Int32).toInt = 2 := (by decide); have k4 : (3 : Int32).toInt = 3 := (by decide); have k5 : (60 : Int32).toInt = 60 := (by decide); unfold sp_row; repeat (first | rfl | (split) | (exfalso; omega)))
        · skip
          refine g_bipush C dX8_row_32 (v := -3) (by decide) ?_
          exact g_iret C hrt dX8_row_34 (by decide) (by decide) (by have a1 : p2.toInt ≤ (60 : Int32).toInt := Int32.le_iff_toInt_le.mp q101; have a2 : ¬ (0 : Int32).toInt ≤ p2.toInt := fun z => q102 (Int32.le_iff_toInt_le.mpr z); have k2 : (0 : Int32).toInt = 0 := (by decide); have k3 : (2 : Int32).toInt = 2 := (by decide); have k4 : (3 : Int32).toInt = 3 := (by decide); have k5 : (60 : Int32).toInt = 60 := (by decide); unfold sp_row; repeat (first | rfl | (split) | (exfalso; omega)))
      · skip
        refine g_bipush C dX8_row_25 (v := -2) (by decide) ?_
        exact g_iret C hrt dX8_row_27 (by decide) (by decide) (by have a1 : ¬ p2.toInt ≤ (60 : Int32).toInt := fun z => q101 (Int32.le_iff_toInt_le.mpr z); have k1 : (2 : Int32).toInt = 2 := (by decide); have k2 : (3 : Int32).toInt = 3 := (by decide); have k3 : (60 : Int32).toInt = 60 := (by decide); unfold sp_row; repeat (first | rfl | (split) | (exfalso; omega)))
    · skip
      refine g_iload_n C dX8_row_0 rfl (j := 1) rfl ?_
      refine g_callSI C (c_X8_isSlot l G F 3) lk_X8_394 rfl rfl dX8_row_1 (Nat.le_of_ble_eq_true rfl) ⟨by decide, by decide⟩ ⟨by decide, by decide⟩ (fun r103 L M hp => ?_)
      obtain ⟨r103_, F⟩ := hp
      obtain rfl : r103 = 1 := by
        rcases r103_ with ⟨z, z1⟩ | ⟨z, z1⟩
        · exact z
        · exact absurd (by decide) z1
      refine g_if_eq C dX8_row_4 (tgt := 25) (by decide) (fun q => absurd q (by decide)) (fun _ => ?_)
      refine g_iload_n C dX8_row_7 rfl (j := 2) rfl ?_
      refine g_i2l C dX8_row_8 (v := 3) (by decide) ?_
      refine g_lconst C dX8_row_9 (v := 0) (by decide) ?_
      refine g_ldc2 C (v := 3) wd235 dX8_row_10 ?_
      refine g_callSI C (c_X8_in l G F (3) (0) (3)) lk_X8_94 rfl rfl dX8_row_13 (Nat.le_of_ble_eq_true rfl) ⟨by decide, by decide⟩ ⟨by decide, by decide⟩ (fun r104 L M hp => ?_)
      obtain ⟨r104_, F⟩ := hp
      obtain rfl : r104 = 1 := by
        rcases r104_ with ⟨z, z1⟩ | ⟨z, z1⟩
        · exact z
        · exact absurd (by decide) z1
      refine g_if_eq C dX8_row_16 (tgt := 25) (by decide) (fun q => absurd q (by decide)) (fun _ => ?_)
      refine g_iload_n C dX8_row_19 rfl (j := 3) rfl ?_
      refine g_bipush C dX8_row_20 (v := 60) (by decide) ?_
      refine g_icmp_le C dX8_row_22 (tgt := 28) (by decide) (fun q105 => ?_) (fun q105 => ?_)
      · skip
        refine g_iload_n C dX8_row_28 rfl (j := 3) rfl ?_
        refine g_if_ge C dX8_row_29 (tgt := 35) (by decide) (fun q106 => ?_) (fun q106 => ?_)
        · skip
          refine g_aload_n C dX8_row_35 rfl (j := 0) rfl ?_
          refine h_get C F 0 rfl fk_X8_76 dX8_row_36 rfl ?_
          refine g_iload_n C dX8_row_39 rfl (j := 1) rfl ?_
          refine g_iload_n C dX8_row_40 rfl (j := 3) rfl ?_
          refine h_iastX C F 21 rfl dX8_row_41 (vp_in_iff.mpr (by decide)) (flf := fun g => (b 0, .inr (8, .int 0 :: .ref (b 1) :: .ref (b 2) :: .ref (b 3) :: .ref (b 4) :: .int 0 :: .ref (b 6) :: .int 0 :: .int 0 :: .int 0 :: .int 0 :: .int 0 :: .int 0 :: .int (-1) :: .ref (b 14) :: .ref (b 15) :: .ref (b 16) :: .int 0 :: .int 0 :: .int ts :: .ref (b 20) :: .ref (b 21) :: .ref (b 22) :: .ref (b 23) :: .ref (b 24) :: .ref (b 25) :: .ref (b 26) :: .ref (b 27) :: .ref (b 28) :: .ref (b 29) :: .int 0 :: .ref (b 31) :: .int 0 :: .ref (b 33) :: .long 0 :: .long 0 :: .long 0 :: .ref (b 37) :: .ref (b 38) :: .ref (b 39) :: .ref (b 40) :: [])) :: (b 1, .inl (cy 1, 102, .inl (fun _ => 0))) :: (b 2, .inl (cy 1, 306, .inl (fun _ => 0))) :: (b 3, .inl (cy 3, 3, .inl (fun _ => 0))) :: (b 4, .inl (cy 0, 800, .inl (fun _ => 0))) :: (b 6, .inl (cy 1, 5, .inl (fun _ => 0))) :: (b 14, .inl (cy 1, 102, .inl (fun _ => 0))) :: (b 15, .inl (cy 1, 7, .inl (fun _ => 0))) :: (b 16, .inl (cy 1, 8, .inl (fun _ => 0))) :: (b 20, .inl (cy 1, 7, .inl (fun _ => 0))) :: (b 21, .inl (cy 1, 8, .inl pn)) :: (b 22, .inl (cy 1, 136, .inl (fun _ => 0))) :: (b 23, .inl (cy 1, 119, .inl (fun _ => 0))) :: (b 24, .inl (cy 1, 16, .inl (fun _ => 0))) :: (b 25, .inl (cy 1, 28, .inl (fun _ => 0))) :: (b 26, .inl (cy 1, 8, .inl (fun _ => 0))) :: (b 27, .inl (cy 1, 4, .inl (fun _ => 0))) :: (b 28, .inl (cy 1, 4, .inl (fun _ => 0))) :: (b 29, .inl (cy 1, 7, .inl (fun _ => 0))) :: (b 31, .inl (cy 1, 544, .inl (fun _ => 0))) :: (b 33, .inl (cy 1, 128, .inl (fun _ => 0))) :: (b 37, .inl (cy 1, 4, .inl g)) :: (b 38, .inl (cy 1, 4, .inl (fun _ => 0))) :: (b 39, .inl (cy 2, 240, .inr (.inl (fun _ => 0)))) :: (b 40, .inl (cy 2, 60, .inr (.inl (fun _ => 0)))) :: []) (fun _ => rfl) (fun M g222 F => ?_)
          refine g_aload_n C dX8_row_42 rfl (j := 0) rfl ?_
          refine h_get C F 0 rfl fk_X8_79 dX8_row_43 rfl ?_
          refine g_iload_n C dX8_row_46 rfl (j := 1) rfl ?_
          refine g_iload_n C dX8_row_47 rfl (j := 2) rfl ?_
          refine h_iastX C F 22 rfl dX8_row_48 (vp_in_iff.mpr (by decide)) (flf := fun g => (b 0, .inr (8, .int 0 :: .ref (b 1) :: .ref (b 2) :: .ref (b 3) :: .ref (b 4) :: .int 0 :: .ref (b 6) :: .int 0 :: .int 0 :: .int 0 :: .int 0 :: .int 0 :: .int 0 :: .int (-1) :: .ref (b 14) :: .ref (b 15) :: .ref (b 16) :: .int 0 :: .int 0 :: .int ts :: .ref (b 20) :: .ref (b 21) :: .ref (b 22) :: .ref (b 23) :: .ref (b 24) :: .ref (b 25) :: .ref (b 26) :: .ref (b 27) :: .ref (b 28) :: .ref (b 29) :: .int 0 :: .ref (b 31) :: .int 0 :: .ref (b 33) :: .long 0 :: .long 0 :: .long 0 :: .ref (b 37) :: .ref (b 38) :: .ref (b 39) :: .ref (b 40) :: [])) :: (b 1, .inl (cy 1, 102, .inl (fun _ => 0))) :: (b 2, .inl (cy 1, 306, .inl (fun _ => 0))) :: (b 3, .inl (cy 3, 3, .inl (fun _ => 0))) :: (b 4, .inl (cy 0, 800, .inl (fun _ => 0))) :: (b 6, .inl (cy 1, 5, .inl (fun _ => 0))) :: (b 14, .inl (cy 1, 102, .inl (fun _ => 0))) :: (b 15, .inl (cy 1, 7, .inl (fun _ => 0))) :: (b 16, .inl (cy 1, 8, .inl (fun _ => 0))) :: (b 20, .inl (cy 1, 7, .inl (fun _ => 0))) :: (b 21, .inl (cy 1, 8, .inl pn)) :: (b 22, .inl (cy 1, 136, .inl (fun _ => 0))) :: (b 23, .inl (cy 1, 119, .inl (fun _ => 0))) :: (b 24, .inl (cy 1, 16, .inl (fun _ => 0))) :: (b 25, .inl (cy 1, 28, .inl (fun _ => 0))) :: (b 26, .inl (cy 1, 8, .inl (fun _ => 0))) :: (b 27, .inl (cy 1, 4, .inl (fun _ => 0))) :: (b 28, .inl (cy 1, 4, .inl (fun _ => 0))) :: (b 29, .inl (cy 1, 7, .inl (fun _ => 0))) :: (b 31, .inl (cy 1, 544, .inl (fun _ => 0))) :: (b 33, .inl (cy 1, 128, .inl (fun _ => 0))) :: (b 37, .inl (cy 1, 4, .inl g222)) :: (b 38, .inl (cy 1, 4, .inl g)) :: (b 39, .inl (cy 2, 240, .inr (.inl (fun _ => 0)))) :: (b 40, .inl (cy 2, 60, .inr (.inl (fun _ => 0)))) :: []) (fun _ => rfl) (fun M g223 F => ?_)
          refine g_iconst C dX8_row_49 (v := 0) (by decide) ?_
          refine g_istore C dX8_row_50 (by decide) (lv2 := [(4, .int 0), (0, .ref (b 0)), (1, .int 3), (2, .int 3), (3, .int p2)]) rfl ?_
          refine g_lv [0, 1, 2, 3, 4] (lv2 := [(4, .int 0), (0, .ref (b 0)), (1, .int 3), (2, .int 3), (3, .int p2)]) rfl ?_
          refine g_loop 60 (lvf := fun i52 => [(4, .int (nI i52)), (0, .ref (b 0)), (1, .int 3), (2, .int 3), (3, .int p2)]) (fun i52 M F hii52 ihi52 => ?_) (fun M F => ?_) F
          · skip
            refine g_iload C dX8_row_52 (j := 0) rfl ?_
            refine g_bipush C dX8_row_54 (v := 60) (by decide) ?_
            refine g_icmp_ge C dX8_row_56 (tgt := 78) (by decide) (fun q => absurd q (nI_ge hii52 (by decide))) (fun _ => ?_)
            refine g_aload_n C dX8_row_59 rfl (j := 1) rfl ?_
            refine h_get C F 0 rfl fk_X8_82 dX8_row_60 rfl ?_
            refine g_bipush C dX8_row_63 (v := 60) (by decide) ?_
            refine g_iload_n C dX8_row_65 rfl (j := 2) rfl ?_
            refine g_imul C dX8_row_66 ?_
            refine Go.top (v := .int 180) (by decide) ?_
            refine g_iload C dX8_row_67 (j := 0) rfl ?_
            refine g_iadd C dX8_row_69 ?_
            refine Go.top (v := .int (nI (180 + i52))) (congrArg Value.int (nI_add 180 i52)) ?_
            refine g_lconst C dX8_row_70 (v := 0) (by decide) ?_
            refine h_last C F 23 rfl dX8_row_71 (vp_in_nI (by omega) (by decide)) (g := (fun _ => 0)) (updL0 _) (fl2 := (b 0, .inr (8, .int 0 :: .ref (b 1) :: .ref (b 2) :: .ref (b 3) :: .ref (b 4) :: .int 0 :: .ref (b 6) :: .int 0 :: .int 0 :: .int 0 :: .int 0 :: .int 0 :: .int 0 :: .int (-1) :: .ref (b 14) :: .ref (b 15) :: .ref (b 16) :: .int 0 :: .int 0 :: .int ts :: .ref (b 20) :: .ref (b 21) :: .ref (b 22) :: .ref (b 23) :: .ref (b 24) :: .ref (b 25) :: .ref (b 26) :: .ref (b 27) :: .ref (b 28) :: .ref (b 29) :: .int 0 :: .ref (b 31) :: .int 0 :: .ref (b 33) :: .long 0 :: .long 0 :: .long 0 :: .ref (b 37) :: .ref (b 38) :: .ref (b 39) :: .ref (b 40) :: [])) :: (b 1, .inl (cy 1, 102, .inl (fun _ => 0))) :: (b 2, .inl (cy 1, 306, .inl (fun _ => 0))) :: (b 3, .inl (cy 3, 3, .inl (fun _ => 0))) :: (b 4, .inl (cy 0, 800, .inl (fun _ => 0))) :: (b 6, .inl (cy 1, 5, .inl (fun _ => 0))) :: (b 14, .inl (cy 1, 102, .inl (fun _ => 0))) :: (b 15, .inl (cy 1, 7, .inl (fun _ => 0))) :: (b 16, .inl (cy 1, 8, .inl (fun _ => 0))) :: (b 20, .inl (cy 1, 7, .inl (fun _ => 0))) :: (b 21, .inl (cy 1, 8, .inl pn)) :: (b 22, .inl (cy 1, 136, .inl (fun _ => 0))) :: (b 23, .inl (cy 1, 119, .inl (fun _ => 0))) :: (b 24, .inl (cy 1, 16, .inl (fun _ => 0))) :: (b 25, .inl (cy 1, 28, .inl (fun _ => 0))) :: (b 26, .inl (cy 1, 8, .inl (fun _ => 0))) :: (b 27, .inl (cy 1, 4, .inl (fun _ => 0))) :: (b 28, .inl (cy 1, 4, .inl (fun _ => 0))) :: (b 29, .inl (cy 1, 7, .inl (fun _ => 0))) :: (b 31, .inl (cy 1, 544, .inl (fun _ => 0))) :: (b 33, .inl (cy 1, 128, .inl (fun _ => 0))) :: (b 37, .inl (cy 1, 4, .inl g222)) :: (b 38, .inl (cy 1, 4, .inl g223)) :: (b 39, .inl (cy 2, 240, .inr (.inl (fun _ => 0)))) :: (b 40, .inl (cy 2, 60, .inr (.inl (fun _ => 0)))) :: []) rfl (fun M F => ?_)
            refine g_iinc C dX8_row_72 (j := 0) rfl (v := nI (i52 + 1)) (nI_1 i52) (by decide) (lv2 := [(4, .int (nI (i52 + 1))), (0, .ref (b 0)), (1, .int 3), (2, .int 3), (3, .int p2)]) rfl ?_
            refine g_goto C dX8_row_75 (tgt := 52) (by decide) ?_
            exact ihi52 M F
          · skip
            refine g_lv [0, 1, 2, 3, 4] (lv2 := [(4, .int 60), (0, .ref (b 0)), (1, .int 3), (2, .int 3), (3, .int p2)]) rfl ?_
            refine g_iload C dX8_row_52 (j := 0) rfl ?_
            refine g_bipush C dX8_row_54 (v := 60) (by decide) ?_
            refine g_icmp_ge C dX8_row_56 (tgt := 78) (by decide) (fun _ => ?_) (fun q => absurd (by decide) q)
            refine g_iconst C dX8_row_78 (v := 0) (by decide) ?_
            exact g_iret C hrt dX8_row_79 (by decide) (by decide) (by have a1 : p2.toInt ≤ (60 : Int32).toInt := Int32.le_iff_toInt_le.mp q105; have a2 : (0 : Int32).toInt ≤ p2.toInt := Int32.le_iff_toInt_le.mp q106; have k2 : (0 : Int32).toInt = 0 := (by decide); have k3 : (3 : Int32).toInt = 3 := (by decide); have k4 : (60 : Int32).toInt = 60 := (by decide); unfold sp_row; repeat (first | rfl | (split) | (exfalso; omega)))
        · skip
          refine g_bipush C dX8_row_32 (v := -3) (by decide) ?_
          exact g_iret C hrt dX8_row_34 (by decide) (by decide) (by have a1 : p2.toInt ≤ (60 : Int32).toInt := Int32.le_iff_toInt_le.mp q105; have a2 : ¬ (0 : Int32).toInt ≤ p2.toInt := fun z => q106 (Int32.le_iff_toInt_le.mpr z); have k2 : (0 : Int32).toInt = 0 := (by decide); have k3 : (3 : Int32).toInt = 3 := (by decide); have k4 : (60 : Int32).toInt = 60 := (by decide); unfold sp_row; repeat (first | rfl | (split) | (exfalso; omega)))
      · skip
        refine g_bipush C dX8_row_25 (v := -2) (by decide) ?_
        exact g_iret C hrt dX8_row_27 (by decide) (by decide) (by have a1 : ¬ p2.toInt ≤ (60 : Int32).toInt := fun z => q105 (Int32.le_iff_toInt_le.mpr z); have k1 : (3 : Int32).toInt = 3 := (by decide); have k2 : (60 : Int32).toInt = 60 := (by decide); unfold sp_row; repeat (first | rfl | (split) | (exfalso; omega)))
set_option maxHeartbeats 4000000 in
set_option maxRecDepth 100000 in
theorem c_X8_feed (l : Launch) (G : va_G) {cy : Nat → ClassId} {L : List Nat} {M : Nat → va_E} {b : Nat → Nat} {ts : Int32} {pn : Nat → Int32}  (F : FW L M (flM cy b ts pn)) (p0 : Int32) (p1 : Int32) (p2 : Int32) (p3 : Int32) (p4 : Int32) : MI l G cy yX8_feed cX8_feed 7 (some .int) 0 0 0 [.ref (b 0), .int p0, .int p1, .int p2, .int p3, .int p4] L M (fun r L2 M2 => r = (20)) := by
  refine MI.of (own := RX8) rfl (by decide) (Nat.le_of_ble_eq_true rfl) ?_
  intro p e s m below meth c A C hrt hnm
  refine g_aload_n C dX8_feed_0 rfl (j := 0) rfl ?_
  refine h_get C F 0 rfl fk_X8_121 dX8_feed_1 rfl ?_
  refine g_bipush C dX8_feed_4 (v := 20) (by decide) ?_
  refine g_iadd C dX8_feed_6 ?_
  refine Go.top (v := .int 20) (by decide) ?_
  refine g_sipush C dX8_feed_7 (v := 800) (by decide) ?_
  refine g_icmp_le C dX8_feed_10 (tgt := 15) (by decide) (fun _ => ?_) (fun q => absurd (by decide) q)
  refine g_aload_n C dX8_feed_15 rfl (j := 0) rfl ?_
  refine h_get C F 0 rfl fk_X8_24 dX8_feed_16 rfl ?_
  refine g_iconst C dX8_feed_19 (v := 0) (by decide) ?_
  refine g_iload_n C dX8_feed_20 rfl (j := 1) rfl ?_
  refine h_iastX C F 5 rfl dX8_feed_21 (vp_in_iff.mpr (by decide)) (flf := fun g => (b 0, .inr (8, .int 0 :: .ref (b 1) :: .ref (b 2) :: .ref (b 3) :: .ref (b 4) :: .int 0 :: .ref (b 6) :: .int 0 :: .int 0 :: .int 0 :: .int 0 :: .int 0 :: .int 0 :: .int (-1) :: .ref (b 14) :: .ref (b 15) :: .ref (b 16) :: .int 0 :: .int 0 :: .int ts :: .ref (b 20) :: .ref (b 21) :: .ref (b 22) :: .ref (b 23) :: .ref (b 24) :: .ref (b 25) :: .ref (b 26) :: .ref (b 27) :: .ref (b 28) :: .ref (b 29) :: .int 0 :: .ref (b 31) :: .int 0 :: .ref (b 33) :: .long 0 :: .long 0 :: .long 0 :: .ref (b 37) :: .ref (b 38) :: .ref (b 39) :: .ref (b 40) :: [])) :: (b 1, .inl (cy 1, 102, .inl (fun _ => 0))) :: (b 2, .inl (cy 1, 306, .inl (fun _ => 0))) :: (b 3, .inl (cy 3, 3, .inl (fun _ => 0))) :: (b 4, .inl (cy 0, 800, .inl (fun _ => 0))) :: (b 6, .inl (cy 1, 5, .inl g)) :: (b 14, .inl (cy 1, 102, .inl (fun _ => 0))) :: (b 15, .inl (cy 1, 7, .inl (fun _ => 0))) :: (b 16, .inl (cy 1, 8, .inl (fun _ => 0))) :: (b 20, .inl (cy 1, 7, .inl (fun _ => 0))) :: (b 21, .inl (cy 1, 8, .inl pn)) :: (b 22, .inl (cy 1, 136, .inl (fun _ => 0))) :: (b 23, .inl (cy 1, 119, .inl (fun _ => 0))) :: (b 24, .inl (cy 1, 16, .inl (fun _ => 0))) :: (b 25, .inl (cy 1, 28, .inl (fun _ => 0))) :: (b 26, .inl (cy 1, 8, .inl (fun _ => 0))) :: (b 27, .inl (cy 1, 4, .inl (fun _ => 0))) :: (b 28, .inl (cy 1, 4, .inl (fun _ => 0))) :: (b 29, .inl (cy 1, 7, .inl (fun _ => 0))) :: (b 31, .inl (cy 1, 544, .inl (fun _ => 0))) :: (b 33, .inl (cy 1, 128, .inl (fun _ => 0))) :: (b 37, .inl (cy 1, 4, .inl (upd (upd (upd (upd (fun _ => 0) ((0 : Int32).toNatClampNeg) (-1)) ((1 : Int32).toNatClampNeg) (-1)) ((2 : Int32).toNatClampNeg) (-1)) ((3 : Int32).toNatClampNeg) (-1)))) :: (b 38, .inl (cy 1, 4, .inl (fun _ => 0))) :: (b 39, .inl (cy 2, 240, .inr (.inl (fun _ => 0)))) :: (b 40, .inl (cy 2, 60, .inr (.inl (fun _ => 0)))) :: []) (fun _ => rfl) (fun M g224 F => ?_)
  refine g_aload_n C dX8_feed_22 rfl (j := 0) rfl ?_
  refine h_get C F 0 rfl fk_X8_24 dX8_feed_23 rfl ?_
  refine g_iconst C dX8_feed_26 (v := 1) (by decide) ?_
  refine g_iload_n C dX8_feed_27 rfl (j := 2) rfl ?_
  refine h_iastX C F 5 rfl dX8_feed_28 (vp_in_iff.mpr (by decide)) (flf := fun g => (b 0, .inr (8, .int 0 :: .ref (b 1) :: .ref (b 2) :: .ref (b 3) :: .ref (b 4) :: .int 0 :: .ref (b 6) :: .int 0 :: .int 0 :: .int 0 :: .int 0 :: .int 0 :: .int 0 :: .int (-1) :: .ref (b 14) :: .ref (b 15) :: .ref (b 16) :: .int 0 :: .int 0 :: .int ts :: .ref (b 20) :: .ref (b 21) :: .ref (b 22) :: .ref (b 23) :: .ref (b 24) :: .ref (b 25) :: .ref (b 26) :: .ref (b 27) :: .ref (b 28) :: .ref (b 29) :: .int 0 :: .ref (b 31) :: .int 0 :: .ref (b 33) :: .long 0 :: .long 0 :: .long 0 :: .ref (b 37) :: .ref (b 38) :: .ref (b 39) :: .ref (b 40) :: [])) :: (b 1, .inl (cy 1, 102, .inl (fun _ => 0))) :: (b 2, .inl (cy 1, 306, .inl (fun _ => 0))) :: (b 3, .inl (cy 3, 3, .inl (fun _ => 0))) :: (b 4, .inl (cy 0, 800, .inl (fun _ => 0))) :: (b 6, .inl (cy 1, 5, .inl g)) :: (b 14, .inl (cy 1, 102, .inl (fun _ => 0))) :: (b 15, .inl (cy 1, 7, .inl (fun _ => 0))) :: (b 16, .inl (cy 1, 8, .inl (fun _ => 0))) :: (b 20, .inl (cy 1, 7, .inl (fun _ => 0))) :: (b 21, .inl (cy 1, 8, .inl pn)) :: (b 22, .inl (cy 1, 136, .inl (fun _ => 0))) :: (b 23, .inl (cy 1, 119, .inl (fun _ => 0))) :: (b 24, .inl (cy 1, 16, .inl (fun _ => 0))) :: (b 25, .inl (cy 1, 28, .inl (fun _ => 0))) :: (b 26, .inl (cy 1, 8, .inl (fun _ => 0))) :: (b 27, .inl (cy 1, 4, .inl (fun _ => 0))) :: (b 28, .inl (cy 1, 4, .inl (fun _ => 0))) :: (b 29, .inl (cy 1, 7, .inl (fun _ => 0))) :: (b 31, .inl (cy 1, 544, .inl (fun _ => 0))) :: (b 33, .inl (cy 1, 128, .inl (fun _ => 0))) :: (b 37, .inl (cy 1, 4, .inl (upd (upd (upd (upd (fun _ => 0) ((0 : Int32).toNatClampNeg) (-1)) ((1 : Int32).toNatClampNeg) (-1)) ((2 : Int32).toNatClampNeg) (-1)) ((3 : Int32).toNatClampNeg) (-1)))) :: (b 38, .inl (cy 1, 4, .inl (fun _ => 0))) :: (b 39, .inl (cy 2, 240, .inr (.inl (fun _ => 0)))) :: (b 40, .inl (cy 2, 60, .inr (.inl (fun _ => 0)))) :: []) (fun _ => rfl) (fun M g225 F => ?_)
  refine g_aload_n C dX8_feed_29 rfl (j := 0) rfl ?_
  refine h_get C F 0 rfl fk_X8_24 dX8_feed_30 rfl ?_
  refine g_iconst C dX8_feed_33 (v := 2) (by decide) ?_
  refine g_iload_n C dX8_feed_34 rfl (j := 3) rfl ?_
  refine h_iastX C F 5 rfl dX8_feed_35 (vp_in_iff.mpr (by decide)) (flf := fun g => (b 0, .inr (8, .int 0 :: .ref (b 1) :: .ref (b 2) :: .ref (b 3) :: .ref (b 4) :: .int 0 :: .ref (b 6) :: .int 0 :: .int 0 :: .int 0 :: .int 0 :: .int 0 :: .int 0 :: .int (-1) :: .ref (b 14) :: .ref (b 15) :: .ref (b 16) :: .int 0 :: .int 0 :: .int ts :: .ref (b 20) :: .ref (b 21) :: .ref (b 22) :: .ref (b 23) :: .ref (b 24) :: .ref (b 25) :: .ref (b 26) :: .ref (b 27) :: .ref (b 28) :: .ref (b 29) :: .int 0 :: .ref (b 31) :: .int 0 :: .ref (b 33) :: .long 0 :: .long 0 :: .long 0 :: .ref (b 37) :: .ref (b 38) :: .ref (b 39) :: .ref (b 40) :: [])) :: (b 1, .inl (cy 1, 102, .inl (fun _ => 0))) :: (b 2, .inl (cy 1, 306, .inl (fun _ => 0))) :: (b 3, .inl (cy 3, 3, .inl (fun _ => 0))) :: (b 4, .inl (cy 0, 800, .inl (fun _ => 0))) :: (b 6, .inl (cy 1, 5, .inl g)) :: (b 14, .inl (cy 1, 102, .inl (fun _ => 0))) :: (b 15, .inl (cy 1, 7, .inl (fun _ => 0))) :: (b 16, .inl (cy 1, 8, .inl (fun _ => 0))) :: (b 20, .inl (cy 1, 7, .inl (fun _ => 0))) :: (b 21, .inl (cy 1, 8, .inl pn)) :: (b 22, .inl (cy 1, 136, .inl (fun _ => 0))) :: (b 23, .inl (cy 1, 119, .inl (fun _ => 0))) :: (b 24, .inl (cy 1, 16, .inl (fun _ => 0))) :: (b 25, .inl (cy 1, 28, .inl (fun _ => 0))) :: (b 26, .inl (cy 1, 8, .inl (fun _ => 0))) :: (b 27, .inl (cy 1, 4, .inl (fun _ => 0))) :: (b 28, .inl (cy 1, 4, .inl (fun _ => 0))) :: (b 29, .inl (cy 1, 7, .inl (fun _ => 0))) :: (b 31, .inl (cy 1, 544, .inl (fun _ => 0))) :: (b 33, .inl (cy 1, 128, .inl (fun _ => 0))) :: (b 37, .inl (cy 1, 4, .inl (upd (upd (upd (upd (fun _ => 0) ((0 : Int32).toNatClampNeg) (-1)) ((1 : Int32).toNatClampNeg) (-1)) ((2 : Int32).toNatClampNeg) (-1)) ((3 : Int32).toNatClampNeg) (-1)))) :: (b 38, .inl (cy 1, 4, .inl (fun _ => 0))) :: (b 39, .inl (cy 2, 240, .inr (.inl (fun _ => 0)))) :: (b 40, .inl (cy 2, 60, .inr (.inl (fun _ => 0)))) :: []) (fun _ => rfl) (fun M g226 F => ?_)
  refine g_aload_n C dX8_feed_36 rfl (j := 0) rfl ?_
  refine h_get C F 0 rfl fk_X8_24 dX8_feed_37 rfl ?_
  refine g_iconst C dX8_feed_40 (v := 3) (by decide) ?_
  refine g_iload C dX8_feed_41 (j := 4) rfl ?_
  refine h_iastX C F 5 rfl dX8_feed_43 (vp_in_iff.mpr (by decide)) (flf := fun g => (b 0, .inr (8, .int 0 :: .ref (b 1) :: .ref (b 2) :: .ref (b 3) :: .ref (b 4) :: .int 0 :: .ref (b 6) :: .int 0 :: .int 0 :: .int 0 :: .int 0 :: .int 0 :: .int 0 :: .int (-1) :: .ref (b 14) :: .ref (b 15) :: .ref (b 16) :: .int 0 :: .int 0 :: .int ts :: .ref (b 20) :: .ref (b 21) :: .ref (b 22) :: .ref (b 23) :: .ref (b 24) :: .ref (b 25) :: .ref (b 26) :: .ref (b 27) :: .ref (b 28) :: .ref (b 29) :: .int 0 :: .ref (b 31) :: .int 0 :: .ref (b 33) :: .long 0 :: .long 0 :: .long 0 :: .ref (b 37) :: .ref (b 38) :: .ref (b 39) :: .ref (b 40) :: [])) :: (b 1, .inl (cy 1, 102, .inl (fun _ => 0))) :: (b 2, .inl (cy 1, 306, .inl (fun _ => 0))) :: (b 3, .inl (cy 3, 3, .inl (fun _ => 0))) :: (b 4, .inl (cy 0, 800, .inl (fun _ => 0))) :: (b 6, .inl (cy 1, 5, .inl g)) :: (b 14, .inl (cy 1, 102, .inl (fun _ => 0))) :: (b 15, .inl (cy 1, 7, .inl (fun _ => 0))) :: (b 16, .inl (cy 1, 8, .inl (fun _ => 0))) :: (b 20, .inl (cy 1, 7, .inl (fun _ => 0))) :: (b 21, .inl (cy 1, 8, .inl pn)) :: (b 22, .inl (cy 1, 136, .inl (fun _ => 0))) :: (b 23, .inl (cy 1, 119, .inl (fun _ => 0))) :: (b 24, .inl (cy 1, 16, .inl (fun _ => 0))) :: (b 25, .inl (cy 1, 28, .inl (fun _ => 0))) :: (b 26, .inl (cy 1, 8, .inl (fun _ => 0))) :: (b 27, .inl (cy 1, 4, .inl (fun _ => 0))) :: (b 28, .inl (cy 1, 4, .inl (fun _ => 0))) :: (b 29, .inl (cy 1, 7, .inl (fun _ => 0))) :: (b 31, .inl (cy 1, 544, .inl (fun _ => 0))) :: (b 33, .inl (cy 1, 128, .inl (fun _ => 0))) :: (b 37, .inl (cy 1, 4, .inl (upd (upd (upd (upd (fun _ => 0) ((0 : Int32).toNatClampNeg) (-1)) ((1 : Int32).toNatClampNeg) (-1)) ((2 : Int32).toNatClampNeg) (-1)) ((3 : Int32).toNatClampNeg) (-1)))) :: (b 38, .inl (cy 1, 4, .inl (fun _ => 0))) :: (b 39, .inl (cy 2, 240, .inr (.inl (fun _ => 0)))) :: (b 40, .inl (cy 2, 60, .inr (.inl (fun _ => 0)))) :: []) (fun _ => rfl) (fun M g227 F => ?_)
  refine g_aload_n C dX8_feed_44 rfl (j := 0) rfl ?_
  refine h_get C F 0 rfl fk_X8_24 dX8_feed_45 rfl ?_
  refine g_iconst C dX8_feed_48 (v := 4) (by decide) ?_
  refine g_iload C dX8_feed_49 (j := 5) rfl ?_
  refine h_iastX C F 5 rfl dX8_feed_51 (vp_in_iff.mpr (by decide)) (flf := fun g => (b 0, .inr (8, .int 0 :: .ref (b 1) :: .ref (b 2) :: .ref (b 3) :: .ref (b 4) :: .int 0 :: .ref (b 6) :: .int 0 :: .int 0 :: .int 0 :: .int 0 :: .int 0 :: .int 0 :: .int (-1) :: .ref (b 14) :: .ref (b 15) :: .ref (b 16) :: .int 0 :: .int 0 :: .int ts :: .ref (b 20) :: .ref (b 21) :: .ref (b 22) :: .ref (b 23) :: .ref (b 24) :: .ref (b 25) :: .ref (b 26) :: .ref (b 27) :: .ref (b 28) :: .ref (b 29) :: .int 0 :: .ref (b 31) :: .int 0 :: .ref (b 33) :: .long 0 :: .long 0 :: .long 0 :: .ref (b 37) :: .ref (b 38) :: .ref (b 39) :: .ref (b 40) :: [])) :: (b 1, .inl (cy 1, 102, .inl (fun _ => 0))) :: (b 2, .inl (cy 1, 306, .inl (fun _ => 0))) :: (b 3, .inl (cy 3, 3, .inl (fun _ => 0))) :: (b 4, .inl (cy 0, 800, .inl (fun _ => 0))) :: (b 6, .inl (cy 1, 5, .inl g)) :: (b 14, .inl (cy 1, 102, .inl (fun _ => 0))) :: (b 15, .inl (cy 1, 7, .inl (fun _ => 0))) :: (b 16, .inl (cy 1, 8, .inl (fun _ => 0))) :: (b 20, .inl (cy 1, 7, .inl (fun _ => 0))) :: (b 21, .inl (cy 1, 8, .inl pn)) :: (b 22, .inl (cy 1, 136, .inl (fun _ => 0))) :: (b 23, .inl (cy 1, 119, .inl (fun _ => 0))) :: (b 24, .inl (cy 1, 16, .inl (fun _ => 0))) :: (b 25, .inl (cy 1, 28, .inl (fun _ => 0))) :: (b 26, .inl (cy 1, 8, .inl (fun _ => 0))) :: (b 27, .inl (cy 1, 4, .inl (fun _ => 0))) :: (b 28, .inl (cy 1, 4, .inl (fun _ => 0))) :: (b 29, .inl (cy 1, 7, .inl (fun _ => 0))) :: (b 31, .inl (cy 1, 544, .inl (fun _ => 0))) :: (b 33, .inl (cy 1, 128, .inl (fun _ => 0))) :: (b 37, .inl (cy 1, 4, .inl (upd (upd (upd (upd (fun _ => 0) ((0 : Int32).toNatClampNeg) (-1)) ((1 : Int32).toNatClampNeg) (-1)) ((2 : Int32).toNatClampNeg) (-1)) ((3 : Int32).toNatClampNeg) (-1)))) :: (b 38, .inl (cy 1, 4, .inl (fun _ => 0))) :: (b 39, .inl (cy 2, 240, .inr (.inl (fun _ => 0)))) :: (b 40, .inl (cy 2, 60, .inr (.inl (fun _ => 0)))) :: []) (fun _ => rfl) (fun M g228 F => ?_)
  refine g_iconst C dX8_feed_52 (v := 0) (by decide) ?_
  refine g_istore C dX8_feed_53 (by decide) (lv2 := [(6, .int 0), (0, .ref (b 0)), (1, .int p0), (2, .int p1), (3, .int p2), (4, .int p3), (5, .int p4)]) rfl ?_
  refine g_iload C dX8_feed_55 (j := 0) rfl ?_
  refine g_bipush C dX8_feed_57 (v := 20) (by decide) ?_
  refine g_icmp_ge C dX8_feed_59 (tgt := 101) (by decide) (fun q => absurd q (by decide)) (fun _ => ?_)
  refine g_aload_n C dX8_feed_62 rfl (j := 1) rfl ?_
  refine h_get C F 0 rfl fk_X8_20 dX8_feed_63 rfl ?_
  refine g_aload_n C dX8_feed_66 rfl (j := 1) rfl ?_
  refine h_get C F 0 rfl fk_X8_121 dX8_feed_67 rfl ?_
  refine g_iload C dX8_feed_70 (j := 0) rfl ?_
  refine g_iadd C dX8_feed_72 ?_
  refine Go.top (v := .int 0) (by decide) ?_
  refine g_aload_n C dX8_feed_73 rfl (j := 1) rfl ?_
  refine h_get C F 0 rfl fk_X8_24 dX8_feed_74 rfl ?_
  refine g_iload C dX8_feed_77 (j := 0) rfl ?_
  refine g_iconst C dX8_feed_79 (v := 4) (by decide) ?_
  refine g_idiv C dX8_feed_80 (by decide) ?_
  refine Go.top (v := .int 0) (by decide) ?_
  refine h_iald C F 5 rfl dX8_feed_81 (vp_in_iff.mpr (by decide)) rfl ?_
  refine g_bipush C dX8_feed_82 (v := 24) (by decide) ?_
  refine g_bipush C dX8_feed_84 (v := 8) (by decide) ?_
  refine g_iload C dX8_feed_86 (j := 0) rfl ?_
  refine g_iconst C dX8_feed_88 (v := 4) (by decide) ?_
  refine g_irem C dX8_feed_89 (by decide) ?_
  refine Go.top (v := .int 0) (by decide) ?_
  refine g_imul C dX8_feed_90 ?_
  refine Go.top (v := .int 0) (by decide) ?_
  refine g_isub C dX8_feed_91 ?_
  refine Go.top (v := .int 24) (by decide) ?_
  refine g_ishr C dX8_feed_92 ?_
  refine g_i2b C dX8_feed_93 rfl ?_
  refine h_bastX C F 4 rfl dX8_feed_94 (vp_in_iff.mpr (by decide)) (flf := fun g => (b 0, .inr (8, .int 0 :: .ref (b 1) :: .ref (b 2) :: .ref (b 3) :: .ref (b 4) :: .int 0 :: .ref (b 6) :: .int 0 :: .int 0 :: .int 0 :: .int 0 :: .int 0 :: .int 0 :: .int (-1) :: .ref (b 14) :: .ref (b 15) :: .ref (b 16) :: .int 0 :: .int 0 :: .int ts :: .ref (b 20) :: .ref (b 21) :: .ref (b 22) :: .ref (b 23) :: .ref (b 24) :: .ref (b 25) :: .ref (b 26) :: .ref (b 27) :: .ref (b 28) :: .ref (b 29) :: .int 0 :: .ref (b 31) :: .int 0 :: .ref (b 33) :: .long 0 :: .long 0 :: .long 0 :: .ref (b 37) :: .ref (b 38) :: .ref (b 39) :: .ref (b 40) :: [])) :: (b 1, .inl (cy 1, 102, .inl (fun _ => 0))) :: (b 2, .inl (cy 1, 306, .inl (fun _ => 0))) :: (b 3, .inl (cy 3, 3, .inl (fun _ => 0))) :: (b 4, .inl (cy 0, 800, .inl g)) :: (b 6, .inl (cy 1, 5, .inl g228)) :: (b 14, .inl (cy 1, 102, .inl (fun _ => 0))) :: (b 15, .inl (cy 1, 7, .inl (fun _ => 0))) :: (b 16, .inl (cy 1, 8, .inl (fun _ => 0))) :: (b 20, .inl (cy 1, 7, .inl (fun _ => 0))) :: (b 21, .inl (cy 1, 8, .inl pn)) :: (b 22, .inl (cy 1, 136, .inl (fun _ => 0))) :: (b 23, .inl (cy 1, 119, .inl (fun _ => 0))) :: (b 24, .inl (cy 1, 16, .inl (fun _ => 0))) :: (b 25, .inl (cy 1, 28, .inl (fun _ => 0))) :: (b 26, .inl (cy 1, 8, .inl (fun _ => 0))) :: (b 27, .inl (cy 1, 4, .inl (fun _ => 0))) :: (b 28, .inl (cy 1, 4, .inl (fun _ => 0))) :: (b 29, .inl (cy 1, 7, .inl (fun _ => 0))) :: (b 31, .inl (cy 1, 544, .inl (fun _ => 0))) :: (b 33, .inl (cy 1, 128, .inl (fun _ => 0))) :: (b 37, .inl (cy 1, 4, .inl (upd (upd (upd (upd (fun _ => 0) ((0 : Int32).toNatClampNeg) (-1)) ((1 : Int32).toNatClampNeg) (-1)) ((2 : Int32).toNatClampNeg) (-1)) ((3 : Int32).toNatClampNeg) (-1)))) :: (b 38, .inl (cy 1, 4, .inl (fun _ => 0))) :: (b 39, .inl (cy 2, 240, .inr (.inl (fun _ => 0)))) :: (b 40, .inl (cy 2, 60, .inr (.inl (fun _ => 0)))) :: []) (fun _ => rfl) (fun M g229 F => ?_)
  refine g_iinc C dX8_feed_95 (j := 0) rfl (v := 1) (by decide) (by decide) (lv2 := [(6, .int 1), (0, .ref (b 0)), (1, .int p0), (2, .int p1), (3, .int p2), (4, .int p3), (5, .int p4)]) rfl ?_
  refine g_goto C dX8_feed_98 (tgt := 55) (by decide) ?_
  refine g_iload C dX8_feed_55 (j := 0) rfl ?_
  refine g_bipush C dX8_feed_57 (v := 20) (by decide) ?_
  refine g_icmp_ge C dX8_feed_59 (tgt := 101) (by decide) (fun q => absurd q (by decide)) (fun _ => ?_)
  refine g_aload_n C dX8_feed_62 rfl (j := 1) rfl ?_
  refine h_get C F 0 rfl fk_X8_20 dX8_feed_63 rfl ?_
  refine g_aload_n C dX8_feed_66 rfl (j := 1) rfl ?_
  refine h_get C F 0 rfl fk_X8_121 dX8_feed_67 rfl ?_
  refine g_iload C dX8_feed_70 (j := 0) rfl ?_
  refine g_iadd C dX8_feed_72 ?_
  refine Go.top (v := .int 1) (by decide) ?_
  refine g_aload_n C dX8_feed_73 rfl (j := 1) rfl ?_
  refine h_get C F 0 rfl fk_X8_24 dX8_feed_74 rfl ?_
  refine g_iload C dX8_feed_77 (j := 0) rfl ?_
  refine g_iconst C dX8_feed_79 (v := 4) (by decide) ?_
  refine g_idiv C dX8_feed_80 (by decide) ?_
  refine Go.top (v := .int 0) (by decide) ?_
  refine h_iald C F 5 rfl dX8_feed_81 (vp_in_iff.mpr (by decide)) rfl ?_
  refine g_bipush C dX8_feed_82 (v := 24) (by decide) ?_
  refine g_bipush C dX8_feed_84 (v := 8) (by decide) ?_
  refine g_iload C dX8_feed_86 (j := 0) rfl ?_
  refine g_iconst C dX8_feed_88 (v := 4) (by decide) ?_
  refine g_irem C dX8_feed_89 (by decide) ?_
  refine Go.top (v := .int 1) (by decide) ?_
  refine g_imul C dX8_feed_90 ?_
  refine Go.top (v := .int 8) (by decide) ?_
  refine g_isub C dX8_feed_91 ?_
  refine Go.top (v := .int 16) (by decide) ?_
  refine g_ishr C dX8_feed_92 ?_
  refine g_i2b C dX8_feed_93 rfl ?_
  refine h_bastX C F 4 rfl dX8_feed_94 (vp_in_iff.mpr (by decide)) (flf := fun g => (b 0, .inr (8, .int 0 :: .ref (b 1) :: .ref (b 2) :: .ref (b 3) :: .ref (b 4) :: .int 0 :: .ref (b 6) :: .int 0 :: .int 0 :: .int 0 :: .int 0 :: .int 0 :: .int 0 :: .int (-1) :: .ref (b 14) :: .ref (b 15) :: .ref (b 16) :: .int 0 :: .int 0 :: .int ts :: .ref (b 20) :: .ref (b 21) :: .ref (b 22) :: .ref (b 23) :: .ref (b 24) :: .ref (b 25) :: .ref (b 26) :: .ref (b 27) :: .ref (b 28) :: .ref (b 29) :: .int 0 :: .ref (b 31) :: .int 0 :: .ref (b 33) :: .long 0 :: .long 0 :: .long 0 :: .ref (b 37) :: .ref (b 38) :: .ref (b 39) :: .ref (b 40) :: [])) :: (b 1, .inl (cy 1, 102, .inl (fun _ => 0))) :: (b 2, .inl (cy 1, 306, .inl (fun _ => 0))) :: (b 3, .inl (cy 3, 3, .inl (fun _ => 0))) :: (b 4, .inl (cy 0, 800, .inl g)) :: (b 6, .inl (cy 1, 5, .inl g228)) :: (b 14, .inl (cy 1, 102, .inl (fun _ => 0))) :: (b 15, .inl (cy 1, 7, .inl (fun _ => 0))) :: (b 16, .inl (cy 1, 8, .inl (fun _ => 0))) :: (b 20, .inl (cy 1, 7, .inl (fun _ => 0))) :: (b 21, .inl (cy 1, 8, .inl pn)) :: (b 22, .inl (cy 1, 136, .inl (fun _ => 0))) :: (b 23, .inl (cy 1, 119, .inl (fun _ => 0))) :: (b 24, .inl (cy 1, 16, .inl (fun _ => 0))) :: (b 25, .inl (cy 1, 28, .inl (fun _ => 0))) :: (b 26, .inl (cy 1, 8, .inl (fun _ => 0))) :: (b 27, .inl (cy 1, 4, .inl (fun _ => 0))) :: (b 28, .inl (cy 1, 4, .inl (fun _ => 0))) :: (b 29, .inl (cy 1, 7, .inl (fun _ => 0))) :: (b 31, .inl (cy 1, 544, .inl (fun _ => 0))) :: (b 33, .inl (cy 1, 128, .inl (fun _ => 0))) :: (b 37, .inl (cy 1, 4, .inl (upd (upd (upd (upd (fun _ => 0) ((0 : Int32).toNatClampNeg) (-1)) ((1 : Int32).toNatClampNeg) (-1)) ((2 : Int32).toNatClampNeg) (-1)) ((3 : Int32).toNatClampNeg) (-1)))) :: (b 38, .inl (cy 1, 4, .inl (fun _ => 0))) :: (b 39, .inl (cy 2, 240, .inr (.inl (fun _ => 0)))) :: (b 40, .inl (cy 2, 60, .inr (.inl (fun _ => 0)))) :: []) (fun _ => rfl) (fun M g230 F => ?_)
  refine g_iinc C dX8_feed_95 (j := 0) rfl (v := 2) (by decide) (by decide) (lv2 := [(6, .int 2), (0, .ref (b 0)), (1, .int p0), (2, .int p1), (3, .int p2), (4, .int p3), (5, .int p4)]) rfl ?_
  refine g_goto C dX8_feed_98 (tgt := 55) (by decide) ?_
  refine g_iload C dX8_feed_55 (j := 0) rfl ?_
  refine g_bipush C dX8_feed_57 (v := 20) (by decide) ?_
  refine g_icmp_ge C dX8_feed_59 (tgt := 101) (by decide) (fun q => absurd q (by decide)) (fun _ => ?_)
  refine g_aload_n C dX8_feed_62 rfl (j := 1) rfl ?_
  refine h_get C F 0 rfl fk_X8_20 dX8_feed_63 rfl ?_
  refine g_aload_n C dX8_feed_66 rfl (j := 1) rfl ?_
  refine h_get C F 0 rfl fk_X8_121 dX8_feed_67 rfl ?_
  refine g_iload C dX8_feed_70 (j := 0) rfl ?_
  refine g_iadd C dX8_feed_72 ?_
  refine Go.top (v := .int 2) (by decide) ?_
  refine g_aload_n C dX8_feed_73 rfl (j := 1) rfl ?_
  refine h_get C F 0 rfl fk_X8_24 dX8_feed_74 rfl ?_
  refine g_iload C dX8_feed_77 (j := 0) rfl ?_
  refine g_iconst C dX8_feed_79 (v := 4) (by decide) ?_
  refine g_idiv C dX8_feed_80 (by decide) ?_
  refine Go.top (v := .int 0) (by decide) ?_
  refine h_iald C F 5 rfl dX8_feed_81 (vp_in_iff.mpr (by decide)) rfl ?_
  refine g_bipush C dX8_feed_82 (v := 24) (by decide) ?_
  refine g_bipush C dX8_feed_84 (v := 8) (by decide) ?_
  refine g_iload C dX8_feed_86 (j := 0) rfl ?_
  refine g_iconst C dX8_feed_88 (v := 4) (by decide) ?_
  refine g_irem C dX8_feed_89 (by decide) ?_
  refine Go.top (v := .int 2) (by decide) ?_
  refine g_imul C dX8_feed_90 ?_
  refine Go.top (v := .int 16) (by decide) ?_
  refine g_isub C dX8_feed_91 ?_
  refine Go.top (v := .int 8) (by decide) ?_
  refine g_ishr C dX8_feed_92 ?_
  refine g_i2b C dX8_feed_93 rfl ?_
  refine h_bastX C F 4 rfl dX8_feed_94 (vp_in_iff.mpr (by decide)) (flf := fun g => (b 0, .inr (8, .int 0 :: .ref (b 1) :: .ref (b 2) :: .ref (b 3) :: .ref (b 4) :: .int 0 :: .ref (b 6) :: .int 0 :: .int 0 :: .int 0 :: .int 0 :: .int 0 :: .int 0 :: .int (-1) :: .ref (b 14) :: .ref (b 15) :: .ref (b 16) :: .int 0 :: .int 0 :: .int ts :: .ref (b 20) :: .ref (b 21) :: .ref (b 22) :: .ref (b 23) :: .ref (b 24) :: .ref (b 25) :: .ref (b 26) :: .ref (b 27) :: .ref (b 28) :: .ref (b 29) :: .int 0 :: .ref (b 31) :: .int 0 :: .ref (b 33) :: .long 0 :: .long 0 :: .long 0 :: .ref (b 37) :: .ref (b 38) :: .ref (b 39) :: .ref (b 40) :: [])) :: (b 1, .inl (cy 1, 102, .inl (fun _ => 0))) :: (b 2, .inl (cy 1, 306, .inl (fun _ => 0))) :: (b 3, .inl (cy 3, 3, .inl (fun _ => 0))) :: (b 4, .inl (cy 0, 800, .inl g)) :: (b 6, .inl (cy 1, 5, .inl g228)) :: (b 14, .inl (cy 1, 102, .inl (fun _ => 0))) :: (b 15, .inl (cy 1, 7, .inl (fun _ => 0))) :: (b 16, .inl (cy 1, 8, .inl (fun _ => 0))) :: (b 20, .inl (cy 1, 7, .inl (fun _ => 0))) :: (b 21, .inl (cy 1, 8, .inl pn)) :: (b 22, .inl (cy 1, 136, .inl (fun _ => 0))) :: (b 23, .inl (cy 1, 119, .inl (fun _ => 0))) :: (b 24, .inl (cy 1, 16, .inl (fun _ => 0))) :: (b 25, .inl (cy 1, 28, .inl (fun _ => 0))) :: (b 26, .inl (cy 1, 8, .inl (fun _ => 0))) :: (b 27, .inl (cy 1, 4, .inl (fun _ => 0))) :: (b 28, .inl (cy 1, 4, .inl (fun _ => 0))) :: (b 29, .inl (cy 1, 7, .inl (fun _ => 0))) :: (b 31, .inl (cy 1, 544, .inl (fun _ => 0))) :: (b 33, .inl (cy 1, 128, .inl (fun _ => 0))) :: (b 37, .inl (cy 1, 4, .inl (upd (upd (upd (upd (fun _ => 0) ((0 : Int32).toNatClampNeg) (-1)) ((1 : Int32).toNatClampNeg) (-1)) ((2 : Int32).toNatClampNeg) (-1)) ((3 : Int32).toNatClampNeg) (-1)))) :: (b 38, .inl (cy 1, 4, .inl (fun _ => 0))) :: (b 39, .inl (cy 2, 240, .inr (.inl (fun _ => 0)))) :: (b 40, .inl (cy 2, 60, .inr (.inl (fun _ => 0)))) :: []) (fun _ => rfl) (fun M g231 F => ?_)
  refine g_iinc C dX8_feed_95 (j := 0) rfl (v := 3) (by decide) (by decide) (lv2 := [(6, .int 3), (0, .ref (b 0)), (1, .int p0), (2, .int p1), (3, .int p2), (4, .int p3), (5, .int p4)]) rfl ?_
  refine g_goto C dX8_feed_98 (tgt := 55) (by decide) ?_
  refine g_iload C dX8_feed_55 (j := 0) rfl ?_
  refine g_bipush C dX8_feed_57 (v := 20) (by decide) ?_
  refine g_icmp_ge C dX8_feed_59 (tgt := 101) (by decide) (fun q => absurd q (by decide)) (fun _ => ?_)
  refine g_aload_n C dX8_feed_62 rfl (j := 1) rfl ?_
  refine h_get C F 0 rfl fk_X8_20 dX8_feed_63 rfl ?_
  refine g_aload_n C dX8_feed_66 rfl (j := 1) rfl ?_
  refine h_get C F 0 rfl fk_X8_121 dX8_feed_67 rfl ?_
  refine g_iload C dX8_feed_70 (j := 0) rfl ?_
  refine g_iadd C dX8_feed_72 ?_
  refine Go.top (v := .int 3) (by decide) ?_
  refine g_aload_n C dX8_feed_73 rfl (j := 1) rfl ?_
  refine h_get C F 0 rfl fk_X8_24 dX8_feed_74 rfl ?_
  refine g_iload C dX8_feed_77 (j := 0) rfl ?_
  refine g_iconst C dX8_feed_79 (v := 4) (by decide) ?_
  refine g_idiv C dX8_feed_80 (by decide) ?_
  refine Go.top (v := .int 0) (by decide) ?_
  refine h_iald C F 5 rfl dX8_feed_81 (vp_in_iff.mpr (by decide)) rfl ?_
  refine g_bipush C dX8_feed_82 (v := 24) (by decide) ?_
  refine g_bipush C dX8_feed_84 (v := 8) (by decide) ?_
  refine g_iload C dX8_feed_86 (j := 0) rfl ?_
  refine g_iconst C dX8_feed_88 (v := 4) (by decide) ?_
  refine g_irem C dX8_feed_89 (by decide) ?_
  refine Go.top (v := .int 3) (by decide) ?_
  refine g_imul C dX8_feed_90 ?_
  refine Go.top (v := .int 24) (by decide) ?_
  refine g_isub C dX8_feed_91 ?_
  refine Go.top (v := .int 0) (by decide) ?_
  refine g_ishr C dX8_feed_92 ?_
  refine g_i2b C dX8_feed_93 rfl ?_
  refine h_bastX C F 4 rfl dX8_feed_94 (vp_in_iff.mpr (by decide)) (flf := fun g => (b 0, .inr (8, .int 0 :: .ref (b 1) :: .ref (b 2) :: .ref (b 3) :: .ref (b 4) :: .int 0 :: .ref (b 6) :: .int 0 :: .int 0 :: .int 0 :: .int 0 :: .int 0 :: .int 0 :: .int (-1) :: .ref (b 14) :: .ref (b 15) :: .ref (b 16) :: .int 0 :: .int 0 :: .int ts :: .ref (b 20) :: .ref (b 21) :: .ref (b 22) :: .ref (b 23) :: .ref (b 24) :: .ref (b 25) :: .ref (b 26) :: .ref (b 27) :: .ref (b 28) :: .ref (b 29) :: .int 0 :: .ref (b 31) :: .int 0 :: .ref (b 33) :: .long 0 :: .long 0 :: .long 0 :: .ref (b 37) :: .ref (b 38) :: .ref (b 39) :: .ref (b 40) :: [])) :: (b 1, .inl (cy 1, 102, .inl (fun _ => 0))) :: (b 2, .inl (cy 1, 306, .inl (fun _ => 0))) :: (b 3, .inl (cy 3, 3, .inl (fun _ => 0))) :: (b 4, .inl (cy 0, 800, .inl g)) :: (b 6, .inl (cy 1, 5, .inl g228)) :: (b 14, .inl (cy 1, 102, .inl (fun _ => 0))) :: (b 15, .inl (cy 1, 7, .inl (fun _ => 0))) :: (b 16, .inl (cy 1, 8, .inl (fun _ => 0))) :: (b 20, .inl (cy 1, 7, .inl (fun _ => 0))) :: (b 21, .inl (cy 1, 8, .inl pn)) :: (b 22, .inl (cy 1, 136, .inl (fun _ => 0))) :: (b 23, .inl (cy 1, 119, .inl (fun _ => 0))) :: (b 24, .inl (cy 1, 16, .inl (fun _ => 0))) :: (b 25, .inl (cy 1, 28, .inl (fun _ => 0))) :: (b 26, .inl (cy 1, 8, .inl (fun _ => 0))) :: (b 27, .inl (cy 1, 4, .inl (fun _ => 0))) :: (b 28, .inl (cy 1, 4, .inl (fun _ => 0))) :: (b 29, .inl (cy 1, 7, .inl (fun _ => 0))) :: (b 31, .inl (cy 1, 544, .inl (fun _ => 0))) :: (b 33, .inl (cy 1, 128, .inl (fun _ => 0))) :: (b 37, .inl (cy 1, 4, .inl (upd (upd (upd (upd (fun _ => 0) ((0 : Int32).toNatClampNeg) (-1)) ((1 : Int32).toNatClampNeg) (-1)) ((2 : Int32).toNatClampNeg) (-1)) ((3 : Int32).toNatClampNeg) (-1)))) :: (b 38, .inl (cy 1, 4, .inl (fun _ => 0))) :: (b 39, .inl (cy 2, 240, .inr (.inl (fun _ => 0)))) :: (b 40, .inl (cy 2, 60, .inr (.inl (fun _ => 0)))) :: []) (fun _ => rfl) (fun M g232 F => ?_)
  refine g_iinc C dX8_feed_95 (j := 0) rfl (v := 4) (by decide) (by decide) (lv2 := [(6, .int 4), (0, .ref (b 0)), (1, .int p0), (2, .int p1), (3, .int p2), (4, .int p3), (5, .int p4)]) rfl ?_
  refine g_goto C dX8_feed_98 (tgt := 55) (by decide) ?_
  refine g_iload C dX8_feed_55 (j := 0) rfl ?_
  refine g_bipush C dX8_feed_57 (v := 20) (by decide) ?_
  refine g_icmp_ge C dX8_feed_59 (tgt := 101) (by decide) (fun q => absurd q (by decide)) (fun _ => ?_)
  refine g_aload_n C dX8_feed_62 rfl (j := 1) rfl ?_
  refine h_get C F 0 rfl fk_X8_20 dX8_feed_63 rfl ?_
  refine g_aload_n C dX8_feed_66 rfl (j := 1) rfl ?_
  refine h_get C F 0 rfl fk_X8_121 dX8_feed_67 rfl ?_
  refine g_iload C dX8_feed_70 (j := 0) rfl ?_
  refine g_iadd C dX8_feed_72 ?_
  refine Go.top (v := .int 4) (by decide) ?_
  refine g_aload_n C dX8_feed_73 rfl (j := 1) rfl ?_
  refine h_get C F 0 rfl fk_X8_24 dX8_feed_74 rfl ?_
  refine g_iload C dX8_feed_77 (j := 0) rfl ?_
  refine g_iconst C dX8_feed_79 (v := 4) (by decide) ?_
  refine g_idiv C dX8_feed_80 (by decide) ?_
  refine Go.top (v := .int 1) (by decide) ?_
  refine h_iald C F 5 rfl dX8_feed_81 (vp_in_iff.mpr (by decide)) rfl ?_
  refine g_bipush C dX8_feed_82 (v := 24) (by decide) ?_
  refine g_bipush C dX8_feed_84 (v := 8) (by decide) ?_
  refine g_iload C dX8_feed_86 (j := 0) rfl ?_
  refine g_iconst C dX8_feed_88 (v := 4) (by decide) ?_
  refine g_irem C dX8_feed_89 (by decide) ?_
  refine Go.top (v := .int 0) (by decide) ?_
  refine g_imul C dX8_feed_90 ?_
  refine Go.top (v := .int 0) (by decide) ?_
  refine g_isub C dX8_feed_91 ?_
  refine Go.top (v := .int 24) (by decide) ?_
  refine g_ishr C dX8_feed_92 ?_
  refine g_i2b C dX8_feed_93 rfl ?_
  refine h_bastX C F 4 rfl dX8_feed_94 (vp_in_iff.mpr (by decide)) (flf := fun g => (b 0, .inr (8, .int 0 :: .ref (b 1) :: .ref (b 2) :: .ref (b 3) :: .ref (b 4) :: .int 0 :: .ref (b 6) :: .int 0 :: .int 0 :: .int 0 :: .int 0 :: .int 0 :: .int 0 :: .int (-1) :: .ref (b 14) :: .ref (b 15) :: .ref (b 16) :: .int 0 :: .int 0 :: .int ts :: .ref (b 20) :: .ref (b 21) :: .ref (b 22) :: .ref (b 23) :: .ref (b 24) :: .ref (b 25) :: .ref (b 26) :: .ref (b 27) :: .ref (b 28) :: .ref (b 29) :: .int 0 :: .ref (b 31) :: .int 0 :: .ref (b 33) :: .long 0 :: .long 0 :: .long 0 :: .ref (b 37) :: .ref (b 38) :: .ref (b 39) :: .ref (b 40) :: [])) :: (b 1, .inl (cy 1, 102, .inl (fun _ => 0))) :: (b 2, .inl (cy 1, 306, .inl (fun _ => 0))) :: (b 3, .inl (cy 3, 3, .inl (fun _ => 0))) :: (b 4, .inl (cy 0, 800, .inl g)) :: (b 6, .inl (cy 1, 5, .inl g228)) :: (b 14, .inl (cy 1, 102, .inl (fun _ => 0))) :: (b 15, .inl (cy 1, 7, .inl (fun _ => 0))) :: (b 16, .inl (cy 1, 8, .inl (fun _ => 0))) :: (b 20, .inl (cy 1, 7, .inl (fun _ => 0))) :: (b 21, .inl (cy 1, 8, .inl pn)) :: (b 22, .inl (cy 1, 136, .inl (fun _ => 0))) :: (b 23, .inl (cy 1, 119, .inl (fun _ => 0))) :: (b 24, .inl (cy 1, 16, .inl (fun _ => 0))) :: (b 25, .inl (cy 1, 28, .inl (fun _ => 0))) :: (b 26, .inl (cy 1, 8, .inl (fun _ => 0))) :: (b 27, .inl (cy 1, 4, .inl (fun _ => 0))) :: (b 28, .inl (cy 1, 4, .inl (fun _ => 0))) :: (b 29, .inl (cy 1, 7, .inl (fun _ => 0))) :: (b 31, .inl (cy 1, 544, .inl (fun _ => 0))) :: (b 33, .inl (cy 1, 128, .inl (fun _ => 0))) :: (b 37, .inl (cy 1, 4, .inl (upd (upd (upd (upd (fun _ => 0) ((0 : Int32).toNatClampNeg) (-1)) ((1 : Int32).toNatClampNeg) (-1)) ((2 : Int32).toNatClampNeg) (-1)) ((3 : Int32).toNatClampNeg) (-1)))) :: (b 38, .inl (cy 1, 4, .inl (fun _ => 0))) :: (b 39, .inl (cy 2, 240, .inr (.inl (fun _ => 0)))) :: (b 40, .inl (cy 2, 60, .inr (.inl (fun _ => 0)))) :: []) (fun _ => rfl) (fun M g233 F => ?_)
  refine g_iinc C dX8_feed_95 (j := 0) rfl (v := 5) (by decide) (by decide) (lv2 := [(6, .int 5), (0, .ref (b 0)), (1, .int p0), (2, .int p1), (3, .int p2), (4, .int p3), (5, .int p4)]) rfl ?_
  refine g_goto C dX8_feed_98 (tgt := 55) (by decide) ?_
  refine g_iload C dX8_feed_55 (j := 0) rfl ?_
  refine g_bipush C dX8_feed_57 (v := 20) (by decide) ?_
  refine g_icmp_ge C dX8_feed_59 (tgt := 101) (by decide) (fun q => absurd q (by decide)) (fun _ => ?_)
  refine g_aload_n C dX8_feed_62 rfl (j := 1) rfl ?_
  refine h_get C F 0 rfl fk_X8_20 dX8_feed_63 rfl ?_
  refine g_aload_n C dX8_feed_66 rfl (j := 1) rfl ?_
  refine h_get C F 0 rfl fk_X8_121 dX8_feed_67 rfl ?_
  refine g_iload C dX8_feed_70 (j := 0) rfl ?_
  refine g_iadd C dX8_feed_72 ?_
  refine Go.top (v := .int 5) (by decide) ?_
  refine g_aload_n C dX8_feed_73 rfl (j := 1) rfl ?_
  refine h_get C F 0 rfl fk_X8_24 dX8_feed_74 rfl ?_
  refine g_iload C dX8_feed_77 (j := 0) rfl ?_
  refine g_iconst C dX8_feed_79 (v := 4) (by decide) ?_
  refine g_idiv C dX8_feed_80 (by decide) ?_
  refine Go.top (v := .int 1) (by decide) ?_
  refine h_iald C F 5 rfl dX8_feed_81 (vp_in_iff.mpr (by decide)) rfl ?_
  refine g_bipush C dX8_feed_82 (v := 24) (by decide) ?_
  refine g_bipush C dX8_feed_84 (v := 8) (by decide) ?_
  refine g_iload C dX8_feed_86 (j := 0) rfl ?_
  refine g_iconst C dX8_feed_88 (v := 4) (by decide) ?_
  refine g_irem C dX8_feed_89 (by decide) ?_
  refine Go.top (v := .int 1) (by decide) ?_
  refine g_imul C dX8_feed_90 ?_
  refine Go.top (v := .int 8) (by decide) ?_
  refine g_isub C dX8_feed_91 ?_
  refine Go.top (v := .int 16) (by decide) ?_
  refine g_ishr C dX8_feed_92 ?_
  refine g_i2b C dX8_feed_93 rfl ?_
  refine h_bastX C F 4 rfl dX8_feed_94 (vp_in_iff.mpr (by decide)) (flf := fun g => (b 0, .inr (8, .int 0 :: .ref (b 1) :: .ref (b 2) :: .ref (b 3) :: .ref (b 4) :: .int 0 :: .ref (b 6) :: .int 0 :: .int 0 :: .int 0 :: .int 0 :: .int 0 :: .int 0 :: .int (-1) :: .ref (b 14) :: .ref (b 15) :: .ref (b 16) :: .int 0 :: .int 0 :: .int ts :: .ref (b 20) :: .ref (b 21) :: .ref (b 22) :: .ref (b 23) :: .ref (b 24) :: .ref (b 25) :: .ref (b 26) :: .ref (b 27) :: .ref (b 28) :: .ref (b 29) :: .int 0 :: .ref (b 31) :: .int 0 :: .ref (b 33) :: .long 0 :: .long 0 :: .long 0 :: .ref (b 37) :: .ref (b 38) :: .ref (b 39) :: .ref (b 40) :: [])) :: (b 1, .inl (cy 1, 102, .inl (fun _ => 0))) :: (b 2, .inl (cy 1, 306, .inl (fun _ => 0))) :: (b 3, .inl (cy 3, 3, .inl (fun _ => 0))) :: (b 4, .inl (cy 0, 800, .inl g)) :: (b 6, .inl (cy 1, 5, .inl g228)) :: (b 14, .inl (cy 1, 102, .inl (fun _ => 0))) :: (b 15, .inl (cy 1, 7, .inl (fun _ => 0))) :: (b 16, .inl (cy 1, 8, .inl (fun _ => 0))) :: (b 20, .inl (cy 1, 7, .inl (fun _ => 0))) :: (b 21, .inl (cy 1, 8, .inl pn)) :: (b 22, .inl (cy 1, 136, .inl (fun _ => 0))) :: (b 23, .inl (cy 1, 119, .inl (fun _ => 0))) :: (b 24, .inl (cy 1, 16, .inl (fun _ => 0))) :: (b 25, .inl (cy 1, 28, .inl (fun _ => 0))) :: (b 26, .inl (cy 1, 8, .inl (fun _ => 0))) :: (b 27, .inl (cy 1, 4, .inl (fun _ => 0))) :: (b 28, .inl (cy 1, 4, .inl (fun _ => 0))) :: (b 29, .inl (cy 1, 7, .inl (fun _ => 0))) :: (b 31, .inl (cy 1, 544, .inl (fun _ => 0))) :: (b 33, .inl (cy 1, 128, .inl (fun _ => 0))) :: (b 37, .inl (cy 1, 4, .inl (upd (upd (upd (upd (fun _ => 0) ((0 : Int32).toNatClampNeg) (-1)) ((1 : Int32).toNatClampNeg) (-1)) ((2 : Int32).toNatClampNeg) (-1)) ((3 : Int32).toNatClampNeg) (-1)))) :: (b 38, .inl (cy 1, 4, .inl (fun _ => 0))) :: (b 39, .inl (cy 2, 240, .inr (.inl (fun _ => 0)))) :: (b 40, .inl (cy 2, 60, .inr (.inl (fun _ => 0)))) :: []) (fun _ => rfl) (fun M g234 F => ?_)
  refine g_iinc C dX8_feed_95 (j := 0) rfl (v := 6) (by decide) (by decide) (lv2 := [(6, .int 6), (0, .ref (b 0)), (1, .int p0), (2, .int p1), (3, .int p2), (4, .int p3), (5, .int p4)]) rfl ?_
  refine g_goto C dX8_feed_98 (tgt := 55) (by decide) ?_
  refine g_iload C dX8_feed_55 (j := 0) rfl ?_
  refine g_bipush C dX8_feed_57 (v := 20) (by decide) ?_
  refine g_icmp_ge C dX8_feed_59 (tgt := 101) (by decide) (fun q => absurd q (by decide)) (fun _ => ?_)
  refine g_aload_n C dX8_feed_62 rfl (j := 1) rfl ?_
  refine h_get C F 0 rfl fk_X8_20 dX8_feed_63 rfl ?_
  refine g_aload_n C dX8_feed_66 rfl (j := 1) rfl ?_
  refine h_get C F 0 rfl fk_X8_121 dX8_feed_67 rfl ?_
  refine g_iload C dX8_feed_70 (j := 0) rfl ?_
  refine g_iadd C dX8_feed_72 ?_
  refine Go.top (v := .int 6) (by decide) ?_
  refine g_aload_n C dX8_feed_73 rfl (j := 1) rfl ?_
  refine h_get C F 0 rfl fk_X8_24 dX8_feed_74 rfl ?_
  refine g_iload C dX8_feed_77 (j := 0) rfl ?_
  refine g_iconst C dX8_feed_79 (v := 4) (by decide) ?_
  refine g_idiv C dX8_feed_80 (by decide) ?_
  refine Go.top (v := .int 1) (by decide) ?_
  refine h_iald C F 5 rfl dX8_feed_81 (vp_in_iff.mpr (by decide)) rfl ?_
  refine g_bipush C dX8_feed_82 (v := 24) (by decide) ?_
  refine g_bipush C dX8_feed_84 (v := 8) (by decide) ?_
  refine g_iload C dX8_feed_86 (j := 0) rfl ?_
  refine g_iconst C dX8_feed_88 (v := 4) (by decide) ?_
  refine g_irem C dX8_feed_89 (by decide) ?_
  refine Go.top (v := .int 2) (by decide) ?_
  refine g_imul C dX8_feed_90 ?_
  refine Go.top (v := .int 16) (by decide) ?_
  refine g_isub C dX8_feed_91 ?_
  refine Go.top (v := .int 8) (by decide) ?_
  refine g_ishr C dX8_feed_92 ?_
  refine g_i2b C dX8_feed_93 rfl ?_
  refine h_bastX C F 4 rfl dX8_feed_94 (vp_in_iff.mpr (by decide)) (flf := fun g => (b 0, .inr (8, .int 0 :: .ref (b 1) :: .ref (b 2) :: .ref (b 3) :: .ref (b 4) :: .int 0 :: .ref (b 6) :: .int 0 :: .int 0 :: .int 0 :: .int 0 :: .int 0 :: .int 0 :: .int (-1) :: .ref (b 14) :: .ref (b 15) :: .ref (b 16) :: .int 0 :: .int 0 :: .int ts :: .ref (b 20) :: .ref (b 21) :: .ref (b 22) :: .ref (b 23) :: .ref (b 24) :: .ref (b 25) :: .ref (b 26) :: .ref (b 27) :: .ref (b 28) :: .ref (b 29) :: .int 0 :: .ref (b 31) :: .int 0 :: .ref (b 33) :: .long 0 :: .long 0 :: .long 0 :: .ref (b 37) :: .ref (b 38) :: .ref (b 39) :: .ref (b 40) :: [])) :: (b 1, .inl (cy 1, 102, .inl (fun _ => 0))) :: (b 2, .inl (cy 1, 306, .inl (fun _ => 0))) :: (b 3, .inl (cy 3, 3, .inl (fun _ => 0))) :: (b 4, .inl (cy 0, 800, .inl g)) :: (b 6, .inl (cy 1, 5, .inl g228)) :: (b 14, .inl (cy 1, 102, .inl (fun _ => 0))) :: (b 15, .inl (cy 1, 7, .inl (fun _ => 0))) :: (b 16, .inl (cy 1, 8, .inl (fun _ => 0))) :: (b 20, .inl (cy 1, 7, .inl (fun _ => 0))) :: (b 21, .inl (cy 1, 8, .inl pn)) :: (b 22, .inl (cy 1, 136, .inl (fun _ => 0))) :: (b 23, .inl (cy 1, 119, .inl (fun _ => 0))) :: (b 24, .inl (cy 1, 16, .inl (fun _ => 0))) :: (b 25, .inl (cy 1, 28, .inl (fun _ => 0))) :: (b 26, .inl (cy 1, 8, .inl (fun _ => 0))) :: (b 27, .inl (cy 1, 4, .inl (fun _ => 0))) :: (b 28, .inl (cy 1, 4, .inl (fun _ => 0))) :: (b 29, .inl (cy 1, 7, .inl (fun _ => 0))) :: (b 31, .inl (cy 1, 544, .inl (fun _ => 0))) :: (b 33, .inl (cy 1, 128, .inl (fun _ => 0))) :: (b 37, .inl (cy 1, 4, .inl (upd (upd (upd (upd (fun _ => 0) ((0 : Int32).toNatClampNeg) (-1)) ((1 : Int32).toNatClampNeg) (-1)) ((2 : Int32).toNatClampNeg) (-1)) ((3 : Int32).toNatClampNeg) (-1)))) :: (b 38, .inl (cy 1, 4, .inl (fun _ => 0))) :: (b 39, .inl (cy 2, 240, .inr (.inl (fun _ => 0)))) :: (b 40, .inl (cy 2, 60, .inr (.inl (fun _ => 0)))) :: []) (fun _ => rfl) (fun M g235 F => ?_)
  refine g_iinc C dX8_feed_95 (j := 0) rfl (v := 7) (by decide) (by decide) (lv2 := [(6, .int 7), (0, .ref (b 0)), (1, .int p0), (2, .int p1), (3, .int p2), (4, .int p3), (5, .int p4)]) rfl ?_
  refine g_goto C dX8_feed_98 (tgt := 55) (by decide) ?_
  refine g_iload C dX8_feed_55 (j := 0) rfl ?_
  refine g_bipush C dX8_feed_57 (v := 20) (by decide) ?_
  refine g_icmp_ge C dX8_feed_59 (tgt := 101) (by decide) (fun q => absurd q (by decide)) (fun _ => ?_)
  refine g_aload_n C dX8_feed_62 rfl (j := 1) rfl ?_
  refine h_get C F 0 rfl fk_X8_20 dX8_feed_63 rfl ?_
  refine g_aload_n C dX8_feed_66 rfl (j := 1) rfl ?_
  refine h_get C F 0 rfl fk_X8_121 dX8_feed_67 rfl ?_
  refine g_iload C dX8_feed_70 (j := 0) rfl ?_
  refine g_iadd C dX8_feed_72 ?_
  refine Go.top (v := .int 7) (by decide) ?_
  refine g_aload_n C dX8_feed_73 rfl (j := 1) rfl ?_
  refine h_get C F 0 rfl fk_X8_24 dX8_feed_74 rfl ?_
  refine g_iload C dX8_feed_77 (j := 0) rfl ?_
  refine g_iconst C dX8_feed_79 (v := 4) (by decide) ?_
  refine g_idiv C dX8_feed_80 (by decide) ?_
  refine Go.top (v := .int 1) (by decide) ?_
  refine h_iald C F 5 rfl dX8_feed_81 (vp_in_iff.mpr (by decide)) rfl ?_
  refine g_bipush C dX8_feed_82 (v := 24) (by decide) ?_
  refine g_bipush C dX8_feed_84 (v := 8) (by decide) ?_
  refine g_iload C dX8_feed_86 (j := 0) rfl ?_
  refine g_iconst C dX8_feed_88 (v := 4) (by decide) ?_
  refine g_irem C dX8_feed_89 (by decide) ?_
  refine Go.top (v := .int 3) (by decide) ?_
  refine g_imul C dX8_feed_90 ?_
  refine Go.top (v := .int 24) (by decide) ?_
  refine g_isub C dX8_feed_91 ?_
  refine Go.top (v := .int 0) (by decide) ?_
  refine g_ishr C dX8_feed_92 ?_
  refine g_i2b C dX8_feed_93 rfl ?_
  refine h_bastX C F 4 rfl dX8_feed_94 (vp_in_iff.mpr (by decide)) (flf := fun g => (b 0, .inr (8, .int 0 :: .ref (b 1) :: .ref (b 2) :: .ref (b 3) :: .ref (b 4) :: .int 0 :: .ref (b 6) :: .int 0 :: .int 0 :: .int 0 :: .int 0 :: .int 0 :: .int 0 :: .int (-1) :: .ref (b 14) :: .ref (b 15) :: .ref (b 16) :: .int 0 :: .int 0 :: .int ts :: .ref (b 20) :: .ref (b 21) :: .ref (b 22) :: .ref (b 23) :: .ref (b 24) :: .ref (b 25) :: .ref (b 26) :: .ref (b 27) :: .ref (b 28) :: .ref (b 29) :: .int 0 :: .ref (b 31) :: .int 0 :: .ref (b 33) :: .long 0 :: .long 0 :: .long 0 :: .ref (b 37) :: .ref (b 38) :: .ref (b 39) :: .ref (b 40) :: [])) :: (b 1, .inl (cy 1, 102, .inl (fun _ => 0))) :: (b 2, .inl (cy 1, 306, .inl (fun _ => 0))) :: (b 3, .inl (cy 3, 3, .inl (fun _ => 0))) :: (b 4, .inl (cy 0, 800, .inl g)) :: (b 6, .inl (cy 1, 5, .inl g228)) :: (b 14, .inl (cy 1, 102, .inl (fun _ => 0))) :: (b 15, .inl (cy 1, 7, .inl (fun _ => 0))) :: (b 16, .inl (cy 1, 8, .inl (fun _ => 0))) :: (b 20, .inl (cy 1, 7, .inl (fun _ => 0))) :: (b 21, .inl (cy 1, 8, .inl pn)) :: (b 22, .inl (cy 1, 136, .inl (fun _ => 0))) :: (b 23, .inl (cy 1, 119, .inl (fun _ => 0))) :: (b 24, .inl (cy 1, 16, .inl (fun _ => 0))) :: (b 25, .inl (cy 1, 28, .inl (fun _ => 0))) :: (b 26, .inl (cy 1, 8, .inl (fun _ => 0))) :: (b 27, .inl (cy 1, 4, .inl (fun _ => 0))) :: (b 28, .inl (cy 1, 4, .inl (fun _ => 0))) :: (b 29, .inl (cy 1, 7, .inl (fun _ => 0))) :: (b 31, .inl (cy 1, 544, .inl (fun _ => 0))) :: (b 33, .inl (cy 1, 128, .inl (fun _ => 0))) :: (b 37, .inl (cy 1, 4, .inl (upd (upd (upd (upd (fun _ => 0) ((0 : Int32).toNatClampNeg) (-1)) ((1 : Int32).toNatClampNeg) (-1)) ((2 : Int32).toNatClampNeg) (-1)) ((3 : Int32).toNatClampNeg) (-1)))) :: (b 38, .inl (cy 1, 4, .inl (fun _ => 0))) :: (b 39, .inl (cy 2, 240, .inr (.inl (fun _ => 0)))) :: (b 40, .inl (cy 2, 60, .inr (.inl (fun _ => 0)))) :: []) (fun _ => rfl) (fun M g236 F => ?_)
  refine g_iinc C dX8_feed_95 (j := 0) rfl (v := 8) (by decide) (by decide) (lv2 := [(6, .int 8), (0, .ref (b 0)), (1, .int p0), (2, .int p1), (3, .int p2), (4, .int p3), (5, .int p4)]) rfl ?_
  refine g_goto C dX8_feed_98 (tgt := 55) (by decide) ?_
  refine g_iload C dX8_feed_55 (j := 0) rfl ?_
  refine g_bipush C dX8_feed_57 (v := 20) (by decide) ?_
  refine g_icmp_ge C dX8_feed_59 (tgt := 101) (by decide) (fun q => absurd q (by decide)) (fun _ => ?_)
  refine g_aload_n C dX8_feed_62 rfl (j := 1) rfl ?_
  refine h_get C F 0 rfl fk_X8_20 dX8_feed_63 rfl ?_
  refine g_aload_n C dX8_feed_66 rfl (j := 1) rfl ?_
  refine h_get C F 0 rfl fk_X8_121 dX8_feed_67 rfl ?_
  refine g_iload C dX8_feed_70 (j := 0) rfl ?_
  refine g_iadd C dX8_feed_72 ?_
  refine Go.top (v := .int 8) (by decide) ?_
  refine g_aload_n C dX8_feed_73 rfl (j := 1) rfl ?_
  refine h_get C F 0 rfl fk_X8_24 dX8_feed_74 rfl ?_
  refine g_iload C dX8_feed_77 (j := 0) rfl ?_
  refine g_iconst C dX8_feed_79 (v := 4) (by decide) ?_
  refine g_idiv C dX8_feed_80 (by decide) ?_
  refine Go.top (v := .int 2) (by decide) ?_
  refine h_iald C F 5 rfl dX8_feed_81 (vp_in_iff.mpr (by decide)) rfl ?_
  refine g_bipush C dX8_feed_82 (v := 24) (by decide) ?_
  refine g_bipush C dX8_feed_84 (v := 8) (by decide) ?_
  refine g_iload C dX8_feed_86 (j := 0) rfl ?_
  refine g_iconst C dX8_feed_88 (v := 4) (by decide) ?_
  refine g_irem C dX8_feed_89 (by decide) ?_
  refine Go.top (v := .int 0) (by decide) ?_
  refine g_imul C dX8_feed_90 ?_
  refine Go.top (v := .int 0) (by decide) ?_
  refine g_isub C dX8_feed_91 ?_
  refine Go.top (v := .int 24) (by decide) ?_
  refine g_ishr C dX8_feed_92 ?_
  refine g_i2b C dX8_feed_93 rfl ?_
  refine h_bastX C F 4 rfl dX8_feed_94 (vp_in_iff.mpr (by decide)) (flf := fun g => (b 0, .inr (8, .int 0 :: .ref (b 1) :: .ref (b 2) :: .ref (b 3) :: .ref (b 4) :: .int 0 :: .ref (b 6) :: .int 0 :: .int 0 :: .int 0 :: .int 0 :: .int 0 :: .int 0 :: .int (-1) :: .ref (b 14) :: .ref (b 15) :: .ref (b 16) :: .int 0 :: .int 0 :: .int ts :: .ref (b 20) :: .ref (b 21) :: .ref (b 22) :: .ref (b 23) :: .ref (b 24) :: .ref (b 25) :: .ref (b 26) :: .ref (b 27) :: .ref (b 28) :: .ref (b 29) :: .int 0 :: .ref (b 31) :: .int 0 :: .ref (b 33) :: .long 0 :: .long 0 :: .long 0 :: .ref (b 37) :: .ref (b 38) :: .ref (b 39) :: .ref (b 40) :: [])) :: (b 1, .inl (cy 1, 102, .inl (fun _ => 0))) :: (b 2, .inl (cy 1, 306, .inl (fun _ => 0))) :: (b 3, .inl (cy 3, 3, .inl (fun _ => 0))) :: (b 4, .inl (cy 0, 800, .inl g)) :: (b 6, .inl (cy 1, 5, .inl g228)) :: (b 14, .inl (cy 1, 102, .inl (fun _ => 0))) :: (b 15, .inl (cy 1, 7, .inl (fun _ => 0))) :: (b 16, .inl (cy 1, 8, .inl (fun _ => 0))) :: (b 20, .inl (cy 1, 7, .inl (fun _ => 0))) :: (b 21, .inl (cy 1, 8, .inl pn)) :: (b 22, .inl (cy 1, 136, .inl (fun _ => 0))) :: (b 23, .inl (cy 1, 119, .inl (fun _ => 0))) :: (b 24, .inl (cy 1, 16, .inl (fun _ => 0))) :: (b 25, .inl (cy 1, 28, .inl (fun _ => 0))) :: (b 26, .inl (cy 1, 8, .inl (fun _ => 0))) :: (b 27, .inl (cy 1, 4, .inl (fun _ => 0))) :: (b 28, .inl (cy 1, 4, .inl (fun _ => 0))) :: (b 29, .inl (cy 1, 7, .inl (fun _ => 0))) :: (b 31, .inl (cy 1, 544, .inl (fun _ => 0))) :: (b 33, .inl (cy 1, 128, .inl (fun _ => 0))) :: (b 37, .inl (cy 1, 4, .inl (upd (upd (upd (upd (fun _ => 0) ((0 : Int32).toNatClampNeg) (-1)) ((1 : Int32).toNatClampNeg) (-1)) ((2 : Int32).toNatClampNeg) (-1)) ((3 : Int32).toNatClampNeg) (-1)))) :: (b 38, .inl (cy 1, 4, .inl (fun _ => 0))) :: (b 39, .inl (cy 2, 240, .inr (.inl (fun _ => 0)))) :: (b 40, .inl (cy 2, 60, .inr (.inl (fun _ => 0)))) :: []) (fun _ => rfl) (fun M g237 F => ?_)
  refine g_iinc C dX8_feed_95 (j := 0) rfl (v := 9) (by decide) (by decide) (lv2 := [(6, .int 9), (0, .ref (b 0)), (1, .int p0), (2, .int p1), (3, .int p2), (4, .int p3), (5, .int p4)]) rfl ?_
  refine g_goto C dX8_feed_98 (tgt := 55) (by decide) ?_
  refine g_iload C dX8_feed_55 (j := 0) rfl ?_
  refine g_bipush C dX8_feed_57 (v := 20) (by decide) ?_
  refine g_icmp_ge C dX8_feed_59 (tgt := 101) (by decide) (fun q => absurd q (by decide)) (fun _ => ?_)
  refine g_aload_n C dX8_feed_62 rfl (j := 1) rfl ?_
  refine h_get C F 0 rfl fk_X8_20 dX8_feed_63 rfl ?_
  refine g_aload_n C dX8_feed_66 rfl (j := 1) rfl ?_
  refine h_get C F 0 rfl fk_X8_121 dX8_feed_67 rfl ?_
  refine g_iload C dX8_feed_70 (j := 0) rfl ?_
  refine g_iadd C dX8_feed_72 ?_
  refine Go.top (v := .int 9) (by decide) ?_
  refine g_aload_n C dX8_feed_73 rfl (j := 1) rfl ?_
  refine h_get C F 0 rfl fk_X8_24 dX8_feed_74 rfl ?_
  refine g_iload C dX8_feed_77 (j := 0) rfl ?_
  refine g_iconst C dX8_feed_79 (v := 4) (by decide) ?_
  refine g_idiv C dX8_feed_80 (by decide) ?_
  refine Go.top (v := .int 2) (by decide) ?_
  refine h_iald C F 5 rfl dX8_feed_81 (vp_in_iff.mpr (by decide)) rfl ?_
  refine g_bipush C dX8_feed_82 (v := 24) (by decide) ?_
  refine g_bipush C dX8_feed_84 (v := 8) (by decide) ?_
  refine g_iload C dX8_feed_86 (j := 0) rfl ?_
  refine g_iconst C dX8_feed_88 (v := 4) (by decide) ?_
  refine g_irem C dX8_feed_89 (by decide) ?_
  refine Go.top (v := .int 1) (by decide) ?_
  refine g_imul C dX8_feed_90 ?_
  refine Go.top (v := .int 8) (by decide) ?_
  refine g_isub C dX8_feed_91 ?_
  refine Go.top (v := .int 16) (by decide) ?_
  refine g_ishr C dX8_feed_92 ?_
  refine g_i2b C dX8_feed_93 rfl ?_
  refine h_bastX C F 4 rfl dX8_feed_94 (vp_in_iff.mpr (by decide)) (flf := fun g => (b 0, .inr (8, .int 0 :: .ref (b 1) :: .ref (b 2) :: .ref (b 3) :: .ref (b 4) :: .int 0 :: .ref (b 6) :: .int 0 :: .int 0 :: .int 0 :: .int 0 :: .int 0 :: .int 0 :: .int (-1) :: .ref (b 14) :: .ref (b 15) :: .ref (b 16) :: .int 0 :: .int 0 :: .int ts :: .ref (b 20) :: .ref (b 21) :: .ref (b 22) :: .ref (b 23) :: .ref (b 24) :: .ref (b 25) :: .ref (b 26) :: .ref (b 27) :: .ref (b 28) :: .ref (b 29) :: .int 0 :: .ref (b 31) :: .int 0 :: .ref (b 33) :: .long 0 :: .long 0 :: .long 0 :: .ref (b 37) :: .ref (b 38) :: .ref (b 39) :: .ref (b 40) :: [])) :: (b 1, .inl (cy 1, 102, .inl (fun _ => 0))) :: (b 2, .inl (cy 1, 306, .inl (fun _ => 0))) :: (b 3, .inl (cy 3, 3, .inl (fun _ => 0))) :: (b 4, .inl (cy 0, 800, .inl g)) :: (b 6, .inl (cy 1, 5, .inl g228)) :: (b 14, .inl (cy 1, 102, .inl (fun _ => 0))) :: (b 15, .inl (cy 1, 7, .inl (fun _ => 0))) :: (b 16, .inl (cy 1, 8, .inl (fun _ => 0))) :: (b 20, .inl (cy 1, 7, .inl (fun _ => 0))) :: (b 21, .inl (cy 1, 8, .inl pn)) :: (b 22, .inl (cy 1, 136, .inl (fun _ => 0))) :: (b 23, .inl (cy 1, 119, .inl (fun _ => 0))) :: (b 24, .inl (cy 1, 16, .inl (fun _ => 0))) :: (b 25, .inl (cy 1, 28, .inl (fun _ => 0))) :: (b 26, .inl (cy 1, 8, .inl (fun _ => 0))) :: (b 27, .inl (cy 1, 4, .inl (fun _ => 0))) :: (b 28, .inl (cy 1, 4, .inl (fun _ => 0))) :: (b 29, .inl (cy 1, 7, .inl (fun _ => 0))) :: (b 31, .inl (cy 1, 544, .inl (fun _ => 0))) :: (b 33, .inl (cy 1, 128, .inl (fun _ => 0))) :: (b 37, .inl (cy 1, 4, .inl (upd (upd (upd (upd (fun _ => 0) ((0 : Int32).toNatClampNeg) (-1)) ((1 : Int32).toNatClampNeg) (-1)) ((2 : Int32).toNatClampNeg) (-1)) ((3 : Int32).toNatClampNeg) (-1)))) :: (b 38, .inl (cy 1, 4, .inl (fun _ => 0))) :: (b 39, .inl (cy 2, 240, .inr (.inl (fun _ => 0)))) :: (b 40, .inl (cy 2, 60, .inr (.inl (fun _ => 0)))) :: []) (fun _ => rfl) (fun M g238 F => ?_)
  refine g_iinc C dX8_feed_95 (j := 0) rfl (v := 10) (by decide) (by decide) (lv2 := [(6, .int 10), (0, .ref (b 0)), (1, .int p0), (2, .int p1), (3, .int p2), (4, .int p3), (5, .int p4)]) rfl ?_
  refine g_goto C dX8_feed_98 (tgt := 55) (by decide) ?_
  refine g_iload C dX8_feed_55 (j := 0) rfl ?_
  refine g_bipush C dX8_feed_57 (v := 20) (by decide) ?_
  refine g_icmp_ge C dX8_feed_59 (tgt := 101) (by decide) (fun q => absurd q (by decide)) (fun _ => ?_)
  refine g_aload_n C dX8_feed_62 rfl (j := 1) rfl ?_
  refine h_get C F 0 rfl fk_X8_20 dX8_feed_63 rfl ?_
  refine g_aload_n C dX8_feed_66 rfl (j := 1) rfl ?_
  refine h_get C F 0 rfl fk_X8_121 dX8_feed_67 rfl ?_
  refine g_iload C dX8_feed_70 (j := 0) rfl ?_
  refine g_iadd C dX8_feed_72 ?_
  refine Go.top (v := .int 10) (by decide) ?_
  refine g_aload_n C dX8_feed_73 rfl (j := 1) rfl ?_
  refine h_get C F 0 rfl fk_X8_24 dX8_feed_74 rfl ?_
  refine g_iload C dX8_feed_77 (j := 0) rfl ?_
  refine g_iconst C dX8_feed_79 (v := 4) (by decide) ?_
  refine g_idiv C dX8_feed_80 (by decide) ?_
  refine Go.top (v := .int 2) (by decide) ?_
  refine h_iald C F 5 rfl dX8_feed_81 (vp_in_iff.mpr (by decide)) rfl ?_
  refine g_bipush C dX8_feed_82 (v := 24) (by decide) ?_
  refine g_bipush C dX8_feed_84 (v := 8) (by decide) ?_
  refine g_iload C dX8_feed_86 (j := 0) rfl ?_
  refine g_iconst C dX8_feed_88 (v := 4) (by decide) ?_
  refine g_irem C dX8_feed_89 (by decide) ?_
  refine Go.top (v := .int 2) (by decide) ?_
  refine g_imul C dX8_feed_90 ?_
  refine Go.top (v := .int 16) (by decide) ?_
  refine g_isub C dX8_feed_91 ?_
  refine Go.top (v := .int 8) (by decide) ?_
  refine g_ishr C dX8_feed_92 ?_
  refine g_i2b C dX8_feed_93 rfl ?_
  refine h_bastX C F 4 rfl dX8_feed_94 (vp_in_iff.mpr (by decide)) (flf := fun g => (b 0, .inr (8, .int 0 :: .ref (b 1) :: .ref (b 2) :: .ref (b 3) :: .ref (b 4) :: .int 0 :: .ref (b 6) :: .int 0 :: .int 0 :: .int 0 :: .int 0 :: .int 0 :: .int 0 :: .int (-1) :: .ref (b 14) :: .ref (b 15) :: .ref (b 16) :: .int 0 :: .int 0 :: .int ts :: .ref (b 20) :: .ref (b 21) :: .ref (b 22) :: .ref (b 23) :: .ref (b 24) :: .ref (b 25) :: .ref (b 26) :: .ref (b 27) :: .ref (b 28) :: .ref (b 29) :: .int 0 :: .ref (b 31) :: .int 0 :: .ref (b 33) :: .long 0 :: .long 0 :: .long 0 :: .ref (b 37) :: .ref (b 38) :: .ref (b 39) :: .ref (b 40) :: [])) :: (b 1, .inl (cy 1, 102, .inl (fun _ => 0))) :: (b 2, .inl (cy 1, 306, .inl (fun _ => 0))) :: (b 3, .inl (cy 3, 3, .inl (fun _ => 0))) :: (b 4, .inl (cy 0, 800, .inl g)) :: (b 6, .inl (cy 1, 5, .inl g228)) :: (b 14, .inl (cy 1, 102, .inl (fun _ => 0))) :: (b 15, .inl (cy 1, 7, .inl (fun _ => 0))) :: (b 16, .inl (cy 1, 8, .inl (fun _ => 0))) :: (b 20, .inl (cy 1, 7, .inl (fun _ => 0))) :: (b 21, .inl (cy 1, 8, .inl pn)) :: (b 22, .inl (cy 1, 136, .inl (fun _ => 0))) :: (b 23, .inl (cy 1, 119, .inl (fun _ => 0))) :: (b 24, .inl (cy 1, 16, .inl (fun _ => 0))) :: (b 25, .inl (cy 1, 28, .inl (fun _ => 0))) :: (b 26, .inl (cy 1, 8, .inl (fun _ => 0))) :: (b 27, .inl (cy 1, 4, .inl (fun _ => 0))) :: (b 28, .inl (cy 1, 4, .inl (fun _ => 0))) :: (b 29, .inl (cy 1, 7, .inl (fun _ => 0))) :: (b 31, .inl (cy 1, 544, .inl (fun _ => 0))) :: (b 33, .inl (cy 1, 128, .inl (fun _ => 0))) :: (b 37, .inl (cy 1, 4, .inl (upd (upd (upd (upd (fun _ => 0) ((0 : Int32).toNatClampNeg) (-1)) ((1 : Int32).toNatClampNeg) (-1)) ((2 : Int32).toNatClampNeg) (-1)) ((3 : Int32).toNatClampNeg) (-1)))) :: (b 38, .inl (cy 1, 4, .inl (fun _ => 0))) :: (b 39, .inl (cy 2, 240, .inr (.inl (fun _ => 0)))) :: (b 40, .inl (cy 2, 60, .inr (.inl (fun _ => 0)))) :: []) (fun _ => rfl) (fun M g239 F => ?_)
  refine g_iinc C dX8_feed_95 (j := 0) rfl (v := 11) (by decide) (by decide) (lv2 := [(6, .int 11), (0, .ref (b 0)), (1, .int p0), (2, .int p1), (3, .int p2), (4, .int p3), (5, .int p4)]) rfl ?_
  refine g_goto C dX8_feed_98 (tgt := 55) (by decide) ?_
  refine g_iload C dX8_feed_55 (j := 0) rfl ?_
  refine g_bipush C dX8_feed_57 (v := 20) (by decide) ?_
  refine g_icmp_ge C dX8_feed_59 (tgt := 101) (by decide) (fun q => absurd q (by decide)) (fun _ => ?_)
  refine g_aload_n C dX8_feed_62 rfl (j := 1) rfl ?_
  refine h_get C F 0 rfl fk_X8_20 dX8_feed_63 rfl ?_
  refine g_aload_n C dX8_feed_66 rfl (j := 1) rfl ?_
  refine h_get C F 0 rfl fk_X8_121 dX8_feed_67 rfl ?_
  refine g_iload C dX8_feed_70 (j := 0) rfl ?_
  refine g_iadd C dX8_feed_72 ?_
  refine Go.top (v := .int 11) (by decide) ?_
  refine g_aload_n C dX8_feed_73 rfl (j := 1) rfl ?_
  refine h_get C F 0 rfl fk_X8_24 dX8_feed_74 rfl ?_
  refine g_iload C dX8_feed_77 (j := 0) rfl ?_
  refine g_iconst C dX8_feed_79 (v := 4) (by decide) ?_
  refine g_idiv C dX8_feed_80 (by decide) ?_
  refine Go.top (v := .int 2) (by decide) ?_
  refine h_iald C F 5 rfl dX8_feed_81 (vp_in_iff.mpr (by decide)) rfl ?_
  refine g_bipush C dX8_feed_82 (v := 24) (by decide) ?_
  refine g_bipush C dX8_feed_84 (v := 8) (by decide) ?_
  refine g_iload C dX8_feed_86 (j := 0) rfl ?_
  refine g_iconst C dX8_feed_88 (v := 4) (by decide) ?_
  refine g_irem C dX8_feed_89 (by decide) ?_
  refine Go.top (v := .int 3) (by decide) ?_
  refine g_imul C dX8_feed_90 ?_
  refine Go.top (v := .int 24) (by decide) ?_
  refine g_isub C dX8_feed_91 ?_
  refine Go.top (v := .int 0) (by decide) ?_
  refine g_ishr C dX8_feed_92 ?_
  refine g_i2b C dX8_feed_93 rfl ?_
  refine h_bastX C F 4 rfl dX8_feed_94 (vp_in_iff.mpr (by decide)) (flf := fun g => (b 0, .inr (8, .int 0 :: .ref (b 1) :: .ref (b 2) :: .ref (b 3) :: .ref (b 4) :: .int 0 :: .ref (b 6) :: .int 0 :: .int 0 :: .int 0 :: .int 0 :: .int 0 :: .int 0 :: .int (-1) :: .ref (b 14) :: .ref (b 15) :: .ref (b 16) :: .int 0 :: .int 0 :: .int ts :: .ref (b 20) :: .ref (b 21) :: .ref (b 22) :: .ref (b 23) :: .ref (b 24) :: .ref (b 25) :: .ref (b 26) :: .ref (b 27) :: .ref (b 28) :: .ref (b 29) :: .int 0 :: .ref (b 31) :: .int 0 :: .ref (b 33) :: .long 0 :: .long 0 :: .long 0 :: .ref (b 37) :: .ref (b 38) :: .ref (b 39) :: .ref (b 40) :: [])) :: (b 1, .inl (cy 1, 102, .inl (fun _ => 0))) :: (b 2, .inl (cy 1, 306, .inl (fun _ => 0))) :: (b 3, .inl (cy 3, 3, .inl (fun _ => 0))) :: (b 4, .inl (cy 0, 800, .inl g)) :: (b 6, .inl (cy 1, 5, .inl g228)) :: (b 14, .inl (cy 1, 102, .inl (fun _ => 0))) :: (b 15, .inl (cy 1, 7, .inl (fun _ => 0))) :: (b 16, .inl (cy 1, 8, .inl (fun _ => 0))) :: (b 20, .inl (cy 1, 7, .inl (fun _ => 0))) :: (b 21, .inl (cy 1, 8, .inl pn)) :: (b 22, .inl (cy 1, 136, .inl (fun _ => 0))) :: (b 23, .inl (cy 1, 119, .inl (fun _ => 0))) :: (b 24, .inl (cy 1, 16, .inl (fun _ => 0))) :: (b 25, .inl (cy 1, 28, .inl (fun _ => 0))) :: (b 26, .inl (cy 1, 8, .inl (fun _ => 0))) :: (b 27, .inl (cy 1, 4, .inl (fun _ => 0))) :: (b 28, .inl (cy 1, 4, .inl (fun _ => 0))) :: (b 29, .inl (cy 1, 7, .inl (fun _ => 0))) :: (b 31, .inl (cy 1, 544, .inl (fun _ => 0))) :: (b 33, .inl (cy 1, 128, .inl (fun _ => 0))) :: (b 37, .inl (cy 1, 4, .inl (upd (upd (upd (upd (fun _ => 0) ((0 : Int32).toNatClampNeg) (-1)) ((1 : Int32).toNatClampNeg) (-1)) ((2 : Int32).toNatClampNeg) (-1)) ((3 : Int32).toNatClampNeg) (-1)))) :: (b 38, .inl (cy 1, 4, .inl (fun _ => 0))) :: (b 39, .inl (cy 2, 240, .inr (.inl (fun _ => 0)))) :: (b 40, .inl (cy 2, 60, .inr (.inl (fun _ => 0)))) :: []) (fun _ => rfl) (fun M g240 F => ?_)
  refine g_iinc C dX8_feed_95 (j := 0) rfl (v := 12) (by decide) (by decide) (lv2 := [(6, .int 12), (0, .ref (b 0)), (1, .int p0), (2, .int p1), (3, .int p2), (4, .int p3), (5, .int p4)]) rfl ?_
  refine g_goto C dX8_feed_98 (tgt := 55) (by decide) ?_
  refine g_iload C dX8_feed_55 (j := 0) rfl ?_
  refine g_bipush C dX8_feed_57 (v := 20) (by decide) ?_
  refine g_icmp_ge C dX8_feed_59 (tgt := 101) (by decide) (fun q => absurd q (by decide)) (fun _ => ?_)
  refine g_aload_n C dX8_feed_62 rfl (j := 1) rfl ?_
  refine h_get C F 0 rfl fk_X8_20 dX8_feed_63 rfl ?_
  refine g_aload_n C dX8_feed_66 rfl (j := 1) rfl ?_
  refine h_get C F 0 rfl fk_X8_121 dX8_feed_67 rfl ?_
  refine g_iload C dX8_feed_70 (j := 0) rfl ?_
  refine g_iadd C dX8_feed_72 ?_
  refine Go.top (v := .int 12) (by decide) ?_
  refine g_aload_n C dX8_feed_73 rfl (j := 1) rfl ?_
  refine h_get C F 0 rfl fk_X8_24 dX8_feed_74 rfl ?_
  refine g_iload C dX8_feed_77 (j := 0) rfl ?_
  refine g_iconst C dX8_feed_79 (v := 4) (by decide) ?_
  refine g_idiv C dX8_feed_80 (by decide) ?_
  refine Go.top (v := .int 3) (by decide) ?_
  refine h_iald C F 5 rfl dX8_feed_81 (vp_in_iff.mpr (by decide)) rfl ?_
  refine g_bipush C dX8_feed_82 (v := 24) (by decide) ?_
  refine g_bipush C dX8_feed_84 (v := 8) (by decide) ?_
  refine g_iload C dX8_feed_86 (j := 0) rfl ?_
  refine g_iconst C dX8_feed_88 (v := 4) (by decide) ?_
  refine g_irem C dX8_feed_89 (by decide) ?_
  refine Go.top (v := .int 0) (by decide) ?_
  refine g_imul C dX8_feed_90 ?_
  refine Go.top (v := .int 0) (by decide) ?_
  refine g_isub C dX8_feed_91 ?_
  refine Go.top (v := .int 24) (by decide) ?_
  refine g_ishr C dX8_feed_92 ?_
  refine g_i2b C dX8_feed_93 rfl ?_
  refine h_bastX C F 4 rfl dX8_feed_94 (vp_in_iff.mpr (by decide)) (flf := fun g => (b 0, .inr (8, .int 0 :: .ref (b 1) :: .ref (b 2) :: .ref (b 3) :: .ref (b 4) :: .int 0 :: .ref (b 6) :: .int 0 :: .int 0 :: .int 0 :: .int 0 :: .int 0 :: .int 0 :: .int (-1) :: .ref (b 14) :: .ref (b 15) :: .ref (b 16) :: .int 0 :: .int 0 :: .int ts :: .ref (b 20) :: .ref (b 21) :: .ref (b 22) :: .ref (b 23) :: .ref (b 24) :: .ref (b 25) :: .ref (b 26) :: .ref (b 27) :: .ref (b 28) :: .ref (b 29) :: .int 0 :: .ref (b 31) :: .int 0 :: .ref (b 33) :: .long 0 :: .long 0 :: .long 0 :: .ref (b 37) :: .ref (b 38) :: .ref (b 39) :: .ref (b 40) :: [])) :: (b 1, .inl (cy 1, 102, .inl (fun _ => 0))) :: (b 2, .inl (cy 1, 306, .inl (fun _ => 0))) :: (b 3, .inl (cy 3, 3, .inl (fun _ => 0))) :: (b 4, .inl (cy 0, 800, .inl g)) :: (b 6, .inl (cy 1, 5, .inl g228)) :: (b 14, .inl (cy 1, 102, .inl (fun _ => 0))) :: (b 15, .inl (cy 1, 7, .inl (fun _ => 0))) :: (b 16, .inl (cy 1, 8, .inl (fun _ => 0))) :: (b 20, .inl (cy 1, 7, .inl (fun _ => 0))) :: (b 21, .inl (cy 1, 8, .inl pn)) :: (b 22, .inl (cy 1, 136, .inl (fun _ => 0))) :: (b 23, .inl (cy 1, 119, .inl (fun _ => 0))) :: (b 24, .inl (cy 1, 16, .inl (fun _ => 0))) :: (b 25, .inl (cy 1, 28, .inl (fun _ => 0))) :: (b 26, .inl (cy 1, 8, .inl (fun _ => 0))) :: (b 27, .inl (cy 1, 4, .inl (fun _ => 0))) :: (b 28, .inl (cy 1, 4, .inl (fun _ => 0))) :: (b 29, .inl (cy 1, 7, .inl (fun _ => 0))) :: (b 31, .inl (cy 1, 544, .inl (fun _ => 0))) :: (b 33, .inl (cy 1, 128, .inl (fun _ => 0))) :: (b 37, .inl (cy 1, 4, .inl (upd (upd (upd (upd (fun _ => 0) ((0 : Int32).toNatClampNeg) (-1)) ((1 : Int32).toNatClampNeg) (-1)) ((2 : Int32).toNatClampNeg) (-1)) ((3 : Int32).toNatClampNeg) (-1)))) :: (b 38, .inl (cy 1, 4, .inl (fun _ => 0))) :: (b 39, .inl (cy 2, 240, .inr (.inl (fun _ => 0)))) :: (b 40, .inl (cy 2, 60, .inr (.inl (fun _ => 0)))) :: []) (fun _ => rfl) (fun M g241 F => ?_)
  refine g_iinc C dX8_feed_95 (j := 0) rfl (v := 13) (by decide) (by decide) (lv2 := [(6, .int 13), (0, .ref (b 0)), (1, .int p0), (2, .int p1), (3, .int p2), (4, .int p3), (5, .int p4)]) rfl ?_
  refine g_goto C dX8_feed_98 (tgt := 55) (by decide) ?_
  refine g_iload C dX8_feed_55 (j := 0) rfl ?_
  refine g_bipush C dX8_feed_57 (v := 20) (by decide) ?_
  refine g_icmp_ge C dX8_feed_59 (tgt := 101) (by decide) (fun q => absurd q (by decide)) (fun _ => ?_)
  refine g_aload_n C dX8_feed_62 rfl (j := 1) rfl ?_
  refine h_get C F 0 rfl fk_X8_20 dX8_feed_63 rfl ?_
  refine g_aload_n C dX8_feed_66 rfl (j := 1) rfl ?_
  refine h_get C F 0 rfl fk_X8_121 dX8_feed_67 rfl ?_
  refine g_iload C dX8_feed_70 (j := 0) rfl ?_
  refine g_iadd C dX8_feed_72 ?_
  refine Go.top (v := .int 13) (by decide) ?_
  refine g_aload_n C dX8_feed_73 rfl (j := 1) rfl ?_
  refine h_get C F 0 rfl fk_X8_24 dX8_feed_74 rfl ?_
  refine g_iload C dX8_feed_77 (j := 0) rfl ?_
  refine g_iconst C dX8_feed_79 (v := 4) (by decide) ?_
  refine g_idiv C dX8_feed_80 (by decide) ?_
  refine Go.top (v := .int 3) (by decide) ?_
  refine h_iald C F 5 rfl dX8_feed_81 (vp_in_iff.mpr (by decide)) rfl ?_
  refine g_bipush C dX8_feed_82 (v := 24) (by decide) ?_
  refine g_bipush C dX8_feed_84 (v := 8) (by decide) ?_
  refine g_iload C dX8_feed_86 (j := 0) rfl ?_
  refine g_iconst C dX8_feed_88 (v := 4) (by decide) ?_
  refine g_irem C dX8_feed_89 (by decide) ?_
  refine Go.top (v := .int 1) (by decide) ?_
  refine g_imul C dX8_feed_90 ?_
  refine Go.top (v := .int 8) (by decide) ?_
  refine g_isub C dX8_feed_91 ?_
  refine Go.top (v := .int 16) (by decide) ?_
  refine g_ishr C dX8_feed_92 ?_
  refine g_i2b C dX8_feed_93 rfl ?_
  refine h_bastX C F 4 rfl dX8_feed_94 (vp_in_iff.mpr (by decide)) (flf := fun g => (b 0, .inr (8, .int 0 :: .ref (b 1) :: .ref (b 2) :: .ref (b 3) :: .ref (b 4) :: .int 0 :: .ref (b 6) :: .int 0 :: .int 0 :: .int 0 :: .int 0 :: .int 0 :: .int 0 :: .int (-1) :: .ref (b 14) :: .ref (b 15) :: .ref (b 16) :: .int 0 :: .int 0 :: .int ts :: .ref (b 20) :: .ref (b 21) :: .ref (b 22) :: .ref (b 23) :: .ref (b 24) :: .ref (b 25) :: .ref (b 26) :: .ref (b 27) :: .ref (b 28) :: .ref (b 29) :: .int 0 :: .ref (b 31) :: .int 0 :: .ref (b 33) :: .long 0 :: .long 0 :: .long 0 :: .ref (b 37) :: .ref (b 38) :: .ref (b 39) :: .ref (b 40) :: [])) :: (b 1, .inl (cy 1, 102, .inl (fun _ => 0))) :: (b 2, .inl (cy 1, 306, .inl (fun _ => 0))) :: (b 3, .inl (cy 3, 3, .inl (fun _ => 0))) :: (b 4, .inl (cy 0, 800, .inl g)) :: (b 6, .inl (cy 1, 5, .inl g228)) :: (b 14, .inl (cy 1, 102, .inl (fun _ => 0))) :: (b 15, .inl (cy 1, 7, .inl (fun _ => 0))) :: (b 16, .inl (cy 1, 8, .inl (fun _ => 0))) :: (b 20, .inl (cy 1, 7, .inl (fun _ => 0))) :: (b 21, .inl (cy 1, 8, .inl pn)) :: (b 22, .inl (cy 1, 136, .inl (fun _ => 0))) :: (b 23, .inl (cy 1, 119, .inl (fun _ => 0))) :: (b 24, .inl (cy 1, 16, .inl (fun _ => 0))) :: (b 25, .inl (cy 1, 28, .inl (fun _ => 0))) :: (b 26, .inl (cy 1, 8, .inl (fun _ => 0))) :: (b 27, .inl (cy 1, 4, .inl (fun _ => 0))) :: (b 28, .inl (cy 1, 4, .inl (fun _ => 0))) :: (b 29, .inl (cy 1, 7, .inl (fun _ => 0))) :: (b 31, .inl (cy 1, 544, .inl (fun _ => 0))) :: (b 33, .inl (cy 1, 128, .inl (fun _ => 0))) :: (b 37, .inl (cy 1, 4, .inl (upd (upd (upd (upd (fun _ => 0) ((0 : Int32).toNatClampNeg) (-1)) ((1 : Int32).toNatClampNeg) (-1)) ((2 : Int32).toNatClampNeg) (-1)) ((3 : Int32).toNatClampNeg) (-1)))) :: (b 38, .inl (cy 1, 4, .inl (fun _ => 0))) :: (b 39, .inl (cy 2, 240, .inr (.inl (fun _ => 0)))) :: (b 40, .inl (cy 2, 60, .inr (.inl (fun _ => 0)))) :: []) (fun _ => rfl) (fun M g242 F => ?_)
  refine g_iinc C dX8_feed_95 (j := 0) rfl (v := 14) (by decide) (by decide) (lv2 := [(6, .int 14), (0, .ref (b 0)), (1, .int p0), (2, .int p1), (3, .int p2), (4, .int p3), (5, .int p4)]) rfl ?_
  refine g_goto C dX8_feed_98 (tgt := 55) (by decide) ?_
  refine g_iload C dX8_feed_55 (j := 0) rfl ?_
  refine g_bipush C dX8_feed_57 (v := 20) (by decide) ?_
  refine g_icmp_ge C dX8_feed_59 (tgt := 101) (by decide) (fun q => absurd q (by decide)) (fun _ => ?_)
  refine g_aload_n C dX8_feed_62 rfl (j := 1) rfl ?_
  refine h_get C F 0 rfl fk_X8_20 dX8_feed_63 rfl ?_
  refine g_aload_n C dX8_feed_66 rfl (j := 1) rfl ?_
  refine h_get C F 0 rfl fk_X8_121 dX8_feed_67 rfl ?_
  refine g_iload C dX8_feed_70 (j := 0) rfl ?_
  refine g_iadd C dX8_feed_72 ?_
  refine Go.top (v := .int 14) (by decide) ?_
  refine g_aload_n C dX8_feed_73 rfl (j := 1) rfl ?_
  refine h_get C F 0 rfl fk_X8_24 dX8_feed_74 rfl ?_
  refine g_iload C dX8_feed_77 (j := 0) rfl ?_
  refine g_iconst C dX8_feed_79 (v := 4) (by decide) ?_
  refine g_idiv C dX8_feed_80 (by decide) ?_
  refine Go.top (v := .int 3) (by decide) ?_
  refine h_iald C F 5 rfl dX8_feed_81 (vp_in_iff.mpr (by decide)) rfl ?_
  refine g_bipush C dX8_feed_82 (v := 24) (by decide) ?_
  refine g_bipush C dX8_feed_84 (v := 8) (by decide) ?_
  refine g_iload C dX8_feed_86 (j := 0) rfl ?_
  refine g_iconst C dX8_feed_88 (v := 4) (by decide) ?_
  refine g_irem C dX8_feed_89 (by decide) ?_
  refine Go.top (v := .int 2) (by decide) ?_
  refine g_imul C dX8_feed_90 ?_
  refine Go.top (v := .int 16) (by decide) ?_
  refine g_isub C dX8_feed_91 ?_
  refine Go.top (v := .int 8) (by decide) ?_
  refine g_ishr C dX8_feed_92 ?_
  refine g_i2b C dX8_feed_93 rfl ?_
  refine h_bastX C F 4 rfl dX8_feed_94 (vp_in_iff.mpr (by decide)) (flf := fun g => (b 0, .inr (8, .int 0 :: .ref (b 1) :: .ref (b 2) :: .ref (b 3) :: .ref (b 4) :: .int 0 :: .ref (b 6) :: .int 0 :: .int 0 :: .int 0 :: .int 0 :: .int 0 :: .int 0 :: .int (-1) :: .ref (b 14) :: .ref (b 15) :: .ref (b 16) :: .int 0 :: .int 0 :: .int ts :: .ref (b 20) :: .ref (b 21) :: .ref (b 22) :: .ref (b 23) :: .ref (b 24) :: .ref (b 25) :: .ref (b 26) :: .ref (b 27) :: .ref (b 28) :: .ref (b 29) :: .int 0 :: .ref (b 31) :: .int 0 :: .ref (b 33) :: .long 0 :: .long 0 :: .long 0 :: .ref (b 37) :: .ref (b 38) :: .ref (b 39) :: .ref (b 40) :: [])) :: (b 1, .inl (cy 1, 102, .inl (fun _ => 0))) :: (b 2, .inl (cy 1, 306, .inl (fun _ => 0))) :: (b 3, .inl (cy 3, 3, .inl (fun _ => 0))) :: (b 4, .inl (cy 0, 800, .inl g)) :: (b 6, .inl (cy 1, 5, .inl g228)) :: (b 14, .inl (cy 1, 102, .inl (fun _ => 0))) :: (b 15, .inl (cy 1, 7, .inl (fun _ => 0))) :: (b 16, .inl (cy 1, 8, .inl (fun _ => 0))) :: (b 20, .inl (cy 1, 7, .inl (fun _ => 0))) :: (b 21, .inl (cy 1, 8, .inl pn)) :: (b 22, .inl (cy 1, 136, .inl (fun _ => 0))) :: (b 23, .inl (cy 1, 119, .inl (fun _ => 0))) :: (b 24, .inl (cy 1, 16, .inl (fun _ => 0))) :: (b 25, .inl (cy 1, 28, .inl (fun _ => 0))) :: (b 26, .inl (cy 1, 8, .inl (fun _ => 0))) :: (b 27, .inl (cy 1, 4, .inl (fun _ => 0))) :: (b 28, .inl (cy 1, 4, .inl (fun _ => 0))) :: (b 29, .inl (cy 1, 7, .inl (fun _ => 0))) :: (b 31, .inl (cy 1, 544, .inl (fun _ => 0))) :: (b 33, .inl (cy 1, 128, .inl (fun _ => 0))) :: (b 37, .inl (cy 1, 4, .inl (upd (upd (upd (upd (fun _ => 0) ((0 : Int32).toNatClampNeg) (-1)) ((1 : Int32).toNatClampNeg) (-1)) ((2 : Int32).toNatClampNeg) (-1)) ((3 : Int32).toNatClampNeg) (-1)))) :: (b 38, .inl (cy 1, 4, .inl (fun _ => 0))) :: (b 39, .inl (cy 2, 240, .inr (.inl (fun _ => 0)))) :: (b 40, .inl (cy 2, 60, .inr (.inl (fun _ => 0)))) :: []) (fun _ => rfl) (fun M g243 F => ?_)
  refine g_iinc C dX8_feed_95 (j := 0) rfl (v := 15) (by decide) (by decide) (lv2 := [(6, .int 15), (0, .ref (b 0)), (1, .int p0), (2, .int p1), (3, .int p2), (4, .int p3), (5, .int p4)]) rfl ?_
  refine g_goto C dX8_feed_98 (tgt := 55) (by decide) ?_
  refine g_iload C dX8_feed_55 (j := 0) rfl ?_
  refine g_bipush C dX8_feed_57 (v := 20) (by decide) ?_
  refine g_icmp_ge C dX8_feed_59 (tgt := 101) (by decide) (fun q => absurd q (by decide)) (fun _ => ?_)
  refine g_aload_n C dX8_feed_62 rfl (j := 1) rfl ?_
  refine h_get C F 0 rfl fk_X8_20 dX8_feed_63 rfl ?_
  refine g_aload_n C dX8_feed_66 rfl (j := 1) rfl ?_
  refine h_get C F 0 rfl fk_X8_121 dX8_feed_67 rfl ?_
  refine g_iload C dX8_feed_70 (j := 0) rfl ?_
  refine g_iadd C dX8_feed_72 ?_
  refine Go.top (v := .int 15) (by decide) ?_
  refine g_aload_n C dX8_feed_73 rfl (j := 1) rfl ?_
  refine h_get C F 0 rfl fk_X8_24 dX8_feed_74 rfl ?_
  refine g_iload C dX8_feed_77 (j := 0) rfl ?_
  refine g_iconst C dX8_feed_79 (v := 4) (by decide) ?_
  refine g_idiv C dX8_feed_80 (by decide) ?_
  refine Go.top (v := .int 3) (by decide) ?_
  refine h_iald C F 5 rfl dX8_feed_81 (vp_in_iff.mpr (by decide)) rfl ?_
  refine g_bipush C dX8_feed_82 (v := 24) (by decide) ?_
  refine g_bipush C dX8_feed_84 (v := 8) (by decide) ?_
  refine g_iload C dX8_feed_86 (j := 0) rfl ?_
  refine g_iconst C dX8_feed_88 (v := 4) (by decide) ?_
  refine g_irem C dX8_feed_89 (by decide) ?_
  refine Go.top (v := .int 3) (by decide) ?_
  refine g_imul C dX8_feed_90 ?_
  refine Go.top (v := .int 24) (by decide) ?_
  refine g_isub C dX8_feed_91 ?_
  refine Go.top (v := .int 0) (by decide) ?_
  refine g_ishr C dX8_feed_92 ?_
  refine g_i2b C dX8_feed_93 rfl ?_
  refine h_bastX C F 4 rfl dX8_feed_94 (vp_in_iff.mpr (by decide)) (flf := fun g => (b 0, .inr (8, .int 0 :: .ref (b 1) :: .ref (b 2) :: .ref (b 3) :: .ref (b 4) :: .int 0 :: .ref (b 6) :: .int 0 :: .int 0 :: .int 0 :: .int 0 :: .int 0 :: .int 0 :: .int (-1) :: .ref (b 14) :: .ref (b 15) :: .ref (b 16) :: .int 0 :: .int 0 :: .int ts :: .ref (b 20) :: .ref (b 21) :: .ref (b 22) :: .ref (b 23) :: .ref (b 24) :: .ref (b 25) :: .ref (b 26) :: .ref (b 27) :: .ref (b 28) :: .ref (b 29) :: .int 0 :: .ref (b 31) :: .int 0 :: .ref (b 33) :: .long 0 :: .long 0 :: .long 0 :: .ref (b 37) :: .ref (b 38) :: .ref (b 39) :: .ref (b 40) :: [])) :: (b 1, .inl (cy 1, 102, .inl (fun _ => 0))) :: (b 2, .inl (cy 1, 306, .inl (fun _ => 0))) :: (b 3, .inl (cy 3, 3, .inl (fun _ => 0))) :: (b 4, .inl (cy 0, 800, .inl g)) :: (b 6, .inl (cy 1, 5, .inl g228)) :: (b 14, .inl (cy 1, 102, .inl (fun _ => 0))) :: (b 15, .inl (cy 1, 7, .inl (fun _ => 0))) :: (b 16, .inl (cy 1, 8, .inl (fun _ => 0))) :: (b 20, .inl (cy 1, 7, .inl (fun _ => 0))) :: (b 21, .inl (cy 1, 8, .inl pn)) :: (b 22, .inl (cy 1, 136, .inl (fun _ => 0))) :: (b 23, .inl (cy 1, 119, .inl (fun _ => 0))) :: (b 24, .inl (cy 1, 16, .inl (fun _ => 0))) :: (b 25, .inl (cy 1, 28, .inl (fun _ => 0))) :: (b 26, .inl (cy 1, 8, .inl (fun _ => 0))) :: (b 27, .inl (cy 1, 4, .inl (fun _ => 0))) :: (b 28, .inl (cy 1, 4, .inl (fun _ => 0))) :: (b 29, .inl (cy 1, 7, .inl (fun _ => 0))) :: (b 31, .inl (cy 1, 544, .inl (fun _ => 0))) :: (b 33, .inl (cy 1, 128, .inl (fun _ => 0))) :: (b 37, .inl (cy 1, 4, .inl (upd (upd (upd (upd (fun _ => 0) ((0 : Int32).toNatClampNeg) (-1)) ((1 : Int32).toNatClampNeg) (-1)) ((2 : Int32).toNatClampNeg) (-1)) ((3 : Int32).toNatClampNeg) (-1)))) :: (b 38, .inl (cy 1, 4, .inl (fun _ => 0))) :: (b 39, .inl (cy 2, 240, .inr (.inl (fun _ => 0)))) :: (b 40, .inl (cy 2, 60, .inr (.inl (fun _ => 0)))) :: []) (fun _ => rfl) (fun M g244 F => ?_)
  refine g_iinc C dX8_feed_95 (j := 0) rfl (v := 16) (by decide) (by decide) (lv2 := [(6, .int 16), (0, .ref (b 0)), (1, .int p0), (2, .int p1), (3, .int p2), (4, .int p3), (5, .int p4)]) rfl ?_
  refine g_goto C dX8_feed_98 (tgt := 55) (by decide) ?_
  refine g_iload C dX8_feed_55 (j := 0) rfl ?_
  refine g_bipush C dX8_feed_57 (v := 20) (by decide) ?_
  refine g_icmp_ge C dX8_feed_59 (tgt := 101) (by decide) (fun q => absurd q (by decide)) (fun _ => ?_)
  refine g_aload_n C dX8_feed_62 rfl (j := 1) rfl ?_
  refine h_get C F 0 rfl fk_X8_20 dX8_feed_63 rfl ?_
  refine g_aload_n C dX8_feed_66 rfl (j := 1) rfl ?_
  refine h_get C F 0 rfl fk_X8_121 dX8_feed_67 rfl ?_
  refine g_iload C dX8_feed_70 (j := 0) rfl ?_
  refine g_iadd C dX8_feed_72 ?_
  refine Go.top (v := .int 16) (by decide) ?_
  refine g_aload_n C dX8_feed_73 rfl (j := 1) rfl ?_
  refine h_get C F 0 rfl fk_X8_24 dX8_feed_74 rfl ?_
  refine g_iload C dX8_feed_77 (j := 0) rfl ?_
  refine g_iconst C dX8_feed_79 (v := 4) (by decide) ?_
  refine g_idiv C dX8_feed_80 (by decide) ?_
  refine Go.top (v := .int 4) (by decide) ?_
  refine h_iald C F 5 rfl dX8_feed_81 (vp_in_iff.mpr (by decide)) rfl ?_
  refine g_bipush C dX8_feed_82 (v := 24) (by decide) ?_
  refine g_bipush C dX8_feed_84 (v := 8) (by decide) ?_
  refine g_iload C dX8_feed_86 (j := 0) rfl ?_
  refine g_iconst C dX8_feed_88 (v := 4) (by decide) ?_
  refine g_irem C dX8_feed_89 (by decide) ?_
  refine Go.top (v := .int 0) (by decide) ?_
  refine g_imul C dX8_feed_90 ?_
  refine Go.top (v := .int 0) (by decide) ?_
  refine g_isub C dX8_feed_91 ?_
  refine Go.top (v := .int 24) (by decide) ?_
  refine g_ishr C dX8_feed_92 ?_
  refine g_i2b C dX8_feed_93 rfl ?_
  refine h_bastX C F 4 rfl dX8_feed_94 (vp_in_iff.mpr (by decide)) (flf := fun g => (b 0, .inr (8, .int 0 :: .ref (b 1) :: .ref (b 2) :: .ref (b 3) :: .ref (b 4) :: .int 0 :: .ref (b 6) :: .int 0 :: .int 0 :: .int 0 :: .int 0 :: .int 0 :: .int 0 :: .int (-1) :: .ref (b 14) :: .ref (b 15) :: .ref (b 16) :: .int 0 :: .int 0 :: .int ts :: .ref (b 20) :: .ref (b 21) :: .ref (b 22) :: .ref (b 23) :: .ref (b 24) :: .ref (b 25) :: .ref (b 26) :: .ref (b 27) :: .ref (b 28) :: .ref (b 29) :: .int 0 :: .ref (b 31) :: .int 0 :: .ref (b 33) :: .long 0 :: .long 0 :: .long 0 :: .ref (b 37) :: .ref (b 38) :: .ref (b 39) :: .ref (b 40) :: [])) :: (b 1, .inl (cy 1, 102, .inl (fun _ => 0))) :: (b 2, .inl (cy 1, 306, .inl (fun _ => 0))) :: (b 3, .inl (cy 3, 3, .inl (fun _ => 0))) :: (b 4, .inl (cy 0, 800, .inl g)) :: (b 6, .inl (cy 1, 5, .inl g228)) :: (b 14, .inl (cy 1, 102, .inl (fun _ => 0))) :: (b 15, .inl (cy 1, 7, .inl (fun _ => 0))) :: (b 16, .inl (cy 1, 8, .inl (fun _ => 0))) :: (b 20, .inl (cy 1, 7, .inl (fun _ => 0))) :: (b 21, .inl (cy 1, 8, .inl pn)) :: (b 22, .inl (cy 1, 136, .inl (fun _ => 0))) :: (b 23, .inl (cy 1, 119, .inl (fun _ => 0))) :: (b 24, .inl (cy 1, 16, .inl (fun _ => 0))) :: (b 25, .inl (cy 1, 28, .inl (fun _ => 0))) :: (b 26, .inl (cy 1, 8, .inl (fun _ => 0))) :: (b 27, .inl (cy 1, 4, .inl (fun _ => 0))) :: (b 28, .inl (cy 1, 4, .inl (fun _ => 0))) :: (b 29, .inl (cy 1, 7, .inl (fun _ => 0))) :: (b 31, .inl (cy 1, 544, .inl (fun _ => 0))) :: (b 33, .inl (cy 1, 128, .inl (fun _ => 0))) :: (b 37, .inl (cy 1, 4, .inl (upd (upd (upd (upd (fun _ => 0) ((0 : Int32).toNatClampNeg) (-1)) ((1 : Int32).toNatClampNeg) (-1)) ((2 : Int32).toNatClampNeg) (-1)) ((3 : Int32).toNatClampNeg) (-1)))) :: (b 38, .inl (cy 1, 4, .inl (fun _ => 0))) :: (b 39, .inl (cy 2, 240, .inr (.inl (fun _ => 0)))) :: (b 40, .inl (cy 2, 60, .inr (.inl (fun _ => 0)))) :: []) (fun _ => rfl) (fun M g245 F => ?_)
  refine g_iinc C dX8_feed_95 (j := 0) rfl (v := 17) (by decide) (by decide) (lv2 := [(6, .int 17), (0, .ref (b 0)), (1, .int p0), (2, .int p1), (3, .int p2), (4, .int p3), (5, .int p4)]) rfl ?_
  refine g_goto C dX8_feed_98 (tgt := 55) (by decide) ?_
  refine g_iload C dX8_feed_55 (j := 0) rfl ?_
  refine g_bipush C dX8_feed_57 (v := 20) (by decide) ?_
  refine g_icmp_ge C dX8_feed_59 (tgt := 101) (by decide) (fun q => absurd q (by decide)) (fun _ => ?_)
  refine g_aload_n C dX8_feed_62 rfl (j := 1) rfl ?_
  refine h_get C F 0 rfl fk_X8_20 dX8_feed_63 rfl ?_
  refine g_aload_n C dX8_feed_66 rfl (j := 1) rfl ?_
  refine h_get C F 0 rfl fk_X8_121 dX8_feed_67 rfl ?_
  refine g_iload C dX8_feed_70 (j := 0) rfl ?_
  refine g_iadd C dX8_feed_72 ?_
  refine Go.top (v := .int 17) (by decide) ?_
  refine g_aload_n C dX8_feed_73 rfl (j := 1) rfl ?_
  refine h_get C F 0 rfl fk_X8_24 dX8_feed_74 rfl ?_
  refine g_iload C dX8_feed_77 (j := 0) rfl ?_
  refine g_iconst C dX8_feed_79 (v := 4) (by decide) ?_
  refine g_idiv C dX8_feed_80 (by decide) ?_
  refine Go.top (v := .int 4) (by decide) ?_
  refine h_iald C F 5 rfl dX8_feed_81 (vp_in_iff.mpr (by decide)) rfl ?_
  refine g_bipush C dX8_feed_82 (v := 24) (by decide) ?_
  refine g_bipush C dX8_feed_84 (v := 8) (by decide) ?_
  refine g_iload C dX8_feed_86 (j := 0) rfl ?_
  refine g_iconst C dX8_feed_88 (v := 4) (by decide) ?_
  refine g_irem C dX8_feed_89 (by decide) ?_
  refine Go.top (v := .int 1) (by decide) ?_
  refine g_imul C dX8_feed_90 ?_
  refine Go.top (v := .int 8) (by decide) ?_
  refine g_isub C dX8_feed_91 ?_
  refine Go.top (v := .int 16) (by decide) ?_
  refine g_ishr C dX8_feed_92 ?_
  refine g_i2b C dX8_feed_93 rfl ?_
  refine h_bastX C F 4 rfl dX8_feed_94 (vp_in_iff.mpr (by decide)) (flf := fun g => (b 0, .inr (8, .int 0 :: .ref (b 1) :: .ref (b 2) :: .ref (b 3) :: .ref (b 4) :: .int 0 :: .ref (b 6) :: .int 0 :: .int 0 :: .int 0 :: .int 0 :: .int 0 :: .int 0 :: .int (-1) :: .ref (b 14) :: .ref (b 15) :: .ref (b 16) :: .int 0 :: .int 0 :: .int ts :: .ref (b 20) :: .ref (b 21) :: .ref (b 22) :: .ref (b 23) :: .ref (b 24) :: .ref (b 25) :: .ref (b 26) :: .ref (b 27) :: .ref (b 28) :: .ref (b 29) :: .int 0 :: .ref (b 31) :: .int 0 :: .ref (b 33) :: .long 0 :: .long 0 :: .long 0 :: .ref (b 37) :: .ref (b 38) :: .ref (b 39) :: .ref (b 40) :: [])) :: (b 1, .inl (cy 1, 102, .inl (fun _ => 0))) :: (b 2, .inl (cy 1, 306, .inl (fun _ => 0))) :: (b 3, .inl (cy 3, 3, .inl (fun _ => 0))) :: (b 4, .inl (cy 0, 800, .inl g)) :: (b 6, .inl (cy 1, 5, .inl g228)) :: (b 14, .inl (cy 1, 102, .inl (fun _ => 0))) :: (b 15, .inl (cy 1, 7, .inl (fun _ => 0))) :: (b 16, .inl (cy 1, 8, .inl (fun _ => 0))) :: (b 20, .inl (cy 1, 7, .inl (fun _ => 0))) :: (b 21, .inl (cy 1, 8, .inl pn)) :: (b 22, .inl (cy 1, 136, .inl (fun _ => 0))) :: (b 23, .inl (cy 1, 119, .inl (fun _ => 0))) :: (b 24, .inl (cy 1, 16, .inl (fun _ => 0))) :: (b 25, .inl (cy 1, 28, .inl (fun _ => 0))) :: (b 26, .inl (cy 1, 8, .inl (fun _ => 0))) :: (b 27, .inl (cy 1, 4, .inl (fun _ => 0))) :: (b 28, .inl (cy 1, 4, .inl (fun _ => 0))) :: (b 29, .inl (cy 1, 7, .inl (fun _ => 0))) :: (b 31, .inl (cy 1, 544, .inl (fun _ => 0))) :: (b 33, .inl (cy 1, 128, .inl (fun _ => 0))) :: (b 37, .inl (cy 1, 4, .inl (upd (upd (upd (upd (fun _ => 0) ((0 : Int32).toNatClampNeg) (-1)) ((1 : Int32).toNatClampNeg) (-1)) ((2 : Int32).toNatClampNeg) (-1)) ((3 : Int32).toNatClampNeg) (-1)))) :: (b 38, .inl (cy 1, 4, .inl (fun _ => 0))) :: (b 39, .inl (cy 2, 240, .inr (.inl (fun _ => 0)))) :: (b 40, .inl (cy 2, 60, .inr (.inl (fun _ => 0)))) :: []) (fun _ => rfl) (fun M g246 F => ?_)
  refine g_iinc C dX8_feed_95 (j := 0) rfl (v := 18) (by decide) (by decide) (lv2 := [(6, .int 18), (0, .ref (b 0)), (1, .int p0), (2, .int p1), (3, .int p2), (4, .int p3), (5, .int p4)]) rfl ?_
  refine g_goto C dX8_feed_98 (tgt := 55) (by decide) ?_
  refine g_iload C dX8_feed_55 (j := 0) rfl ?_
  refine g_bipush C dX8_feed_57 (v := 20) (by decide) ?_
  refine g_icmp_ge C dX8_feed_59 (tgt := 101) (by decide) (fun q => absurd q (by decide)) (fun _ => ?_)
  refine g_aload_n C dX8_feed_62 rfl (j := 1) rfl ?_
  refine h_get C F 0 rfl fk_X8_20 dX8_feed_63 rfl ?_
  refine g_aload_n C dX8_feed_66 rfl (j := 1) rfl ?_
  refine h_get C F 0 rfl fk_X8_121 dX8_feed_67 rfl ?_
  refine g_iload C dX8_feed_70 (j := 0) rfl ?_
  refine g_iadd C dX8_feed_72 ?_
  refine Go.top (v := .int 18) (by decide) ?_
  refine g_aload_n C dX8_feed_73 rfl (j := 1) rfl ?_
  refine h_get C F 0 rfl fk_X8_24 dX8_feed_74 rfl ?_
  refine g_iload C dX8_feed_77 (j := 0) rfl ?_
  refine g_iconst C dX8_feed_79 (v := 4) (by decide) ?_
  refine g_idiv C dX8_feed_80 (by decide) ?_
  refine Go.top (v := .int 4) (by decide) ?_
  refine h_iald C F 5 rfl dX8_feed_81 (vp_in_iff.mpr (by decide)) rfl ?_
  refine g_bipush C dX8_feed_82 (v := 24) (by decide) ?_
  refine g_bipush C dX8_feed_84 (v := 8) (by decide) ?_
  refine g_iload C dX8_feed_86 (j := 0) rfl ?_
  refine g_iconst C dX8_feed_88 (v := 4) (by decide) ?_
  refine g_irem C dX8_feed_89 (by decide) ?_
  refine Go.top (v := .int 2) (by decide) ?_
  refine g_imul C dX8_feed_90 ?_
  refine Go.top (v := .int 16) (by decide) ?_
  refine g_isub C dX8_feed_91 ?_
  refine Go.top (v := .int 8) (by decide) ?_
  refine g_ishr C dX8_feed_92 ?_
  refine g_i2b C dX8_feed_93 rfl ?_
  refine h_bastX C F 4 rfl dX8_feed_94 (vp_in_iff.mpr (by decide)) (flf := fun g => (b 0, .inr (8, .int 0 :: .ref (b 1) :: .ref (b 2) :: .ref (b 3) :: .ref (b 4) :: .int 0 :: .ref (b 6) :: .int 0 :: .int 0 :: .int 0 :: .int 0 :: .int 0 :: .int 0 :: .int (-1) :: .ref (b 14) :: .ref (b 15) :: .ref (b 16) :: .int 0 :: .int 0 :: .int ts :: .ref (b 20) :: .ref (b 21) :: .ref (b 22) :: .ref (b 23) :: .ref (b 24) :: .ref (b 25) :: .ref (b 26) :: .ref (b 27) :: .ref (b 28) :: .ref (b 29) :: .int 0 :: .ref (b 31) :: .int 0 :: .ref (b 33) :: .long 0 :: .long 0 :: .long 0 :: .ref (b 37) :: .ref (b 38) :: .ref (b 39) :: .ref (b 40) :: [])) :: (b 1, .inl (cy 1, 102, .inl (fun _ => 0))) :: (b 2, .inl (cy 1, 306, .inl (fun _ => 0))) :: (b 3, .inl (cy 3, 3, .inl (fun _ => 0))) :: (b 4, .inl (cy 0, 800, .inl g)) :: (b 6, .inl (cy 1, 5, .inl g228)) :: (b 14, .inl (cy 1, 102, .inl (fun _ => 0))) :: (b 15, .inl (cy 1, 7, .inl (fun _ => 0))) :: (b 16, .inl (cy 1, 8, .inl (fun _ => 0))) :: (b 20, .inl (cy 1, 7, .inl (fun _ => 0))) :: (b 21, .inl (cy 1, 8, .inl pn)) :: (b 22, .inl (cy 1, 136, .inl (fun _ => 0))) :: (b 23, .inl (cy 1, 119, .inl (fun _ => 0))) :: (b 24, .inl (cy 1, 16, .inl (fun _ => 0))) :: (b 25, .inl (cy 1, 28, .inl (fun _ => 0))) :: (b 26, .inl (cy 1, 8, .inl (fun _ => 0))) :: (b 27, .inl (cy 1, 4, .inl (fun _ => 0))) :: (b 28, .inl (cy 1, 4, .inl (fun _ => 0))) :: (b 29, .inl (cy 1, 7, .inl (fun _ => 0))) :: (b 31, .inl (cy 1, 544, .inl (fun _ => 0))) :: (b 33, .inl (cy 1, 128, .inl (fun _ => 0))) :: (b 37, .inl (cy 1, 4, .inl (upd (upd (upd (upd (fun _ => 0) ((0 : Int32).toNatClampNeg) (-1)) ((1 : Int32).toNatClampNeg) (-1)) ((2 : Int32).toNatClampNeg) (-1)) ((3 : Int32).toNatClampNeg) (-1)))) :: (b 38, .inl (cy 1, 4, .inl (fun _ => 0))) :: (b 39, .inl (cy 2, 240, .inr (.inl (fun _ => 0)))) :: (b 40, .inl (cy 2, 60, .inr (.inl (fun _ => 0)))) :: []) (fun _ => rfl) (fun M g247 F => ?_)
  refine g_iinc C dX8_feed_95 (j := 0) rfl (v := 19) (by decide) (by decide) (lv2 := [(6, .int 19), (0, .ref (b 0)), (1, .int p0), (2, .int p1), (3, .int p2), (4, .int p3), (5, .int p4)]) rfl ?_
  refine g_goto C dX8_feed_98 (tgt := 55) (by decide) ?_
  refine g_iload C dX8_feed_55 (j := 0) rfl ?_
  refine g_bipush C dX8_feed_57 (v := 20) (by decide) ?_
  refine g_icmp_ge C dX8_feed_59 (tgt := 101) (by decide) (fun q => absurd q (by decide)) (fun _ => ?_)
  refine g_aload_n C dX8_feed_62 rfl (j := 1) rfl ?_
  refine h_get C F 0 rfl fk_X8_20 dX8_feed_63 rfl ?_
  refine g_aload_n C dX8_feed_66 rfl (j := 1) rfl ?_
  refine h_get C F 0 rfl fk_X8_121 dX8_feed_67 rfl ?_
  refine g_iload C dX8_feed_70 (j := 0) rfl ?_
  refine g_iadd C dX8_feed_72 ?_
  refine Go.top (v := .int 19) (by decide) ?_
  refine g_aload_n C dX8_feed_73 rfl (j := 1) rfl ?_
  refine h_get C F 0 rfl fk_X8_24 dX8_feed_74 rfl ?_
  refine g_iload C dX8_feed_77 (j := 0) rfl ?_
  refine g_iconst C dX8_feed_79 (v := 4) (by decide) ?_
  refine g_idiv C dX8_feed_80 (by decide) ?_
  refine Go.top (v := .int 4) (by decide) ?_
  refine h_iald C F 5 rfl dX8_feed_81 (vp_in_iff.mpr (by decide)) rfl ?_
  refine g_bipush C dX8_feed_82 (v := 24) (by decide) ?_
  refine g_bipush C dX8_feed_84 (v := 8) (by decide) ?_
  refine g_iload C dX8_feed_86 (j := 0) rfl ?_
  refine g_iconst C dX8_feed_88 (v := 4) (by decide) ?_
  refine g_irem C dX8_feed_89 (by decide) ?_
  refine Go.top (v := .int 3) (by decide) ?_
  refine g_imul C dX8_feed_90 ?_
  refine Go.top (v := .int 24) (by decide) ?_
  refine g_isub C dX8_feed_91 ?_
  refine Go.top (v := .int 0) (by decide) ?_
  refine g_ishr C dX8_feed_92 ?_
  refine g_i2b C dX8_feed_93 rfl ?_
  refine h_bastX C F 4 rfl dX8_feed_94 (vp_in_iff.mpr (by decide)) (flf := fun g => (b 0, .inr (8, .int 0 :: .ref (b 1) :: .ref (b 2) :: .ref (b 3) :: .ref (b 4) :: .int 0 :: .ref (b 6) :: .int 0 :: .int 0 :: .int 0 :: .int 0 :: .int 0 :: .int 0 :: .int (-1) :: .ref (b 14) :: .ref (b 15) :: .ref (b 16) :: .int 0 :: .int 0 :: .int ts :: .ref (b 20) :: .ref (b 21) :: .ref (b 22) :: .ref (b 23) :: .ref (b 24) :: .ref (b 25) :: .ref (b 26) :: .ref (b 27) :: .ref (b 28) :: .ref (b 29) :: .int 0 :: .ref (b 31) :: .int 0 :: .ref (b 33) :: .long 0 :: .long 0 :: .long 0 :: .ref (b 37) :: .ref (b 38) :: .ref (b 39) :: .ref (b 40) :: [])) :: (b 1, .inl (cy 1, 102, .inl (fun _ => 0))) :: (b 2, .inl (cy 1, 306, .inl (fun _ => 0))) :: (b 3, .inl (cy 3, 3, .inl (fun _ => 0))) :: (b 4, .inl (cy 0, 800, .inl g)) :: (b 6, .inl (cy 1, 5, .inl g228)) :: (b 14, .inl (cy 1, 102, .inl (fun _ => 0))) :: (b 15, .inl (cy 1, 7, .inl (fun _ => 0))) :: (b 16, .inl (cy 1, 8, .inl (fun _ => 0))) :: (b 20, .inl (cy 1, 7, .inl (fun _ => 0))) :: (b 21, .inl (cy 1, 8, .inl pn)) :: (b 22, .inl (cy 1, 136, .inl (fun _ => 0))) :: (b 23, .inl (cy 1, 119, .inl (fun _ => 0))) :: (b 24, .inl (cy 1, 16, .inl (fun _ => 0))) :: (b 25, .inl (cy 1, 28, .inl (fun _ => 0))) :: (b 26, .inl (cy 1, 8, .inl (fun _ => 0))) :: (b 27, .inl (cy 1, 4, .inl (fun _ => 0))) :: (b 28, .inl (cy 1, 4, .inl (fun _ => 0))) :: (b 29, .inl (cy 1, 7, .inl (fun _ => 0))) :: (b 31, .inl (cy 1, 544, .inl (fun _ => 0))) :: (b 33, .inl (cy 1, 128, .inl (fun _ => 0))) :: (b 37, .inl (cy 1, 4, .inl (upd (upd (upd (upd (fun _ => 0) ((0 : Int32).toNatClampNeg) (-1)) ((1 : Int32).toNatClampNeg) (-1)) ((2 : Int32).toNatClampNeg) (-1)) ((3 : Int32).toNatClampNeg) (-1)))) :: (b 38, .inl (cy 1, 4, .inl (fun _ => 0))) :: (b 39, .inl (cy 2, 240, .inr (.inl (fun _ => 0)))) :: (b 40, .inl (cy 2, 60, .inr (.inl (fun _ => 0)))) :: []) (fun _ => rfl) (fun M g248 F => ?_)
  refine g_iinc C dX8_feed_95 (j := 0) rfl (v := 20) (by decide) (by decide) (lv2 := [(6, .int 20), (0, .ref (b 0)), (1, .int p0), (2, .int p1), (3, .int p2), (4, .int p3), (5, .int p4)]) rfl ?_
  refine g_goto C dX8_feed_98 (tgt := 55) (by decide) ?_
  refine g_iload C dX8_feed_55 (j := 0) rfl ?_
  refine g_bipush C dX8_feed_57 (v := 20) (by decide) ?_
  refine g_icmp_ge C dX8_feed_59 (tgt := 101) (by decide) (fun _ => ?_) (fun q => absurd (by decide) q)
  refine g_aload_n C dX8_feed_101 rfl (j := 1) rfl ?_
  refine g_dup C dX8_feed_102 rfl ?_
  refine h_get C F 0 rfl fk_X8_121 dX8_feed_103 rfl ?_
  refine g_bipush C dX8_feed_106 (v := 20) (by decide) ?_
  refine g_iadd C dX8_feed_108 ?_
  refine Go.top (v := .int 20) (by decide) ?_
  refine h_put C F 0 rfl fk_X8_121 dX8_feed_109 rfl rfl (Nat.le_of_ble_eq_true rfl) (fl2 := (b 0, .inr (8, .int 0 :: .ref (b 1) :: .ref (b 2) :: .ref (b 3) :: .ref (b 4) :: .int 20 :: .ref (b 6) :: .int 0 :: .int 0 :: .int 0 :: .int 0 :: .int 0 :: .int 0 :: .int (-1) :: .ref (b 14) :: .ref (b 15) :: .ref (b 16) :: .int 0 :: .int 0 :: .int ts :: .ref (b 20) :: .ref (b 21) :: .ref (b 22) :: .ref (b 23) :: .ref (b 24) :: .ref (b 25) :: .ref (b 26) :: .ref (b 27) :: .ref (b 28) :: .ref (b 29) :: .int 0 :: .ref (b 31) :: .int 0 :: .ref (b 33) :: .long 0 :: .long 0 :: .long 0 :: .ref (b 37) :: .ref (b 38) :: .ref (b 39) :: .ref (b 40) :: [])) :: (b 1, .inl (cy 1, 102, .inl (fun _ => 0))) :: (b 2, .inl (cy 1, 306, .inl (fun _ => 0))) :: (b 3, .inl (cy 3, 3, .inl (fun _ => 0))) :: (b 4, .inl (cy 0, 800, .inl g248)) :: (b 6, .inl (cy 1, 5, .inl g228)) :: (b 14, .inl (cy 1, 102, .inl (fun _ => 0))) :: (b 15, .inl (cy 1, 7, .inl (fun _ => 0))) :: (b 16, .inl (cy 1, 8, .inl (fun _ => 0))) :: (b 20, .inl (cy 1, 7, .inl (fun _ => 0))) :: (b 21, .inl (cy 1, 8, .inl pn)) :: (b 22, .inl (cy 1, 136, .inl (fun _ => 0))) :: (b 23, .inl (cy 1, 119, .inl (fun _ => 0))) :: (b 24, .inl (cy 1, 16, .inl (fun _ => 0))) :: (b 25, .inl (cy 1, 28, .inl (fun _ => 0))) :: (b 26, .inl (cy 1, 8, .inl (fun _ => 0))) :: (b 27, .inl (cy 1, 4, .inl (fun _ => 0))) :: (b 28, .inl (cy 1, 4, .inl (fun _ => 0))) :: (b 29, .inl (cy 1, 7, .inl (fun _ => 0))) :: (b 31, .inl (cy 1, 544, .inl (fun _ => 0))) :: (b 33, .inl (cy 1, 128, .inl (fun _ => 0))) :: (b 37, .inl (cy 1, 4, .inl (upd (upd (upd (upd (fun _ => 0) ((0 : Int32).toNatClampNeg) (-1)) ((1 : Int32).toNatClampNeg) (-1)) ((2 : Int32).toNatClampNeg) (-1)) ((3 : Int32).toNatClampNeg) (-1)))) :: (b 38, .inl (cy 1, 4, .inl (fun _ => 0))) :: (b 39, .inl (cy 2, 240, .inr (.inl (fun _ => 0)))) :: (b 40, .inl (cy 2, 60, .inr (.inl (fun _ => 0)))) :: []) rfl (fun M F => ?_)
  refine g_aload_n C dX8_feed_112 rfl (j := 1) rfl ?_
  refine h_get C F 0 rfl fk_X8_121 dX8_feed_113 rfl ?_
  exact g_iret C hrt dX8_feed_116 (by decide) (by decide) (by decide)
