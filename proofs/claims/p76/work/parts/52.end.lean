def R_law : String := "ObligingPostsLaw"
def lw_P (b : Addr) (xs : List Int32) (args : Array Value) (s : State) : Prop := args = #[.ref b] ∧ s.IntsAt b xs ∧ xs.length ≤ 3072 ∧ (Jvm.Cond.and given_1 narrow_1).before args s = true
def lw_Q (_ : Array Value) (s : State) (o : Outcome) (t : State) : Prop := o = .returned (some (.int 1)) ∧ Framed s o t [] 600000 7302250
def lw_Z (below : List Frame) (a : Array Value) (s : State) : State → Prop := fun t => ∃ o, t.status = .running ∧ Ended t below o ∧ lw_Q a s o t
theorem lw_ret {p : Program} {l : Launch} {e : Env} {s : State} {m : MethodId} {below : List Frame} {meth : Method} {c : Code} {b : Nat} (hx : p.tables.exec = Jvm.exec) (hb : c.code = code) (hr : meth.sig.returnType = ret) (hlocks : meth.locks = false) {pc : Nat} {H : Heap} {ls : Array Slot} (hdg : decode code pc = .ok (.ireturn, 1)) : W p l e room_1 s m #[Value.ref b] below meth c H [] 600000 7302250 (lw_Z below #[Value.ref b] s) (F0 m pc ls [.int 1]) := by
  intro T hT X
  obtain ⟨fs, hret, hrun, hended, hW, hframe⟩ := X.leave (v := some (.int 1)) (hlocks := hlocks) (fun h => by rw [hr] at h; cases h)
  have hmeth' : T.vm.method? m = some meth := X.method'
  refine ⟨T.setFrames fs, ?_, .returned (some (.int 1)), hrun, hended, rfl, ⟨_, rfl⟩, hW, hframe⟩
  jvm_step X.here [X.here.top, hx, hb, hdg, hmeth', hr, ret, narrow_b1]
  (try refine ⟨rfl, ?_⟩); (try refine ⟨rfl, ?_⟩)
  first | (intro acts; rw [hret _ acts rfl rfl rfl]) | rw [hret _ _ rfl rfl rfl]
  exact Steps.refl _
def lw_At (p : Program) (s : State) (m : MethodId) (meth : Method) (c : Code) (b L : Nat) (xs : Nat → Int32) : Prop :=
  p.tables.exec = Jvm.exec ∧ c.code = code ∧ meth.sig.returnType = ret ∧ c.maxLocals = 4 ∧ s.vm.findClass R_law = some m.cls ∧ (∀ w ∈ lw_tbl, w.before #[Value.ref b] s = true) ∧ va_X b L xs s s.heap ∧ b < s.heap.size ∧ meth.locks = false ∧ (Jvm.Cond.and given_1 narrow_1).before #[Value.ref b] s = true
theorem g_lawret {p : Program} {l : Launch} {e : Env} {s : State} {m : MethodId} {below : List Frame} {meth : Method} {c : Code} {b : Nat} {G : va_G} {cy : Nat → ClassId} {cells slots : Nat} {L : List Nat} {M : Nat → va_E} {pc : Nat} {lv : List (Nat × Value)} (C : Cx p s m #[Value.ref b] meth c RL cL_law 4 G cy (fun q => s.heap.size ≤ q)) (hr : meth.sig.returnType = ret) (hd : decode code pc = .ok (.ireturn, 1)) (h1 : cells ≤ 600000) (h2 : slots ≤ 7302250) : Go p l e room_1 s m #[Value.ref b] below meth c 4 G (fun q => s.heap.size ≤ q) cells slots (lw_Z below #[Value.ref b] s) L M pc lv [.int 1] := fun H locs ls hP hD hS hl => va_forget hS.2.2 (W.widen h1 h2 (lw_ret C.1 C.2.1 hr C.2.2.2.2.2.2.2.2.1 hd))
set_option maxHeartbeats 8000000 in
set_option maxRecDepth 100000 in
theorem law_step {p : Program} {l : Launch} {e : Env} {s : State} {m : MethodId} {below : List Frame} {meth : Method} {c : Code} {G : va_G} {cy : Nat → ClassId} {b Ln : Nat} {xs : Nat → Int32} {x0 m0 : Nat} (X : Cx p s m #[Value.ref b] meth c RL cL_law 4 G cy (fun q => s.heap.size ≤ q)) (hr : meth.sig.returnType = ret) (hX : va_X b Ln xs s s.heap) (hbl : b < s.heap.size) (hbA : ¬ (fun q => s.heap.size ≤ q) b) (hLn : Ln ≤ 3072) (t : Nat) (h512 : t ≤ 512) {L : List Nat} {M : Nat → va_E} (hW : Wd cy x0 m0 L M) (tail : 6 * t + 6 ≤ Ln → ∀ (L : List Nat) (M : Nat → va_E), Wd cy x0 m0 L M → Go p l e room_1 s m #[Value.ref b] below meth c 4 G (fun q => s.heap.size ≤ q) (200 + 10 * (t + 1)) (20000 + 400 * (t + 1)) (lw_Z below #[Value.ref b] s) L M 18 [(3, .int (nI (6 * (t + 1)))), (2, .ref m0), (1, .ref x0), (0, .ref b)] []) : Go p l e room_1 s m #[Value.ref b] below meth c 4 G (fun q => s.heap.size ≤ q) (200 + 10 * t) (20000 + 400 * t) (lw_Z below #[Value.ref b] s) L M 18 [(3, .int (nI (6 * t))), (2, .ref m0), (1, .ref x0), (0, .ref b)] [] := by
  refine g_iload_n X dL_law_18 rfl (j := 0) rfl ?_
  refine g_aload_n X dL_law_19 rfl (j := 3) rfl ?_
  refine g_slen X hX hbl hbA (v := nI Ln) rfl dL_law_20 ?_
  refine g_bipush X dL_law_21 (v := 6) (by decide) ?_
  refine g_isub X dL_law_23 ?_
  have h6 := nI_m6 (n := Ln) (by omega)
  have h7 := nI_toInt (n := 6 * t) (by omega)
  refine g_icmp_gt X dL_law_24 (tgt := 2399) (by decide) (fun _ => ?_) (fun q => ?_)
  · refine g_iconst X dL_law_2399 (v := 1) (by decide) ?_
    exact g_lawret X hr dL_law_2400 (by omega) (by omega)
  · have ht : 6 * t + 6 ≤ Ln := by
      have z : ¬ (nI Ln - 6).toInt < (nI (6 * t)).toInt := fun z => q (Int32.lt_iff_toInt_lt.mpr z)
      omega
    refine g_aload_n X dL_law_27 rfl (j := 3) rfl ?_
    refine g_iload_n X dL_law_28 rfl (j := 0) rfl ?_
    refine g_sld X hX hbl hbA (vp_in_nI (by omega) (by omega)) (v := xs (6 * t)) (by rw [nI_clamp (by omega)]) dL_law_29 ?_
    refine g_bipush X dL_law_30 (v := 127) (by decide) ?_
    refine g_iand X dL_law_32 ?_
    obtain ⟨j, hj, ej⟩ := pk_andE (xs (6 * t)) (m := 127) 7 (by decide)
    refine Go.top (v := .int (nI j)) (congrArg Value.int ej) ?_
    clear ej
    have tl : ∀ (L : List Nat) (M : Nat → va_E), Wd cy x0 m0 L M → Go p l e room_1 s m #[Value.ref b] below meth c 4 G (fun q => s.heap.size ≤ q) (210 + 10 * t) (20400 + 400 * t) (lw_Z below #[Value.ref b] s) L M 2393 [(3, .int (nI (6 * t))), (2, .ref m0), (1, .ref x0), (0, .ref b)] [] := by
      intro L M hW
      refine g_iinc X dL_law_2393 (j := 0) rfl (v := nI (6 * (t + 1))) (by have z := nI_add (6 * t) 6; rw [show 6 * (t + 1) = 6 * t + 6 by omega]; exact z) (by decide) (lv2 := [(3, .int (nI (6 * (t + 1)))), (2, .ref m0), (1, .ref x0), (0, .ref b)]) rfl ?_
      refine g_goto X dL_law_2396 (tgt := 18) (by decide) ?_
      refine g_widen (k1 := 200 + 10 * (t + 1)) (k2 := 20000 + 400 * (t + 1)) (by omega) (by omega) ?_
      exact tail ht L M hW
    match j, hj with
    | 0, _ => exact g_tableIn X dL_law_33 (by decide) (by decide) (off := 315) (by decide) (tgt := 348) (by decide) (lc_0 X hX hbl hbA hLn t ht hW tl)
    | 1, _ => exact g_tableIn X dL_law_33 (by decide) (by decide) (off := 378) (by decide) (tgt := 411) (by decide) (lc_1 X hX hbl hbA hLn t ht hW tl)
    | 2, _ => exact g_tableIn X dL_law_33 (by decide) (by decide) (off := 401) (by decide) (tgt := 434) (by decide) (lc_2 X hX hbl hbA hLn t ht hW tl)
    | 3, _ => exact g_tableIn X dL_law_33 (by decide) (by decide) (off := 414) (by decide) (tgt := 447) (by decide) (lc_3 X hX hbl hbA hLn t ht hW tl)
    | 4, _ => exact g_tableIn X dL_law_33 (by decide) (by decide) (off := 437) (by decide) (tgt := 470) (by decide) (lc_4 X hX hbl hbA hLn t ht hW tl)
    | 5, _ => exact g_tableIn X dL_law_33 (by decide) (by decide) (off := 460) (by decide) (tgt := 493) (by decide) (lc_5 X hX hbl hbA hLn t ht hW tl)
    | 6, _ => exact g_tableIn X dL_law_33 (by decide) (by decide) (off := 483) (by decide) (tgt := 516) (by decide) (lc_6 X hX hbl hbA hLn t ht hW tl)
    | 7, _ => exact g_tableIn X dL_law_33 (by decide) (by decide) (off := 516) (by decide) (tgt := 549) (by decide) (lc_7 X hX hbl hbA hLn t ht hW tl)
    | 8, _ => exact g_tableIn X dL_law_33 (by decide) (by decide) (off := 539) (by decide) (tgt := 572) (by decide) (lc_8 X hX hbl hbA hLn t ht hW tl)
    | 9, _ => exact g_tableIn X dL_law_33 (by decide) (by decide) (off := 572) (by decide) (tgt := 605) (by decide) (lc_9 X hX hbl hbA hLn t ht hW tl)
    | 10, _ => exact g_tableIn X dL_law_33 (by decide) (by decide) (off := 605) (by decide) (tgt := 638) (by decide) (lc_10 X hX hbl hbA hLn t ht hW tl)
    | 11, _ => exact g_tableIn X dL_law_33 (by decide) (by decide) (off := 638) (by decide) (tgt := 671) (by decide) (lc_11 X hX hbl hbA hLn t ht hW tl)
    | 12, _ => exact g_tableIn X dL_law_33 (by decide) (by decide) (off := 671) (by decide) (tgt := 704) (by decide) (lc_12 X hX hbl hbA hLn t ht hW tl)
    | 13, _ => exact g_tableIn X dL_law_33 (by decide) (by decide) (off := 694) (by decide) (tgt := 727) (by decide) (lc_13 X hX hbl hbA hLn t ht hW tl)
    | 14, _ => exact g_tableIn X dL_law_33 (by decide) (by decide) (off := 717) (by decide) (tgt := 750) (by decide) (lc_14 X hX hbl hbA hLn t ht hW tl)
    | 15, _ => exact g_tableIn X dL_law_33 (by decide) (by decide) (off := 750) (by decide) (tgt := 783) (by decide) (lc_15 X hX hbl hbA hLn t ht hW tl)
    | 16, _ => exact g_tableIn X dL_law_33 (by decide) (by decide) (off := 773) (by decide) (tgt := 806) (by decide) (lc_16 X hX hbl hbA hLn t ht hW tl)
    | 17, _ => exact g_tableIn X dL_law_33 (by decide) (by decide) (off := 796) (by decide) (tgt := 829) (by decide) (lc_17 X hX hbl hbA hLn t ht hW tl)
    | 18, _ => exact g_tableIn X dL_law_33 (by decide) (by decide) (off := 819) (by decide) (tgt := 852) (by decide) (lc_18 X hX hbl hbA hLn t ht hW tl)
    | 19, _ => exact g_tableIn X dL_law_33 (by decide) (by decide) (off := 842) (by decide) (tgt := 875) (by decide) (lc_19 X hX hbl hbA hLn t ht hW tl)
    | 20, _ => exact g_tableIn X dL_law_33 (by decide) (by decide) (off := 865) (by decide) (tgt := 898) (by decide) (lc_20 X hX hbl hbA hLn t ht hW tl)
    | 21, _ => exact g_tableIn X dL_law_33 (by decide) (by decide) (off := 888) (by decide) (tgt := 921) (by decide) (lc_21 X hX hbl hbA hLn t ht hW tl)
    | 22, _ => exact g_tableIn X dL_law_33 (by decide) (by decide) (off := 911) (by decide) (tgt := 944) (by decide) (lc_22 X hX hbl hbA hLn t ht hW tl)
    | 23, _ => exact g_tableIn X dL_law_33 (by decide) (by decide) (off := 944) (by decide) (tgt := 977) (by decide) (lc_23 X hX hbl hbA hLn t ht hW tl)
    | 24, _ => exact g_tableIn X dL_law_33 (by decide) (by decide) (off := 967) (by decide) (tgt := 1000) (by decide) (lc_24 X hX hbl hbA hLn t ht hW tl)
    | 25, _ => exact g_tableIn X dL_law_33 (by decide) (by decide) (off := 990) (by decide) (tgt := 1023) (by decide) (lc_25 X hX hbl hbA hLn t ht hW tl)
    | 26, _ => exact g_tableIn X dL_law_33 (by decide) (by decide) (off := 1013) (by decide) (tgt := 1046) (by decide) (lc_26 X hX hbl hbA hLn t ht hW tl)
    | 27, _ => exact g_tableIn X dL_law_33 (by decide) (by decide) (off := 1036) (by decide) (tgt := 1069) (by decide) (lc_27 X hX hbl hbA hLn t ht hW tl)
    | 28, _ => exact g_tableIn X dL_law_33 (by decide) (by decide) (off := 1049) (by decide) (tgt := 1082) (by decide) (lc_28 X hX hbl hbA hLn t ht hW tl)
    | 29, _ => exact g_tableIn X dL_law_33 (by decide) (by decide) (off := 1072) (by decide) (tgt := 1105) (by decide) (lc_29 X hX hbl hbA hLn t ht hW tl)
    | 30, _ => exact g_tableIn X dL_law_33 (by decide) (by decide) (off := 1085) (by decide) (tgt := 1118) (by decide) (lc_30 X hX hbl hbA hLn t ht hW tl)
    | 31, _ => exact g_tableIn X dL_law_33 (by decide) (by decide) (off := 1118) (by decide) (tgt := 1151) (by decide) (lc_31 X hX hbl hbA hLn t ht hW tl)
    | 32, _ => exact g_tableIn X dL_law_33 (by decide) (by decide) (off := 1131) (by decide) (tgt := 1164) (by decide) (lc_32 X hX hbl hbA hLn t ht hW tl)
    | 33, _ => exact g_tableIn X dL_law_33 (by decide) (by decide) (off := 1144) (by decide) (tgt := 1177) (by decide) (lc_33 X hX hbl hbA hLn t ht hW tl)
    | 34, _ => exact g_tableIn X dL_law_33 (by decide) (by decide) (off := 1167) (by decide) (tgt := 1200) (by decide) (lc_34 X hX hbl hbA hLn t ht hW tl)
    | 35, _ => exact g_tableIn X dL_law_33 (by decide) (by decide) (off := 1200) (by decide) (tgt := 1233) (by decide) (lc_35 X hX hbl hbA hLn t ht hW tl)
    | 36, _ => exact g_tableIn X dL_law_33 (by decide) (by decide) (off := 1223) (by decide) (tgt := 1256) (by decide) (lc_36 X hX hbl hbA hLn t ht hW tl)
    | 37, _ => exact g_tableIn X dL_law_33 (by decide) (by decide) (off := 1236) (by decide) (tgt := 1269) (by decide) (lc_37 X hX hbl hbA hLn t ht hW tl)
    | 38, _ => exact g_tableIn X dL_law_33 (by decide) (by decide) (off := 1249) (by decide) (tgt := 1282) (by decide) (lc_38 X hX hbl hbA hLn t ht hW tl)
    | 39, _ => exact g_tableIn X dL_law_33 (by decide) (by decide) (off := 1272) (by decide) (tgt := 1305) (by decide) (lc_39 X hX hbl hbA hLn t ht hW tl)
    | 40, _ => exact g_tableIn X dL_law_33 (by decide) (by decide) (off := 1295) (by decide) (tgt := 1328) (by decide) (lc_40 X hX hbl hbA hLn t ht hW tl)
    | 41, _ => exact g_tableIn X dL_law_33 (by decide) (by decide) (off := 1318) (by decide) (tgt := 1351) (by decide) (lc_41 X hX hbl hbA hLn t ht hW tl)
    | 42, _ => exact g_tableIn X dL_law_33 (by decide) (by decide) (off := 1351) (by decide) (tgt := 1384) (by decide) (lc_42 X hX hbl hbA hLn t ht hW tl)
    | 43, _ => exact g_tableIn X dL_law_33 (by decide) (by decide) (off := 1374) (by decide) (tgt := 1407) (by decide) (lc_43 X hX hbl hbA hLn t ht hW tl)
    | 44, _ => exact g_tableIn X dL_law_33 (by decide) (by decide) (off := 1417) (by decide) (tgt := 1450) (by decide) (lc_44 X hX hbl hbA hLn t ht hW tl)
    | 45, _ => exact g_tableIn X dL_law_33 (by decide) (by decide) (off := 1440) (by decide) (tgt := 1473) (by decide) (lc_45 X hX hbl hbA hLn t ht hW tl)
    | 46, _ => exact g_tableIn X dL_law_33 (by decide) (by decide) (off := 1463) (by decide) (tgt := 1496) (by decide) (lc_46 X hX hbl hbA hLn t ht hW tl)
    | 47, _ => exact g_tableIn X dL_law_33 (by decide) (by decide) (off := 1476) (by decide) (tgt := 1509) (by decide) (lc_47 X hX hbl hbA hLn t ht hW tl)
    | 48, _ => exact g_tableIn X dL_law_33 (by decide) (by decide) (off := 1509) (by decide) (tgt := 1542) (by decide) (lc_48 X hX hbl hbA hLn t ht hW tl)
    | 49, _ => exact g_tableIn X dL_law_33 (by decide) (by decide) (off := 1522) (by decide) (tgt := 1555) (by decide) (lc_49 X hX hbl hbA hLn t ht hW tl)
    | 50, _ => exact g_tableIn X dL_law_33 (by decide) (by decide) (off := 1535) (by decide) (tgt := 1568) (by decide) (lc_50 X hX hbl hbA hLn t ht hW tl)
    | 51, _ => exact g_tableIn X dL_law_33 (by decide) (by decide) (off := 1568) (by decide) (tgt := 1601) (by decide) (lc_51 X hX hbl hbA hLn t ht hW tl)
    | 52, _ => exact g_tableIn X dL_law_33 (by decide) (by decide) (off := 1601) (by decide) (tgt := 1634) (by decide) (lc_52 X hX hbl hbA hLn t ht hW tl)
    | 53, _ => exact g_tableIn X dL_law_33 (by decide) (by decide) (off := 1634) (by decide) (tgt := 1667) (by decide) (lc_53 X hX hbl hbA hLn t ht hW tl)
    | 54, _ => exact g_tableIn X dL_law_33 (by decide) (by decide) (off := 1657) (by decide) (tgt := 1690) (by decide) (lc_54 X hX hbl hbA hLn t ht hW tl)
    | 55, _ => exact g_tableIn X dL_law_33 (by decide) (by decide) (off := 1680) (by decide) (tgt := 1713) (by decide) (lc_55 X hX hbl hbA hLn t ht hW tl)
    | 56, _ => exact g_tableIn X dL_law_33 (by decide) (by decide) (off := 1693) (by decide) (tgt := 1726) (by decide) (lc_56 X hX hbl hbA hLn t ht hW tl)
    | 57, _ => exact g_tableIn X dL_law_33 (by decide) (by decide) (off := 1716) (by decide) (tgt := 1749) (by decide) (lc_57 X hX hbl hbA hLn t ht hW tl)
    | 58, _ => exact g_tableIn X dL_law_33 (by decide) (by decide) (off := 1749) (by decide) (tgt := 1782) (by decide) (lc_58 X hX hbl hbA hLn t ht hW tl)
    | 59, _ => exact g_tableIn X dL_law_33 (by decide) (by decide) (off := 1782) (by decide) (tgt := 1815) (by decide) (lc_59 X hX hbl hbA hLn t ht hW tl)
    | 60, _ => exact g_tableIn X dL_law_33 (by decide) (by decide) (off := 1835) (by decide) (tgt := 1868) (by decide) (lc_60 X hX hbl hbA hLn t ht hW tl)
    | 61, _ => exact g_tableIn X dL_law_33 (by decide) (by decide) (off := 1878) (by decide) (tgt := 1911) (by decide) (lc_61 X hX hbl hbA hLn t ht hW tl)
    | 62, _ => exact g_tableIn X dL_law_33 (by decide) (by decide) (off := 1911) (by decide) (tgt := 1944) (by decide) (lc_62 X hX hbl hbA hLn t ht hW tl)
    | 63, _ => exact g_tableIn X dL_law_33 (by decide) (by decide) (off := 1944) (by decide) (tgt := 1977) (by decide) (lc_63 X hX hbl hbA hLn t ht hW tl)
    | 64, _ => exact g_tableIn X dL_law_33 (by decide) (by decide) (off := 1977) (by decide) (tgt := 2010) (by decide) (lc_64 X hX hbl hbA hLn t ht hW tl)
    | 65, _ => exact g_tableIn X dL_law_33 (by decide) (by decide) (off := 1990) (by decide) (tgt := 2023) (by decide) (lc_65 X hX hbl hbA hLn t ht hW tl)
    | 66, _ => exact g_tableIn X dL_law_33 (by decide) (by decide) (off := 2003) (by decide) (tgt := 2036) (by decide) (lc_66 X hX hbl hbA hLn t ht hW tl)
    | 67, _ => exact g_tableIn X dL_law_33 (by decide) (by decide) (off := 2036) (by decide) (tgt := 2069) (by decide) (lc_67 X hX hbl hbA hLn t ht hW tl)
    | 68, _ => exact g_tableIn X dL_law_33 (by decide) (by decide) (off := 2079) (by decide) (tgt := 2112) (by decide) (lc_68 X hX hbl hbA hLn t ht hW tl)
    | 69, _ => exact g_tableIn X dL_law_33 (by decide) (by decide) (off := 2112) (by decide) (tgt := 2145) (by decide) (lc_69 X hX hbl hbA hLn t ht hW tl)
    | 70, _ => exact g_tableIn X dL_law_33 (by decide) (by decide) (off := 2135) (by decide) (tgt := 2168) (by decide) (lc_70 X hX hbl hbA hLn t ht hW tl)
    | 71, _ => exact g_tableIn X dL_law_33 (by decide) (by decide) (off := 2158) (by decide) (tgt := 2191) (by decide) (lc_71 X hX hbl hbA hLn t ht hW tl)
    | 72, _ => exact g_tableIn X dL_law_33 (by decide) (by decide) (off := 2181) (by decide) (tgt := 2214) (by decide) (lc_72 X hX hbl hbA hLn t ht hW tl)
    | 73, _ => exact g_tableIn X dL_law_33 (by decide) (by decide) (off := 2224) (by decide) (tgt := 2257) (by decide) (lc_73 X hX hbl hbA hLn t ht hW tl)
    | 74, _ => exact g_tableIn X dL_law_33 (by decide) (by decide) (off := 2297) (by decide) (tgt := 2330) (by decide) (lc_74 X hX hbl hbA hLn t ht hW tl)
    | j + 75, hj =>
      have h1 : (nI (j + 75)).toInt = ((j + 75 : Nat) : Int) := nI_toInt (by omega)
      refine g_tableOut X dL_law_33 (Or.inr (by rw [h1]; omega)) (tgt := 2393) (by decide) ?_
      refine g_widen (k1 := 210 + 10 * t) (k2 := 20400 + 400 * t) (by omega) (by omega) ?_
      exact tl _ _ hW
theorem law_loop {p : Program} {l : Launch} {e : Env} {s : State} {m : MethodId} {below : List Frame} {meth : Method} {c : Code} {G : va_G} {cy : Nat → ClassId} {b Ln : Nat} {xs : Nat → Int32} {x0 m0 : Nat} (X : Cx p s m #[Value.ref b] meth c RL cL_law 4 G cy (fun q => s.heap.size ≤ q)) (hr : meth.sig.returnType = ret) (hX : va_X b Ln xs s s.heap) (hbl : b < s.heap.size) (hbA : ¬ (fun q => s.heap.size ≤ q) b) (hLn : Ln ≤ 3072) : ∀ (n t : Nat) (L : List Nat) (M : Nat → va_E), Ln ≤ 6 * t + 6 * n → t ≤ 512 → Wd cy x0 m0 L M → Go p l e room_1 s m #[Value.ref b] below meth c 4 G (fun q => s.heap.size ≤ q) (200 + 10 * t) (20000 + 400 * t) (lw_Z below #[Value.ref b] s) L M 18 [(3, .int (nI (6 * t))), (2, .ref m0), (1, .ref x0), (0, .ref b)] [] := by
  intro n
  induction n with
  | zero => intro t L M h1 h2 hW; exact law_step X hr hX hbl hbA hLn t h2 hW (fun h => by omega)
  | succ n ih => intro t L M h1 h2 hW; exact law_step X hr hX hbl hbA hLn t h2 hW (fun h L M hW => ih (t + 1) L M (by omega) (by omega) hW)
set_option maxHeartbeats 8000000 in
set_option maxRecDepth 100000 in
theorem whole_start {p : Program} {e : Env} {s : State} {m : MethodId} {below : List Frame} {meth : Method} {c : Code} (l : Launch) {b L : Nat} {xs : Nat → Int32} (hL : L ≤ 3072) (C0 : lw_At p s m meth c b L xs) : W p l e room_1 s m #[Value.ref b] below meth c s.heap [] 0 0 (lw_Z below #[Value.ref b] s) (entryFrame m ([Value.ref b] : List Value).toArray 4) := by
  obtain ⟨hx, hb, hr, hml, hown, hts, hX, hbl, hlocks, hgv⟩ := id C0
  obtain ⟨kK, kV, kF, hSC⟩ := start_S hts hgv
  obtain ⟨G, cy, hK, g0, g1, g2⟩ := start_K hts kK kV kF
  have C : Cx p s m #[Value.ref b] meth c RL cL_law 4 G cy (fun q => s.heap.size ≤ q) := ⟨hx, hb, hml, hown, tblG_hts hts, start_N hts, hK, fun _ h => h, hlocks, hSC G g0 g1 g2⟩
  have hbA : ¬ (fun q : Nat => s.heap.size ≤ q) b := Nat.not_le.mpr hbl
  suffices h : Go p l e room_1 s m #[Value.ref b] below meth c 4 G (fun q => s.heap.size ≤ q) 0 0 (lw_Z below #[Value.ref b] s) [] (fun _ => .inr (0, [])) 0 [(0, .ref b)] [] by
    rw [lg_entry_eq]
    exact h s.heap [] _ (fun k q h => by simp [va_pl] at h) ⟨fun i j p q h => by simp [va_pl] at h, fun k q h => by simp [va_pl] at h⟩ va_S.rf (lv_entry [.ref b] (Nat.le_of_ble_eq_true rfl))
  have F : FW [] (fun _ => .inr (0, [])) [] := FW.nil
  refine h_new C F clX7 wd1704 wd1705 wd207 (fs := [.null, .null, .null, .null, .null, .null, .null, .null, .null, .null, .int 0, .null]) (by decide) (by decide) (by decide) dL_law_0 (fun z1 L1 M1 F => ?_)
  refine g_widen (k1 := 1) (k2 := 12) (by decide) (by decide) ?_
  refine g_dup C dL_law_3 rfl ?_
  refine g_callI C (c_X7_init l G F) lk_L_9 rfl rfl dL_law_4 (Nat.le_of_ble_eq_true rfl) ⟨by decide, by decide⟩ ⟨by decide, by decide⟩ (fun L1 M1 hp => ?_)
  clear F
  obtain ⟨a, ha, F⟩ := hp
  subst ha
  refine g_widen (k1 := 43) (k2 := 3047) (by decide) (by decide) ?_
  refine g_astore_n C dL_law_7 rfl (by decide) (lv2 := [(1, .ref (a 0)), (0, .ref b)]) rfl ?_
  refine h_new C F clX8 wd1706 wd1707 wd649 (fs := .int 0 :: .null :: .null :: .null :: .null :: .int 0 :: .null :: .int 0 :: .int 0 :: .int 0 :: .int 0 :: .int 0 :: .int 0 :: .int 0 :: .null :: .null :: .null :: .int 0 :: .int 0 :: .int 0 :: .null :: .null :: .null :: .null :: .null :: .null :: .null :: .null :: .null :: .null :: .int 0 :: .null :: .int 0 :: .null :: .long 0 :: .long 0 :: .long 0 :: .null :: .null :: .null :: .null :: []) (by decide) (by decide) (by decide) dL_law_8 (fun z2 L1 M1 F => ?_)
  refine g_widen (k1 := 44) (k2 := 3088) (by decide) (by decide) ?_
  refine g_dup C dL_law_11 rfl ?_
  refine g_callI C (c_X8_init l G F) lk_L_12 rfl rfl dL_law_12 (Nat.le_of_ble_eq_true rfl) ⟨by decide, by decide⟩ ⟨by decide, by decide⟩ (fun L1 M1 hp => ?_)
  clear F
  obtain ⟨bm, hbm, F⟩ := hp
  subst hbm
  refine g_widen (k1 := 200 + 10 * 0) (k2 := 20000 + 400 * 0) (by decide) (by decide) ?_
  have F : FW L1 M1 (flC cy a ++ flM cy bm 0 (fun _ => 0)) := F.swap
  refine g_astore_n C dL_law_15 rfl (by decide) (lv2 := [(2, .ref (bm 0)), (1, .ref (a 0)), (0, .ref b)]) rfl ?_
  refine g_iconst C dL_law_16 (v := 0) (by decide) ?_
  refine g_istore_n C dL_law_17 rfl (by decide) (lv2 := [(3, .int (nI (6 * 0))), (2, .ref (bm 0)), (1, .ref (a 0)), (0, .ref b)]) rfl ?_
  exact law_loop C hr hX hbl hbA hL 512 0 _ _ (by omega) (by decide) (start_W F)
set_option maxHeartbeats 4000000 in
theorem lw_walk (l : Launch) (b : Addr) (xs : List Int32) : MetFree l x (headSpec (Jvm.Cond.code x code maxLocals ret :: tables_1) room_1) (lw_P b xs) (fun _ _ _ _ _ => True) lw_Q := by
  refine MetFree.of_bodyS (code := code) (maxLocals := maxLocals) (ret := ret) (by decide) ?_ ?_
  · intro args s m h hn
    obtain ⟨meth, c, h1, h2, h3, h4, h5, h6, -, -⟩ := Cond.code_spec hn (atoms_spec (ws := Jvm.Cond.code x code maxLocals ret :: tables_1) h _ List.mem_cons_self)
    exact ⟨meth, c, h1, h2, h3, h4, h5, h6⟩
  · intro p e s m args below meth c s₁ B hml0 hP _
    obtain ⟨rfl, hx, hbd, hgv⟩ := hP
    obtain ⟨scr, harrAt, hlist, hof, hsmall⟩ := hx
    obtain ⟨hcb, hkn, -, -⟩ := State.arrayAt?_spec harrAt
    have hown : s.vm.findClass R_law = some m.cls := findClass_of_methodNamed B.named
    have hts0 : ∀ c ∈ (Jvm.Cond.code x code maxLocals ret :: tables_1), c.before #[Value.ref b] s = true := atoms_spec (ws := Jvm.Cond.code x code maxLocals ret :: tables_1) B.pre
    have hts : ∀ w ∈ lw_tbl, w.before #[Value.ref b] s = true := k2_hts_sels lw_privs (fun w hw => hts0 w (List.mem_cons_of_mem _ hw)) lw_privs_ok
    have hml : c.maxLocals = 4 := B.maxLocals_eq (hts0 _ List.mem_cons_self)
    have X₀ : Stand p l e room_1 s m #[Value.ref b] below meth c s₁ [] 0 0 := Stand.of_body B
    have hh0 : s₁.heap = s.heap := by rw [B.state]; rfl
    have hsz : scr.slots.size = xs.length := by rw [← Array.length_toList, hlist, List.length_map]
    have hval : ∀ j : Nat, j < xs.length → scr.slots[j]? = some (.int (xs.getD j 0)) := fun j hj => by
      rw [← Array.getElem?_toList, hlist]
      simp [hj]
    have hbl : b < s.heap.size := (Array.getElem?_eq_some_iff.mp hcb).1
    have hX : va_X b xs.length (fun j => xs.getD j 0) s s.heap := ⟨scr, hcb, hof, hkn, hsz, hval⟩
    have K : W p l e room_1 s m #[Value.ref b] below meth c s₁.heap [] 0 0 (lw_Z below #[Value.ref b] s) (entryFrame m ([Value.ref b] : List Value).toArray 4) := by
      rw [hh0]
      exact whole_start l hbd ⟨B.exec, B.bytes, B.returns, hml, hown, hts, hX, hbl, B.notSynchronized, hgv⟩
    obtain ⟨t, a1, o, b1, b2, b3⟩ := K s₁ rfl X₀
    exact ⟨t, o, a1, b1, b2, b3⟩
theorem lw_pre_spec {args : Array Value} {s : State} (h : (Jvm.Cond.and given_1 narrow_1).before args s = true) (hr : rest_1_c.before args s = true) : ∃ (b : Addr) (xs : List Int32), lw_P b xs args s := by
  have hs := flat_of_before _ h
  have hq := flat_of_before _ hr
  have hc : (Cond.count 1).before args s = true := hs _ (by decide +kernel)
  have harr : (Cond.arrayOf (.arg 0) .int).before args s = true := hs _ (by decide +kernel)
  have hle : (Cond.le (.length (.arg 0)) (.int 3072)).before args s = true := hs _ (by decide +kernel)
  have hlen : (Cond.isInt (.length (.arg 0))).before args s = true := hq _ (by decide +kernel)
  have hall : (Cond.all (.arg 0) (.isInt (.elem (.arg 0) (.index 0)))).before args s = true := hq _ (by decide +kernel)
  obtain ⟨b, xs, hb, hx⟩ := State.ints_of_pre rfl harr hlen hall
  have hsm : xs.length < 2 ^ 31 := hx.choose_spec.2.2.2
  have hev : (Term.length (.arg 0)).eval args s none [] s = some (.int xs.length.toInt32) := hx.length_eval hb
  have hv := Cond.le_ints hev (show (Term.int 3072).eval args s none [] s = some (.int 3072) from rfl)
  have hd : xs.length.toInt32 ≤ 3072 := by
    simpa [Cond.before, Cond.holds, hv] using hle
  have hN : xs.length ≤ 3072 := (Int32.ofNat_le_ofNat hsm (by decide)).mp (show Int32.ofNat xs.length ≤ Int32.ofNat 3072 from hd)
  exact ⟨b, xs, Cond.one_arg hc (show args[0]? = some (.ref b) from hb), hx, hN, h⟩
theorem lw_comes (l : Launch) : Comes l x (Jvm.Cond.code x code maxLocals ret :: tables_1) room_1 (fun tb e args s => Calls_1 tb e args s ∧ rest_1 tb e args s ∧ Pre_1 tb e args s)
    (fun _ _ args s o t => lw_Q args s o t) := by
  intro p e ha hc hk s m args below hf hfit hheap happ hpre
  obtain ⟨b, xs, hP⟩ := lw_pre_spec hpre.2.2 hpre.2.1
  obtain ⟨k, o, h1, h2, h3, hQ⟩ := lw_walk l b xs p e ha hc hk s m args below hf ((Spec.applies_iff_loose hf).mp happ).1 hP trivial
  exact ⟨k, o, h1, h2, h3, hQ⟩
theorem lw_frame {s t : State} {o : Outcome} {args : Array Value} (h : Framed s o t [] 600000 7302250) :
    Framed s o t (fieldLocs frame_1_writes args s ++ arrayLocs frame_1_arrays args s ++ staticLocs frame_1_statics s) 600000 7302250 := h
theorem lw_limb (L : Cond) (hL : ∀ (args : Array Value) (s t : State), L.after args s (.returned (some (.int 1))) t = true) :
    ArmFor flags0 classFile x code maxLocals ret World_1 tables_1 room_1 Calls_1 rest_1 Pre_1
      (fun tb e a s o t => postC L tb e a s o t ∧ Framed s o t (fieldLocs frame_1_writes a s ++ arrayLocs frame_1_arrays a s ++ staticLocs frame_1_statics s) 600000 7302250) := by
  intro l _ _ _ p e ha hc hk s m args below hf hfit hheap happ hpre
  obtain ⟨k, o, h1, h2, h3, rfl, hF⟩ := lw_comes l p e ha hc hk s m args below hf hfit hheap happ hpre
  exact ⟨k, _, h1, h2, h3, hL args s _, lw_frame hF⟩
theorem i_vc : Claimed_1_1 ∧ Claimed_1_2 := ⟨lw_limb limb_1_1 (fun args s t => by simp [limb_1_1, Cond.after, Cond.holds, Cond.value]), lw_limb limb_1_2 (fun args s t => Cond.after_iff.mpr (by
  first | (rw [show limb_1_2 = Cond.eq .result (.int 1) from rfl, Cond.eq_ints (x := 1) (y := 1) rfl rfl]; simp; done) | (simp [limb_1_2, Cond.value, Term.eval]; done)))⟩
