set_option maxHeartbeats 4000000 in
set_option maxRecDepth 100000 in
theorem lc_0 {p : Program} {l : Launch} {e : Env} {s : State} {m : MethodId} {below : List Frame} {meth : Method} {c : Code} {G : va_G} {cy : Nat → ClassId} {A : Nat → Prop} {Q : State → Prop} {b Ln : Nat} {xs : Nat → Int32} {x0 m0 : Nat} {L : List Nat} {M : Nat → va_E} (X : Cx p s m #[Value.ref b] meth c RL cL_law 4 G cy A) (hX : va_X b Ln xs s s.heap) (hbl : b < s.heap.size) (hbA : ¬ A b) (hLn : Ln ≤ 3072) (t : Nat) (ht : 6 * t + 6 ≤ Ln) (hW : Wd cy x0 m0 L M) (tail : ∀ (L : List Nat) (M : Nat → va_E), Wd cy x0 m0 L M → Go p l e room_1 s m #[Value.ref b] below meth c 4 G A (210 + 10 * t) (20400 + 400 * t) Q L M 2393 [(3, .int (nI (6 * t))), (2, .ref m0), (1, .ref x0), (0, .ref b)] []) : Go p l e room_1 s m #[Value.ref b] below meth c 4 G A (200 + 10 * t) (20000 + 400 * t) Q L M 348 [(3, .int (nI (6 * t))), (2, .ref m0), (1, .ref x0), (0, .ref b)] [] := by
  obtain ⟨a, act, C, D, R, F, I, HA, HR, hN, hLK, e0, e1⟩ := hW
  subst e0
  subst e1
  refine g_aload_n X dL_law_348 rfl (j := 2) rfl ?_
  refine g_aload_n X dL_law_349 rfl (j := 3) rfl ?_
  refine g_iload_n X dL_law_350 rfl (j := 0) rfl ?_
  refine g_iconst X dL_law_351 (v := 1) (by decide) ?_
  refine g_iadd X dL_law_352 ?_
  refine Go.top (v := .int (nI ((6 * t) + 1))) (congrArg Value.int (nI_add (6 * t) 1)) ?_
  refine g_sld X hX hbl hbA (vp_in_nI (by omega) (by omega)) (v := xs ((6 * t) + 1)) (by rw [nI_clamp (by omega)]) dL_law_353 ?_
  refine g_aload_n X dL_law_354 rfl (j := 3) rfl ?_
  refine g_iload_n X dL_law_355 rfl (j := 0) rfl ?_
  refine g_iconst X dL_law_356 (v := 2) (by decide) ?_
  refine g_iadd X dL_law_357 ?_
  refine Go.top (v := .int (nI ((6 * t) + 2))) (congrArg Value.int (nI_add (6 * t) 2)) ?_
  refine g_sld X hX hbl hbA (vp_in_nI (by omega) (by omega)) (v := xs ((6 * t) + 2)) (by rw [nI_clamp (by omega)]) dL_law_358 ?_
  refine g_aload_n X dL_law_359 rfl (j := 3) rfl ?_
  refine g_iload_n X dL_law_360 rfl (j := 0) rfl ?_
  refine g_iconst X dL_law_361 (v := 3) (by decide) ?_
  refine g_iadd X dL_law_362 ?_
  refine Go.top (v := .int (nI ((6 * t) + 3))) (congrArg Value.int (nI_add (6 * t) 3)) ?_
  refine g_sld X hX hbl hbA (vp_in_nI (by omega) (by omega)) (v := xs ((6 * t) + 3)) (by rw [nI_clamp (by omega)]) dL_law_363 ?_
  refine g_aload_n X dL_law_364 rfl (j := 3) rfl ?_
  refine g_iload_n X dL_law_365 rfl (j := 0) rfl ?_
  refine g_iconst X dL_law_366 (v := 4) (by decide) ?_
  refine g_iadd X dL_law_367 ?_
  refine Go.top (v := .int (nI ((6 * t) + 4))) (congrArg Value.int (nI_add (6 * t) 4)) ?_
  refine g_sld X hX hbl hbA (vp_in_nI (by omega) (by omega)) (v := xs ((6 * t) + 4)) (by rw [nI_clamp (by omega)]) dL_law_368 ?_
  refine g_aload_n X dL_law_369 rfl (j := 3) rfl ?_
  refine g_iload_n X dL_law_370 rfl (j := 0) rfl ?_
  refine g_iconst X dL_law_371 (v := 5) (by decide) ?_
  refine g_iadd X dL_law_372 ?_
  refine Go.top (v := .int (nI ((6 * t) + 5))) (congrArg Value.int (nI_add (6 * t) 5)) ?_
  refine g_sld X hX hbl hbA (vp_in_nI (by omega) (by omega)) (v := xs ((6 * t) + 5)) (by rw [nI_clamp (by omega)]) dL_law_373 ?_
  refine g_callVI X (s_X7_feed l G F I ((xs ((6 * t) + 1))) ((xs ((6 * t) + 2))) ((xs ((6 * t) + 3))) ((xs ((6 * t) + 4))) ((xs ((6 * t) + 5))) ) lk_L_13 (F.1 0 rfl).2 (F.1 0 rfl).1 rfl rfl dL_law_374 (Nat.le_of_ble_eq_true rfl) ⟨by decide, by decide⟩ ⟨by show _ ≤ 600000; omega, by show _ ≤ 7302250; omega⟩ (fun r1 L M hp => ?_)
  obtain ⟨C, D, F, I, K1, hr⟩ := hp
  have hN : NowOk (C 3) (C 27) (C 29) := by rw [(K1 3 (by decide)).1, (K1 27 (by decide)).1, (K1 29 (by decide)).1]; exact hN
  have hLK : LK act (C 103) (C 137) (C 138) (C 80) (C 82) (C 84) (C 86) := by rw [(K1 103 (by decide)).1, (K1 137 (by decide)).1, (K1 138 (by decide)).1, (K1 80 (by decide)).1, (K1 82 (by decide)).1, (K1 84 (by decide)).1, (K1 86 (by decide)).1]; exact hLK
  refine g_pop X dL_law_377 rfl ?_
  refine g_aload_n X dL_law_378 rfl (j := 1) rfl ?_
  refine g_aload_n X dL_law_379 rfl (j := 3) rfl ?_
  refine g_iload_n X dL_law_380 rfl (j := 0) rfl ?_
  refine g_iconst X dL_law_381 (v := 1) (by decide) ?_
  refine g_iadd X dL_law_382 ?_
  refine Go.top (v := .int (nI ((6 * t) + 1))) (congrArg Value.int (nI_add (6 * t) 1)) ?_
  refine g_sld X hX hbl hbA (vp_in_nI (by omega) (by omega)) (v := xs ((6 * t) + 1)) (by rw [nI_clamp (by omega)]) dL_law_383 ?_
  refine g_aload_n X dL_law_384 rfl (j := 3) rfl ?_
  refine g_iload_n X dL_law_385 rfl (j := 0) rfl ?_
  refine g_iconst X dL_law_386 (v := 2) (by decide) ?_
  refine g_iadd X dL_law_387 ?_
  refine Go.top (v := .int (nI ((6 * t) + 2))) (congrArg Value.int (nI_add (6 * t) 2)) ?_
  refine g_sld X hX hbl hbA (vp_in_nI (by omega) (by omega)) (v := xs ((6 * t) + 2)) (by rw [nI_clamp (by omega)]) dL_law_388 ?_
  refine g_aload_n X dL_law_389 rfl (j := 3) rfl ?_
  refine g_iload_n X dL_law_390 rfl (j := 0) rfl ?_
  refine g_iconst X dL_law_391 (v := 3) (by decide) ?_
  refine g_iadd X dL_law_392 ?_
  refine Go.top (v := .int (nI ((6 * t) + 3))) (congrArg Value.int (nI_add (6 * t) 3)) ?_
  refine g_sld X hX hbl hbA (vp_in_nI (by omega) (by omega)) (v := xs ((6 * t) + 3)) (by rw [nI_clamp (by omega)]) dL_law_393 ?_
  refine g_aload_n X dL_law_394 rfl (j := 3) rfl ?_
  refine g_iload_n X dL_law_395 rfl (j := 0) rfl ?_
  refine g_iconst X dL_law_396 (v := 4) (by decide) ?_
  refine g_iadd X dL_law_397 ?_
  refine Go.top (v := .int (nI ((6 * t) + 4))) (congrArg Value.int (nI_add (6 * t) 4)) ?_
  refine g_sld X hX hbl hbA (vp_in_nI (by omega) (by omega)) (v := xs ((6 * t) + 4)) (by rw [nI_clamp (by omega)]) dL_law_398 ?_
  refine g_aload_n X dL_law_399 rfl (j := 3) rfl ?_
  refine g_iload_n X dL_law_400 rfl (j := 0) rfl ?_
  refine g_iconst X dL_law_401 (v := 5) (by decide) ?_
  refine g_iadd X dL_law_402 ?_
  refine Go.top (v := .int (nI ((6 * t) + 5))) (congrArg Value.int (nI_add (6 * t) 5)) ?_
  refine g_sld X hX hbl hbA (vp_in_nI (by omega) (by omega)) (v := xs ((6 * t) + 5)) (by rw [nI_clamp (by omega)]) dL_law_403 ?_
  refine g_callVI X (s_X8_feed l G F I ((xs ((6 * t) + 1))) ((xs ((6 * t) + 2))) ((xs ((6 * t) + 3))) ((xs ((6 * t) + 4))) ((xs ((6 * t) + 5))) ) lk_L_17 (F.1 100 rfl).2 (F.1 100 rfl).1 rfl rfl dL_law_404 (Nat.le_of_ble_eq_true rfl) ⟨by decide, by decide⟩ ⟨by show _ ≤ 600000; omega, by show _ ≤ 7302250; omega⟩ (fun r2 L M hp => ?_)
  obtain ⟨C, D, F, I, K1, hr⟩ := hp
  have hN : NowOk (C 3) (C 27) (C 29) := by rw [(K1 3 (by decide)).1, (K1 27 (by decide)).1, (K1 29 (by decide)).1]; exact hN
  have hLK : LK act (C 103) (C 137) (C 138) (C 80) (C 82) (C 84) (C 86) := by rw [(K1 103 (by decide)).1, (K1 137 (by decide)).1, (K1 138 (by decide)).1, (K1 80 (by decide)).1, (K1 82 (by decide)).1, (K1 84 (by decide)).1, (K1 86 (by decide)).1]; exact hLK
  refine g_pop X dL_law_407 rfl ?_
  refine g_goto X dL_law_408 (tgt := 2393) (by decide) ?_
  refine g_widen (k1 := 210 + 10 * t) (k2 := 20400 + 400 * t) (by omega) (by omega) ?_
  exact tail L M ⟨a, act, C, D, R, F, I, HA, HR, hN, hLK, rfl, rfl⟩
set_option maxHeartbeats 4000000 in
set_option maxRecDepth 100000 in
theorem lc_1 {p : Program} {l : Launch} {e : Env} {s : State} {m : MethodId} {below : List Frame} {meth : Method} {c : Code} {G : va_G} {cy : Nat → ClassId} {A : Nat → Prop} {Q : State → Prop} {b Ln : Nat} {xs : Nat → Int32} {x0 m0 : Nat} {L : List Nat} {M : Nat → va_E} (X : Cx p s m #[Value.ref b] meth c RL cL_law 4 G cy A) (hX : va_X b Ln xs s s.heap) (hbl : b < s.heap.size) (hbA : ¬ A b) (hLn : Ln ≤ 3072) (t : Nat) (ht : 6 * t + 6 ≤ Ln) (hW : Wd cy x0 m0 L M) (tail : ∀ (L : List Nat) (M : Nat → va_E), Wd cy x0 m0 L M → Go p l e room_1 s m #[Value.ref b] below meth c 4 G A (210 + 10 * t) (20400 + 400 * t) Q L M 2393 [(3, .int (nI (6 * t))), (2, .ref m0), (1, .ref x0), (0, .ref b)] []) : Go p l e room_1 s m #[Value.ref b] below meth c 4 G A (200 + 10 * t) (20000 + 400 * t) Q L M 411 [(3, .int (nI (6 * t))), (2, .ref m0), (1, .ref x0), (0, .ref b)] [] := by
  obtain ⟨a, act, C, D, R, F, I, HA, HR, hN, hLK, e0, e1⟩ := hW
  subst e0
  subst e1
  refine g_aload_n X dL_law_411 rfl (j := 2) rfl ?_
  refine g_aload_n X dL_law_412 rfl (j := 3) rfl ?_
  refine g_iload_n X dL_law_413 rfl (j := 0) rfl ?_
  refine g_iconst X dL_law_414 (v := 1) (by decide) ?_
  refine g_iadd X dL_law_415 ?_
  refine Go.top (v := .int (nI ((6 * t) + 1))) (congrArg Value.int (nI_add (6 * t) 1)) ?_
  refine g_sld X hX hbl hbA (vp_in_nI (by omega) (by omega)) (v := xs ((6 * t) + 1)) (by rw [nI_clamp (by omega)]) dL_law_416 ?_
  refine g_callVI X (s_X7_end l G F I ((xs ((6 * t) + 1))) ) lk_L_18 (F.1 0 rfl).2 (F.1 0 rfl).1 rfl rfl dL_law_417 (Nat.le_of_ble_eq_true rfl) ⟨by decide, by decide⟩ ⟨by show _ ≤ 600000; omega, by show _ ≤ 7302250; omega⟩ (fun r1 L M hp => ?_)
  obtain ⟨C, D, F, I, K1, hr⟩ := hp
  have hN : NowOk (C 3) (C 27) (C 29) := by rw [(K1 3 (by decide)).1, (K1 27 (by decide)).1, (K1 29 (by decide)).1]; exact hN
  have hLK : LK act (C 103) (C 137) (C 138) (C 80) (C 82) (C 84) (C 86) := by rw [(K1 103 (by decide)).1, (K1 137 (by decide)).1, (K1 138 (by decide)).1, (K1 80 (by decide)).1, (K1 82 (by decide)).1, (K1 84 (by decide)).1, (K1 86 (by decide)).1]; exact hLK
  refine g_pop X dL_law_420 rfl ?_
  refine g_aload_n X dL_law_421 rfl (j := 1) rfl ?_
  refine g_aload_n X dL_law_422 rfl (j := 3) rfl ?_
  refine g_iload_n X dL_law_423 rfl (j := 0) rfl ?_
  refine g_iconst X dL_law_424 (v := 1) (by decide) ?_
  refine g_iadd X dL_law_425 ?_
  refine Go.top (v := .int (nI ((6 * t) + 1))) (congrArg Value.int (nI_add (6 * t) 1)) ?_
  refine g_sld X hX hbl hbA (vp_in_nI (by omega) (by omega)) (v := xs ((6 * t) + 1)) (by rw [nI_clamp (by omega)]) dL_law_426 ?_
  refine g_callVI X (s_X8_end l G F I ((xs ((6 * t) + 1))) ) lk_L_22 (F.1 100 rfl).2 (F.1 100 rfl).1 rfl rfl dL_law_427 (Nat.le_of_ble_eq_true rfl) ⟨by decide, by decide⟩ ⟨by show _ ≤ 600000; omega, by show _ ≤ 7302250; omega⟩ (fun r2 L M hp => ?_)
  obtain ⟨C, D, F, I, K1, hr⟩ := hp
  have hN : NowOk (C 3) (C 27) (C 29) := by rw [(K1 3 (by decide)).1, (K1 27 (by decide)).1, (K1 29 (by decide)).1]; exact hN
  have hLK : LK act (C 103) (C 137) (C 138) (C 80) (C 82) (C 84) (C 86) := by rw [(K1 103 (by decide)).1, (K1 137 (by decide)).1, (K1 138 (by decide)).1, (K1 80 (by decide)).1, (K1 82 (by decide)).1, (K1 84 (by decide)).1, (K1 86 (by decide)).1]; exact hLK
  refine g_pop X dL_law_430 rfl ?_
  refine g_goto X dL_law_431 (tgt := 2393) (by decide) ?_
  refine g_widen (k1 := 210 + 10 * t) (k2 := 20400 + 400 * t) (by omega) (by omega) ?_
  exact tail L M ⟨a, act, C, D, R, F, I, HA, HR, hN, hLK, rfl, rfl⟩
set_option maxHeartbeats 4000000 in
set_option maxRecDepth 100000 in
theorem lc_2 {p : Program} {l : Launch} {e : Env} {s : State} {m : MethodId} {below : List Frame} {meth : Method} {c : Code} {G : va_G} {cy : Nat → ClassId} {A : Nat → Prop} {Q : State → Prop} {b Ln : Nat} {xs : Nat → Int32} {x0 m0 : Nat} {L : List Nat} {M : Nat → va_E} (X : Cx p s m #[Value.ref b] meth c RL cL_law 4 G cy A) (hX : va_X b Ln xs s s.heap) (hbl : b < s.heap.size) (hbA : ¬ A b) (hLn : Ln ≤ 3072) (t : Nat) (ht : 6 * t + 6 ≤ Ln) (hW : Wd cy x0 m0 L M) (tail : ∀ (L : List Nat) (M : Nat → va_E), Wd cy x0 m0 L M → Go p l e room_1 s m #[Value.ref b] below meth c 4 G A (210 + 10 * t) (20400 + 400 * t) Q L M 2393 [(3, .int (nI (6 * t))), (2, .ref m0), (1, .ref x0), (0, .ref b)] []) : Go p l e room_1 s m #[Value.ref b] below meth c 4 G A (200 + 10 * t) (20000 + 400 * t) Q L M 434 [(3, .int (nI (6 * t))), (2, .ref m0), (1, .ref x0), (0, .ref b)] [] := by
  obtain ⟨a, act, C, D, R, F, I, HA, HR, hN, hLK, e0, e1⟩ := hW
  subst e0
  subst e1
  refine g_aload_n X dL_law_434 rfl (j := 2) rfl ?_
  refine g_callVI X (s_X7_heath l G F I  hN) lk_L_23 (F.1 0 rfl).2 (F.1 0 rfl).1 rfl rfl dL_law_435 (Nat.le_of_ble_eq_true rfl) ⟨by decide, by decide⟩ ⟨by show _ ≤ 600000; omega, by show _ ≤ 7302250; omega⟩ (fun r1 L M hp => ?_)
  obtain ⟨C, D, F, I, K1, hr⟩ := hp
  have hN : NowOk (C 3) (C 27) (C 29) := hr
  have hLK : LK act (C 103) (C 137) (C 138) (C 80) (C 82) (C 84) (C 86) := by rw [(K1 103 (by decide)).1, (K1 137 (by decide)).1, (K1 138 (by decide)).1, (K1 80 (by decide)).1, (K1 82 (by decide)).1, (K1 84 (by decide)).1, (K1 86 (by decide)).1]; exact hLK
  refine g_pop X dL_law_438 rfl ?_
  refine g_aload_n X dL_law_439 rfl (j := 1) rfl ?_
  refine g_callVI X (s_X8_heath l G F I  ) lk_L_27 (F.1 100 rfl).2 (F.1 100 rfl).1 rfl rfl dL_law_440 (Nat.le_of_ble_eq_true rfl) ⟨by decide, by decide⟩ ⟨by show _ ≤ 600000; omega, by show _ ≤ 7302250; omega⟩ (fun r2 L M hp => ?_)
  obtain ⟨C, D, F, I, K1, hr⟩ := hp
  have hLK : LK act (C 103) (C 137) (C 138) (C 80) (C 82) (C 84) (C 86) := by rw [(K1 103 (by decide)).1, (K1 137 (by decide)).1, (K1 138 (by decide)).1, (K1 80 (by decide)).1, (K1 82 (by decide)).1, (K1 84 (by decide)).1, (K1 86 (by decide)).1]; exact hLK
  have hN : NowOk (C 3) (C 27) (C 29) := by rw [(K1 3 (by decide)).1, (K1 27 (by decide)).1, (K1 29 (by decide)).1]; exact hN
  refine g_pop X dL_law_443 rfl ?_
  refine g_goto X dL_law_444 (tgt := 2393) (by decide) ?_
  refine g_widen (k1 := 210 + 10 * t) (k2 := 20400 + 400 * t) (by omega) (by omega) ?_
  exact tail L M ⟨a, act, C, D, R, F, I, HA, HR, hN, hLK, rfl, rfl⟩
set_option maxHeartbeats 4000000 in
set_option maxRecDepth 100000 in
theorem lc_3 {p : Program} {l : Launch} {e : Env} {s : State} {m : MethodId} {below : List Frame} {meth : Method} {c : Code} {G : va_G} {cy : Nat → ClassId} {A : Nat → Prop} {Q : State → Prop} {b Ln : Nat} {xs : Nat → Int32} {x0 m0 : Nat} {L : List Nat} {M : Nat → va_E} (X : Cx p s m #[Value.ref b] meth c RL cL_law 4 G cy A) (hX : va_X b Ln xs s s.heap) (hbl : b < s.heap.size) (hbA : ¬ A b) (hLn : Ln ≤ 3072) (t : Nat) (ht : 6 * t + 6 ≤ Ln) (hW : Wd cy x0 m0 L M) (tail : ∀ (L : List Nat) (M : Nat → va_E), Wd cy x0 m0 L M → Go p l e room_1 s m #[Value.ref b] below meth c 4 G A (210 + 10 * t) (20400 + 400 * t) Q L M 2393 [(3, .int (nI (6 * t))), (2, .ref m0), (1, .ref x0), (0, .ref b)] []) : Go p l e room_1 s m #[Value.ref b] below meth c 4 G A (200 + 10 * t) (20000 + 400 * t) Q L M 447 [(3, .int (nI (6 * t))), (2, .ref m0), (1, .ref x0), (0, .ref b)] [] := by
  obtain ⟨a, act, C, D, R, F, I, HA, HR, hN, hLK, e0, e1⟩ := hW
  subst e0
  subst e1
  refine g_aload_n X dL_law_447 rfl (j := 2) rfl ?_
  refine g_aload_n X dL_law_448 rfl (j := 3) rfl ?_
  refine g_iload_n X dL_law_449 rfl (j := 0) rfl ?_
  refine g_iconst X dL_law_450 (v := 1) (by decide) ?_
  refine g_iadd X dL_law_451 ?_
  refine Go.top (v := .int (nI ((6 * t) + 1))) (congrArg Value.int (nI_add (6 * t) 1)) ?_
  refine g_sld X hX hbl hbA (vp_in_nI (by omega) (by omega)) (v := xs ((6 * t) + 1)) (by rw [nI_clamp (by omega)]) dL_law_452 ?_
  refine g_callVI X (s_X7_fault l G F I ((xs ((6 * t) + 1))) ) lk_L_28 (F.1 0 rfl).2 (F.1 0 rfl).1 rfl rfl dL_law_453 (Nat.le_of_ble_eq_true rfl) ⟨by decide, by decide⟩ ⟨by show _ ≤ 600000; omega, by show _ ≤ 7302250; omega⟩ (fun r1 L M hp => ?_)
  obtain ⟨C, D, F, I, K1, hr⟩ := hp
  have hN : NowOk (C 3) (C 27) (C 29) := by rw [(K1 3 (by decide)).1, (K1 27 (by decide)).1, (K1 29 (by decide)).1]; exact hN
  have hLK : LK act (C 103) (C 137) (C 138) (C 80) (C 82) (C 84) (C 86) := by rw [(K1 103 (by decide)).1, (K1 137 (by decide)).1, (K1 138 (by decide)).1, (K1 80 (by decide)).1, (K1 82 (by decide)).1, (K1 84 (by decide)).1, (K1 86 (by decide)).1]; exact hLK
  refine g_pop X dL_law_456 rfl ?_
  refine g_aload_n X dL_law_457 rfl (j := 1) rfl ?_
  refine g_aload_n X dL_law_458 rfl (j := 3) rfl ?_
  refine g_iload_n X dL_law_459 rfl (j := 0) rfl ?_
  refine g_iconst X dL_law_460 (v := 1) (by decide) ?_
  refine g_iadd X dL_law_461 ?_
  refine Go.top (v := .int (nI ((6 * t) + 1))) (congrArg Value.int (nI_add (6 * t) 1)) ?_
  refine g_sld X hX hbl hbA (vp_in_nI (by omega) (by omega)) (v := xs ((6 * t) + 1)) (by rw [nI_clamp (by omega)]) dL_law_462 ?_
  refine g_callVI X (s_X8_fault l G F I ((xs ((6 * t) + 1))) ) lk_L_31 (F.1 100 rfl).2 (F.1 100 rfl).1 rfl rfl dL_law_463 (Nat.le_of_ble_eq_true rfl) ⟨by decide, by decide⟩ ⟨by show _ ≤ 600000; omega, by show _ ≤ 7302250; omega⟩ (fun r2 L M hp => ?_)
  obtain ⟨C, D, F, I, K1, hr⟩ := hp
  have hN : NowOk (C 3) (C 27) (C 29) := by rw [(K1 3 (by decide)).1, (K1 27 (by decide)).1, (K1 29 (by decide)).1]; exact hN
  have hLK : LK act (C 103) (C 137) (C 138) (C 80) (C 82) (C 84) (C 86) := by rw [(K1 103 (by decide)).1, (K1 137 (by decide)).1, (K1 138 (by decide)).1, (K1 80 (by decide)).1, (K1 82 (by decide)).1, (K1 84 (by decide)).1, (K1 86 (by decide)).1]; exact hLK
  refine g_pop X dL_law_466 rfl ?_
  refine g_goto X dL_law_467 (tgt := 2393) (by decide) ?_
  refine g_widen (k1 := 210 + 10 * t) (k2 := 20400 + 400 * t) (by omega) (by omega) ?_
  exact tail L M ⟨a, act, C, D, R, F, I, HA, HR, hN, hLK, rfl, rfl⟩
set_option maxHeartbeats 4000000 in
set_option maxRecDepth 100000 in
theorem lc_4 {p : Program} {l : Launch} {e : Env} {s : State} {m : MethodId} {below : List Frame} {meth : Method} {c : Code} {G : va_G} {cy : Nat → ClassId} {A : Nat → Prop} {Q : State → Prop} {b Ln : Nat} {xs : Nat → Int32} {x0 m0 : Nat} {L : List Nat} {M : Nat → va_E} (X : Cx p s m #[Value.ref b] meth c RL cL_law 4 G cy A) (hX : va_X b Ln xs s s.heap) (hbl : b < s.heap.size) (hbA : ¬ A b) (hLn : Ln ≤ 3072) (t : Nat) (ht : 6 * t + 6 ≤ Ln) (hW : Wd cy x0 m0 L M) (tail : ∀ (L : List Nat) (M : Nat → va_E), Wd cy x0 m0 L M → Go p l e room_1 s m #[Value.ref b] below meth c 4 G A (210 + 10 * t) (20400 + 400 * t) Q L M 2393 [(3, .int (nI (6 * t))), (2, .ref m0), (1, .ref x0), (0, .ref b)] []) : Go p l e room_1 s m #[Value.ref b] below meth c 4 G A (200 + 10 * t) (20000 + 400 * t) Q L M 470 [(3, .int (nI (6 * t))), (2, .ref m0), (1, .ref x0), (0, .ref b)] [] := by
  obtain ⟨a, act, C, D, R, F, I, HA, HR, hN, hLK, e0, e1⟩ := hW
  subst e0
  subst e1
  refine g_aload_n X dL_law_470 rfl (j := 2) rfl ?_
  refine g_aload_n X dL_law_471 rfl (j := 3) rfl ?_
  refine g_iload_n X dL_law_472 rfl (j := 0) rfl ?_
  refine g_iconst X dL_law_473 (v := 1) (by decide) ?_
  refine g_iadd X dL_law_474 ?_
  refine Go.top (v := .int (nI ((6 * t) + 1))) (congrArg Value.int (nI_add (6 * t) 1)) ?_
  refine g_sld X hX hbl hbA (vp_in_nI (by omega) (by omega)) (v := xs ((6 * t) + 1)) (by rw [nI_clamp (by omega)]) dL_law_475 ?_
  refine g_callVI X (s_X7_room l G F I ((xs ((6 * t) + 1))) ) lk_L_32 (F.1 0 rfl).2 (F.1 0 rfl).1 rfl rfl dL_law_476 (Nat.le_of_ble_eq_true rfl) ⟨by decide, by decide⟩ ⟨by show _ ≤ 600000; omega, by show _ ≤ 7302250; omega⟩ (fun r1 L M hp => ?_)
  obtain ⟨C, D, F, I, K1, hr⟩ := hp
  have hN : NowOk (C 3) (C 27) (C 29) := by rw [(K1 3 (by decide)).1, (K1 27 (by decide)).1, (K1 29 (by decide)).1]; exact hN
  have hLK : LK act (C 103) (C 137) (C 138) (C 80) (C 82) (C 84) (C 86) := by rw [(K1 103 (by decide)).1, (K1 137 (by decide)).1, (K1 138 (by decide)).1, (K1 80 (by decide)).1, (K1 82 (by decide)).1, (K1 84 (by decide)).1, (K1 86 (by decide)).1]; exact hLK
  refine g_pop X dL_law_479 rfl ?_
  refine g_aload_n X dL_law_480 rfl (j := 1) rfl ?_
  refine g_aload_n X dL_law_481 rfl (j := 3) rfl ?_
  refine g_iload_n X dL_law_482 rfl (j := 0) rfl ?_
  refine g_iconst X dL_law_483 (v := 1) (by decide) ?_
  refine g_iadd X dL_law_484 ?_
  refine Go.top (v := .int (nI ((6 * t) + 1))) (congrArg Value.int (nI_add (6 * t) 1)) ?_
  refine g_sld X hX hbl hbA (vp_in_nI (by omega) (by omega)) (v := xs ((6 * t) + 1)) (by rw [nI_clamp (by omega)]) dL_law_485 ?_
  refine g_callVI X (s_X8_room l G F I ((xs ((6 * t) + 1))) ) lk_L_35 (F.1 100 rfl).2 (F.1 100 rfl).1 rfl rfl dL_law_486 (Nat.le_of_ble_eq_true rfl) ⟨by decide, by decide⟩ ⟨by show _ ≤ 600000; omega, by show _ ≤ 7302250; omega⟩ (fun r2 L M hp => ?_)
  obtain ⟨C, D, F, I, K1, hr⟩ := hp
  have hN : NowOk (C 3) (C 27) (C 29) := by rw [(K1 3 (by decide)).1, (K1 27 (by decide)).1, (K1 29 (by decide)).1]; exact hN
  have hLK : LK act (C 103) (C 137) (C 138) (C 80) (C 82) (C 84) (C 86) := by rw [(K1 103 (by decide)).1, (K1 137 (by decide)).1, (K1 138 (by decide)).1, (K1 80 (by decide)).1, (K1 82 (by decide)).1, (K1 84 (by decide)).1, (K1 86 (by decide)).1]; exact hLK
  refine g_pop X dL_law_489 rfl ?_
  refine g_goto X dL_law_490 (tgt := 2393) (by decide) ?_
  refine g_widen (k1 := 210 + 10 * t) (k2 := 20400 + 400 * t) (by omega) (by omega) ?_
  exact tail L M ⟨a, act, C, D, R, F, I, HA, HR, hN, hLK, rfl, rfl⟩
set_option maxHeartbeats 4000000 in
set_option maxRecDepth 100000 in
theorem lc_5 {p : Program} {l : Launch} {e : Env} {s : State} {m : MethodId} {below : List Frame} {meth : Method} {c : Code} {G : va_G} {cy : Nat → ClassId} {A : Nat → Prop} {Q : State → Prop} {b Ln : Nat} {xs : Nat → Int32} {x0 m0 : Nat} {L : List Nat} {M : Nat → va_E} (X : Cx p s m #[Value.ref b] meth c RL cL_law 4 G cy A) (hX : va_X b Ln xs s s.heap) (hbl : b < s.heap.size) (hbA : ¬ A b) (hLn : Ln ≤ 3072) (t : Nat) (ht : 6 * t + 6 ≤ Ln) (hW : Wd cy x0 m0 L M) (tail : ∀ (L : List Nat) (M : Nat → va_E), Wd cy x0 m0 L M → Go p l e room_1 s m #[Value.ref b] below meth c 4 G A (210 + 10 * t) (20400 + 400 * t) Q L M 2393 [(3, .int (nI (6 * t))), (2, .ref m0), (1, .ref x0), (0, .ref b)] []) : Go p l e room_1 s m #[Value.ref b] below meth c 4 G A (200 + 10 * t) (20000 + 400 * t) Q L M 493 [(3, .int (nI (6 * t))), (2, .ref m0), (1, .ref x0), (0, .ref b)] [] := by
  obtain ⟨a, act, C, D, R, F, I, HA, HR, hN, hLK, e0, e1⟩ := hW
  subst e0
  subst e1
  refine g_aload_n X dL_law_493 rfl (j := 2) rfl ?_
  refine g_aload_n X dL_law_494 rfl (j := 3) rfl ?_
  refine g_iload_n X dL_law_495 rfl (j := 0) rfl ?_
  refine g_iconst X dL_law_496 (v := 1) (by decide) ?_
  refine g_iadd X dL_law_497 ?_
  refine Go.top (v := .int (nI ((6 * t) + 1))) (congrArg Value.int (nI_add (6 * t) 1)) ?_
  refine g_sld X hX hbl hbA (vp_in_nI (by omega) (by omega)) (v := xs ((6 * t) + 1)) (by rw [nI_clamp (by omega)]) dL_law_498 ?_
  refine g_callVI X (s_X7_roads l G F I ((xs ((6 * t) + 1))) ) lk_L_36 (F.1 0 rfl).2 (F.1 0 rfl).1 rfl rfl dL_law_499 (Nat.le_of_ble_eq_true rfl) ⟨by decide, by decide⟩ ⟨by show _ ≤ 600000; omega, by show _ ≤ 7302250; omega⟩ (fun r1 L M hp => ?_)
  obtain ⟨C, D, F, I, K1, hr⟩ := hp
  have hN : NowOk (C 3) (C 27) (C 29) := by rw [(K1 3 (by decide)).1, (K1 27 (by decide)).1, (K1 29 (by decide)).1]; exact hN
  have hLK : LK act (C 103) (C 137) (C 138) (C 80) (C 82) (C 84) (C 86) := by rw [(K1 103 (by decide)).1, (K1 137 (by decide)).1, (K1 138 (by decide)).1, (K1 80 (by decide)).1, (K1 82 (by decide)).1, (K1 84 (by decide)).1, (K1 86 (by decide)).1]; exact hLK
  refine g_pop X dL_law_502 rfl ?_
  refine g_aload_n X dL_law_503 rfl (j := 1) rfl ?_
  refine g_aload_n X dL_law_504 rfl (j := 3) rfl ?_
  refine g_iload_n X dL_law_505 rfl (j := 0) rfl ?_
  refine g_iconst X dL_law_506 (v := 1) (by decide) ?_
  refine g_iadd X dL_law_507 ?_
  refine Go.top (v := .int (nI ((6 * t) + 1))) (congrArg Value.int (nI_add (6 * t) 1)) ?_
  refine g_sld X hX hbl hbA (vp_in_nI (by omega) (by omega)) (v := xs ((6 * t) + 1)) (by rw [nI_clamp (by omega)]) dL_law_508 ?_
  refine g_callVI X (s_X8_roads l G F I ((xs ((6 * t) + 1))) ) lk_L_39 (F.1 100 rfl).2 (F.1 100 rfl).1 rfl rfl dL_law_509 (Nat.le_of_ble_eq_true rfl) ⟨by decide, by decide⟩ ⟨by show _ ≤ 600000; omega, by show _ ≤ 7302250; omega⟩ (fun r2 L M hp => ?_)
  obtain ⟨C, D, F, I, K1, hr⟩ := hp
  have hN : NowOk (C 3) (C 27) (C 29) := by rw [(K1 3 (by decide)).1, (K1 27 (by decide)).1, (K1 29 (by decide)).1]; exact hN
  have hLK : LK act (C 103) (C 137) (C 138) (C 80) (C 82) (C 84) (C 86) := by rw [(K1 103 (by decide)).1, (K1 137 (by decide)).1, (K1 138 (by decide)).1, (K1 80 (by decide)).1, (K1 82 (by decide)).1, (K1 84 (by decide)).1, (K1 86 (by decide)).1]; exact hLK
  refine g_pop X dL_law_512 rfl ?_
  refine g_goto X dL_law_513 (tgt := 2393) (by decide) ?_
  refine g_widen (k1 := 210 + 10 * t) (k2 := 20400 + 400 * t) (by omega) (by omega) ?_
  exact tail L M ⟨a, act, C, D, R, F, I, HA, HR, hN, hLK, rfl, rfl⟩
set_option maxHeartbeats 4000000 in
set_option maxRecDepth 100000 in
theorem lc_6 {p : Program} {l : Launch} {e : Env} {s : State} {m : MethodId} {below : List Frame} {meth : Method} {c : Code} {G : va_G} {cy : Nat → ClassId} {A : Nat → Prop} {Q : State → Prop} {b Ln : Nat} {xs : Nat → Int32} {x0 m0 : Nat} {L : List Nat} {M : Nat → va_E} (X : Cx p s m #[Value.ref b] meth c RL cL_law 4 G cy A) (hX : va_X b Ln xs s s.heap) (hbl : b < s.heap.size) (hbA : ¬ A b) (hLn : Ln ≤ 3072) (t : Nat) (ht : 6 * t + 6 ≤ Ln) (hW : Wd cy x0 m0 L M) (tail : ∀ (L : List Nat) (M : Nat → va_E), Wd cy x0 m0 L M → Go p l e room_1 s m #[Value.ref b] below meth c 4 G A (210 + 10 * t) (20400 + 400 * t) Q L M 2393 [(3, .int (nI (6 * t))), (2, .ref m0), (1, .ref x0), (0, .ref b)] []) : Go p l e room_1 s m #[Value.ref b] below meth c 4 G A (200 + 10 * t) (20000 + 400 * t) Q L M 516 [(3, .int (nI (6 * t))), (2, .ref m0), (1, .ref x0), (0, .ref b)] [] := by
  obtain ⟨a, act, C, D, R, F, I, HA, HR, hN, hLK, e0, e1⟩ := hW
  subst e0
  subst e1
  refine g_aload_n X dL_law_516 rfl (j := 2) rfl ?_
  refine g_aload_n X dL_law_517 rfl (j := 3) rfl ?_
  refine g_iload_n X dL_law_518 rfl (j := 0) rfl ?_
  refine g_iconst X dL_law_519 (v := 1) (by decide) ?_
  refine g_iadd X dL_law_520 ?_
  refine Go.top (v := .int (nI ((6 * t) + 1))) (congrArg Value.int (nI_add (6 * t) 1)) ?_
  refine g_sld X hX hbl hbA (vp_in_nI (by omega) (by omega)) (v := xs ((6 * t) + 1)) (by rw [nI_clamp (by omega)]) dL_law_521 ?_
  refine g_aload_n X dL_law_522 rfl (j := 3) rfl ?_
  refine g_iload_n X dL_law_523 rfl (j := 0) rfl ?_
  refine g_iconst X dL_law_524 (v := 2) (by decide) ?_
  refine g_iadd X dL_law_525 ?_
  refine Go.top (v := .int (nI ((6 * t) + 2))) (congrArg Value.int (nI_add (6 * t) 2)) ?_
  refine g_sld X hX hbl hbA (vp_in_nI (by omega) (by omega)) (v := xs ((6 * t) + 2)) (by rw [nI_clamp (by omega)]) dL_law_526 ?_
  refine g_callVI X (s_X7_goes l G F I ((xs ((6 * t) + 1))) ((xs ((6 * t) + 2))) ) lk_L_40 (F.1 0 rfl).2 (F.1 0 rfl).1 rfl rfl dL_law_527 (Nat.le_of_ble_eq_true rfl) ⟨by decide, by decide⟩ ⟨by show _ ≤ 600000; omega, by show _ ≤ 7302250; omega⟩ (fun r1 L M hp => ?_)
  obtain ⟨C, D, F, I, K1, hr⟩ := hp
  have hN : NowOk (C 3) (C 27) (C 29) := by rw [(K1 3 (by decide)).1, (K1 27 (by decide)).1, (K1 29 (by decide)).1]; exact hN
  have hLK : LK act (C 103) (C 137) (C 138) (C 80) (C 82) (C 84) (C 86) := by rw [(K1 103 (by decide)).1, (K1 137 (by decide)).1, (K1 138 (by decide)).1, (K1 80 (by decide)).1, (K1 82 (by decide)).1, (K1 84 (by decide)).1, (K1 86 (by decide)).1]; exact hLK
  refine g_pop X dL_law_530 rfl ?_
  refine g_aload_n X dL_law_531 rfl (j := 1) rfl ?_
  refine g_aload_n X dL_law_532 rfl (j := 3) rfl ?_
  refine g_iload_n X dL_law_533 rfl (j := 0) rfl ?_
  refine g_iconst X dL_law_534 (v := 1) (by decide) ?_
  refine g_iadd X dL_law_535 ?_
  refine Go.top (v := .int (nI ((6 * t) + 1))) (congrArg Value.int (nI_add (6 * t) 1)) ?_
  refine g_sld X hX hbl hbA (vp_in_nI (by omega) (by omega)) (v := xs ((6 * t) + 1)) (by rw [nI_clamp (by omega)]) dL_law_536 ?_
  refine g_aload_n X dL_law_537 rfl (j := 3) rfl ?_
  refine g_iload_n X dL_law_538 rfl (j := 0) rfl ?_
  refine g_iconst X dL_law_539 (v := 2) (by decide) ?_
  refine g_iadd X dL_law_540 ?_
  refine Go.top (v := .int (nI ((6 * t) + 2))) (congrArg Value.int (nI_add (6 * t) 2)) ?_
  refine g_sld X hX hbl hbA (vp_in_nI (by omega) (by omega)) (v := xs ((6 * t) + 2)) (by rw [nI_clamp (by omega)]) dL_law_541 ?_
  refine g_callVI X (s_X8_goes l G F I ((xs ((6 * t) + 1))) ((xs ((6 * t) + 2))) ) lk_L_44 (F.1 100 rfl).2 (F.1 100 rfl).1 rfl rfl dL_law_542 (Nat.le_of_ble_eq_true rfl) ⟨by decide, by decide⟩ ⟨by show _ ≤ 600000; omega, by show _ ≤ 7302250; omega⟩ (fun r2 L M hp => ?_)
  obtain ⟨C, D, F, I, K1, hr⟩ := hp
  have hN : NowOk (C 3) (C 27) (C 29) := by rw [(K1 3 (by decide)).1, (K1 27 (by decide)).1, (K1 29 (by decide)).1]; exact hN
  have hLK : LK act (C 103) (C 137) (C 138) (C 80) (C 82) (C 84) (C 86) := by rw [(K1 103 (by decide)).1, (K1 137 (by decide)).1, (K1 138 (by decide)).1, (K1 80 (by decide)).1, (K1 82 (by decide)).1, (K1 84 (by decide)).1, (K1 86 (by decide)).1]; exact hLK
  refine g_pop X dL_law_545 rfl ?_
  refine g_goto X dL_law_546 (tgt := 2393) (by decide) ?_
  refine g_widen (k1 := 210 + 10 * t) (k2 := 20400 + 400 * t) (by omega) (by omega) ?_
  exact tail L M ⟨a, act, C, D, R, F, I, HA, HR, hN, hLK, rfl, rfl⟩
set_option maxHeartbeats 4000000 in
set_option maxRecDepth 100000 in
theorem lc_7 {p : Program} {l : Launch} {e : Env} {s : State} {m : MethodId} {below : List Frame} {meth : Method} {c : Code} {G : va_G} {cy : Nat → ClassId} {A : Nat → Prop} {Q : State → Prop} {b Ln : Nat} {xs : Nat → Int32} {x0 m0 : Nat} {L : List Nat} {M : Nat → va_E} (X : Cx p s m #[Value.ref b] meth c RL cL_law 4 G cy A) (hX : va_X b Ln xs s s.heap) (hbl : b < s.heap.size) (hbA : ¬ A b) (hLn : Ln ≤ 3072) (t : Nat) (ht : 6 * t + 6 ≤ Ln) (hW : Wd cy x0 m0 L M) (tail : ∀ (L : List Nat) (M : Nat → va_E), Wd cy x0 m0 L M → Go p l e room_1 s m #[Value.ref b] below meth c 4 G A (210 + 10 * t) (20400 + 400 * t) Q L M 2393 [(3, .int (nI (6 * t))), (2, .ref m0), (1, .ref x0), (0, .ref b)] []) : Go p l e room_1 s m #[Value.ref b] below meth c 4 G A (200 + 10 * t) (20000 + 400 * t) Q L M 549 [(3, .int (nI (6 * t))), (2, .ref m0), (1, .ref x0), (0, .ref b)] [] := by
  obtain ⟨a, act, C, D, R, F, I, HA, HR, hN, hLK, e0, e1⟩ := hW
  subst e0
  subst e1
  refine g_aload_n X dL_law_549 rfl (j := 2) rfl ?_
  refine g_aload_n X dL_law_550 rfl (j := 3) rfl ?_
  refine g_iload_n X dL_law_551 rfl (j := 0) rfl ?_
  refine g_iconst X dL_law_552 (v := 1) (by decide) ?_
  refine g_iadd X dL_law_553 ?_
  refine Go.top (v := .int (nI ((6 * t) + 1))) (congrArg Value.int (nI_add (6 * t) 1)) ?_
  refine g_sld X hX hbl hbA (vp_in_nI (by omega) (by omega)) (v := xs ((6 * t) + 1)) (by rw [nI_clamp (by omega)]) dL_law_554 ?_
  refine g_callVI X (s_X7_told l G F I ((xs ((6 * t) + 1))) ) lk_L_45 (F.1 0 rfl).2 (F.1 0 rfl).1 rfl rfl dL_law_555 (Nat.le_of_ble_eq_true rfl) ⟨by decide, by decide⟩ ⟨by show _ ≤ 600000; omega, by show _ ≤ 7302250; omega⟩ (fun r1 L M hp => ?_)
  obtain ⟨C, D, F, I, K1, hr⟩ := hp
  have hN : NowOk (C 3) (C 27) (C 29) := by rw [(K1 3 (by decide)).1, (K1 27 (by decide)).1, (K1 29 (by decide)).1]; exact hN
  have hLK : LK act (C 103) (C 137) (C 138) (C 80) (C 82) (C 84) (C 86) := by rw [(K1 103 (by decide)).1, (K1 137 (by decide)).1, (K1 138 (by decide)).1, (K1 80 (by decide)).1, (K1 82 (by decide)).1, (K1 84 (by decide)).1, (K1 86 (by decide)).1]; exact hLK
  refine g_pop X dL_law_558 rfl ?_
  refine g_aload_n X dL_law_559 rfl (j := 1) rfl ?_
  refine g_aload_n X dL_law_560 rfl (j := 3) rfl ?_
  refine g_iload_n X dL_law_561 rfl (j := 0) rfl ?_
  refine g_iconst X dL_law_562 (v := 1) (by decide) ?_
  refine g_iadd X dL_law_563 ?_
  refine Go.top (v := .int (nI ((6 * t) + 1))) (congrArg Value.int (nI_add (6 * t) 1)) ?_
  refine g_sld X hX hbl hbA (vp_in_nI (by omega) (by omega)) (v := xs ((6 * t) + 1)) (by rw [nI_clamp (by omega)]) dL_law_564 ?_
  refine g_callVI X (s_X8_told l G F I ((xs ((6 * t) + 1))) ) lk_L_48 (F.1 100 rfl).2 (F.1 100 rfl).1 rfl rfl dL_law_565 (Nat.le_of_ble_eq_true rfl) ⟨by decide, by decide⟩ ⟨by show _ ≤ 600000; omega, by show _ ≤ 7302250; omega⟩ (fun r2 L M hp => ?_)
  obtain ⟨C, D, F, I, K1, hr⟩ := hp
  have hN : NowOk (C 3) (C 27) (C 29) := by rw [(K1 3 (by decide)).1, (K1 27 (by decide)).1, (K1 29 (by decide)).1]; exact hN
  have hLK : LK act (C 103) (C 137) (C 138) (C 80) (C 82) (C 84) (C 86) := by rw [(K1 103 (by decide)).1, (K1 137 (by decide)).1, (K1 138 (by decide)).1, (K1 80 (by decide)).1, (K1 82 (by decide)).1, (K1 84 (by decide)).1, (K1 86 (by decide)).1]; exact hLK
  refine g_pop X dL_law_568 rfl ?_
  refine g_goto X dL_law_569 (tgt := 2393) (by decide) ?_
  refine g_widen (k1 := 210 + 10 * t) (k2 := 20400 + 400 * t) (by omega) (by omega) ?_
  exact tail L M ⟨a, act, C, D, R, F, I, HA, HR, hN, hLK, rfl, rfl⟩
set_option maxHeartbeats 4000000 in
set_option maxRecDepth 100000 in
theorem lc_8 {p : Program} {l : Launch} {e : Env} {s : State} {m : MethodId} {below : List Frame} {meth : Method} {c : Code} {G : va_G} {cy : Nat → ClassId} {A : Nat → Prop} {Q : State → Prop} {b Ln : Nat} {xs : Nat → Int32} {x0 m0 : Nat} {L : List Nat} {M : Nat → va_E} (X : Cx p s m #[Value.ref b] meth c RL cL_law 4 G cy A) (hX : va_X b Ln xs s s.heap) (hbl : b < s.heap.size) (hbA : ¬ A b) (hLn : Ln ≤ 3072) (t : Nat) (ht : 6 * t + 6 ≤ Ln) (hW : Wd cy x0 m0 L M) (tail : ∀ (L : List Nat) (M : Nat → va_E), Wd cy x0 m0 L M → Go p l e room_1 s m #[Value.ref b] below meth c 4 G A (210 + 10 * t) (20400 + 400 * t) Q L M 2393 [(3, .int (nI (6 * t))), (2, .ref m0), (1, .ref x0), (0, .ref b)] []) : Go p l e room_1 s m #[Value.ref b] below meth c 4 G A (200 + 10 * t) (20000 + 400 * t) Q L M 572 [(3, .int (nI (6 * t))), (2, .ref m0), (1, .ref x0), (0, .ref b)] [] := by
  obtain ⟨a, act, C, D, R, F, I, HA, HR, hN, hLK, e0, e1⟩ := hW
  subst e0
  subst e1
  refine g_aload_n X dL_law_572 rfl (j := 2) rfl ?_
  refine g_aload_n X dL_law_573 rfl (j := 3) rfl ?_
  refine g_iload_n X dL_law_574 rfl (j := 0) rfl ?_
  refine g_iconst X dL_law_575 (v := 1) (by decide) ?_
  refine g_iadd X dL_law_576 ?_
  refine Go.top (v := .int (nI ((6 * t) + 1))) (congrArg Value.int (nI_add (6 * t) 1)) ?_
  refine g_sld X hX hbl hbA (vp_in_nI (by omega) (by omega)) (v := xs ((6 * t) + 1)) (by rw [nI_clamp (by omega)]) dL_law_577 ?_
  refine g_aload_n X dL_law_578 rfl (j := 3) rfl ?_
  refine g_iload_n X dL_law_579 rfl (j := 0) rfl ?_
  refine g_iconst X dL_law_580 (v := 2) (by decide) ?_
  refine g_iadd X dL_law_581 ?_
  refine Go.top (v := .int (nI ((6 * t) + 2))) (congrArg Value.int (nI_add (6 * t) 2)) ?_
  refine g_sld X hX hbl hbA (vp_in_nI (by omega) (by omega)) (v := xs ((6 * t) + 2)) (by rw [nI_clamp (by omega)]) dL_law_582 ?_
  refine g_callVI X (s_X7_walker l G F I ((xs ((6 * t) + 1))) ((xs ((6 * t) + 2))) ) lk_L_49 (F.1 0 rfl).2 (F.1 0 rfl).1 rfl rfl dL_law_583 (Nat.le_of_ble_eq_true rfl) ⟨by decide, by decide⟩ ⟨by show _ ≤ 600000; omega, by show _ ≤ 7302250; omega⟩ (fun r1 L M hp => ?_)
  obtain ⟨C, D, F, I, K1, hr⟩ := hp
  have hN : NowOk (C 3) (C 27) (C 29) := by rw [(K1 3 (by decide)).1, (K1 27 (by decide)).1, (K1 29 (by decide)).1]; exact hN
  have hLK : LK act (C 103) (C 137) (C 138) (C 80) (C 82) (C 84) (C 86) := by rw [(K1 103 (by decide)).1, (K1 137 (by decide)).1, (K1 138 (by decide)).1, (K1 80 (by decide)).1, (K1 82 (by decide)).1, (K1 84 (by decide)).1, (K1 86 (by decide)).1]; exact hLK
  refine g_pop X dL_law_586 rfl ?_
  refine g_aload_n X dL_law_587 rfl (j := 1) rfl ?_
  refine g_aload_n X dL_law_588 rfl (j := 3) rfl ?_
  refine g_iload_n X dL_law_589 rfl (j := 0) rfl ?_
  refine g_iconst X dL_law_590 (v := 1) (by decide) ?_
  refine g_iadd X dL_law_591 ?_
  refine Go.top (v := .int (nI ((6 * t) + 1))) (congrArg Value.int (nI_add (6 * t) 1)) ?_
  refine g_sld X hX hbl hbA (vp_in_nI (by omega) (by omega)) (v := xs ((6 * t) + 1)) (by rw [nI_clamp (by omega)]) dL_law_592 ?_
  refine g_aload_n X dL_law_593 rfl (j := 3) rfl ?_
  refine g_iload_n X dL_law_594 rfl (j := 0) rfl ?_
  refine g_iconst X dL_law_595 (v := 2) (by decide) ?_
  refine g_iadd X dL_law_596 ?_
  refine Go.top (v := .int (nI ((6 * t) + 2))) (congrArg Value.int (nI_add (6 * t) 2)) ?_
  refine g_sld X hX hbl hbA (vp_in_nI (by omega) (by omega)) (v := xs ((6 * t) + 2)) (by rw [nI_clamp (by omega)]) dL_law_597 ?_
  refine g_callVI X (s_X8_walker l G F I ((xs ((6 * t) + 1))) ((xs ((6 * t) + 2))) ) lk_L_52 (F.1 100 rfl).2 (F.1 100 rfl).1 rfl rfl dL_law_598 (Nat.le_of_ble_eq_true rfl) ⟨by decide, by decide⟩ ⟨by show _ ≤ 600000; omega, by show _ ≤ 7302250; omega⟩ (fun r2 L M hp => ?_)
  obtain ⟨C, D, F, I, K1, hr⟩ := hp
  have hN : NowOk (C 3) (C 27) (C 29) := by rw [(K1 3 (by decide)).1, (K1 27 (by decide)).1, (K1 29 (by decide)).1]; exact hN
  have hLK : LK act (C 103) (C 137) (C 138) (C 80) (C 82) (C 84) (C 86) := by rw [(K1 103 (by decide)).1, (K1 137 (by decide)).1, (K1 138 (by decide)).1, (K1 80 (by decide)).1, (K1 82 (by decide)).1, (K1 84 (by decide)).1, (K1 86 (by decide)).1]; exact hLK
  refine g_pop X dL_law_601 rfl ?_
  refine g_goto X dL_law_602 (tgt := 2393) (by decide) ?_
  refine g_widen (k1 := 210 + 10 * t) (k2 := 20400 + 400 * t) (by omega) (by omega) ?_
  exact tail L M ⟨a, act, C, D, R, F, I, HA, HR, hN, hLK, rfl, rfl⟩
set_option maxHeartbeats 4000000 in
set_option maxRecDepth 100000 in
theorem lc_9 {p : Program} {l : Launch} {e : Env} {s : State} {m : MethodId} {below : List Frame} {meth : Method} {c : Code} {G : va_G} {cy : Nat → ClassId} {A : Nat → Prop} {Q : State → Prop} {b Ln : Nat} {xs : Nat → Int32} {x0 m0 : Nat} {L : List Nat} {M : Nat → va_E} (X : Cx p s m #[Value.ref b] meth c RL cL_law 4 G cy A) (hX : va_X b Ln xs s s.heap) (hbl : b < s.heap.size) (hbA : ¬ A b) (hLn : Ln ≤ 3072) (t : Nat) (ht : 6 * t + 6 ≤ Ln) (hW : Wd cy x0 m0 L M) (tail : ∀ (L : List Nat) (M : Nat → va_E), Wd cy x0 m0 L M → Go p l e room_1 s m #[Value.ref b] below meth c 4 G A (210 + 10 * t) (20400 + 400 * t) Q L M 2393 [(3, .int (nI (6 * t))), (2, .ref m0), (1, .ref x0), (0, .ref b)] []) : Go p l e room_1 s m #[Value.ref b] below meth c 4 G A (200 + 10 * t) (20000 + 400 * t) Q L M 605 [(3, .int (nI (6 * t))), (2, .ref m0), (1, .ref x0), (0, .ref b)] [] := by
  obtain ⟨a, act, C, D, R, F, I, HA, HR, hN, hLK, e0, e1⟩ := hW
  subst e0
  subst e1
  refine g_aload_n X dL_law_605 rfl (j := 2) rfl ?_
  refine g_aload_n X dL_law_606 rfl (j := 3) rfl ?_
  refine g_iload_n X dL_law_607 rfl (j := 0) rfl ?_
  refine g_iconst X dL_law_608 (v := 1) (by decide) ?_
  refine g_iadd X dL_law_609 ?_
  refine Go.top (v := .int (nI ((6 * t) + 1))) (congrArg Value.int (nI_add (6 * t) 1)) ?_
  refine g_sld X hX hbl hbA (vp_in_nI (by omega) (by omega)) (v := xs ((6 * t) + 1)) (by rw [nI_clamp (by omega)]) dL_law_610 ?_
  refine g_aload_n X dL_law_611 rfl (j := 3) rfl ?_
  refine g_iload_n X dL_law_612 rfl (j := 0) rfl ?_
  refine g_iconst X dL_law_613 (v := 2) (by decide) ?_
  refine g_iadd X dL_law_614 ?_
  refine Go.top (v := .int (nI ((6 * t) + 2))) (congrArg Value.int (nI_add (6 * t) 2)) ?_
  refine g_sld X hX hbl hbA (vp_in_nI (by omega) (by omega)) (v := xs ((6 * t) + 2)) (by rw [nI_clamp (by omega)]) dL_law_615 ?_
  refine g_callVI X (s_X7_at l G F I ((xs ((6 * t) + 1))) ((xs ((6 * t) + 2))) ) lk_L_53 (F.1 0 rfl).2 (F.1 0 rfl).1 rfl rfl dL_law_616 (Nat.le_of_ble_eq_true rfl) ⟨by decide, by decide⟩ ⟨by show _ ≤ 600000; omega, by show _ ≤ 7302250; omega⟩ (fun r1 L M hp => ?_)
  obtain ⟨C, D, F, I, K1, hr⟩ := hp
  have hN : NowOk (C 3) (C 27) (C 29) := by rw [(K1 3 (by decide)).1, (K1 27 (by decide)).1, (K1 29 (by decide)).1]; exact hN
  have hLK : LK act (C 103) (C 137) (C 138) (C 80) (C 82) (C 84) (C 86) := by rw [(K1 103 (by decide)).1, (K1 137 (by decide)).1, (K1 138 (by decide)).1, (K1 80 (by decide)).1, (K1 82 (by decide)).1, (K1 84 (by decide)).1, (K1 86 (by decide)).1]; exact hLK
  refine g_pop X dL_law_619 rfl ?_
  refine g_aload_n X dL_law_620 rfl (j := 1) rfl ?_
  refine g_aload_n X dL_law_621 rfl (j := 3) rfl ?_
  refine g_iload_n X dL_law_622 rfl (j := 0) rfl ?_
  refine g_iconst X dL_law_623 (v := 1) (by decide) ?_
  refine g_iadd X dL_law_624 ?_
  refine Go.top (v := .int (nI ((6 * t) + 1))) (congrArg Value.int (nI_add (6 * t) 1)) ?_
  refine g_sld X hX hbl hbA (vp_in_nI (by omega) (by omega)) (v := xs ((6 * t) + 1)) (by rw [nI_clamp (by omega)]) dL_law_625 ?_
  refine g_aload_n X dL_law_626 rfl (j := 3) rfl ?_
  refine g_iload_n X dL_law_627 rfl (j := 0) rfl ?_
  refine g_iconst X dL_law_628 (v := 2) (by decide) ?_
  refine g_iadd X dL_law_629 ?_
  refine Go.top (v := .int (nI ((6 * t) + 2))) (congrArg Value.int (nI_add (6 * t) 2)) ?_
  refine g_sld X hX hbl hbA (vp_in_nI (by omega) (by omega)) (v := xs ((6 * t) + 2)) (by rw [nI_clamp (by omega)]) dL_law_630 ?_
  refine g_callVI X (s_X8_at l G F I ((xs ((6 * t) + 1))) ((xs ((6 * t) + 2))) ) lk_L_56 (F.1 100 rfl).2 (F.1 100 rfl).1 rfl rfl dL_law_631 (Nat.le_of_ble_eq_true rfl) ⟨by decide, by decide⟩ ⟨by show _ ≤ 600000; omega, by show _ ≤ 7302250; omega⟩ (fun r2 L M hp => ?_)
  obtain ⟨C, D, F, I, K1, hr⟩ := hp
  have hN : NowOk (C 3) (C 27) (C 29) := by rw [(K1 3 (by decide)).1, (K1 27 (by decide)).1, (K1 29 (by decide)).1]; exact hN
  have hLK : LK act (C 103) (C 137) (C 138) (C 80) (C 82) (C 84) (C 86) := by rw [(K1 103 (by decide)).1, (K1 137 (by decide)).1, (K1 138 (by decide)).1, (K1 80 (by decide)).1, (K1 82 (by decide)).1, (K1 84 (by decide)).1, (K1 86 (by decide)).1]; exact hLK
  refine g_pop X dL_law_634 rfl ?_
  refine g_goto X dL_law_635 (tgt := 2393) (by decide) ?_
  refine g_widen (k1 := 210 + 10 * t) (k2 := 20400 + 400 * t) (by omega) (by omega) ?_
  exact tail L M ⟨a, act, C, D, R, F, I, HA, HR, hN, hLK, rfl, rfl⟩
set_option maxHeartbeats 4000000 in
set_option maxRecDepth 100000 in
theorem lc_10 {p : Program} {l : Launch} {e : Env} {s : State} {m : MethodId} {below : List Frame} {meth : Method} {c : Code} {G : va_G} {cy : Nat → ClassId} {A : Nat → Prop} {Q : State → Prop} {b Ln : Nat} {xs : Nat → Int32} {x0 m0 : Nat} {L : List Nat} {M : Nat → va_E} (X : Cx p s m #[Value.ref b] meth c RL cL_law 4 G cy A) (hX : va_X b Ln xs s s.heap) (hbl : b < s.heap.size) (hbA : ¬ A b) (hLn : Ln ≤ 3072) (t : Nat) (ht : 6 * t + 6 ≤ Ln) (hW : Wd cy x0 m0 L M) (tail : ∀ (L : List Nat) (M : Nat → va_E), Wd cy x0 m0 L M → Go p l e room_1 s m #[Value.ref b] below meth c 4 G A (210 + 10 * t) (20400 + 400 * t) Q L M 2393 [(3, .int (nI (6 * t))), (2, .ref m0), (1, .ref x0), (0, .ref b)] []) : Go p l e room_1 s m #[Value.ref b] below meth c 4 G A (200 + 10 * t) (20000 + 400 * t) Q L M 638 [(3, .int (nI (6 * t))), (2, .ref m0), (1, .ref x0), (0, .ref b)] [] := by
  obtain ⟨a, act, C, D, R, F, I, HA, HR, hN, hLK, e0, e1⟩ := hW
  subst e0
  subst e1
  refine g_aload_n X dL_law_638 rfl (j := 2) rfl ?_
  refine g_aload_n X dL_law_639 rfl (j := 3) rfl ?_
  refine g_iload_n X dL_law_640 rfl (j := 0) rfl ?_
  refine g_iconst X dL_law_641 (v := 1) (by decide) ?_
  refine g_iadd X dL_law_642 ?_
  refine Go.top (v := .int (nI ((6 * t) + 1))) (congrArg Value.int (nI_add (6 * t) 1)) ?_
  refine g_sld X hX hbl hbA (vp_in_nI (by omega) (by omega)) (v := xs ((6 * t) + 1)) (by rw [nI_clamp (by omega)]) dL_law_643 ?_
  refine g_aload_n X dL_law_644 rfl (j := 3) rfl ?_
  refine g_iload_n X dL_law_645 rfl (j := 0) rfl ?_
  refine g_iconst X dL_law_646 (v := 2) (by decide) ?_
  refine g_iadd X dL_law_647 ?_
  refine Go.top (v := .int (nI ((6 * t) + 2))) (congrArg Value.int (nI_add (6 * t) 2)) ?_
  refine g_sld X hX hbl hbA (vp_in_nI (by omega) (by omega)) (v := xs ((6 * t) + 2)) (by rw [nI_clamp (by omega)]) dL_law_648 ?_
  refine g_callVI X (s_X7_arm l G F I ((xs ((6 * t) + 1))) ((xs ((6 * t) + 2))) ) lk_L_57 (F.1 0 rfl).2 (F.1 0 rfl).1 rfl rfl dL_law_649 (Nat.le_of_ble_eq_true rfl) ⟨by decide, by decide⟩ ⟨by show _ ≤ 600000; omega, by show _ ≤ 7302250; omega⟩ (fun r1 L M hp => ?_)
  obtain ⟨C, D, F, I, K1, hr⟩ := hp
  have hN : NowOk (C 3) (C 27) (C 29) := by rw [(K1 3 (by decide)).1, (K1 27 (by decide)).1, (K1 29 (by decide)).1]; exact hN
  have hLK : LK act (C 103) (C 137) (C 138) (C 80) (C 82) (C 84) (C 86) := by rw [(K1 103 (by decide)).1, (K1 137 (by decide)).1, (K1 138 (by decide)).1, (K1 80 (by decide)).1, (K1 82 (by decide)).1, (K1 84 (by decide)).1, (K1 86 (by decide)).1]; exact hLK
  refine g_pop X dL_law_652 rfl ?_
  refine g_aload_n X dL_law_653 rfl (j := 1) rfl ?_
  refine g_aload_n X dL_law_654 rfl (j := 3) rfl ?_
  refine g_iload_n X dL_law_655 rfl (j := 0) rfl ?_
  refine g_iconst X dL_law_656 (v := 1) (by decide) ?_
  refine g_iadd X dL_law_657 ?_
  refine Go.top (v := .int (nI ((6 * t) + 1))) (congrArg Value.int (nI_add (6 * t) 1)) ?_
  refine g_sld X hX hbl hbA (vp_in_nI (by omega) (by omega)) (v := xs ((6 * t) + 1)) (by rw [nI_clamp (by omega)]) dL_law_658 ?_
  refine g_aload_n X dL_law_659 rfl (j := 3) rfl ?_
  refine g_iload_n X dL_law_660 rfl (j := 0) rfl ?_
  refine g_iconst X dL_law_661 (v := 2) (by decide) ?_
  refine g_iadd X dL_law_662 ?_
  refine Go.top (v := .int (nI ((6 * t) + 2))) (congrArg Value.int (nI_add (6 * t) 2)) ?_
  refine g_sld X hX hbl hbA (vp_in_nI (by omega) (by omega)) (v := xs ((6 * t) + 2)) (by rw [nI_clamp (by omega)]) dL_law_663 ?_
  refine g_callVI X (s_X8_arm l G F I ((xs ((6 * t) + 1))) ((xs ((6 * t) + 2))) ) lk_L_60 (F.1 100 rfl).2 (F.1 100 rfl).1 rfl rfl dL_law_664 (Nat.le_of_ble_eq_true rfl) ⟨by decide, by decide⟩ ⟨by show _ ≤ 600000; omega, by show _ ≤ 7302250; omega⟩ (fun r2 L M hp => ?_)
  obtain ⟨C, D, F, I, K1, hr⟩ := hp
  have hN : NowOk (C 3) (C 27) (C 29) := by rw [(K1 3 (by decide)).1, (K1 27 (by decide)).1, (K1 29 (by decide)).1]; exact hN
  have hLK : LK act (C 103) (C 137) (C 138) (C 80) (C 82) (C 84) (C 86) := by rw [(K1 103 (by decide)).1, (K1 137 (by decide)).1, (K1 138 (by decide)).1, (K1 80 (by decide)).1, (K1 82 (by decide)).1, (K1 84 (by decide)).1, (K1 86 (by decide)).1]; exact hLK
  refine g_pop X dL_law_667 rfl ?_
  refine g_goto X dL_law_668 (tgt := 2393) (by decide) ?_
  refine g_widen (k1 := 210 + 10 * t) (k2 := 20400 + 400 * t) (by omega) (by omega) ?_
  exact tail L M ⟨a, act, C, D, R, F, I, HA, HR, hN, hLK, rfl, rfl⟩
set_option maxHeartbeats 4000000 in
set_option maxRecDepth 100000 in
theorem lc_11 {p : Program} {l : Launch} {e : Env} {s : State} {m : MethodId} {below : List Frame} {meth : Method} {c : Code} {G : va_G} {cy : Nat → ClassId} {A : Nat → Prop} {Q : State → Prop} {b Ln : Nat} {xs : Nat → Int32} {x0 m0 : Nat} {L : List Nat} {M : Nat → va_E} (X : Cx p s m #[Value.ref b] meth c RL cL_law 4 G cy A) (hX : va_X b Ln xs s s.heap) (hbl : b < s.heap.size) (hbA : ¬ A b) (hLn : Ln ≤ 3072) (t : Nat) (ht : 6 * t + 6 ≤ Ln) (hW : Wd cy x0 m0 L M) (tail : ∀ (L : List Nat) (M : Nat → va_E), Wd cy x0 m0 L M → Go p l e room_1 s m #[Value.ref b] below meth c 4 G A (210 + 10 * t) (20400 + 400 * t) Q L M 2393 [(3, .int (nI (6 * t))), (2, .ref m0), (1, .ref x0), (0, .ref b)] []) : Go p l e room_1 s m #[Value.ref b] below meth c 4 G A (200 + 10 * t) (20000 + 400 * t) Q L M 671 [(3, .int (nI (6 * t))), (2, .ref m0), (1, .ref x0), (0, .ref b)] [] := by
  obtain ⟨a, act, C, D, R, F, I, HA, HR, hN, hLK, e0, e1⟩ := hW
  subst e0
  subst e1
  refine g_aload_n X dL_law_671 rfl (j := 2) rfl ?_
  refine g_aload_n X dL_law_672 rfl (j := 3) rfl ?_
  refine g_iload_n X dL_law_673 rfl (j := 0) rfl ?_
  refine g_iconst X dL_law_674 (v := 1) (by decide) ?_
  refine g_iadd X dL_law_675 ?_
  refine Go.top (v := .int (nI ((6 * t) + 1))) (congrArg Value.int (nI_add (6 * t) 1)) ?_
  refine g_sld X hX hbl hbA (vp_in_nI (by omega) (by omega)) (v := xs ((6 * t) + 1)) (by rw [nI_clamp (by omega)]) dL_law_676 ?_
  refine g_aload_n X dL_law_677 rfl (j := 3) rfl ?_
  refine g_iload_n X dL_law_678 rfl (j := 0) rfl ?_
  refine g_iconst X dL_law_679 (v := 2) (by decide) ?_
  refine g_iadd X dL_law_680 ?_
  refine Go.top (v := .int (nI ((6 * t) + 2))) (congrArg Value.int (nI_add (6 * t) 2)) ?_
  refine g_sld X hX hbl hbA (vp_in_nI (by omega) (by omega)) (v := xs ((6 * t) + 2)) (by rw [nI_clamp (by omega)]) dL_law_681 ?_
  refine g_callVI X (s_X7_here l G F I ((xs ((6 * t) + 1))) ((xs ((6 * t) + 2))) ) lk_L_61 (F.1 0 rfl).2 (F.1 0 rfl).1 rfl rfl dL_law_682 (Nat.le_of_ble_eq_true rfl) ⟨by decide, by decide⟩ ⟨by show _ ≤ 600000; omega, by show _ ≤ 7302250; omega⟩ (fun r1 L M hp => ?_)
  obtain ⟨C, D, F, I, K1, hr⟩ := hp
  have hN : NowOk (C 3) (C 27) (C 29) := by rw [(K1 3 (by decide)).1, (K1 27 (by decide)).1, (K1 29 (by decide)).1]; exact hN
  have hLK : LK act (C 103) (C 137) (C 138) (C 80) (C 82) (C 84) (C 86) := by rw [(K1 103 (by decide)).1, (K1 137 (by decide)).1, (K1 138 (by decide)).1, (K1 80 (by decide)).1, (K1 82 (by decide)).1, (K1 84 (by decide)).1, (K1 86 (by decide)).1]; exact hLK
  refine g_pop X dL_law_685 rfl ?_
  refine g_aload_n X dL_law_686 rfl (j := 1) rfl ?_
  refine g_aload_n X dL_law_687 rfl (j := 3) rfl ?_
  refine g_iload_n X dL_law_688 rfl (j := 0) rfl ?_
  refine g_iconst X dL_law_689 (v := 1) (by decide) ?_
  refine g_iadd X dL_law_690 ?_
  refine Go.top (v := .int (nI ((6 * t) + 1))) (congrArg Value.int (nI_add (6 * t) 1)) ?_
  refine g_sld X hX hbl hbA (vp_in_nI (by omega) (by omega)) (v := xs ((6 * t) + 1)) (by rw [nI_clamp (by omega)]) dL_law_691 ?_
  refine g_aload_n X dL_law_692 rfl (j := 3) rfl ?_
  refine g_iload_n X dL_law_693 rfl (j := 0) rfl ?_
  refine g_iconst X dL_law_694 (v := 2) (by decide) ?_
  refine g_iadd X dL_law_695 ?_
  refine Go.top (v := .int (nI ((6 * t) + 2))) (congrArg Value.int (nI_add (6 * t) 2)) ?_
  refine g_sld X hX hbl hbA (vp_in_nI (by omega) (by omega)) (v := xs ((6 * t) + 2)) (by rw [nI_clamp (by omega)]) dL_law_696 ?_
  refine g_callVI X (s_X8_here l G F I ((xs ((6 * t) + 1))) ((xs ((6 * t) + 2))) ) lk_L_64 (F.1 100 rfl).2 (F.1 100 rfl).1 rfl rfl dL_law_697 (Nat.le_of_ble_eq_true rfl) ⟨by decide, by decide⟩ ⟨by show _ ≤ 600000; omega, by show _ ≤ 7302250; omega⟩ (fun r2 L M hp => ?_)
  obtain ⟨C, D, F, I, K1, hr⟩ := hp
  have hN : NowOk (C 3) (C 27) (C 29) := by rw [(K1 3 (by decide)).1, (K1 27 (by decide)).1, (K1 29 (by decide)).1]; exact hN
  have hLK : LK act (C 103) (C 137) (C 138) (C 80) (C 82) (C 84) (C 86) := by rw [(K1 103 (by decide)).1, (K1 137 (by decide)).1, (K1 138 (by decide)).1, (K1 80 (by decide)).1, (K1 82 (by decide)).1, (K1 84 (by decide)).1, (K1 86 (by decide)).1]; exact hLK
  refine g_pop X dL_law_700 rfl ?_
  refine g_goto X dL_law_701 (tgt := 2393) (by decide) ?_
  refine g_widen (k1 := 210 + 10 * t) (k2 := 20400 + 400 * t) (by omega) (by omega) ?_
  exact tail L M ⟨a, act, C, D, R, F, I, HA, HR, hN, hLK, rfl, rfl⟩
set_option maxHeartbeats 4000000 in
set_option maxRecDepth 100000 in
theorem lc_12 {p : Program} {l : Launch} {e : Env} {s : State} {m : MethodId} {below : List Frame} {meth : Method} {c : Code} {G : va_G} {cy : Nat → ClassId} {A : Nat → Prop} {Q : State → Prop} {b Ln : Nat} {xs : Nat → Int32} {x0 m0 : Nat} {L : List Nat} {M : Nat → va_E} (X : Cx p s m #[Value.ref b] meth c RL cL_law 4 G cy A) (hX : va_X b Ln xs s s.heap) (hbl : b < s.heap.size) (hbA : ¬ A b) (hLn : Ln ≤ 3072) (t : Nat) (ht : 6 * t + 6 ≤ Ln) (hW : Wd cy x0 m0 L M) (tail : ∀ (L : List Nat) (M : Nat → va_E), Wd cy x0 m0 L M → Go p l e room_1 s m #[Value.ref b] below meth c 4 G A (210 + 10 * t) (20400 + 400 * t) Q L M 2393 [(3, .int (nI (6 * t))), (2, .ref m0), (1, .ref x0), (0, .ref b)] []) : Go p l e room_1 s m #[Value.ref b] below meth c 4 G A (200 + 10 * t) (20000 + 400 * t) Q L M 704 [(3, .int (nI (6 * t))), (2, .ref m0), (1, .ref x0), (0, .ref b)] [] := by
  obtain ⟨a, act, C, D, R, F, I, HA, HR, hN, hLK, e0, e1⟩ := hW
  subst e0
  subst e1
  refine g_aload_n X dL_law_704 rfl (j := 2) rfl ?_
  refine g_aload_n X dL_law_705 rfl (j := 3) rfl ?_
  refine g_iload_n X dL_law_706 rfl (j := 0) rfl ?_
  refine g_iconst X dL_law_707 (v := 1) (by decide) ?_
  refine g_iadd X dL_law_708 ?_
  refine Go.top (v := .int (nI ((6 * t) + 1))) (congrArg Value.int (nI_add (6 * t) 1)) ?_
  refine g_sld X hX hbl hbA (vp_in_nI (by omega) (by omega)) (v := xs ((6 * t) + 1)) (by rw [nI_clamp (by omega)]) dL_law_709 ?_
  refine g_callVI X (s_X7_sent l G F I ((xs ((6 * t) + 1))) ) lk_L_65 (F.1 0 rfl).2 (F.1 0 rfl).1 rfl rfl dL_law_710 (Nat.le_of_ble_eq_true rfl) ⟨by decide, by decide⟩ ⟨by show _ ≤ 600000; omega, by show _ ≤ 7302250; omega⟩ (fun r1 L M hp => ?_)
  obtain ⟨C, D, F, I, K1, hr⟩ := hp
  have hN : NowOk (C 3) (C 27) (C 29) := by rw [(K1 3 (by decide)).1, (K1 27 (by decide)).1, (K1 29 (by decide)).1]; exact hN
  have hLK : LK act (C 103) (C 137) (C 138) (C 80) (C 82) (C 84) (C 86) := by rw [(K1 103 (by decide)).1, (K1 137 (by decide)).1, (K1 138 (by decide)).1, (K1 80 (by decide)).1, (K1 82 (by decide)).1, (K1 84 (by decide)).1, (K1 86 (by decide)).1]; exact hLK
  refine g_pop X dL_law_713 rfl ?_
  refine g_aload_n X dL_law_714 rfl (j := 1) rfl ?_
  refine g_aload_n X dL_law_715 rfl (j := 3) rfl ?_
  refine g_iload_n X dL_law_716 rfl (j := 0) rfl ?_
  refine g_iconst X dL_law_717 (v := 1) (by decide) ?_
  refine g_iadd X dL_law_718 ?_
  refine Go.top (v := .int (nI ((6 * t) + 1))) (congrArg Value.int (nI_add (6 * t) 1)) ?_
  refine g_sld X hX hbl hbA (vp_in_nI (by omega) (by omega)) (v := xs ((6 * t) + 1)) (by rw [nI_clamp (by omega)]) dL_law_719 ?_
  refine g_callVI X (s_X8_sent l G F I ((xs ((6 * t) + 1))) ) lk_L_68 (F.1 100 rfl).2 (F.1 100 rfl).1 rfl rfl dL_law_720 (Nat.le_of_ble_eq_true rfl) ⟨by decide, by decide⟩ ⟨by show _ ≤ 600000; omega, by show _ ≤ 7302250; omega⟩ (fun r2 L M hp => ?_)
  obtain ⟨C, D, F, I, K1, hr⟩ := hp
  have hN : NowOk (C 3) (C 27) (C 29) := by rw [(K1 3 (by decide)).1, (K1 27 (by decide)).1, (K1 29 (by decide)).1]; exact hN
  have hLK : LK act (C 103) (C 137) (C 138) (C 80) (C 82) (C 84) (C 86) := by rw [(K1 103 (by decide)).1, (K1 137 (by decide)).1, (K1 138 (by decide)).1, (K1 80 (by decide)).1, (K1 82 (by decide)).1, (K1 84 (by decide)).1, (K1 86 (by decide)).1]; exact hLK
  refine g_pop X dL_law_723 rfl ?_
  refine g_goto X dL_law_724 (tgt := 2393) (by decide) ?_
  refine g_widen (k1 := 210 + 10 * t) (k2 := 20400 + 400 * t) (by omega) (by omega) ?_
  exact tail L M ⟨a, act, C, D, R, F, I, HA, HR, hN, hLK, rfl, rfl⟩
set_option maxHeartbeats 4000000 in
set_option maxRecDepth 100000 in
theorem lc_13 {p : Program} {l : Launch} {e : Env} {s : State} {m : MethodId} {below : List Frame} {meth : Method} {c : Code} {G : va_G} {cy : Nat → ClassId} {A : Nat → Prop} {Q : State → Prop} {b Ln : Nat} {xs : Nat → Int32} {x0 m0 : Nat} {L : List Nat} {M : Nat → va_E} (X : Cx p s m #[Value.ref b] meth c RL cL_law 4 G cy A) (hX : va_X b Ln xs s s.heap) (hbl : b < s.heap.size) (hbA : ¬ A b) (hLn : Ln ≤ 3072) (t : Nat) (ht : 6 * t + 6 ≤ Ln) (hW : Wd cy x0 m0 L M) (tail : ∀ (L : List Nat) (M : Nat → va_E), Wd cy x0 m0 L M → Go p l e room_1 s m #[Value.ref b] below meth c 4 G A (210 + 10 * t) (20400 + 400 * t) Q L M 2393 [(3, .int (nI (6 * t))), (2, .ref m0), (1, .ref x0), (0, .ref b)] []) : Go p l e room_1 s m #[Value.ref b] below meth c 4 G A (200 + 10 * t) (20000 + 400 * t) Q L M 727 [(3, .int (nI (6 * t))), (2, .ref m0), (1, .ref x0), (0, .ref b)] [] := by
  obtain ⟨a, act, C, D, R, F, I, HA, HR, hN, hLK, e0, e1⟩ := hW
  subst e0
  subst e1
  refine g_aload_n X dL_law_727 rfl (j := 2) rfl ?_
  refine g_aload_n X dL_law_728 rfl (j := 3) rfl ?_
  refine g_iload_n X dL_law_729 rfl (j := 0) rfl ?_
  refine g_iconst X dL_law_730 (v := 1) (by decide) ?_
  refine g_iadd X dL_law_731 ?_
  refine Go.top (v := .int (nI ((6 * t) + 1))) (congrArg Value.int (nI_add (6 * t) 1)) ?_
  refine g_sld X hX hbl hbA (vp_in_nI (by omega) (by omega)) (v := xs ((6 * t) + 1)) (by rw [nI_clamp (by omega)]) dL_law_732 ?_
  refine g_callVI X (s_X7_sends l G F I ((xs ((6 * t) + 1))) ) lk_L_69 (F.1 0 rfl).2 (F.1 0 rfl).1 rfl rfl dL_law_733 (Nat.le_of_ble_eq_true rfl) ⟨by decide, by decide⟩ ⟨by show _ ≤ 600000; omega, by show _ ≤ 7302250; omega⟩ (fun r1 L M hp => ?_)
  obtain ⟨C, D, F, I, K1, hr⟩ := hp
  have hN : NowOk (C 3) (C 27) (C 29) := by rw [(K1 3 (by decide)).1, (K1 27 (by decide)).1, (K1 29 (by decide)).1]; exact hN
  have hLK : LK act (C 103) (C 137) (C 138) (C 80) (C 82) (C 84) (C 86) := by rw [(K1 103 (by decide)).1, (K1 137 (by decide)).1, (K1 138 (by decide)).1, (K1 80 (by decide)).1, (K1 82 (by decide)).1, (K1 84 (by decide)).1, (K1 86 (by decide)).1]; exact hLK
  refine g_pop X dL_law_736 rfl ?_
  refine g_aload_n X dL_law_737 rfl (j := 1) rfl ?_
  refine g_aload_n X dL_law_738 rfl (j := 3) rfl ?_
  refine g_iload_n X dL_law_739 rfl (j := 0) rfl ?_
  refine g_iconst X dL_law_740 (v := 1) (by decide) ?_
  refine g_iadd X dL_law_741 ?_
  refine Go.top (v := .int (nI ((6 * t) + 1))) (congrArg Value.int (nI_add (6 * t) 1)) ?_
  refine g_sld X hX hbl hbA (vp_in_nI (by omega) (by omega)) (v := xs ((6 * t) + 1)) (by rw [nI_clamp (by omega)]) dL_law_742 ?_
  refine g_callVI X (s_X8_sends l G F I ((xs ((6 * t) + 1))) ) lk_L_72 (F.1 100 rfl).2 (F.1 100 rfl).1 rfl rfl dL_law_743 (Nat.le_of_ble_eq_true rfl) ⟨by decide, by decide⟩ ⟨by show _ ≤ 600000; omega, by show _ ≤ 7302250; omega⟩ (fun r2 L M hp => ?_)
  obtain ⟨C, D, F, I, K1, hr⟩ := hp
  have hN : NowOk (C 3) (C 27) (C 29) := by rw [(K1 3 (by decide)).1, (K1 27 (by decide)).1, (K1 29 (by decide)).1]; exact hN
  have hLK : LK act (C 103) (C 137) (C 138) (C 80) (C 82) (C 84) (C 86) := by rw [(K1 103 (by decide)).1, (K1 137 (by decide)).1, (K1 138 (by decide)).1, (K1 80 (by decide)).1, (K1 82 (by decide)).1, (K1 84 (by decide)).1, (K1 86 (by decide)).1]; exact hLK
  refine g_pop X dL_law_746 rfl ?_
  refine g_goto X dL_law_747 (tgt := 2393) (by decide) ?_
  refine g_widen (k1 := 210 + 10 * t) (k2 := 20400 + 400 * t) (by omega) (by omega) ?_
  exact tail L M ⟨a, act, C, D, R, F, I, HA, HR, hN, hLK, rfl, rfl⟩
set_option maxHeartbeats 4000000 in
set_option maxRecDepth 100000 in
theorem lc_14 {p : Program} {l : Launch} {e : Env} {s : State} {m : MethodId} {below : List Frame} {meth : Method} {c : Code} {G : va_G} {cy : Nat → ClassId} {A : Nat → Prop} {Q : State → Prop} {b Ln : Nat} {xs : Nat → Int32} {x0 m0 : Nat} {L : List Nat} {M : Nat → va_E} (X : Cx p s m #[Value.ref b] meth c RL cL_law 4 G cy A) (hX : va_X b Ln xs s s.heap) (hbl : b < s.heap.size) (hbA : ¬ A b) (hLn : Ln ≤ 3072) (t : Nat) (ht : 6 * t + 6 ≤ Ln) (hW : Wd cy x0 m0 L M) (tail : ∀ (L : List Nat) (M : Nat → va_E), Wd cy x0 m0 L M → Go p l e room_1 s m #[Value.ref b] below meth c 4 G A (210 + 10 * t) (20400 + 400 * t) Q L M 2393 [(3, .int (nI (6 * t))), (2, .ref m0), (1, .ref x0), (0, .ref b)] []) : Go p l e room_1 s m #[Value.ref b] below meth c 4 G A (200 + 10 * t) (20000 + 400 * t) Q L M 750 [(3, .int (nI (6 * t))), (2, .ref m0), (1, .ref x0), (0, .ref b)] [] := by
  obtain ⟨a, act, C, D, R, F, I, HA, HR, hN, hLK, e0, e1⟩ := hW
  subst e0
  subst e1
  refine g_aload_n X dL_law_750 rfl (j := 2) rfl ?_
  refine g_aload_n X dL_law_751 rfl (j := 3) rfl ?_
  refine g_iload_n X dL_law_752 rfl (j := 0) rfl ?_
  refine g_iconst X dL_law_753 (v := 1) (by decide) ?_
  refine g_iadd X dL_law_754 ?_
  refine Go.top (v := .int (nI ((6 * t) + 1))) (congrArg Value.int (nI_add (6 * t) 1)) ?_
  refine g_sld X hX hbl hbA (vp_in_nI (by omega) (by omega)) (v := xs ((6 * t) + 1)) (by rw [nI_clamp (by omega)]) dL_law_755 ?_
  refine g_aload_n X dL_law_756 rfl (j := 3) rfl ?_
  refine g_iload_n X dL_law_757 rfl (j := 0) rfl ?_
  refine g_iconst X dL_law_758 (v := 2) (by decide) ?_
  refine g_iadd X dL_law_759 ?_
  refine Go.top (v := .int (nI ((6 * t) + 2))) (congrArg Value.int (nI_add (6 * t) 2)) ?_
  refine g_sld X hX hbl hbA (vp_in_nI (by omega) (by omega)) (v := xs ((6 * t) + 2)) (by rw [nI_clamp (by omega)]) dL_law_760 ?_
  refine g_callVI X (s_X7_used l G F I ((xs ((6 * t) + 1))) ((xs ((6 * t) + 2))) ) lk_L_73 (F.1 0 rfl).2 (F.1 0 rfl).1 rfl rfl dL_law_761 (Nat.le_of_ble_eq_true rfl) ⟨by decide, by decide⟩ ⟨by show _ ≤ 600000; omega, by show _ ≤ 7302250; omega⟩ (fun r1 L M hp => ?_)
  obtain ⟨C, D, F, I, K1, hr⟩ := hp
  have hN : NowOk (C 3) (C 27) (C 29) := by rw [(K1 3 (by decide)).1, (K1 27 (by decide)).1, (K1 29 (by decide)).1]; exact hN
  have hLK : LK act (C 103) (C 137) (C 138) (C 80) (C 82) (C 84) (C 86) := by rw [(K1 103 (by decide)).1, (K1 137 (by decide)).1, (K1 138 (by decide)).1, (K1 80 (by decide)).1, (K1 82 (by decide)).1, (K1 84 (by decide)).1, (K1 86 (by decide)).1]; exact hLK
  refine g_pop X dL_law_764 rfl ?_
  refine g_aload_n X dL_law_765 rfl (j := 1) rfl ?_
  refine g_aload_n X dL_law_766 rfl (j := 3) rfl ?_
  refine g_iload_n X dL_law_767 rfl (j := 0) rfl ?_
  refine g_iconst X dL_law_768 (v := 1) (by decide) ?_
  refine g_iadd X dL_law_769 ?_
  refine Go.top (v := .int (nI ((6 * t) + 1))) (congrArg Value.int (nI_add (6 * t) 1)) ?_
  refine g_sld X hX hbl hbA (vp_in_nI (by omega) (by omega)) (v := xs ((6 * t) + 1)) (by rw [nI_clamp (by omega)]) dL_law_770 ?_
  refine g_aload_n X dL_law_771 rfl (j := 3) rfl ?_
  refine g_iload_n X dL_law_772 rfl (j := 0) rfl ?_
  refine g_iconst X dL_law_773 (v := 2) (by decide) ?_
  refine g_iadd X dL_law_774 ?_
  refine Go.top (v := .int (nI ((6 * t) + 2))) (congrArg Value.int (nI_add (6 * t) 2)) ?_
  refine g_sld X hX hbl hbA (vp_in_nI (by omega) (by omega)) (v := xs ((6 * t) + 2)) (by rw [nI_clamp (by omega)]) dL_law_775 ?_
  refine g_callVI X (s_X8_used l G F I ((xs ((6 * t) + 1))) ((xs ((6 * t) + 2))) ) lk_L_76 (F.1 100 rfl).2 (F.1 100 rfl).1 rfl rfl dL_law_776 (Nat.le_of_ble_eq_true rfl) ⟨by decide, by decide⟩ ⟨by show _ ≤ 600000; omega, by show _ ≤ 7302250; omega⟩ (fun r2 L M hp => ?_)
  obtain ⟨C, D, F, I, K1, hr⟩ := hp
  have hN : NowOk (C 3) (C 27) (C 29) := by rw [(K1 3 (by decide)).1, (K1 27 (by decide)).1, (K1 29 (by decide)).1]; exact hN
  have hLK : LK act (C 103) (C 137) (C 138) (C 80) (C 82) (C 84) (C 86) := by rw [(K1 103 (by decide)).1, (K1 137 (by decide)).1, (K1 138 (by decide)).1, (K1 80 (by decide)).1, (K1 82 (by decide)).1, (K1 84 (by decide)).1, (K1 86 (by decide)).1]; exact hLK
  refine g_pop X dL_law_779 rfl ?_
  refine g_goto X dL_law_780 (tgt := 2393) (by decide) ?_
  refine g_widen (k1 := 210 + 10 * t) (k2 := 20400 + 400 * t) (by omega) (by omega) ?_
  exact tail L M ⟨a, act, C, D, R, F, I, HA, HR, hN, hLK, rfl, rfl⟩
set_option maxHeartbeats 4000000 in
set_option maxRecDepth 100000 in
theorem lc_15 {p : Program} {l : Launch} {e : Env} {s : State} {m : MethodId} {below : List Frame} {meth : Method} {c : Code} {G : va_G} {cy : Nat → ClassId} {A : Nat → Prop} {Q : State → Prop} {b Ln : Nat} {xs : Nat → Int32} {x0 m0 : Nat} {L : List Nat} {M : Nat → va_E} (X : Cx p s m #[Value.ref b] meth c RL cL_law 4 G cy A) (hX : va_X b Ln xs s s.heap) (hbl : b < s.heap.size) (hbA : ¬ A b) (hLn : Ln ≤ 3072) (t : Nat) (ht : 6 * t + 6 ≤ Ln) (hW : Wd cy x0 m0 L M) (tail : ∀ (L : List Nat) (M : Nat → va_E), Wd cy x0 m0 L M → Go p l e room_1 s m #[Value.ref b] below meth c 4 G A (210 + 10 * t) (20400 + 400 * t) Q L M 2393 [(3, .int (nI (6 * t))), (2, .ref m0), (1, .ref x0), (0, .ref b)] []) : Go p l e room_1 s m #[Value.ref b] below meth c 4 G A (200 + 10 * t) (20000 + 400 * t) Q L M 783 [(3, .int (nI (6 * t))), (2, .ref m0), (1, .ref x0), (0, .ref b)] [] := by
  obtain ⟨a, act, C, D, R, F, I, HA, HR, hN, hLK, e0, e1⟩ := hW
  subst e0
  subst e1
  refine g_aload_n X dL_law_783 rfl (j := 2) rfl ?_
  refine g_aload_n X dL_law_784 rfl (j := 3) rfl ?_
  refine g_iload_n X dL_law_785 rfl (j := 0) rfl ?_
  refine g_iconst X dL_law_786 (v := 1) (by decide) ?_
  refine g_iadd X dL_law_787 ?_
  refine Go.top (v := .int (nI ((6 * t) + 1))) (congrArg Value.int (nI_add (6 * t) 1)) ?_
  refine g_sld X hX hbl hbA (vp_in_nI (by omega) (by omega)) (v := xs ((6 * t) + 1)) (by rw [nI_clamp (by omega)]) dL_law_788 ?_
  refine g_callVI X (s_X7_walks l G F I ((xs ((6 * t) + 1))) ) lk_L_77 (F.1 0 rfl).2 (F.1 0 rfl).1 rfl rfl dL_law_789 (Nat.le_of_ble_eq_true rfl) ⟨by decide, by decide⟩ ⟨by show _ ≤ 600000; omega, by show _ ≤ 7302250; omega⟩ (fun r1 L M hp => ?_)
  obtain ⟨C, D, F, I, K1, hr⟩ := hp
  have hN : NowOk (C 3) (C 27) (C 29) := by rw [(K1 3 (by decide)).1, (K1 27 (by decide)).1, (K1 29 (by decide)).1]; exact hN
  have hLK : LK act (C 103) (C 137) (C 138) (C 80) (C 82) (C 84) (C 86) := by rw [(K1 103 (by decide)).1, (K1 137 (by decide)).1, (K1 138 (by decide)).1, (K1 80 (by decide)).1, (K1 82 (by decide)).1, (K1 84 (by decide)).1, (K1 86 (by decide)).1]; exact hLK
  refine g_pop X dL_law_792 rfl ?_
  refine g_aload_n X dL_law_793 rfl (j := 1) rfl ?_
  refine g_aload_n X dL_law_794 rfl (j := 3) rfl ?_
  refine g_iload_n X dL_law_795 rfl (j := 0) rfl ?_
  refine g_iconst X dL_law_796 (v := 1) (by decide) ?_
  refine g_iadd X dL_law_797 ?_
  refine Go.top (v := .int (nI ((6 * t) + 1))) (congrArg Value.int (nI_add (6 * t) 1)) ?_
  refine g_sld X hX hbl hbA (vp_in_nI (by omega) (by omega)) (v := xs ((6 * t) + 1)) (by rw [nI_clamp (by omega)]) dL_law_798 ?_
  refine g_callVI X (s_X8_walks l G F I ((xs ((6 * t) + 1))) ) lk_L_80 (F.1 100 rfl).2 (F.1 100 rfl).1 rfl rfl dL_law_799 (Nat.le_of_ble_eq_true rfl) ⟨by decide, by decide⟩ ⟨by show _ ≤ 600000; omega, by show _ ≤ 7302250; omega⟩ (fun r2 L M hp => ?_)
  obtain ⟨C, D, F, I, K1, hr⟩ := hp
  have hN : NowOk (C 3) (C 27) (C 29) := by rw [(K1 3 (by decide)).1, (K1 27 (by decide)).1, (K1 29 (by decide)).1]; exact hN
  have hLK : LK act (C 103) (C 137) (C 138) (C 80) (C 82) (C 84) (C 86) := by rw [(K1 103 (by decide)).1, (K1 137 (by decide)).1, (K1 138 (by decide)).1, (K1 80 (by decide)).1, (K1 82 (by decide)).1, (K1 84 (by decide)).1, (K1 86 (by decide)).1]; exact hLK
  refine g_pop X dL_law_802 rfl ?_
  refine g_goto X dL_law_803 (tgt := 2393) (by decide) ?_
  refine g_widen (k1 := 210 + 10 * t) (k2 := 20400 + 400 * t) (by omega) (by omega) ?_
  exact tail L M ⟨a, act, C, D, R, F, I, HA, HR, hN, hLK, rfl, rfl⟩
set_option maxHeartbeats 4000000 in
set_option maxRecDepth 100000 in
theorem lc_16 {p : Program} {l : Launch} {e : Env} {s : State} {m : MethodId} {below : List Frame} {meth : Method} {c : Code} {G : va_G} {cy : Nat → ClassId} {A : Nat → Prop} {Q : State → Prop} {b Ln : Nat} {xs : Nat → Int32} {x0 m0 : Nat} {L : List Nat} {M : Nat → va_E} (X : Cx p s m #[Value.ref b] meth c RL cL_law 4 G cy A) (hX : va_X b Ln xs s s.heap) (hbl : b < s.heap.size) (hbA : ¬ A b) (hLn : Ln ≤ 3072) (t : Nat) (ht : 6 * t + 6 ≤ Ln) (hW : Wd cy x0 m0 L M) (tail : ∀ (L : List Nat) (M : Nat → va_E), Wd cy x0 m0 L M → Go p l e room_1 s m #[Value.ref b] below meth c 4 G A (210 + 10 * t) (20400 + 400 * t) Q L M 2393 [(3, .int (nI (6 * t))), (2, .ref m0), (1, .ref x0), (0, .ref b)] []) : Go p l e room_1 s m #[Value.ref b] below meth c 4 G A (200 + 10 * t) (20000 + 400 * t) Q L M 806 [(3, .int (nI (6 * t))), (2, .ref m0), (1, .ref x0), (0, .ref b)] [] := by
  obtain ⟨a, act, C, D, R, F, I, HA, HR, hN, hLK, e0, e1⟩ := hW
  subst e0
  subst e1
  refine g_aload_n X dL_law_806 rfl (j := 2) rfl ?_
  refine g_aload_n X dL_law_807 rfl (j := 3) rfl ?_
  refine g_iload_n X dL_law_808 rfl (j := 0) rfl ?_
  refine g_iconst X dL_law_809 (v := 1) (by decide) ?_
  refine g_iadd X dL_law_810 ?_
  refine Go.top (v := .int (nI ((6 * t) + 1))) (congrArg Value.int (nI_add (6 * t) 1)) ?_
  refine g_sld X hX hbl hbA (vp_in_nI (by omega) (by omega)) (v := xs ((6 * t) + 1)) (by rw [nI_clamp (by omega)]) dL_law_811 ?_
  refine g_callVI X (s_X7_home l G F I ((xs ((6 * t) + 1))) ) lk_L_81 (F.1 0 rfl).2 (F.1 0 rfl).1 rfl rfl dL_law_812 (Nat.le_of_ble_eq_true rfl) ⟨by decide, by decide⟩ ⟨by show _ ≤ 600000; omega, by show _ ≤ 7302250; omega⟩ (fun r1 L M hp => ?_)
  obtain ⟨C, D, F, I, K1, hr⟩ := hp
  have hN : NowOk (C 3) (C 27) (C 29) := by rw [(K1 3 (by decide)).1, (K1 27 (by decide)).1, (K1 29 (by decide)).1]; exact hN
  have hLK : LK act (C 103) (C 137) (C 138) (C 80) (C 82) (C 84) (C 86) := by rw [(K1 103 (by decide)).1, (K1 137 (by decide)).1, (K1 138 (by decide)).1, (K1 80 (by decide)).1, (K1 82 (by decide)).1, (K1 84 (by decide)).1, (K1 86 (by decide)).1]; exact hLK
  refine g_pop X dL_law_815 rfl ?_
  refine g_aload_n X dL_law_816 rfl (j := 1) rfl ?_
  refine g_aload_n X dL_law_817 rfl (j := 3) rfl ?_
  refine g_iload_n X dL_law_818 rfl (j := 0) rfl ?_
  refine g_iconst X dL_law_819 (v := 1) (by decide) ?_
  refine g_iadd X dL_law_820 ?_
  refine Go.top (v := .int (nI ((6 * t) + 1))) (congrArg Value.int (nI_add (6 * t) 1)) ?_
  refine g_sld X hX hbl hbA (vp_in_nI (by omega) (by omega)) (v := xs ((6 * t) + 1)) (by rw [nI_clamp (by omega)]) dL_law_821 ?_
  refine g_callVI X (s_X8_home l G F I ((xs ((6 * t) + 1))) ) lk_L_84 (F.1 100 rfl).2 (F.1 100 rfl).1 rfl rfl dL_law_822 (Nat.le_of_ble_eq_true rfl) ⟨by decide, by decide⟩ ⟨by show _ ≤ 600000; omega, by show _ ≤ 7302250; omega⟩ (fun r2 L M hp => ?_)
  obtain ⟨C, D, F, I, K1, hr⟩ := hp
  have hN : NowOk (C 3) (C 27) (C 29) := by rw [(K1 3 (by decide)).1, (K1 27 (by decide)).1, (K1 29 (by decide)).1]; exact hN
  have hLK : LK act (C 103) (C 137) (C 138) (C 80) (C 82) (C 84) (C 86) := by rw [(K1 103 (by decide)).1, (K1 137 (by decide)).1, (K1 138 (by decide)).1, (K1 80 (by decide)).1, (K1 82 (by decide)).1, (K1 84 (by decide)).1, (K1 86 (by decide)).1]; exact hLK
  refine g_pop X dL_law_825 rfl ?_
  refine g_goto X dL_law_826 (tgt := 2393) (by decide) ?_
  refine g_widen (k1 := 210 + 10 * t) (k2 := 20400 + 400 * t) (by omega) (by omega) ?_
  exact tail L M ⟨a, act, C, D, R, F, I, HA, HR, hN, hLK, rfl, rfl⟩
set_option maxHeartbeats 4000000 in
set_option maxRecDepth 100000 in
theorem lc_17 {p : Program} {l : Launch} {e : Env} {s : State} {m : MethodId} {below : List Frame} {meth : Method} {c : Code} {G : va_G} {cy : Nat → ClassId} {A : Nat → Prop} {Q : State → Prop} {b Ln : Nat} {xs : Nat → Int32} {x0 m0 : Nat} {L : List Nat} {M : Nat → va_E} (X : Cx p s m #[Value.ref b] meth c RL cL_law 4 G cy A) (hX : va_X b Ln xs s s.heap) (hbl : b < s.heap.size) (hbA : ¬ A b) (hLn : Ln ≤ 3072) (t : Nat) (ht : 6 * t + 6 ≤ Ln) (hW : Wd cy x0 m0 L M) (tail : ∀ (L : List Nat) (M : Nat → va_E), Wd cy x0 m0 L M → Go p l e room_1 s m #[Value.ref b] below meth c 4 G A (210 + 10 * t) (20400 + 400 * t) Q L M 2393 [(3, .int (nI (6 * t))), (2, .ref m0), (1, .ref x0), (0, .ref b)] []) : Go p l e room_1 s m #[Value.ref b] below meth c 4 G A (200 + 10 * t) (20000 + 400 * t) Q L M 829 [(3, .int (nI (6 * t))), (2, .ref m0), (1, .ref x0), (0, .ref b)] [] := by
  obtain ⟨a, act, C, D, R, F, I, HA, HR, hN, hLK, e0, e1⟩ := hW
  subst e0
  subst e1
  refine g_aload_n X dL_law_829 rfl (j := 2) rfl ?_
  refine g_aload_n X dL_law_830 rfl (j := 3) rfl ?_
  refine g_iload_n X dL_law_831 rfl (j := 0) rfl ?_
  refine g_iconst X dL_law_832 (v := 1) (by decide) ?_
  refine g_iadd X dL_law_833 ?_
  refine Go.top (v := .int (nI ((6 * t) + 1))) (congrArg Value.int (nI_add (6 * t) 1)) ?_
  refine g_sld X hX hbl hbA (vp_in_nI (by omega) (by omega)) (v := xs ((6 * t) + 1)) (by rw [nI_clamp (by omega)]) dL_law_834 ?_
  refine g_callVI X (s_X7_inn l G F I ((xs ((6 * t) + 1))) ) lk_L_85 (F.1 0 rfl).2 (F.1 0 rfl).1 rfl rfl dL_law_835 (Nat.le_of_ble_eq_true rfl) ⟨by decide, by decide⟩ ⟨by show _ ≤ 600000; omega, by show _ ≤ 7302250; omega⟩ (fun r1 L M hp => ?_)
  obtain ⟨C, D, F, I, K1, hr⟩ := hp
  have hN : NowOk (C 3) (C 27) (C 29) := by rw [(K1 3 (by decide)).1, (K1 27 (by decide)).1, (K1 29 (by decide)).1]; exact hN
  have hLK : LK act (C 103) (C 137) (C 138) (C 80) (C 82) (C 84) (C 86) := by rw [(K1 103 (by decide)).1, (K1 137 (by decide)).1, (K1 138 (by decide)).1, (K1 80 (by decide)).1, (K1 82 (by decide)).1, (K1 84 (by decide)).1, (K1 86 (by decide)).1]; exact hLK
  refine g_pop X dL_law_838 rfl ?_
  refine g_aload_n X dL_law_839 rfl (j := 1) rfl ?_
  refine g_aload_n X dL_law_840 rfl (j := 3) rfl ?_
  refine g_iload_n X dL_law_841 rfl (j := 0) rfl ?_
  refine g_iconst X dL_law_842 (v := 1) (by decide) ?_
  refine g_iadd X dL_law_843 ?_
  refine Go.top (v := .int (nI ((6 * t) + 1))) (congrArg Value.int (nI_add (6 * t) 1)) ?_
  refine g_sld X hX hbl hbA (vp_in_nI (by omega) (by omega)) (v := xs ((6 * t) + 1)) (by rw [nI_clamp (by omega)]) dL_law_844 ?_
  refine g_callVI X (s_X8_inn l G F I ((xs ((6 * t) + 1))) ) lk_L_88 (F.1 100 rfl).2 (F.1 100 rfl).1 rfl rfl dL_law_845 (Nat.le_of_ble_eq_true rfl) ⟨by decide, by decide⟩ ⟨by show _ ≤ 600000; omega, by show _ ≤ 7302250; omega⟩ (fun r2 L M hp => ?_)
  obtain ⟨C, D, F, I, K1, hr⟩ := hp
  have hN : NowOk (C 3) (C 27) (C 29) := by rw [(K1 3 (by decide)).1, (K1 27 (by decide)).1, (K1 29 (by decide)).1]; exact hN
  have hLK : LK act (C 103) (C 137) (C 138) (C 80) (C 82) (C 84) (C 86) := by rw [(K1 103 (by decide)).1, (K1 137 (by decide)).1, (K1 138 (by decide)).1, (K1 80 (by decide)).1, (K1 82 (by decide)).1, (K1 84 (by decide)).1, (K1 86 (by decide)).1]; exact hLK
  refine g_pop X dL_law_848 rfl ?_
  refine g_goto X dL_law_849 (tgt := 2393) (by decide) ?_
  refine g_widen (k1 := 210 + 10 * t) (k2 := 20400 + 400 * t) (by omega) (by omega) ?_
  exact tail L M ⟨a, act, C, D, R, F, I, HA, HR, hN, hLK, rfl, rfl⟩
set_option maxHeartbeats 4000000 in
set_option maxRecDepth 100000 in
theorem lc_18 {p : Program} {l : Launch} {e : Env} {s : State} {m : MethodId} {below : List Frame} {meth : Method} {c : Code} {G : va_G} {cy : Nat → ClassId} {A : Nat → Prop} {Q : State → Prop} {b Ln : Nat} {xs : Nat → Int32} {x0 m0 : Nat} {L : List Nat} {M : Nat → va_E} (X : Cx p s m #[Value.ref b] meth c RL cL_law 4 G cy A) (hX : va_X b Ln xs s s.heap) (hbl : b < s.heap.size) (hbA : ¬ A b) (hLn : Ln ≤ 3072) (t : Nat) (ht : 6 * t + 6 ≤ Ln) (hW : Wd cy x0 m0 L M) (tail : ∀ (L : List Nat) (M : Nat → va_E), Wd cy x0 m0 L M → Go p l e room_1 s m #[Value.ref b] below meth c 4 G A (210 + 10 * t) (20400 + 400 * t) Q L M 2393 [(3, .int (nI (6 * t))), (2, .ref m0), (1, .ref x0), (0, .ref b)] []) : Go p l e room_1 s m #[Value.ref b] below meth c 4 G A (200 + 10 * t) (20000 + 400 * t) Q L M 852 [(3, .int (nI (6 * t))), (2, .ref m0), (1, .ref x0), (0, .ref b)] [] := by
  obtain ⟨a, act, C, D, R, F, I, HA, HR, hN, hLK, e0, e1⟩ := hW
  subst e0
  subst e1
  refine g_aload_n X dL_law_852 rfl (j := 2) rfl ?_
  refine g_aload_n X dL_law_853 rfl (j := 3) rfl ?_
  refine g_iload_n X dL_law_854 rfl (j := 0) rfl ?_
  refine g_iconst X dL_law_855 (v := 1) (by decide) ?_
  refine g_iadd X dL_law_856 ?_
  refine Go.top (v := .int (nI ((6 * t) + 1))) (congrArg Value.int (nI_add (6 * t) 1)) ?_
  refine g_sld X hX hbl hbA (vp_in_nI (by omega) (by omega)) (v := xs ((6 * t) + 1)) (by rw [nI_clamp (by omega)]) dL_law_857 ?_
  refine g_callVI X (s_X7_trail l G F I ((xs ((6 * t) + 1))) ) lk_L_89 (F.1 0 rfl).2 (F.1 0 rfl).1 rfl rfl dL_law_858 (Nat.le_of_ble_eq_true rfl) ⟨by decide, by decide⟩ ⟨by show _ ≤ 600000; omega, by show _ ≤ 7302250; omega⟩ (fun r1 L M hp => ?_)
  obtain ⟨C, D, F, I, K1, hr⟩ := hp
  have hN : NowOk (C 3) (C 27) (C 29) := by rw [(K1 3 (by decide)).1, (K1 27 (by decide)).1, (K1 29 (by decide)).1]; exact hN
  have hLK : LK act (C 103) (C 137) (C 138) (C 80) (C 82) (C 84) (C 86) := by rw [(K1 103 (by decide)).1, (K1 137 (by decide)).1, (K1 138 (by decide)).1, (K1 80 (by decide)).1, (K1 82 (by decide)).1, (K1 84 (by decide)).1, (K1 86 (by decide)).1]; exact hLK
  refine g_pop X dL_law_861 rfl ?_
  refine g_aload_n X dL_law_862 rfl (j := 1) rfl ?_
  refine g_aload_n X dL_law_863 rfl (j := 3) rfl ?_
  refine g_iload_n X dL_law_864 rfl (j := 0) rfl ?_
  refine g_iconst X dL_law_865 (v := 1) (by decide) ?_
  refine g_iadd X dL_law_866 ?_
  refine Go.top (v := .int (nI ((6 * t) + 1))) (congrArg Value.int (nI_add (6 * t) 1)) ?_
  refine g_sld X hX hbl hbA (vp_in_nI (by omega) (by omega)) (v := xs ((6 * t) + 1)) (by rw [nI_clamp (by omega)]) dL_law_867 ?_
  refine g_callVI X (s_X8_trail l G F I ((xs ((6 * t) + 1))) ) lk_L_92 (F.1 100 rfl).2 (F.1 100 rfl).1 rfl rfl dL_law_868 (Nat.le_of_ble_eq_true rfl) ⟨by decide, by decide⟩ ⟨by show _ ≤ 600000; omega, by show _ ≤ 7302250; omega⟩ (fun r2 L M hp => ?_)
  obtain ⟨C, D, F, I, K1, hr⟩ := hp
  have hN : NowOk (C 3) (C 27) (C 29) := by rw [(K1 3 (by decide)).1, (K1 27 (by decide)).1, (K1 29 (by decide)).1]; exact hN
  have hLK : LK act (C 103) (C 137) (C 138) (C 80) (C 82) (C 84) (C 86) := by rw [(K1 103 (by decide)).1, (K1 137 (by decide)).1, (K1 138 (by decide)).1, (K1 80 (by decide)).1, (K1 82 (by decide)).1, (K1 84 (by decide)).1, (K1 86 (by decide)).1]; exact hLK
  refine g_pop X dL_law_871 rfl ?_
  refine g_goto X dL_law_872 (tgt := 2393) (by decide) ?_
  refine g_widen (k1 := 210 + 10 * t) (k2 := 20400 + 400 * t) (by omega) (by omega) ?_
  exact tail L M ⟨a, act, C, D, R, F, I, HA, HR, hN, hLK, rfl, rfl⟩
set_option maxHeartbeats 4000000 in
set_option maxRecDepth 100000 in
theorem lc_19 {p : Program} {l : Launch} {e : Env} {s : State} {m : MethodId} {below : List Frame} {meth : Method} {c : Code} {G : va_G} {cy : Nat → ClassId} {A : Nat → Prop} {Q : State → Prop} {b Ln : Nat} {xs : Nat → Int32} {x0 m0 : Nat} {L : List Nat} {M : Nat → va_E} (X : Cx p s m #[Value.ref b] meth c RL cL_law 4 G cy A) (hX : va_X b Ln xs s s.heap) (hbl : b < s.heap.size) (hbA : ¬ A b) (hLn : Ln ≤ 3072) (t : Nat) (ht : 6 * t + 6 ≤ Ln) (hW : Wd cy x0 m0 L M) (tail : ∀ (L : List Nat) (M : Nat → va_E), Wd cy x0 m0 L M → Go p l e room_1 s m #[Value.ref b] below meth c 4 G A (210 + 10 * t) (20400 + 400 * t) Q L M 2393 [(3, .int (nI (6 * t))), (2, .ref m0), (1, .ref x0), (0, .ref b)] []) : Go p l e room_1 s m #[Value.ref b] below meth c 4 G A (200 + 10 * t) (20000 + 400 * t) Q L M 875 [(3, .int (nI (6 * t))), (2, .ref m0), (1, .ref x0), (0, .ref b)] [] := by
  obtain ⟨a, act, C, D, R, F, I, HA, HR, hN, hLK, e0, e1⟩ := hW
  subst e0
  subst e1
  refine g_aload_n X dL_law_875 rfl (j := 2) rfl ?_
  refine g_aload_n X dL_law_876 rfl (j := 3) rfl ?_
  refine g_iload_n X dL_law_877 rfl (j := 0) rfl ?_
  refine g_iconst X dL_law_878 (v := 1) (by decide) ?_
  refine g_iadd X dL_law_879 ?_
  refine Go.top (v := .int (nI ((6 * t) + 1))) (congrArg Value.int (nI_add (6 * t) 1)) ?_
  refine g_sld X hX hbl hbA (vp_in_nI (by omega) (by omega)) (v := xs ((6 * t) + 1)) (by rw [nI_clamp (by omega)]) dL_law_880 ?_
  refine g_callVI X (s_X7_again l G F I ((xs ((6 * t) + 1))) ) lk_L_93 (F.1 0 rfl).2 (F.1 0 rfl).1 rfl rfl dL_law_881 (Nat.le_of_ble_eq_true rfl) ⟨by decide, by decide⟩ ⟨by show _ ≤ 600000; omega, by show _ ≤ 7302250; omega⟩ (fun r1 L M hp => ?_)
  obtain ⟨C, D, F, I, K1, hr⟩ := hp
  have hN : NowOk (C 3) (C 27) (C 29) := by rw [(K1 3 (by decide)).1, (K1 27 (by decide)).1, (K1 29 (by decide)).1]; exact hN
  have hLK : LK act (C 103) (C 137) (C 138) (C 80) (C 82) (C 84) (C 86) := by rw [(K1 103 (by decide)).1, (K1 137 (by decide)).1, (K1 138 (by decide)).1, (K1 80 (by decide)).1, (K1 82 (by decide)).1, (K1 84 (by decide)).1, (K1 86 (by decide)).1]; exact hLK
  refine g_pop X dL_law_884 rfl ?_
  refine g_aload_n X dL_law_885 rfl (j := 1) rfl ?_
  refine g_aload_n X dL_law_886 rfl (j := 3) rfl ?_
  refine g_iload_n X dL_law_887 rfl (j := 0) rfl ?_
  refine g_iconst X dL_law_888 (v := 1) (by decide) ?_
  refine g_iadd X dL_law_889 ?_
  refine Go.top (v := .int (nI ((6 * t) + 1))) (congrArg Value.int (nI_add (6 * t) 1)) ?_
  refine g_sld X hX hbl hbA (vp_in_nI (by omega) (by omega)) (v := xs ((6 * t) + 1)) (by rw [nI_clamp (by omega)]) dL_law_890 ?_
  refine g_callVI X (s_X8_again l G F I ((xs ((6 * t) + 1))) ) lk_L_96 (F.1 100 rfl).2 (F.1 100 rfl).1 rfl rfl dL_law_891 (Nat.le_of_ble_eq_true rfl) ⟨by decide, by decide⟩ ⟨by show _ ≤ 600000; omega, by show _ ≤ 7302250; omega⟩ (fun r2 L M hp => ?_)
  obtain ⟨C, D, F, I, K1, hr⟩ := hp
  have hN : NowOk (C 3) (C 27) (C 29) := by rw [(K1 3 (by decide)).1, (K1 27 (by decide)).1, (K1 29 (by decide)).1]; exact hN
  have hLK : LK act (C 103) (C 137) (C 138) (C 80) (C 82) (C 84) (C 86) := by rw [(K1 103 (by decide)).1, (K1 137 (by decide)).1, (K1 138 (by decide)).1, (K1 80 (by decide)).1, (K1 82 (by decide)).1, (K1 84 (by decide)).1, (K1 86 (by decide)).1]; exact hLK
  refine g_pop X dL_law_894 rfl ?_
  refine g_goto X dL_law_895 (tgt := 2393) (by decide) ?_
  refine g_widen (k1 := 210 + 10 * t) (k2 := 20400 + 400 * t) (by omega) (by omega) ?_
  exact tail L M ⟨a, act, C, D, R, F, I, HA, HR, hN, hLK, rfl, rfl⟩
set_option maxHeartbeats 4000000 in
set_option maxRecDepth 100000 in
theorem lc_20 {p : Program} {l : Launch} {e : Env} {s : State} {m : MethodId} {below : List Frame} {meth : Method} {c : Code} {G : va_G} {cy : Nat → ClassId} {A : Nat → Prop} {Q : State → Prop} {b Ln : Nat} {xs : Nat → Int32} {x0 m0 : Nat} {L : List Nat} {M : Nat → va_E} (X : Cx p s m #[Value.ref b] meth c RL cL_law 4 G cy A) (hX : va_X b Ln xs s s.heap) (hbl : b < s.heap.size) (hbA : ¬ A b) (hLn : Ln ≤ 3072) (t : Nat) (ht : 6 * t + 6 ≤ Ln) (hW : Wd cy x0 m0 L M) (tail : ∀ (L : List Nat) (M : Nat → va_E), Wd cy x0 m0 L M → Go p l e room_1 s m #[Value.ref b] below meth c 4 G A (210 + 10 * t) (20400 + 400 * t) Q L M 2393 [(3, .int (nI (6 * t))), (2, .ref m0), (1, .ref x0), (0, .ref b)] []) : Go p l e room_1 s m #[Value.ref b] below meth c 4 G A (200 + 10 * t) (20000 + 400 * t) Q L M 898 [(3, .int (nI (6 * t))), (2, .ref m0), (1, .ref x0), (0, .ref b)] [] := by
  obtain ⟨a, act, C, D, R, F, I, HA, HR, hN, hLK, e0, e1⟩ := hW
  subst e0
  subst e1
  refine g_aload_n X dL_law_898 rfl (j := 2) rfl ?_
  refine g_aload_n X dL_law_899 rfl (j := 3) rfl ?_
  refine g_iload_n X dL_law_900 rfl (j := 0) rfl ?_
  refine g_iconst X dL_law_901 (v := 1) (by decide) ?_
  refine g_iadd X dL_law_902 ?_
  refine Go.top (v := .int (nI ((6 * t) + 1))) (congrArg Value.int (nI_add (6 * t) 1)) ?_
  refine g_sld X hX hbl hbA (vp_in_nI (by omega) (by omega)) (v := xs ((6 * t) + 1)) (by rw [nI_clamp (by omega)]) dL_law_903 ?_
  refine g_callVI X (s_X7_lingers l G F I ((xs ((6 * t) + 1))) ) lk_L_97 (F.1 0 rfl).2 (F.1 0 rfl).1 rfl rfl dL_law_904 (Nat.le_of_ble_eq_true rfl) ⟨by decide, by decide⟩ ⟨by show _ ≤ 600000; omega, by show _ ≤ 7302250; omega⟩ (fun r1 L M hp => ?_)
  obtain ⟨C, D, F, I, K1, hr⟩ := hp
  have hN : NowOk (C 3) (C 27) (C 29) := by rw [(K1 3 (by decide)).1, (K1 27 (by decide)).1, (K1 29 (by decide)).1]; exact hN
  have hLK : LK act (C 103) (C 137) (C 138) (C 80) (C 82) (C 84) (C 86) := by rw [(K1 103 (by decide)).1, (K1 137 (by decide)).1, (K1 138 (by decide)).1, (K1 80 (by decide)).1, (K1 82 (by decide)).1, (K1 84 (by decide)).1, (K1 86 (by decide)).1]; exact hLK
  refine g_pop X dL_law_907 rfl ?_
  refine g_aload_n X dL_law_908 rfl (j := 1) rfl ?_
  refine g_aload_n X dL_law_909 rfl (j := 3) rfl ?_
  refine g_iload_n X dL_law_910 rfl (j := 0) rfl ?_
  refine g_iconst X dL_law_911 (v := 1) (by decide) ?_
  refine g_iadd X dL_law_912 ?_
  refine Go.top (v := .int (nI ((6 * t) + 1))) (congrArg Value.int (nI_add (6 * t) 1)) ?_
  refine g_sld X hX hbl hbA (vp_in_nI (by omega) (by omega)) (v := xs ((6 * t) + 1)) (by rw [nI_clamp (by omega)]) dL_law_913 ?_
  refine g_callVI X (s_X8_lingers l G F I ((xs ((6 * t) + 1))) ) lk_L_100 (F.1 100 rfl).2 (F.1 100 rfl).1 rfl rfl dL_law_914 (Nat.le_of_ble_eq_true rfl) ⟨by decide, by decide⟩ ⟨by show _ ≤ 600000; omega, by show _ ≤ 7302250; omega⟩ (fun r2 L M hp => ?_)
  obtain ⟨C, D, F, I, K1, hr⟩ := hp
  have hN : NowOk (C 3) (C 27) (C 29) := by rw [(K1 3 (by decide)).1, (K1 27 (by decide)).1, (K1 29 (by decide)).1]; exact hN
  have hLK : LK act (C 103) (C 137) (C 138) (C 80) (C 82) (C 84) (C 86) := by rw [(K1 103 (by decide)).1, (K1 137 (by decide)).1, (K1 138 (by decide)).1, (K1 80 (by decide)).1, (K1 82 (by decide)).1, (K1 84 (by decide)).1, (K1 86 (by decide)).1]; exact hLK
  refine g_pop X dL_law_917 rfl ?_
  refine g_goto X dL_law_918 (tgt := 2393) (by decide) ?_
  refine g_widen (k1 := 210 + 10 * t) (k2 := 20400 + 400 * t) (by omega) (by omega) ?_
  exact tail L M ⟨a, act, C, D, R, F, I, HA, HR, hN, hLK, rfl, rfl⟩
set_option maxHeartbeats 4000000 in
set_option maxRecDepth 100000 in
theorem lc_21 {p : Program} {l : Launch} {e : Env} {s : State} {m : MethodId} {below : List Frame} {meth : Method} {c : Code} {G : va_G} {cy : Nat → ClassId} {A : Nat → Prop} {Q : State → Prop} {b Ln : Nat} {xs : Nat → Int32} {x0 m0 : Nat} {L : List Nat} {M : Nat → va_E} (X : Cx p s m #[Value.ref b] meth c RL cL_law 4 G cy A) (hX : va_X b Ln xs s s.heap) (hbl : b < s.heap.size) (hbA : ¬ A b) (hLn : Ln ≤ 3072) (t : Nat) (ht : 6 * t + 6 ≤ Ln) (hW : Wd cy x0 m0 L M) (tail : ∀ (L : List Nat) (M : Nat → va_E), Wd cy x0 m0 L M → Go p l e room_1 s m #[Value.ref b] below meth c 4 G A (210 + 10 * t) (20400 + 400 * t) Q L M 2393 [(3, .int (nI (6 * t))), (2, .ref m0), (1, .ref x0), (0, .ref b)] []) : Go p l e room_1 s m #[Value.ref b] below meth c 4 G A (200 + 10 * t) (20000 + 400 * t) Q L M 921 [(3, .int (nI (6 * t))), (2, .ref m0), (1, .ref x0), (0, .ref b)] [] := by
  obtain ⟨a, act, C, D, R, F, I, HA, HR, hN, hLK, e0, e1⟩ := hW
  subst e0
  subst e1
  refine g_aload_n X dL_law_921 rfl (j := 2) rfl ?_
  refine g_aload_n X dL_law_922 rfl (j := 3) rfl ?_
  refine g_iload_n X dL_law_923 rfl (j := 0) rfl ?_
  refine g_iconst X dL_law_924 (v := 1) (by decide) ?_
  refine g_iadd X dL_law_925 ?_
  refine Go.top (v := .int (nI ((6 * t) + 1))) (congrArg Value.int (nI_add (6 * t) 1)) ?_
  refine g_sld X hX hbl hbA (vp_in_nI (by omega) (by omega)) (v := xs ((6 * t) + 1)) (by rw [nI_clamp (by omega)]) dL_law_926 ?_
  refine g_callVI X (s_X7_doors l G F I ((xs ((6 * t) + 1))) ) lk_L_101 (F.1 0 rfl).2 (F.1 0 rfl).1 rfl rfl dL_law_927 (Nat.le_of_ble_eq_true rfl) ⟨by decide, by decide⟩ ⟨by show _ ≤ 600000; omega, by show _ ≤ 7302250; omega⟩ (fun r1 L M hp => ?_)
  obtain ⟨C, D, F, I, K1, hr⟩ := hp
  have hN : NowOk (C 3) (C 27) (C 29) := by rw [(K1 3 (by decide)).1, (K1 27 (by decide)).1, (K1 29 (by decide)).1]; exact hN
  have hLK : LK act (C 103) (C 137) (C 138) (C 80) (C 82) (C 84) (C 86) := by rw [(K1 103 (by decide)).1, (K1 137 (by decide)).1, (K1 138 (by decide)).1, (K1 80 (by decide)).1, (K1 82 (by decide)).1, (K1 84 (by decide)).1, (K1 86 (by decide)).1]; exact hLK
  refine g_pop X dL_law_930 rfl ?_
  refine g_aload_n X dL_law_931 rfl (j := 1) rfl ?_
  refine g_aload_n X dL_law_932 rfl (j := 3) rfl ?_
  refine g_iload_n X dL_law_933 rfl (j := 0) rfl ?_
  refine g_iconst X dL_law_934 (v := 1) (by decide) ?_
  refine g_iadd X dL_law_935 ?_
  refine Go.top (v := .int (nI ((6 * t) + 1))) (congrArg Value.int (nI_add (6 * t) 1)) ?_
  refine g_sld X hX hbl hbA (vp_in_nI (by omega) (by omega)) (v := xs ((6 * t) + 1)) (by rw [nI_clamp (by omega)]) dL_law_936 ?_
  refine g_callVI X (s_X8_doors l G F I ((xs ((6 * t) + 1))) ) lk_L_104 (F.1 100 rfl).2 (F.1 100 rfl).1 rfl rfl dL_law_937 (Nat.le_of_ble_eq_true rfl) ⟨by decide, by decide⟩ ⟨by show _ ≤ 600000; omega, by show _ ≤ 7302250; omega⟩ (fun r2 L M hp => ?_)
  obtain ⟨C, D, F, I, K1, hr⟩ := hp
  have hN : NowOk (C 3) (C 27) (C 29) := by rw [(K1 3 (by decide)).1, (K1 27 (by decide)).1, (K1 29 (by decide)).1]; exact hN
  have hLK : LK act (C 103) (C 137) (C 138) (C 80) (C 82) (C 84) (C 86) := by rw [(K1 103 (by decide)).1, (K1 137 (by decide)).1, (K1 138 (by decide)).1, (K1 80 (by decide)).1, (K1 82 (by decide)).1, (K1 84 (by decide)).1, (K1 86 (by decide)).1]; exact hLK
  refine g_pop X dL_law_940 rfl ?_
  refine g_goto X dL_law_941 (tgt := 2393) (by decide) ?_
  refine g_widen (k1 := 210 + 10 * t) (k2 := 20400 + 400 * t) (by omega) (by omega) ?_
  exact tail L M ⟨a, act, C, D, R, F, I, HA, HR, hN, hLK, rfl, rfl⟩
set_option maxHeartbeats 4000000 in
set_option maxRecDepth 100000 in
theorem lc_22 {p : Program} {l : Launch} {e : Env} {s : State} {m : MethodId} {below : List Frame} {meth : Method} {c : Code} {G : va_G} {cy : Nat → ClassId} {A : Nat → Prop} {Q : State → Prop} {b Ln : Nat} {xs : Nat → Int32} {x0 m0 : Nat} {L : List Nat} {M : Nat → va_E} (X : Cx p s m #[Value.ref b] meth c RL cL_law 4 G cy A) (hX : va_X b Ln xs s s.heap) (hbl : b < s.heap.size) (hbA : ¬ A b) (hLn : Ln ≤ 3072) (t : Nat) (ht : 6 * t + 6 ≤ Ln) (hW : Wd cy x0 m0 L M) (tail : ∀ (L : List Nat) (M : Nat → va_E), Wd cy x0 m0 L M → Go p l e room_1 s m #[Value.ref b] below meth c 4 G A (210 + 10 * t) (20400 + 400 * t) Q L M 2393 [(3, .int (nI (6 * t))), (2, .ref m0), (1, .ref x0), (0, .ref b)] []) : Go p l e room_1 s m #[Value.ref b] below meth c 4 G A (200 + 10 * t) (20000 + 400 * t) Q L M 944 [(3, .int (nI (6 * t))), (2, .ref m0), (1, .ref x0), (0, .ref b)] [] := by
  obtain ⟨a, act, C, D, R, F, I, HA, HR, hN, hLK, e0, e1⟩ := hW
  subst e0
  subst e1
  refine g_aload_n X dL_law_944 rfl (j := 2) rfl ?_
  refine g_aload_n X dL_law_945 rfl (j := 3) rfl ?_
  refine g_iload_n X dL_law_946 rfl (j := 0) rfl ?_
  refine g_iconst X dL_law_947 (v := 1) (by decide) ?_
  refine g_iadd X dL_law_948 ?_
  refine Go.top (v := .int (nI ((6 * t) + 1))) (congrArg Value.int (nI_add (6 * t) 1)) ?_
  refine g_sld X hX hbl hbA (vp_in_nI (by omega) (by omega)) (v := xs ((6 * t) + 1)) (by rw [nI_clamp (by omega)]) dL_law_949 ?_
  refine g_aload_n X dL_law_950 rfl (j := 3) rfl ?_
  refine g_iload_n X dL_law_951 rfl (j := 0) rfl ?_
  refine g_iconst X dL_law_952 (v := 2) (by decide) ?_
  refine g_iadd X dL_law_953 ?_
  refine Go.top (v := .int (nI ((6 * t) + 2))) (congrArg Value.int (nI_add (6 * t) 2)) ?_
  refine g_sld X hX hbl hbA (vp_in_nI (by omega) (by omega)) (v := xs ((6 * t) + 2)) (by rw [nI_clamp (by omega)]) dL_law_954 ?_
  refine g_callVI X (s_X7_guests l G F I ((xs ((6 * t) + 1))) ((xs ((6 * t) + 2))) ) lk_L_105 (F.1 0 rfl).2 (F.1 0 rfl).1 rfl rfl dL_law_955 (Nat.le_of_ble_eq_true rfl) ⟨by decide, by decide⟩ ⟨by show _ ≤ 600000; omega, by show _ ≤ 7302250; omega⟩ (fun r1 L M hp => ?_)
  obtain ⟨C, D, F, I, K1, hr⟩ := hp
  have hN : NowOk (C 3) (C 27) (C 29) := by rw [(K1 3 (by decide)).1, (K1 27 (by decide)).1, (K1 29 (by decide)).1]; exact hN
  have hLK : LK act (C 103) (C 137) (C 138) (C 80) (C 82) (C 84) (C 86) := by rw [(K1 103 (by decide)).1, (K1 137 (by decide)).1, (K1 138 (by decide)).1, (K1 80 (by decide)).1, (K1 82 (by decide)).1, (K1 84 (by decide)).1, (K1 86 (by decide)).1]; exact hLK
  refine g_pop X dL_law_958 rfl ?_
  refine g_aload_n X dL_law_959 rfl (j := 1) rfl ?_
  refine g_aload_n X dL_law_960 rfl (j := 3) rfl ?_
  refine g_iload_n X dL_law_961 rfl (j := 0) rfl ?_
  refine g_iconst X dL_law_962 (v := 1) (by decide) ?_
  refine g_iadd X dL_law_963 ?_
  refine Go.top (v := .int (nI ((6 * t) + 1))) (congrArg Value.int (nI_add (6 * t) 1)) ?_
  refine g_sld X hX hbl hbA (vp_in_nI (by omega) (by omega)) (v := xs ((6 * t) + 1)) (by rw [nI_clamp (by omega)]) dL_law_964 ?_
  refine g_aload_n X dL_law_965 rfl (j := 3) rfl ?_
  refine g_iload_n X dL_law_966 rfl (j := 0) rfl ?_
  refine g_iconst X dL_law_967 (v := 2) (by decide) ?_
  refine g_iadd X dL_law_968 ?_
  refine Go.top (v := .int (nI ((6 * t) + 2))) (congrArg Value.int (nI_add (6 * t) 2)) ?_
  refine g_sld X hX hbl hbA (vp_in_nI (by omega) (by omega)) (v := xs ((6 * t) + 2)) (by rw [nI_clamp (by omega)]) dL_law_969 ?_
  refine g_callVI X (s_X8_guests l G F I ((xs ((6 * t) + 1))) ((xs ((6 * t) + 2))) ) lk_L_108 (F.1 100 rfl).2 (F.1 100 rfl).1 rfl rfl dL_law_970 (Nat.le_of_ble_eq_true rfl) ⟨by decide, by decide⟩ ⟨by show _ ≤ 600000; omega, by show _ ≤ 7302250; omega⟩ (fun r2 L M hp => ?_)
  obtain ⟨C, D, F, I, K1, hr⟩ := hp
  have hN : NowOk (C 3) (C 27) (C 29) := by rw [(K1 3 (by decide)).1, (K1 27 (by decide)).1, (K1 29 (by decide)).1]; exact hN
  have hLK : LK act (C 103) (C 137) (C 138) (C 80) (C 82) (C 84) (C 86) := by rw [(K1 103 (by decide)).1, (K1 137 (by decide)).1, (K1 138 (by decide)).1, (K1 80 (by decide)).1, (K1 82 (by decide)).1, (K1 84 (by decide)).1, (K1 86 (by decide)).1]; exact hLK
  refine g_pop X dL_law_973 rfl ?_
  refine g_goto X dL_law_974 (tgt := 2393) (by decide) ?_
  refine g_widen (k1 := 210 + 10 * t) (k2 := 20400 + 400 * t) (by omega) (by omega) ?_
  exact tail L M ⟨a, act, C, D, R, F, I, HA, HR, hN, hLK, rfl, rfl⟩
set_option maxHeartbeats 4000000 in
set_option maxRecDepth 100000 in
theorem lc_23 {p : Program} {l : Launch} {e : Env} {s : State} {m : MethodId} {below : List Frame} {meth : Method} {c : Code} {G : va_G} {cy : Nat → ClassId} {A : Nat → Prop} {Q : State → Prop} {b Ln : Nat} {xs : Nat → Int32} {x0 m0 : Nat} {L : List Nat} {M : Nat → va_E} (X : Cx p s m #[Value.ref b] meth c RL cL_law 4 G cy A) (hX : va_X b Ln xs s s.heap) (hbl : b < s.heap.size) (hbA : ¬ A b) (hLn : Ln ≤ 3072) (t : Nat) (ht : 6 * t + 6 ≤ Ln) (hW : Wd cy x0 m0 L M) (tail : ∀ (L : List Nat) (M : Nat → va_E), Wd cy x0 m0 L M → Go p l e room_1 s m #[Value.ref b] below meth c 4 G A (210 + 10 * t) (20400 + 400 * t) Q L M 2393 [(3, .int (nI (6 * t))), (2, .ref m0), (1, .ref x0), (0, .ref b)] []) : Go p l e room_1 s m #[Value.ref b] below meth c 4 G A (200 + 10 * t) (20000 + 400 * t) Q L M 977 [(3, .int (nI (6 * t))), (2, .ref m0), (1, .ref x0), (0, .ref b)] [] := by
  obtain ⟨a, act, C, D, R, F, I, HA, HR, hN, hLK, e0, e1⟩ := hW
  subst e0
  subst e1
  refine g_aload_n X dL_law_977 rfl (j := 2) rfl ?_
  refine g_aload_n X dL_law_978 rfl (j := 3) rfl ?_
  refine g_iload_n X dL_law_979 rfl (j := 0) rfl ?_
  refine g_iconst X dL_law_980 (v := 1) (by decide) ?_
  refine g_iadd X dL_law_981 ?_
  refine Go.top (v := .int (nI ((6 * t) + 1))) (congrArg Value.int (nI_add (6 * t) 1)) ?_
  refine g_sld X hX hbl hbA (vp_in_nI (by omega) (by omega)) (v := xs ((6 * t) + 1)) (by rw [nI_clamp (by omega)]) dL_law_982 ?_
  refine g_callVI X (s_X7_full l G F I ((xs ((6 * t) + 1))) ) lk_L_109 (F.1 0 rfl).2 (F.1 0 rfl).1 rfl rfl dL_law_983 (Nat.le_of_ble_eq_true rfl) ⟨by decide, by decide⟩ ⟨by show _ ≤ 600000; omega, by show _ ≤ 7302250; omega⟩ (fun r1 L M hp => ?_)
  obtain ⟨C, D, F, I, K1, hr⟩ := hp
  have hN : NowOk (C 3) (C 27) (C 29) := by rw [(K1 3 (by decide)).1, (K1 27 (by decide)).1, (K1 29 (by decide)).1]; exact hN
  have hLK : LK act (C 103) (C 137) (C 138) (C 80) (C 82) (C 84) (C 86) := by rw [(K1 103 (by decide)).1, (K1 137 (by decide)).1, (K1 138 (by decide)).1, (K1 80 (by decide)).1, (K1 82 (by decide)).1, (K1 84 (by decide)).1, (K1 86 (by decide)).1]; exact hLK
  refine g_pop X dL_law_986 rfl ?_
  refine g_aload_n X dL_law_987 rfl (j := 1) rfl ?_
  refine g_aload_n X dL_law_988 rfl (j := 3) rfl ?_
  refine g_iload_n X dL_law_989 rfl (j := 0) rfl ?_
  refine g_iconst X dL_law_990 (v := 1) (by decide) ?_
  refine g_iadd X dL_law_991 ?_
  refine Go.top (v := .int (nI ((6 * t) + 1))) (congrArg Value.int (nI_add (6 * t) 1)) ?_
  refine g_sld X hX hbl hbA (vp_in_nI (by omega) (by omega)) (v := xs ((6 * t) + 1)) (by rw [nI_clamp (by omega)]) dL_law_992 ?_
  refine g_callVI X (s_X8_full l G F I ((xs ((6 * t) + 1))) ) lk_L_112 (F.1 100 rfl).2 (F.1 100 rfl).1 rfl rfl dL_law_993 (Nat.le_of_ble_eq_true rfl) ⟨by decide, by decide⟩ ⟨by show _ ≤ 600000; omega, by show _ ≤ 7302250; omega⟩ (fun r2 L M hp => ?_)
  obtain ⟨C, D, F, I, K1, hr⟩ := hp
  have hN : NowOk (C 3) (C 27) (C 29) := by rw [(K1 3 (by decide)).1, (K1 27 (by decide)).1, (K1 29 (by decide)).1]; exact hN
  have hLK : LK act (C 103) (C 137) (C 138) (C 80) (C 82) (C 84) (C 86) := by rw [(K1 103 (by decide)).1, (K1 137 (by decide)).1, (K1 138 (by decide)).1, (K1 80 (by decide)).1, (K1 82 (by decide)).1, (K1 84 (by decide)).1, (K1 86 (by decide)).1]; exact hLK
  refine g_pop X dL_law_996 rfl ?_
  refine g_goto X dL_law_997 (tgt := 2393) (by decide) ?_
  refine g_widen (k1 := 210 + 10 * t) (k2 := 20400 + 400 * t) (by omega) (by omega) ?_
  exact tail L M ⟨a, act, C, D, R, F, I, HA, HR, hN, hLK, rfl, rfl⟩
set_option maxHeartbeats 4000000 in
set_option maxRecDepth 100000 in
theorem lc_24 {p : Program} {l : Launch} {e : Env} {s : State} {m : MethodId} {below : List Frame} {meth : Method} {c : Code} {G : va_G} {cy : Nat → ClassId} {A : Nat → Prop} {Q : State → Prop} {b Ln : Nat} {xs : Nat → Int32} {x0 m0 : Nat} {L : List Nat} {M : Nat → va_E} (X : Cx p s m #[Value.ref b] meth c RL cL_law 4 G cy A) (hX : va_X b Ln xs s s.heap) (hbl : b < s.heap.size) (hbA : ¬ A b) (hLn : Ln ≤ 3072) (t : Nat) (ht : 6 * t + 6 ≤ Ln) (hW : Wd cy x0 m0 L M) (tail : ∀ (L : List Nat) (M : Nat → va_E), Wd cy x0 m0 L M → Go p l e room_1 s m #[Value.ref b] below meth c 4 G A (210 + 10 * t) (20400 + 400 * t) Q L M 2393 [(3, .int (nI (6 * t))), (2, .ref m0), (1, .ref x0), (0, .ref b)] []) : Go p l e room_1 s m #[Value.ref b] below meth c 4 G A (200 + 10 * t) (20000 + 400 * t) Q L M 1000 [(3, .int (nI (6 * t))), (2, .ref m0), (1, .ref x0), (0, .ref b)] [] := by
  obtain ⟨a, act, C, D, R, F, I, HA, HR, hN, hLK, e0, e1⟩ := hW
  subst e0
  subst e1
  refine g_aload_n X dL_law_1000 rfl (j := 2) rfl ?_
  refine g_aload_n X dL_law_1001 rfl (j := 3) rfl ?_
  refine g_iload_n X dL_law_1002 rfl (j := 0) rfl ?_
  refine g_iconst X dL_law_1003 (v := 1) (by decide) ?_
  refine g_iadd X dL_law_1004 ?_
  refine Go.top (v := .int (nI ((6 * t) + 1))) (congrArg Value.int (nI_add (6 * t) 1)) ?_
  refine g_sld X hX hbl hbA (vp_in_nI (by omega) (by omega)) (v := xs ((6 * t) + 1)) (by rw [nI_clamp (by omega)]) dL_law_1005 ?_
  refine g_callVI X (s_X7_refuses l G F I ((xs ((6 * t) + 1))) hN) lk_L_113 (F.1 0 rfl).2 (F.1 0 rfl).1 rfl rfl dL_law_1006 (Nat.le_of_ble_eq_true rfl) ⟨by decide, by decide⟩ ⟨by show _ ≤ 600000; omega, by show _ ≤ 7302250; omega⟩ (fun r1 L M hp => ?_)
  obtain ⟨C, D, F, I, K1, hr⟩ := hp
  have hN : NowOk (C 3) (C 27) (C 29) := by rw [(K1 3 (by decide)).1, (K1 27 (by decide)).1, (K1 29 (by decide)).1]; exact hN
  have hLK : LK act (C 103) (C 137) (C 138) (C 80) (C 82) (C 84) (C 86) := by rw [(K1 103 (by decide)).1, (K1 137 (by decide)).1, (K1 138 (by decide)).1, (K1 80 (by decide)).1, (K1 82 (by decide)).1, (K1 84 (by decide)).1, (K1 86 (by decide)).1]; exact hLK
  refine g_pop X dL_law_1009 rfl ?_
  refine g_aload_n X dL_law_1010 rfl (j := 1) rfl ?_
  refine g_aload_n X dL_law_1011 rfl (j := 3) rfl ?_
  refine g_iload_n X dL_law_1012 rfl (j := 0) rfl ?_
  refine g_iconst X dL_law_1013 (v := 1) (by decide) ?_
  refine g_iadd X dL_law_1014 ?_
  refine Go.top (v := .int (nI ((6 * t) + 1))) (congrArg Value.int (nI_add (6 * t) 1)) ?_
  refine g_sld X hX hbl hbA (vp_in_nI (by omega) (by omega)) (v := xs ((6 * t) + 1)) (by rw [nI_clamp (by omega)]) dL_law_1015 ?_
  refine g_callVI X (s_X8_refuses l G F I ((xs ((6 * t) + 1))) ) lk_L_116 (F.1 100 rfl).2 (F.1 100 rfl).1 rfl rfl dL_law_1016 (Nat.le_of_ble_eq_true rfl) ⟨by decide, by decide⟩ ⟨by show _ ≤ 600000; omega, by show _ ≤ 7302250; omega⟩ (fun r2 L M hp => ?_)
  obtain ⟨C, D, F, I, K1, hr⟩ := hp
  have hN : NowOk (C 3) (C 27) (C 29) := by rw [(K1 3 (by decide)).1, (K1 27 (by decide)).1, (K1 29 (by decide)).1]; exact hN
  have hLK : LK act (C 103) (C 137) (C 138) (C 80) (C 82) (C 84) (C 86) := by rw [(K1 103 (by decide)).1, (K1 137 (by decide)).1, (K1 138 (by decide)).1, (K1 80 (by decide)).1, (K1 82 (by decide)).1, (K1 84 (by decide)).1, (K1 86 (by decide)).1]; exact hLK
  refine g_pop X dL_law_1019 rfl ?_
  refine g_goto X dL_law_1020 (tgt := 2393) (by decide) ?_
  refine g_widen (k1 := 210 + 10 * t) (k2 := 20400 + 400 * t) (by omega) (by omega) ?_
  exact tail L M ⟨a, act, C, D, R, F, I, HA, HR, hN, hLK, rfl, rfl⟩
set_option maxHeartbeats 4000000 in
set_option maxRecDepth 100000 in
theorem lc_25 {p : Program} {l : Launch} {e : Env} {s : State} {m : MethodId} {below : List Frame} {meth : Method} {c : Code} {G : va_G} {cy : Nat → ClassId} {A : Nat → Prop} {Q : State → Prop} {b Ln : Nat} {xs : Nat → Int32} {x0 m0 : Nat} {L : List Nat} {M : Nat → va_E} (X : Cx p s m #[Value.ref b] meth c RL cL_law 4 G cy A) (hX : va_X b Ln xs s s.heap) (hbl : b < s.heap.size) (hbA : ¬ A b) (hLn : Ln ≤ 3072) (t : Nat) (ht : 6 * t + 6 ≤ Ln) (hW : Wd cy x0 m0 L M) (tail : ∀ (L : List Nat) (M : Nat → va_E), Wd cy x0 m0 L M → Go p l e room_1 s m #[Value.ref b] below meth c 4 G A (210 + 10 * t) (20400 + 400 * t) Q L M 2393 [(3, .int (nI (6 * t))), (2, .ref m0), (1, .ref x0), (0, .ref b)] []) : Go p l e room_1 s m #[Value.ref b] below meth c 4 G A (200 + 10 * t) (20000 + 400 * t) Q L M 1023 [(3, .int (nI (6 * t))), (2, .ref m0), (1, .ref x0), (0, .ref b)] [] := by
  obtain ⟨a, act, C, D, R, F, I, HA, HR, hN, hLK, e0, e1⟩ := hW
  subst e0
  subst e1
  refine g_aload_n X dL_law_1023 rfl (j := 2) rfl ?_
  refine g_aload_n X dL_law_1024 rfl (j := 3) rfl ?_
  refine g_iload_n X dL_law_1025 rfl (j := 0) rfl ?_
  refine g_iconst X dL_law_1026 (v := 1) (by decide) ?_
  refine g_iadd X dL_law_1027 ?_
  refine Go.top (v := .int (nI ((6 * t) + 1))) (congrArg Value.int (nI_add (6 * t) 1)) ?_
  refine g_sld X hX hbl hbA (vp_in_nI (by omega) (by omega)) (v := xs ((6 * t) + 1)) (by rw [nI_clamp (by omega)]) dL_law_1028 ?_
  refine g_callVI X (s_X7_inside l G F I ((xs ((6 * t) + 1))) ) lk_L_117 (F.1 0 rfl).2 (F.1 0 rfl).1 rfl rfl dL_law_1029 (Nat.le_of_ble_eq_true rfl) ⟨by decide, by decide⟩ ⟨by show _ ≤ 600000; omega, by show _ ≤ 7302250; omega⟩ (fun r1 L M hp => ?_)
  obtain ⟨C, D, F, I, K1, hr⟩ := hp
  have hN : NowOk (C 3) (C 27) (C 29) := by rw [(K1 3 (by decide)).1, (K1 27 (by decide)).1, (K1 29 (by decide)).1]; exact hN
  have hLK : LK act (C 103) (C 137) (C 138) (C 80) (C 82) (C 84) (C 86) := by rw [(K1 103 (by decide)).1, (K1 137 (by decide)).1, (K1 138 (by decide)).1, (K1 80 (by decide)).1, (K1 82 (by decide)).1, (K1 84 (by decide)).1, (K1 86 (by decide)).1]; exact hLK
  refine g_pop X dL_law_1032 rfl ?_
  refine g_aload_n X dL_law_1033 rfl (j := 1) rfl ?_
  refine g_aload_n X dL_law_1034 rfl (j := 3) rfl ?_
  refine g_iload_n X dL_law_1035 rfl (j := 0) rfl ?_
  refine g_iconst X dL_law_1036 (v := 1) (by decide) ?_
  refine g_iadd X dL_law_1037 ?_
  refine Go.top (v := .int (nI ((6 * t) + 1))) (congrArg Value.int (nI_add (6 * t) 1)) ?_
  refine g_sld X hX hbl hbA (vp_in_nI (by omega) (by omega)) (v := xs ((6 * t) + 1)) (by rw [nI_clamp (by omega)]) dL_law_1038 ?_
  refine g_callVI X (s_X8_inside l G F I ((xs ((6 * t) + 1))) ) lk_L_120 (F.1 100 rfl).2 (F.1 100 rfl).1 rfl rfl dL_law_1039 (Nat.le_of_ble_eq_true rfl) ⟨by decide, by decide⟩ ⟨by show _ ≤ 600000; omega, by show _ ≤ 7302250; omega⟩ (fun r2 L M hp => ?_)
  obtain ⟨C, D, F, I, K1, hr⟩ := hp
  have hN : NowOk (C 3) (C 27) (C 29) := by rw [(K1 3 (by decide)).1, (K1 27 (by decide)).1, (K1 29 (by decide)).1]; exact hN
  have hLK : LK act (C 103) (C 137) (C 138) (C 80) (C 82) (C 84) (C 86) := by rw [(K1 103 (by decide)).1, (K1 137 (by decide)).1, (K1 138 (by decide)).1, (K1 80 (by decide)).1, (K1 82 (by decide)).1, (K1 84 (by decide)).1, (K1 86 (by decide)).1]; exact hLK
  refine g_pop X dL_law_1042 rfl ?_
  refine g_goto X dL_law_1043 (tgt := 2393) (by decide) ?_
  refine g_widen (k1 := 210 + 10 * t) (k2 := 20400 + 400 * t) (by omega) (by omega) ?_
  exact tail L M ⟨a, act, C, D, R, F, I, HA, HR, hN, hLK, rfl, rfl⟩
set_option maxHeartbeats 4000000 in
set_option maxRecDepth 100000 in
theorem lc_26 {p : Program} {l : Launch} {e : Env} {s : State} {m : MethodId} {below : List Frame} {meth : Method} {c : Code} {G : va_G} {cy : Nat → ClassId} {A : Nat → Prop} {Q : State → Prop} {b Ln : Nat} {xs : Nat → Int32} {x0 m0 : Nat} {L : List Nat} {M : Nat → va_E} (X : Cx p s m #[Value.ref b] meth c RL cL_law 4 G cy A) (hX : va_X b Ln xs s s.heap) (hbl : b < s.heap.size) (hbA : ¬ A b) (hLn : Ln ≤ 3072) (t : Nat) (ht : 6 * t + 6 ≤ Ln) (hW : Wd cy x0 m0 L M) (tail : ∀ (L : List Nat) (M : Nat → va_E), Wd cy x0 m0 L M → Go p l e room_1 s m #[Value.ref b] below meth c 4 G A (210 + 10 * t) (20400 + 400 * t) Q L M 2393 [(3, .int (nI (6 * t))), (2, .ref m0), (1, .ref x0), (0, .ref b)] []) : Go p l e room_1 s m #[Value.ref b] below meth c 4 G A (200 + 10 * t) (20000 + 400 * t) Q L M 1046 [(3, .int (nI (6 * t))), (2, .ref m0), (1, .ref x0), (0, .ref b)] [] := by
  obtain ⟨a, act, C, D, R, F, I, HA, HR, hN, hLK, e0, e1⟩ := hW
  subst e0
  subst e1
  refine g_aload_n X dL_law_1046 rfl (j := 2) rfl ?_
  refine g_aload_n X dL_law_1047 rfl (j := 3) rfl ?_
  refine g_iload_n X dL_law_1048 rfl (j := 0) rfl ?_
  refine g_iconst X dL_law_1049 (v := 1) (by decide) ?_
  refine g_iadd X dL_law_1050 ?_
  refine Go.top (v := .int (nI ((6 * t) + 1))) (congrArg Value.int (nI_add (6 * t) 1)) ?_
  refine g_sld X hX hbl hbA (vp_in_nI (by omega) (by omega)) (v := xs ((6 * t) + 1)) (by rw [nI_clamp (by omega)]) dL_law_1051 ?_
  refine g_callVI X (s_X7_outside l G F I ((xs ((6 * t) + 1))) ) lk_L_121 (F.1 0 rfl).2 (F.1 0 rfl).1 rfl rfl dL_law_1052 (Nat.le_of_ble_eq_true rfl) ⟨by decide, by decide⟩ ⟨by show _ ≤ 600000; omega, by show _ ≤ 7302250; omega⟩ (fun r1 L M hp => ?_)
  obtain ⟨C, D, F, I, K1, hr⟩ := hp
  have hN : NowOk (C 3) (C 27) (C 29) := by rw [(K1 3 (by decide)).1, (K1 27 (by decide)).1, (K1 29 (by decide)).1]; exact hN
  have hLK : LK act (C 103) (C 137) (C 138) (C 80) (C 82) (C 84) (C 86) := by rw [(K1 103 (by decide)).1, (K1 137 (by decide)).1, (K1 138 (by decide)).1, (K1 80 (by decide)).1, (K1 82 (by decide)).1, (K1 84 (by decide)).1, (K1 86 (by decide)).1]; exact hLK
  refine g_pop X dL_law_1055 rfl ?_
  refine g_aload_n X dL_law_1056 rfl (j := 1) rfl ?_
  refine g_aload_n X dL_law_1057 rfl (j := 3) rfl ?_
  refine g_iload_n X dL_law_1058 rfl (j := 0) rfl ?_
  refine g_iconst X dL_law_1059 (v := 1) (by decide) ?_
  refine g_iadd X dL_law_1060 ?_
  refine Go.top (v := .int (nI ((6 * t) + 1))) (congrArg Value.int (nI_add (6 * t) 1)) ?_
  refine g_sld X hX hbl hbA (vp_in_nI (by omega) (by omega)) (v := xs ((6 * t) + 1)) (by rw [nI_clamp (by omega)]) dL_law_1061 ?_
  refine g_callVI X (s_X8_outside l G F I ((xs ((6 * t) + 1))) ) lk_L_124 (F.1 100 rfl).2 (F.1 100 rfl).1 rfl rfl dL_law_1062 (Nat.le_of_ble_eq_true rfl) ⟨by decide, by decide⟩ ⟨by show _ ≤ 600000; omega, by show _ ≤ 7302250; omega⟩ (fun r2 L M hp => ?_)
  obtain ⟨C, D, F, I, K1, hr⟩ := hp
  have hN : NowOk (C 3) (C 27) (C 29) := by rw [(K1 3 (by decide)).1, (K1 27 (by decide)).1, (K1 29 (by decide)).1]; exact hN
  have hLK : LK act (C 103) (C 137) (C 138) (C 80) (C 82) (C 84) (C 86) := by rw [(K1 103 (by decide)).1, (K1 137 (by decide)).1, (K1 138 (by decide)).1, (K1 80 (by decide)).1, (K1 82 (by decide)).1, (K1 84 (by decide)).1, (K1 86 (by decide)).1]; exact hLK
  refine g_pop X dL_law_1065 rfl ?_
  refine g_goto X dL_law_1066 (tgt := 2393) (by decide) ?_
  refine g_widen (k1 := 210 + 10 * t) (k2 := 20400 + 400 * t) (by omega) (by omega) ?_
  exact tail L M ⟨a, act, C, D, R, F, I, HA, HR, hN, hLK, rfl, rfl⟩
set_option maxHeartbeats 4000000 in
set_option maxRecDepth 100000 in
theorem lc_27 {p : Program} {l : Launch} {e : Env} {s : State} {m : MethodId} {below : List Frame} {meth : Method} {c : Code} {G : va_G} {cy : Nat → ClassId} {A : Nat → Prop} {Q : State → Prop} {b Ln : Nat} {xs : Nat → Int32} {x0 m0 : Nat} {L : List Nat} {M : Nat → va_E} (X : Cx p s m #[Value.ref b] meth c RL cL_law 4 G cy A) (hX : va_X b Ln xs s s.heap) (hbl : b < s.heap.size) (hbA : ¬ A b) (hLn : Ln ≤ 3072) (t : Nat) (ht : 6 * t + 6 ≤ Ln) (hW : Wd cy x0 m0 L M) (tail : ∀ (L : List Nat) (M : Nat → va_E), Wd cy x0 m0 L M → Go p l e room_1 s m #[Value.ref b] below meth c 4 G A (210 + 10 * t) (20400 + 400 * t) Q L M 2393 [(3, .int (nI (6 * t))), (2, .ref m0), (1, .ref x0), (0, .ref b)] []) : Go p l e room_1 s m #[Value.ref b] below meth c 4 G A (200 + 10 * t) (20000 + 400 * t) Q L M 1069 [(3, .int (nI (6 * t))), (2, .ref m0), (1, .ref x0), (0, .ref b)] [] := by
  obtain ⟨a, act, C, D, R, F, I, HA, HR, hN, hLK, e0, e1⟩ := hW
  subst e0
  subst e1
  refine g_aload_n X dL_law_1069 rfl (j := 2) rfl ?_
  refine g_callVI X (s_X7_done l G F I  ) lk_L_125 (F.1 0 rfl).2 (F.1 0 rfl).1 rfl rfl dL_law_1070 (Nat.le_of_ble_eq_true rfl) ⟨by decide, by decide⟩ ⟨by show _ ≤ 600000; omega, by show _ ≤ 7302250; omega⟩ (fun r1 L M hp => ?_)
  obtain ⟨C, D, F, I, K1, hr⟩ := hp
  have hN : NowOk (C 3) (C 27) (C 29) := by rw [(K1 3 (by decide)).1, (K1 27 (by decide)).1, (K1 29 (by decide)).1]; exact hN
  have hLK : LK act (C 103) (C 137) (C 138) (C 80) (C 82) (C 84) (C 86) := by rw [(K1 103 (by decide)).1, (K1 137 (by decide)).1, (K1 138 (by decide)).1, (K1 80 (by decide)).1, (K1 82 (by decide)).1, (K1 84 (by decide)).1, (K1 86 (by decide)).1]; exact hLK
  refine g_pop X dL_law_1073 rfl ?_
  refine g_aload_n X dL_law_1074 rfl (j := 1) rfl ?_
  refine g_callVI X (s_X8_done l G F I  ) lk_L_128 (F.1 100 rfl).2 (F.1 100 rfl).1 rfl rfl dL_law_1075 (Nat.le_of_ble_eq_true rfl) ⟨by decide, by decide⟩ ⟨by show _ ≤ 600000; omega, by show _ ≤ 7302250; omega⟩ (fun r2 L M hp => ?_)
  obtain ⟨C, D, F, I, K1, hr⟩ := hp
  have hN : NowOk (C 3) (C 27) (C 29) := by rw [(K1 3 (by decide)).1, (K1 27 (by decide)).1, (K1 29 (by decide)).1]; exact hN
  have hLK : LK act (C 103) (C 137) (C 138) (C 80) (C 82) (C 84) (C 86) := by rw [(K1 103 (by decide)).1, (K1 137 (by decide)).1, (K1 138 (by decide)).1, (K1 80 (by decide)).1, (K1 82 (by decide)).1, (K1 84 (by decide)).1, (K1 86 (by decide)).1]; exact hLK
  refine g_pop X dL_law_1078 rfl ?_
  refine g_goto X dL_law_1079 (tgt := 2393) (by decide) ?_
  refine g_widen (k1 := 210 + 10 * t) (k2 := 20400 + 400 * t) (by omega) (by omega) ?_
  exact tail L M ⟨a, act, C, D, R, F, I, HA, HR, hN, hLK, rfl, rfl⟩
set_option maxHeartbeats 4000000 in
set_option maxRecDepth 100000 in
theorem lc_28 {p : Program} {l : Launch} {e : Env} {s : State} {m : MethodId} {below : List Frame} {meth : Method} {c : Code} {G : va_G} {cy : Nat → ClassId} {A : Nat → Prop} {Q : State → Prop} {b Ln : Nat} {xs : Nat → Int32} {x0 m0 : Nat} {L : List Nat} {M : Nat → va_E} (X : Cx p s m #[Value.ref b] meth c RL cL_law 4 G cy A) (hX : va_X b Ln xs s s.heap) (hbl : b < s.heap.size) (hbA : ¬ A b) (hLn : Ln ≤ 3072) (t : Nat) (ht : 6 * t + 6 ≤ Ln) (hW : Wd cy x0 m0 L M) (tail : ∀ (L : List Nat) (M : Nat → va_E), Wd cy x0 m0 L M → Go p l e room_1 s m #[Value.ref b] below meth c 4 G A (210 + 10 * t) (20400 + 400 * t) Q L M 2393 [(3, .int (nI (6 * t))), (2, .ref m0), (1, .ref x0), (0, .ref b)] []) : Go p l e room_1 s m #[Value.ref b] below meth c 4 G A (200 + 10 * t) (20000 + 400 * t) Q L M 1082 [(3, .int (nI (6 * t))), (2, .ref m0), (1, .ref x0), (0, .ref b)] [] := by
  obtain ⟨a, act, C, D, R, F, I, HA, HR, hN, hLK, e0, e1⟩ := hW
  subst e0
  subst e1
  refine g_aload_n X dL_law_1082 rfl (j := 2) rfl ?_
  refine g_aload_n X dL_law_1083 rfl (j := 3) rfl ?_
  refine g_iload_n X dL_law_1084 rfl (j := 0) rfl ?_
  refine g_iconst X dL_law_1085 (v := 1) (by decide) ?_
  refine g_iadd X dL_law_1086 ?_
  refine Go.top (v := .int (nI ((6 * t) + 1))) (congrArg Value.int (nI_add (6 * t) 1)) ?_
  refine g_sld X hX hbl hbA (vp_in_nI (by omega) (by omega)) (v := xs ((6 * t) + 1)) (by rw [nI_clamp (by omega)]) dL_law_1087 ?_
  refine g_callVI X (s_X7_crowd l G F I ((xs ((6 * t) + 1))) ) lk_L_129 (F.1 0 rfl).2 (F.1 0 rfl).1 rfl rfl dL_law_1088 (Nat.le_of_ble_eq_true rfl) ⟨by decide, by decide⟩ ⟨by show _ ≤ 600000; omega, by show _ ≤ 7302250; omega⟩ (fun r1 L M hp => ?_)
  obtain ⟨C, D, F, I, K1, hr⟩ := hp
  have hN : NowOk (C 3) (C 27) (C 29) := by rw [(K1 3 (by decide)).1, (K1 27 (by decide)).1, (K1 29 (by decide)).1]; exact hN
  have hLK : LK act (C 103) (C 137) (C 138) (C 80) (C 82) (C 84) (C 86) := by rw [(K1 103 (by decide)).1, (K1 137 (by decide)).1, (K1 138 (by decide)).1, (K1 80 (by decide)).1, (K1 82 (by decide)).1, (K1 84 (by decide)).1, (K1 86 (by decide)).1]; exact hLK
  refine g_pop X dL_law_1091 rfl ?_
  refine g_aload_n X dL_law_1092 rfl (j := 1) rfl ?_
  refine g_aload_n X dL_law_1093 rfl (j := 3) rfl ?_
  refine g_iload_n X dL_law_1094 rfl (j := 0) rfl ?_
  refine g_iconst X dL_law_1095 (v := 1) (by decide) ?_
  refine g_iadd X dL_law_1096 ?_
  refine Go.top (v := .int (nI ((6 * t) + 1))) (congrArg Value.int (nI_add (6 * t) 1)) ?_
  refine g_sld X hX hbl hbA (vp_in_nI (by omega) (by omega)) (v := xs ((6 * t) + 1)) (by rw [nI_clamp (by omega)]) dL_law_1097 ?_
  refine g_callVI X (s_X8_crowd l G F I ((xs ((6 * t) + 1))) ) lk_L_132 (F.1 100 rfl).2 (F.1 100 rfl).1 rfl rfl dL_law_1098 (Nat.le_of_ble_eq_true rfl) ⟨by decide, by decide⟩ ⟨by show _ ≤ 600000; omega, by show _ ≤ 7302250; omega⟩ (fun r2 L M hp => ?_)
  obtain ⟨C, D, F, I, K1, hr⟩ := hp
  have hN : NowOk (C 3) (C 27) (C 29) := by rw [(K1 3 (by decide)).1, (K1 27 (by decide)).1, (K1 29 (by decide)).1]; exact hN
  have hLK : LK act (C 103) (C 137) (C 138) (C 80) (C 82) (C 84) (C 86) := by rw [(K1 103 (by decide)).1, (K1 137 (by decide)).1, (K1 138 (by decide)).1, (K1 80 (by decide)).1, (K1 82 (by decide)).1, (K1 84 (by decide)).1, (K1 86 (by decide)).1]; exact hLK
  refine g_pop X dL_law_1101 rfl ?_
  refine g_goto X dL_law_1102 (tgt := 2393) (by decide) ?_
  refine g_widen (k1 := 210 + 10 * t) (k2 := 20400 + 400 * t) (by omega) (by omega) ?_
  exact tail L M ⟨a, act, C, D, R, F, I, HA, HR, hN, hLK, rfl, rfl⟩
set_option maxHeartbeats 4000000 in
set_option maxRecDepth 100000 in
theorem lc_29 {p : Program} {l : Launch} {e : Env} {s : State} {m : MethodId} {below : List Frame} {meth : Method} {c : Code} {G : va_G} {cy : Nat → ClassId} {A : Nat → Prop} {Q : State → Prop} {b Ln : Nat} {xs : Nat → Int32} {x0 m0 : Nat} {L : List Nat} {M : Nat → va_E} (X : Cx p s m #[Value.ref b] meth c RL cL_law 4 G cy A) (hX : va_X b Ln xs s s.heap) (hbl : b < s.heap.size) (hbA : ¬ A b) (hLn : Ln ≤ 3072) (t : Nat) (ht : 6 * t + 6 ≤ Ln) (hW : Wd cy x0 m0 L M) (tail : ∀ (L : List Nat) (M : Nat → va_E), Wd cy x0 m0 L M → Go p l e room_1 s m #[Value.ref b] below meth c 4 G A (210 + 10 * t) (20400 + 400 * t) Q L M 2393 [(3, .int (nI (6 * t))), (2, .ref m0), (1, .ref x0), (0, .ref b)] []) : Go p l e room_1 s m #[Value.ref b] below meth c 4 G A (200 + 10 * t) (20000 + 400 * t) Q L M 1105 [(3, .int (nI (6 * t))), (2, .ref m0), (1, .ref x0), (0, .ref b)] [] := by
  obtain ⟨a, act, C, D, R, F, I, HA, HR, hN, hLK, e0, e1⟩ := hW
  subst e0
  subst e1
  refine g_aload_n X dL_law_1105 rfl (j := 2) rfl ?_
  refine g_callVI X (s_X7_armless l G F I  ) lk_L_133 (F.1 0 rfl).2 (F.1 0 rfl).1 rfl rfl dL_law_1106 (Nat.le_of_ble_eq_true rfl) ⟨by decide, by decide⟩ ⟨by show _ ≤ 600000; omega, by show _ ≤ 7302250; omega⟩ (fun r1 L M hp => ?_)
  obtain ⟨C, D, F, I, K1, hr⟩ := hp
  have hN : NowOk (C 3) (C 27) (C 29) := by rw [(K1 3 (by decide)).1, (K1 27 (by decide)).1, (K1 29 (by decide)).1]; exact hN
  have hLK : LK act (C 103) (C 137) (C 138) (C 80) (C 82) (C 84) (C 86) := by rw [(K1 103 (by decide)).1, (K1 137 (by decide)).1, (K1 138 (by decide)).1, (K1 80 (by decide)).1, (K1 82 (by decide)).1, (K1 84 (by decide)).1, (K1 86 (by decide)).1]; exact hLK
  refine g_pop X dL_law_1109 rfl ?_
  refine g_aload_n X dL_law_1110 rfl (j := 1) rfl ?_
  refine g_callVI X (s_X8_armless l G F I  ) lk_L_136 (F.1 100 rfl).2 (F.1 100 rfl).1 rfl rfl dL_law_1111 (Nat.le_of_ble_eq_true rfl) ⟨by decide, by decide⟩ ⟨by show _ ≤ 600000; omega, by show _ ≤ 7302250; omega⟩ (fun r2 L M hp => ?_)
  obtain ⟨C, D, F, I, K1, hr⟩ := hp
  have hN : NowOk (C 3) (C 27) (C 29) := by rw [(K1 3 (by decide)).1, (K1 27 (by decide)).1, (K1 29 (by decide)).1]; exact hN
  have hLK : LK act (C 103) (C 137) (C 138) (C 80) (C 82) (C 84) (C 86) := by rw [(K1 103 (by decide)).1, (K1 137 (by decide)).1, (K1 138 (by decide)).1, (K1 80 (by decide)).1, (K1 82 (by decide)).1, (K1 84 (by decide)).1, (K1 86 (by decide)).1]; exact hLK
  refine g_pop X dL_law_1114 rfl ?_
  refine g_goto X dL_law_1115 (tgt := 2393) (by decide) ?_
  refine g_widen (k1 := 210 + 10 * t) (k2 := 20400 + 400 * t) (by omega) (by omega) ?_
  exact tail L M ⟨a, act, C, D, R, F, I, HA, HR, hN, hLK, rfl, rfl⟩
set_option maxHeartbeats 4000000 in
set_option maxRecDepth 100000 in
theorem lc_30 {p : Program} {l : Launch} {e : Env} {s : State} {m : MethodId} {below : List Frame} {meth : Method} {c : Code} {G : va_G} {cy : Nat → ClassId} {A : Nat → Prop} {Q : State → Prop} {b Ln : Nat} {xs : Nat → Int32} {x0 m0 : Nat} {L : List Nat} {M : Nat → va_E} (X : Cx p s m #[Value.ref b] meth c RL cL_law 4 G cy A) (hX : va_X b Ln xs s s.heap) (hbl : b < s.heap.size) (hbA : ¬ A b) (hLn : Ln ≤ 3072) (t : Nat) (ht : 6 * t + 6 ≤ Ln) (hW : Wd cy x0 m0 L M) (tail : ∀ (L : List Nat) (M : Nat → va_E), Wd cy x0 m0 L M → Go p l e room_1 s m #[Value.ref b] below meth c 4 G A (210 + 10 * t) (20400 + 400 * t) Q L M 2393 [(3, .int (nI (6 * t))), (2, .ref m0), (1, .ref x0), (0, .ref b)] []) : Go p l e room_1 s m #[Value.ref b] below meth c 4 G A (200 + 10 * t) (20000 + 400 * t) Q L M 1118 [(3, .int (nI (6 * t))), (2, .ref m0), (1, .ref x0), (0, .ref b)] [] := by
  obtain ⟨a, act, C, D, R, F, I, HA, HR, hN, hLK, e0, e1⟩ := hW
  subst e0
  subst e1
  refine g_aload_n X dL_law_1118 rfl (j := 2) rfl ?_
  refine g_aload_n X dL_law_1119 rfl (j := 3) rfl ?_
  refine g_iload_n X dL_law_1120 rfl (j := 0) rfl ?_
  refine g_iconst X dL_law_1121 (v := 1) (by decide) ?_
  refine g_iadd X dL_law_1122 ?_
  refine Go.top (v := .int (nI ((6 * t) + 1))) (congrArg Value.int (nI_add (6 * t) 1)) ?_
  refine g_sld X hX hbl hbA (vp_in_nI (by omega) (by omega)) (v := xs ((6 * t) + 1)) (by rw [nI_clamp (by omega)]) dL_law_1123 ?_
  refine g_aload_n X dL_law_1124 rfl (j := 3) rfl ?_
  refine g_iload_n X dL_law_1125 rfl (j := 0) rfl ?_
  refine g_iconst X dL_law_1126 (v := 2) (by decide) ?_
  refine g_iadd X dL_law_1127 ?_
  refine Go.top (v := .int (nI ((6 * t) + 2))) (congrArg Value.int (nI_add (6 * t) 2)) ?_
  refine g_sld X hX hbl hbA (vp_in_nI (by omega) (by omega)) (v := xs ((6 * t) + 2)) (by rw [nI_clamp (by omega)]) dL_law_1128 ?_
  refine g_callVI X (s_X7_meet l G F I ((xs ((6 * t) + 1))) ((xs ((6 * t) + 2))) ) lk_L_137 (F.1 0 rfl).2 (F.1 0 rfl).1 rfl rfl dL_law_1129 (Nat.le_of_ble_eq_true rfl) ⟨by decide, by decide⟩ ⟨by show _ ≤ 600000; omega, by show _ ≤ 7302250; omega⟩ (fun r1 L M hp => ?_)
  obtain ⟨C, D, F, I, K1, hr⟩ := hp
  have hN : NowOk (C 3) (C 27) (C 29) := by rw [(K1 3 (by decide)).1, (K1 27 (by decide)).1, (K1 29 (by decide)).1]; exact hN
  have hLK : LK act (C 103) (C 137) (C 138) (C 80) (C 82) (C 84) (C 86) := by rw [(K1 103 (by decide)).1, (K1 137 (by decide)).1, (K1 138 (by decide)).1, (K1 80 (by decide)).1, (K1 82 (by decide)).1, (K1 84 (by decide)).1, (K1 86 (by decide)).1]; exact hLK
  refine g_pop X dL_law_1132 rfl ?_
  refine g_aload_n X dL_law_1133 rfl (j := 1) rfl ?_
  refine g_aload_n X dL_law_1134 rfl (j := 3) rfl ?_
  refine g_iload_n X dL_law_1135 rfl (j := 0) rfl ?_
  refine g_iconst X dL_law_1136 (v := 1) (by decide) ?_
  refine g_iadd X dL_law_1137 ?_
  refine Go.top (v := .int (nI ((6 * t) + 1))) (congrArg Value.int (nI_add (6 * t) 1)) ?_
  refine g_sld X hX hbl hbA (vp_in_nI (by omega) (by omega)) (v := xs ((6 * t) + 1)) (by rw [nI_clamp (by omega)]) dL_law_1138 ?_
  refine g_aload_n X dL_law_1139 rfl (j := 3) rfl ?_
  refine g_iload_n X dL_law_1140 rfl (j := 0) rfl ?_
  refine g_iconst X dL_law_1141 (v := 2) (by decide) ?_
  refine g_iadd X dL_law_1142 ?_
  refine Go.top (v := .int (nI ((6 * t) + 2))) (congrArg Value.int (nI_add (6 * t) 2)) ?_
  refine g_sld X hX hbl hbA (vp_in_nI (by omega) (by omega)) (v := xs ((6 * t) + 2)) (by rw [nI_clamp (by omega)]) dL_law_1143 ?_
  refine g_callVI X (s_X8_meet l G F I ((xs ((6 * t) + 1))) ((xs ((6 * t) + 2))) ) lk_L_140 (F.1 100 rfl).2 (F.1 100 rfl).1 rfl rfl dL_law_1144 (Nat.le_of_ble_eq_true rfl) ⟨by decide, by decide⟩ ⟨by show _ ≤ 600000; omega, by show _ ≤ 7302250; omega⟩ (fun r2 L M hp => ?_)
  obtain ⟨C, D, F, I, K1, hr⟩ := hp
  have hN : NowOk (C 3) (C 27) (C 29) := by rw [(K1 3 (by decide)).1, (K1 27 (by decide)).1, (K1 29 (by decide)).1]; exact hN
  have hLK : LK act (C 103) (C 137) (C 138) (C 80) (C 82) (C 84) (C 86) := by rw [(K1 103 (by decide)).1, (K1 137 (by decide)).1, (K1 138 (by decide)).1, (K1 80 (by decide)).1, (K1 82 (by decide)).1, (K1 84 (by decide)).1, (K1 86 (by decide)).1]; exact hLK
  refine g_pop X dL_law_1147 rfl ?_
  refine g_goto X dL_law_1148 (tgt := 2393) (by decide) ?_
  refine g_widen (k1 := 210 + 10 * t) (k2 := 20400 + 400 * t) (by omega) (by omega) ?_
  exact tail L M ⟨a, act, C, D, R, F, I, HA, HR, hN, hLK, rfl, rfl⟩
set_option maxHeartbeats 4000000 in
set_option maxRecDepth 100000 in
theorem lc_31 {p : Program} {l : Launch} {e : Env} {s : State} {m : MethodId} {below : List Frame} {meth : Method} {c : Code} {G : va_G} {cy : Nat → ClassId} {A : Nat → Prop} {Q : State → Prop} {b Ln : Nat} {xs : Nat → Int32} {x0 m0 : Nat} {L : List Nat} {M : Nat → va_E} (X : Cx p s m #[Value.ref b] meth c RL cL_law 4 G cy A) (hX : va_X b Ln xs s s.heap) (hbl : b < s.heap.size) (hbA : ¬ A b) (hLn : Ln ≤ 3072) (t : Nat) (ht : 6 * t + 6 ≤ Ln) (hW : Wd cy x0 m0 L M) (tail : ∀ (L : List Nat) (M : Nat → va_E), Wd cy x0 m0 L M → Go p l e room_1 s m #[Value.ref b] below meth c 4 G A (210 + 10 * t) (20400 + 400 * t) Q L M 2393 [(3, .int (nI (6 * t))), (2, .ref m0), (1, .ref x0), (0, .ref b)] []) : Go p l e room_1 s m #[Value.ref b] below meth c 4 G A (200 + 10 * t) (20000 + 400 * t) Q L M 1151 [(3, .int (nI (6 * t))), (2, .ref m0), (1, .ref x0), (0, .ref b)] [] := by
  obtain ⟨a, act, C, D, R, F, I, HA, HR, hN, hLK, e0, e1⟩ := hW
  subst e0
  subst e1
  refine g_aload_n X dL_law_1151 rfl (j := 2) rfl ?_
  refine g_callVI X (s_X7_busy l G F I  ) lk_L_141 (F.1 0 rfl).2 (F.1 0 rfl).1 rfl rfl dL_law_1152 (Nat.le_of_ble_eq_true rfl) ⟨by decide, by decide⟩ ⟨by show _ ≤ 600000; omega, by show _ ≤ 7302250; omega⟩ (fun r1 L M hp => ?_)
  obtain ⟨C, D, F, I, K1, hr⟩ := hp
  have hN : NowOk (C 3) (C 27) (C 29) := by rw [(K1 3 (by decide)).1, (K1 27 (by decide)).1, (K1 29 (by decide)).1]; exact hN
  have hLK : LK act (C 103) (C 137) (C 138) (C 80) (C 82) (C 84) (C 86) := by rw [(K1 103 (by decide)).1, (K1 137 (by decide)).1, (K1 138 (by decide)).1, (K1 80 (by decide)).1, (K1 82 (by decide)).1, (K1 84 (by decide)).1, (K1 86 (by decide)).1]; exact hLK
  refine g_pop X dL_law_1155 rfl ?_
  refine g_aload_n X dL_law_1156 rfl (j := 1) rfl ?_
  refine g_callVI X (s_X8_busy l G F I  ) lk_L_144 (F.1 100 rfl).2 (F.1 100 rfl).1 rfl rfl dL_law_1157 (Nat.le_of_ble_eq_true rfl) ⟨by decide, by decide⟩ ⟨by show _ ≤ 600000; omega, by show _ ≤ 7302250; omega⟩ (fun r2 L M hp => ?_)
  obtain ⟨C, D, F, I, K1, hr⟩ := hp
  have hN : NowOk (C 3) (C 27) (C 29) := by rw [(K1 3 (by decide)).1, (K1 27 (by decide)).1, (K1 29 (by decide)).1]; exact hN
  have hLK : LK act (C 103) (C 137) (C 138) (C 80) (C 82) (C 84) (C 86) := by rw [(K1 103 (by decide)).1, (K1 137 (by decide)).1, (K1 138 (by decide)).1, (K1 80 (by decide)).1, (K1 82 (by decide)).1, (K1 84 (by decide)).1, (K1 86 (by decide)).1]; exact hLK
  refine g_pop X dL_law_1160 rfl ?_
  refine g_goto X dL_law_1161 (tgt := 2393) (by decide) ?_
  refine g_widen (k1 := 210 + 10 * t) (k2 := 20400 + 400 * t) (by omega) (by omega) ?_
  exact tail L M ⟨a, act, C, D, R, F, I, HA, HR, hN, hLK, rfl, rfl⟩
set_option maxHeartbeats 4000000 in
set_option maxRecDepth 100000 in
theorem lc_32 {p : Program} {l : Launch} {e : Env} {s : State} {m : MethodId} {below : List Frame} {meth : Method} {c : Code} {G : va_G} {cy : Nat → ClassId} {A : Nat → Prop} {Q : State → Prop} {b Ln : Nat} {xs : Nat → Int32} {x0 m0 : Nat} {L : List Nat} {M : Nat → va_E} (X : Cx p s m #[Value.ref b] meth c RL cL_law 4 G cy A) (hX : va_X b Ln xs s s.heap) (hbl : b < s.heap.size) (hbA : ¬ A b) (hLn : Ln ≤ 3072) (t : Nat) (ht : 6 * t + 6 ≤ Ln) (hW : Wd cy x0 m0 L M) (tail : ∀ (L : List Nat) (M : Nat → va_E), Wd cy x0 m0 L M → Go p l e room_1 s m #[Value.ref b] below meth c 4 G A (210 + 10 * t) (20400 + 400 * t) Q L M 2393 [(3, .int (nI (6 * t))), (2, .ref m0), (1, .ref x0), (0, .ref b)] []) : Go p l e room_1 s m #[Value.ref b] below meth c 4 G A (200 + 10 * t) (20000 + 400 * t) Q L M 1164 [(3, .int (nI (6 * t))), (2, .ref m0), (1, .ref x0), (0, .ref b)] [] := by
  obtain ⟨a, act, C, D, R, F, I, HA, HR, hN, hLK, e0, e1⟩ := hW
  subst e0
  subst e1
  refine g_aload_n X dL_law_1164 rfl (j := 2) rfl ?_
  refine g_callVI X (s_X7_idle l G F I  ) lk_L_145 (F.1 0 rfl).2 (F.1 0 rfl).1 rfl rfl dL_law_1165 (Nat.le_of_ble_eq_true rfl) ⟨by decide, by decide⟩ ⟨by show _ ≤ 600000; omega, by show _ ≤ 7302250; omega⟩ (fun r1 L M hp => ?_)
  obtain ⟨C, D, F, I, K1, hr⟩ := hp
  have hN : NowOk (C 3) (C 27) (C 29) := by rw [(K1 3 (by decide)).1, (K1 27 (by decide)).1, (K1 29 (by decide)).1]; exact hN
  have hLK : LK act (C 103) (C 137) (C 138) (C 80) (C 82) (C 84) (C 86) := by rw [(K1 103 (by decide)).1, (K1 137 (by decide)).1, (K1 138 (by decide)).1, (K1 80 (by decide)).1, (K1 82 (by decide)).1, (K1 84 (by decide)).1, (K1 86 (by decide)).1]; exact hLK
  refine g_pop X dL_law_1168 rfl ?_
  refine g_aload_n X dL_law_1169 rfl (j := 1) rfl ?_
  refine g_callVI X (s_X8_idle l G F I  ) lk_L_148 (F.1 100 rfl).2 (F.1 100 rfl).1 rfl rfl dL_law_1170 (Nat.le_of_ble_eq_true rfl) ⟨by decide, by decide⟩ ⟨by show _ ≤ 600000; omega, by show _ ≤ 7302250; omega⟩ (fun r2 L M hp => ?_)
  obtain ⟨C, D, F, I, K1, hr⟩ := hp
  have hN : NowOk (C 3) (C 27) (C 29) := by rw [(K1 3 (by decide)).1, (K1 27 (by decide)).1, (K1 29 (by decide)).1]; exact hN
  have hLK : LK act (C 103) (C 137) (C 138) (C 80) (C 82) (C 84) (C 86) := by rw [(K1 103 (by decide)).1, (K1 137 (by decide)).1, (K1 138 (by decide)).1, (K1 80 (by decide)).1, (K1 82 (by decide)).1, (K1 84 (by decide)).1, (K1 86 (by decide)).1]; exact hLK
  refine g_pop X dL_law_1173 rfl ?_
  refine g_goto X dL_law_1174 (tgt := 2393) (by decide) ?_
  refine g_widen (k1 := 210 + 10 * t) (k2 := 20400 + 400 * t) (by omega) (by omega) ?_
  exact tail L M ⟨a, act, C, D, R, F, I, HA, HR, hN, hLK, rfl, rfl⟩
set_option maxHeartbeats 4000000 in
set_option maxRecDepth 100000 in
theorem lc_33 {p : Program} {l : Launch} {e : Env} {s : State} {m : MethodId} {below : List Frame} {meth : Method} {c : Code} {G : va_G} {cy : Nat → ClassId} {A : Nat → Prop} {Q : State → Prop} {b Ln : Nat} {xs : Nat → Int32} {x0 m0 : Nat} {L : List Nat} {M : Nat → va_E} (X : Cx p s m #[Value.ref b] meth c RL cL_law 4 G cy A) (hX : va_X b Ln xs s s.heap) (hbl : b < s.heap.size) (hbA : ¬ A b) (hLn : Ln ≤ 3072) (t : Nat) (ht : 6 * t + 6 ≤ Ln) (hW : Wd cy x0 m0 L M) (tail : ∀ (L : List Nat) (M : Nat → va_E), Wd cy x0 m0 L M → Go p l e room_1 s m #[Value.ref b] below meth c 4 G A (210 + 10 * t) (20400 + 400 * t) Q L M 2393 [(3, .int (nI (6 * t))), (2, .ref m0), (1, .ref x0), (0, .ref b)] []) : Go p l e room_1 s m #[Value.ref b] below meth c 4 G A (200 + 10 * t) (20000 + 400 * t) Q L M 1177 [(3, .int (nI (6 * t))), (2, .ref m0), (1, .ref x0), (0, .ref b)] [] := by
  obtain ⟨a, act, C, D, R, F, I, HA, HR, hN, hLK, e0, e1⟩ := hW
  subst e0
  subst e1
  refine g_aload_n X dL_law_1177 rfl (j := 2) rfl ?_
  refine g_aload_n X dL_law_1178 rfl (j := 3) rfl ?_
  refine g_iload_n X dL_law_1179 rfl (j := 0) rfl ?_
  refine g_iconst X dL_law_1180 (v := 1) (by decide) ?_
  refine g_iadd X dL_law_1181 ?_
  refine Go.top (v := .int (nI ((6 * t) + 1))) (congrArg Value.int (nI_add (6 * t) 1)) ?_
  refine g_sld X hX hbl hbA (vp_in_nI (by omega) (by omega)) (v := xs ((6 * t) + 1)) (by rw [nI_clamp (by omega)]) dL_law_1182 ?_
  refine g_callVI X (s_X7_reach l G F I ((xs ((6 * t) + 1))) ) lk_L_149 (F.1 0 rfl).2 (F.1 0 rfl).1 rfl rfl dL_law_1183 (Nat.le_of_ble_eq_true rfl) ⟨by decide, by decide⟩ ⟨by show _ ≤ 600000; omega, by show _ ≤ 7302250; omega⟩ (fun r1 L M hp => ?_)
  obtain ⟨C, D, F, I, K1, hr⟩ := hp
  have hN : NowOk (C 3) (C 27) (C 29) := by rw [(K1 3 (by decide)).1, (K1 27 (by decide)).1, (K1 29 (by decide)).1]; exact hN
  have hLK : LK act (C 103) (C 137) (C 138) (C 80) (C 82) (C 84) (C 86) := by rw [(K1 103 (by decide)).1, (K1 137 (by decide)).1, (K1 138 (by decide)).1, (K1 80 (by decide)).1, (K1 82 (by decide)).1, (K1 84 (by decide)).1, (K1 86 (by decide)).1]; exact hLK
  refine g_pop X dL_law_1186 rfl ?_
  refine g_aload_n X dL_law_1187 rfl (j := 1) rfl ?_
  refine g_aload_n X dL_law_1188 rfl (j := 3) rfl ?_
  refine g_iload_n X dL_law_1189 rfl (j := 0) rfl ?_
  refine g_iconst X dL_law_1190 (v := 1) (by decide) ?_
  refine g_iadd X dL_law_1191 ?_
  refine Go.top (v := .int (nI ((6 * t) + 1))) (congrArg Value.int (nI_add (6 * t) 1)) ?_
  refine g_sld X hX hbl hbA (vp_in_nI (by omega) (by omega)) (v := xs ((6 * t) + 1)) (by rw [nI_clamp (by omega)]) dL_law_1192 ?_
  refine g_callVI X (s_X8_reach l G F I ((xs ((6 * t) + 1))) ) lk_L_152 (F.1 100 rfl).2 (F.1 100 rfl).1 rfl rfl dL_law_1193 (Nat.le_of_ble_eq_true rfl) ⟨by decide, by decide⟩ ⟨by show _ ≤ 600000; omega, by show _ ≤ 7302250; omega⟩ (fun r2 L M hp => ?_)
  obtain ⟨C, D, F, I, K1, hr⟩ := hp
  have hN : NowOk (C 3) (C 27) (C 29) := by rw [(K1 3 (by decide)).1, (K1 27 (by decide)).1, (K1 29 (by decide)).1]; exact hN
  have hLK : LK act (C 103) (C 137) (C 138) (C 80) (C 82) (C 84) (C 86) := by rw [(K1 103 (by decide)).1, (K1 137 (by decide)).1, (K1 138 (by decide)).1, (K1 80 (by decide)).1, (K1 82 (by decide)).1, (K1 84 (by decide)).1, (K1 86 (by decide)).1]; exact hLK
  refine g_pop X dL_law_1196 rfl ?_
  refine g_goto X dL_law_1197 (tgt := 2393) (by decide) ?_
  refine g_widen (k1 := 210 + 10 * t) (k2 := 20400 + 400 * t) (by omega) (by omega) ?_
  exact tail L M ⟨a, act, C, D, R, F, I, HA, HR, hN, hLK, rfl, rfl⟩
set_option maxHeartbeats 4000000 in
set_option maxRecDepth 100000 in
theorem lc_34 {p : Program} {l : Launch} {e : Env} {s : State} {m : MethodId} {below : List Frame} {meth : Method} {c : Code} {G : va_G} {cy : Nat → ClassId} {A : Nat → Prop} {Q : State → Prop} {b Ln : Nat} {xs : Nat → Int32} {x0 m0 : Nat} {L : List Nat} {M : Nat → va_E} (X : Cx p s m #[Value.ref b] meth c RL cL_law 4 G cy A) (hX : va_X b Ln xs s s.heap) (hbl : b < s.heap.size) (hbA : ¬ A b) (hLn : Ln ≤ 3072) (t : Nat) (ht : 6 * t + 6 ≤ Ln) (hW : Wd cy x0 m0 L M) (tail : ∀ (L : List Nat) (M : Nat → va_E), Wd cy x0 m0 L M → Go p l e room_1 s m #[Value.ref b] below meth c 4 G A (210 + 10 * t) (20400 + 400 * t) Q L M 2393 [(3, .int (nI (6 * t))), (2, .ref m0), (1, .ref x0), (0, .ref b)] []) : Go p l e room_1 s m #[Value.ref b] below meth c 4 G A (200 + 10 * t) (20000 + 400 * t) Q L M 1200 [(3, .int (nI (6 * t))), (2, .ref m0), (1, .ref x0), (0, .ref b)] [] := by
  obtain ⟨a, act, C, D, R, F, I, HA, HR, hN, hLK, e0, e1⟩ := hW
  subst e0
  subst e1
  refine g_aload_n X dL_law_1200 rfl (j := 2) rfl ?_
  refine g_aload_n X dL_law_1201 rfl (j := 3) rfl ?_
  refine g_iload_n X dL_law_1202 rfl (j := 0) rfl ?_
  refine g_iconst X dL_law_1203 (v := 1) (by decide) ?_
  refine g_iadd X dL_law_1204 ?_
  refine Go.top (v := .int (nI ((6 * t) + 1))) (congrArg Value.int (nI_add (6 * t) 1)) ?_
  refine g_sld X hX hbl hbA (vp_in_nI (by omega) (by omega)) (v := xs ((6 * t) + 1)) (by rw [nI_clamp (by omega)]) dL_law_1205 ?_
  refine g_aload_n X dL_law_1206 rfl (j := 3) rfl ?_
  refine g_iload_n X dL_law_1207 rfl (j := 0) rfl ?_
  refine g_iconst X dL_law_1208 (v := 2) (by decide) ?_
  refine g_iadd X dL_law_1209 ?_
  refine Go.top (v := .int (nI ((6 * t) + 2))) (congrArg Value.int (nI_add (6 * t) 2)) ?_
  refine g_sld X hX hbl hbA (vp_in_nI (by omega) (by omega)) (v := xs ((6 * t) + 2)) (by rw [nI_clamp (by omega)]) dL_law_1210 ?_
  refine g_callVI X (s_X7_far l G F I ((xs ((6 * t) + 1))) ((xs ((6 * t) + 2))) ) lk_L_153 (F.1 0 rfl).2 (F.1 0 rfl).1 rfl rfl dL_law_1211 (Nat.le_of_ble_eq_true rfl) ⟨by decide, by decide⟩ ⟨by show _ ≤ 600000; omega, by show _ ≤ 7302250; omega⟩ (fun r1 L M hp => ?_)
  obtain ⟨C, D, F, I, K1, hr⟩ := hp
  have hN : NowOk (C 3) (C 27) (C 29) := by rw [(K1 3 (by decide)).1, (K1 27 (by decide)).1, (K1 29 (by decide)).1]; exact hN
  have hLK : LK act (C 103) (C 137) (C 138) (C 80) (C 82) (C 84) (C 86) := by rw [(K1 103 (by decide)).1, (K1 137 (by decide)).1, (K1 138 (by decide)).1, (K1 80 (by decide)).1, (K1 82 (by decide)).1, (K1 84 (by decide)).1, (K1 86 (by decide)).1]; exact hLK
  refine g_pop X dL_law_1214 rfl ?_
  refine g_aload_n X dL_law_1215 rfl (j := 1) rfl ?_
  refine g_aload_n X dL_law_1216 rfl (j := 3) rfl ?_
  refine g_iload_n X dL_law_1217 rfl (j := 0) rfl ?_
  refine g_iconst X dL_law_1218 (v := 1) (by decide) ?_
  refine g_iadd X dL_law_1219 ?_
  refine Go.top (v := .int (nI ((6 * t) + 1))) (congrArg Value.int (nI_add (6 * t) 1)) ?_
  refine g_sld X hX hbl hbA (vp_in_nI (by omega) (by omega)) (v := xs ((6 * t) + 1)) (by rw [nI_clamp (by omega)]) dL_law_1220 ?_
  refine g_aload_n X dL_law_1221 rfl (j := 3) rfl ?_
  refine g_iload_n X dL_law_1222 rfl (j := 0) rfl ?_
  refine g_iconst X dL_law_1223 (v := 2) (by decide) ?_
  refine g_iadd X dL_law_1224 ?_
  refine Go.top (v := .int (nI ((6 * t) + 2))) (congrArg Value.int (nI_add (6 * t) 2)) ?_
  refine g_sld X hX hbl hbA (vp_in_nI (by omega) (by omega)) (v := xs ((6 * t) + 2)) (by rw [nI_clamp (by omega)]) dL_law_1225 ?_
  refine g_callVI X (s_X8_far l G F I ((xs ((6 * t) + 1))) ((xs ((6 * t) + 2))) ) lk_L_156 (F.1 100 rfl).2 (F.1 100 rfl).1 rfl rfl dL_law_1226 (Nat.le_of_ble_eq_true rfl) ⟨by decide, by decide⟩ ⟨by show _ ≤ 600000; omega, by show _ ≤ 7302250; omega⟩ (fun r2 L M hp => ?_)
  obtain ⟨C, D, F, I, K1, hr⟩ := hp
  have hN : NowOk (C 3) (C 27) (C 29) := by rw [(K1 3 (by decide)).1, (K1 27 (by decide)).1, (K1 29 (by decide)).1]; exact hN
  have hLK : LK act (C 103) (C 137) (C 138) (C 80) (C 82) (C 84) (C 86) := by rw [(K1 103 (by decide)).1, (K1 137 (by decide)).1, (K1 138 (by decide)).1, (K1 80 (by decide)).1, (K1 82 (by decide)).1, (K1 84 (by decide)).1, (K1 86 (by decide)).1]; exact hLK
  refine g_pop X dL_law_1229 rfl ?_
  refine g_goto X dL_law_1230 (tgt := 2393) (by decide) ?_
  refine g_widen (k1 := 210 + 10 * t) (k2 := 20400 + 400 * t) (by omega) (by omega) ?_
  exact tail L M ⟨a, act, C, D, R, F, I, HA, HR, hN, hLK, rfl, rfl⟩
set_option maxHeartbeats 4000000 in
set_option maxRecDepth 100000 in
theorem lc_35 {p : Program} {l : Launch} {e : Env} {s : State} {m : MethodId} {below : List Frame} {meth : Method} {c : Code} {G : va_G} {cy : Nat → ClassId} {A : Nat → Prop} {Q : State → Prop} {b Ln : Nat} {xs : Nat → Int32} {x0 m0 : Nat} {L : List Nat} {M : Nat → va_E} (X : Cx p s m #[Value.ref b] meth c RL cL_law 4 G cy A) (hX : va_X b Ln xs s s.heap) (hbl : b < s.heap.size) (hbA : ¬ A b) (hLn : Ln ≤ 3072) (t : Nat) (ht : 6 * t + 6 ≤ Ln) (hW : Wd cy x0 m0 L M) (tail : ∀ (L : List Nat) (M : Nat → va_E), Wd cy x0 m0 L M → Go p l e room_1 s m #[Value.ref b] below meth c 4 G A (210 + 10 * t) (20400 + 400 * t) Q L M 2393 [(3, .int (nI (6 * t))), (2, .ref m0), (1, .ref x0), (0, .ref b)] []) : Go p l e room_1 s m #[Value.ref b] below meth c 4 G A (200 + 10 * t) (20000 + 400 * t) Q L M 1233 [(3, .int (nI (6 * t))), (2, .ref m0), (1, .ref x0), (0, .ref b)] [] := by
  obtain ⟨a, act, C, D, R, F, I, HA, HR, hN, hLK, e0, e1⟩ := hW
  subst e0
  subst e1
  refine g_aload_n X dL_law_1233 rfl (j := 2) rfl ?_
  refine g_aload_n X dL_law_1234 rfl (j := 3) rfl ?_
  refine g_iload_n X dL_law_1235 rfl (j := 0) rfl ?_
  refine g_iconst X dL_law_1236 (v := 1) (by decide) ?_
  refine g_iadd X dL_law_1237 ?_
  refine Go.top (v := .int (nI ((6 * t) + 1))) (congrArg Value.int (nI_add (6 * t) 1)) ?_
  refine g_sld X hX hbl hbA (vp_in_nI (by omega) (by omega)) (v := xs ((6 * t) + 1)) (by rw [nI_clamp (by omega)]) dL_law_1238 ?_
  refine g_callVI X (s_X7_setting l G F I ((xs ((6 * t) + 1))) ) lk_L_157 (F.1 0 rfl).2 (F.1 0 rfl).1 rfl rfl dL_law_1239 (Nat.le_of_ble_eq_true rfl) ⟨by decide, by decide⟩ ⟨by show _ ≤ 600000; omega, by show _ ≤ 7302250; omega⟩ (fun r1 L M hp => ?_)
  obtain ⟨C, D, F, I, K1, hr⟩ := hp
  have hN : NowOk (C 3) (C 27) (C 29) := by rw [(K1 3 (by decide)).1, (K1 27 (by decide)).1, (K1 29 (by decide)).1]; exact hN
  have hLK : LK act (C 103) (C 137) (C 138) (C 80) (C 82) (C 84) (C 86) := by rw [(K1 103 (by decide)).1, (K1 137 (by decide)).1, (K1 138 (by decide)).1, (K1 80 (by decide)).1, (K1 82 (by decide)).1, (K1 84 (by decide)).1, (K1 86 (by decide)).1]; exact hLK
  refine g_pop X dL_law_1242 rfl ?_
  refine g_aload_n X dL_law_1243 rfl (j := 1) rfl ?_
  refine g_aload_n X dL_law_1244 rfl (j := 3) rfl ?_
  refine g_iload_n X dL_law_1245 rfl (j := 0) rfl ?_
  refine g_iconst X dL_law_1246 (v := 1) (by decide) ?_
  refine g_iadd X dL_law_1247 ?_
  refine Go.top (v := .int (nI ((6 * t) + 1))) (congrArg Value.int (nI_add (6 * t) 1)) ?_
  refine g_sld X hX hbl hbA (vp_in_nI (by omega) (by omega)) (v := xs ((6 * t) + 1)) (by rw [nI_clamp (by omega)]) dL_law_1248 ?_
  refine g_callVI X (s_X8_setting l G F I ((xs ((6 * t) + 1))) ) lk_L_160 (F.1 100 rfl).2 (F.1 100 rfl).1 rfl rfl dL_law_1249 (Nat.le_of_ble_eq_true rfl) ⟨by decide, by decide⟩ ⟨by show _ ≤ 600000; omega, by show _ ≤ 7302250; omega⟩ (fun r2 L M hp => ?_)
  obtain ⟨C, D, F, I, K1, hr⟩ := hp
  have hN : NowOk (C 3) (C 27) (C 29) := by rw [(K1 3 (by decide)).1, (K1 27 (by decide)).1, (K1 29 (by decide)).1]; exact hN
  have hLK : LK act (C 103) (C 137) (C 138) (C 80) (C 82) (C 84) (C 86) := by rw [(K1 103 (by decide)).1, (K1 137 (by decide)).1, (K1 138 (by decide)).1, (K1 80 (by decide)).1, (K1 82 (by decide)).1, (K1 84 (by decide)).1, (K1 86 (by decide)).1]; exact hLK
  refine g_pop X dL_law_1252 rfl ?_
  refine g_goto X dL_law_1253 (tgt := 2393) (by decide) ?_
  refine g_widen (k1 := 210 + 10 * t) (k2 := 20400 + 400 * t) (by omega) (by omega) ?_
  exact tail L M ⟨a, act, C, D, R, F, I, HA, HR, hN, hLK, rfl, rfl⟩
set_option maxHeartbeats 4000000 in
set_option maxRecDepth 100000 in
theorem lc_36 {p : Program} {l : Launch} {e : Env} {s : State} {m : MethodId} {below : List Frame} {meth : Method} {c : Code} {G : va_G} {cy : Nat → ClassId} {A : Nat → Prop} {Q : State → Prop} {b Ln : Nat} {xs : Nat → Int32} {x0 m0 : Nat} {L : List Nat} {M : Nat → va_E} (X : Cx p s m #[Value.ref b] meth c RL cL_law 4 G cy A) (hX : va_X b Ln xs s s.heap) (hbl : b < s.heap.size) (hbA : ¬ A b) (hLn : Ln ≤ 3072) (t : Nat) (ht : 6 * t + 6 ≤ Ln) (hW : Wd cy x0 m0 L M) (tail : ∀ (L : List Nat) (M : Nat → va_E), Wd cy x0 m0 L M → Go p l e room_1 s m #[Value.ref b] below meth c 4 G A (210 + 10 * t) (20400 + 400 * t) Q L M 2393 [(3, .int (nI (6 * t))), (2, .ref m0), (1, .ref x0), (0, .ref b)] []) : Go p l e room_1 s m #[Value.ref b] below meth c 4 G A (200 + 10 * t) (20000 + 400 * t) Q L M 1256 [(3, .int (nI (6 * t))), (2, .ref m0), (1, .ref x0), (0, .ref b)] [] := by
  obtain ⟨a, act, C, D, R, F, I, HA, HR, hN, hLK, e0, e1⟩ := hW
  subst e0
  subst e1
  refine g_aload_n X dL_law_1256 rfl (j := 2) rfl ?_
  refine g_callVI X (s_X7_settings l G F I  ) lk_L_161 (F.1 0 rfl).2 (F.1 0 rfl).1 rfl rfl dL_law_1257 (Nat.le_of_ble_eq_true rfl) ⟨by decide, by decide⟩ ⟨by show _ ≤ 600000; omega, by show _ ≤ 7302250; omega⟩ (fun r1 L M hp => ?_)
  obtain ⟨C, D, F, I, K1, hr⟩ := hp
  have hN : NowOk (C 3) (C 27) (C 29) := by rw [(K1 3 (by decide)).1, (K1 27 (by decide)).1, (K1 29 (by decide)).1]; exact hN
  have hLK : LK act (C 103) (C 137) (C 138) (C 80) (C 82) (C 84) (C 86) := by rw [(K1 103 (by decide)).1, (K1 137 (by decide)).1, (K1 138 (by decide)).1, (K1 80 (by decide)).1, (K1 82 (by decide)).1, (K1 84 (by decide)).1, (K1 86 (by decide)).1]; exact hLK
  refine g_pop X dL_law_1260 rfl ?_
  refine g_aload_n X dL_law_1261 rfl (j := 1) rfl ?_
  refine g_callVI X (s_X8_settings l G F I  ) lk_L_164 (F.1 100 rfl).2 (F.1 100 rfl).1 rfl rfl dL_law_1262 (Nat.le_of_ble_eq_true rfl) ⟨by decide, by decide⟩ ⟨by show _ ≤ 600000; omega, by show _ ≤ 7302250; omega⟩ (fun r2 L M hp => ?_)
  obtain ⟨C, D, F, I, K1, hr⟩ := hp
  have hN : NowOk (C 3) (C 27) (C 29) := by rw [(K1 3 (by decide)).1, (K1 27 (by decide)).1, (K1 29 (by decide)).1]; exact hN
  have hLK : LK act (C 103) (C 137) (C 138) (C 80) (C 82) (C 84) (C 86) := by rw [(K1 103 (by decide)).1, (K1 137 (by decide)).1, (K1 138 (by decide)).1, (K1 80 (by decide)).1, (K1 82 (by decide)).1, (K1 84 (by decide)).1, (K1 86 (by decide)).1]; exact hLK
  refine g_pop X dL_law_1265 rfl ?_
  refine g_goto X dL_law_1266 (tgt := 2393) (by decide) ?_
  refine g_widen (k1 := 210 + 10 * t) (k2 := 20400 + 400 * t) (by omega) (by omega) ?_
  exact tail L M ⟨a, act, C, D, R, F, I, HA, HR, hN, hLK, rfl, rfl⟩
set_option maxHeartbeats 4000000 in
set_option maxRecDepth 100000 in
theorem lc_37 {p : Program} {l : Launch} {e : Env} {s : State} {m : MethodId} {below : List Frame} {meth : Method} {c : Code} {G : va_G} {cy : Nat → ClassId} {A : Nat → Prop} {Q : State → Prop} {b Ln : Nat} {xs : Nat → Int32} {x0 m0 : Nat} {L : List Nat} {M : Nat → va_E} (X : Cx p s m #[Value.ref b] meth c RL cL_law 4 G cy A) (hX : va_X b Ln xs s s.heap) (hbl : b < s.heap.size) (hbA : ¬ A b) (hLn : Ln ≤ 3072) (t : Nat) (ht : 6 * t + 6 ≤ Ln) (hW : Wd cy x0 m0 L M) (tail : ∀ (L : List Nat) (M : Nat → va_E), Wd cy x0 m0 L M → Go p l e room_1 s m #[Value.ref b] below meth c 4 G A (210 + 10 * t) (20400 + 400 * t) Q L M 2393 [(3, .int (nI (6 * t))), (2, .ref m0), (1, .ref x0), (0, .ref b)] []) : Go p l e room_1 s m #[Value.ref b] below meth c 4 G A (200 + 10 * t) (20000 + 400 * t) Q L M 1269 [(3, .int (nI (6 * t))), (2, .ref m0), (1, .ref x0), (0, .ref b)] [] := by
  obtain ⟨a, act, C, D, R, F, I, HA, HR, hN, hLK, e0, e1⟩ := hW
  subst e0
  subst e1
  refine g_aload_n X dL_law_1269 rfl (j := 2) rfl ?_
  refine g_callVI X (s_X7_same l G F I  ) lk_L_165 (F.1 0 rfl).2 (F.1 0 rfl).1 rfl rfl dL_law_1270 (Nat.le_of_ble_eq_true rfl) ⟨by decide, by decide⟩ ⟨by show _ ≤ 600000; omega, by show _ ≤ 7302250; omega⟩ (fun r1 L M hp => ?_)
  obtain ⟨C, D, F, I, K1, hr⟩ := hp
  have hN : NowOk (C 3) (C 27) (C 29) := by rw [(K1 3 (by decide)).1, (K1 27 (by decide)).1, (K1 29 (by decide)).1]; exact hN
  have hLK : LK act (C 103) (C 137) (C 138) (C 80) (C 82) (C 84) (C 86) := by rw [(K1 103 (by decide)).1, (K1 137 (by decide)).1, (K1 138 (by decide)).1, (K1 80 (by decide)).1, (K1 82 (by decide)).1, (K1 84 (by decide)).1, (K1 86 (by decide)).1]; exact hLK
  refine g_pop X dL_law_1273 rfl ?_
  refine g_aload_n X dL_law_1274 rfl (j := 1) rfl ?_
  refine g_callVI X (s_X8_same l G F I  ) lk_L_168 (F.1 100 rfl).2 (F.1 100 rfl).1 rfl rfl dL_law_1275 (Nat.le_of_ble_eq_true rfl) ⟨by decide, by decide⟩ ⟨by show _ ≤ 600000; omega, by show _ ≤ 7302250; omega⟩ (fun r2 L M hp => ?_)
  obtain ⟨C, D, F, I, K1, hr⟩ := hp
  have hN : NowOk (C 3) (C 27) (C 29) := by rw [(K1 3 (by decide)).1, (K1 27 (by decide)).1, (K1 29 (by decide)).1]; exact hN
  have hLK : LK act (C 103) (C 137) (C 138) (C 80) (C 82) (C 84) (C 86) := by rw [(K1 103 (by decide)).1, (K1 137 (by decide)).1, (K1 138 (by decide)).1, (K1 80 (by decide)).1, (K1 82 (by decide)).1, (K1 84 (by decide)).1, (K1 86 (by decide)).1]; exact hLK
  refine g_pop X dL_law_1278 rfl ?_
  refine g_goto X dL_law_1279 (tgt := 2393) (by decide) ?_
  refine g_widen (k1 := 210 + 10 * t) (k2 := 20400 + 400 * t) (by omega) (by omega) ?_
  exact tail L M ⟨a, act, C, D, R, F, I, HA, HR, hN, hLK, rfl, rfl⟩
set_option maxHeartbeats 4000000 in
set_option maxRecDepth 100000 in
theorem lc_38 {p : Program} {l : Launch} {e : Env} {s : State} {m : MethodId} {below : List Frame} {meth : Method} {c : Code} {G : va_G} {cy : Nat → ClassId} {A : Nat → Prop} {Q : State → Prop} {b Ln : Nat} {xs : Nat → Int32} {x0 m0 : Nat} {L : List Nat} {M : Nat → va_E} (X : Cx p s m #[Value.ref b] meth c RL cL_law 4 G cy A) (hX : va_X b Ln xs s s.heap) (hbl : b < s.heap.size) (hbA : ¬ A b) (hLn : Ln ≤ 3072) (t : Nat) (ht : 6 * t + 6 ≤ Ln) (hW : Wd cy x0 m0 L M) (tail : ∀ (L : List Nat) (M : Nat → va_E), Wd cy x0 m0 L M → Go p l e room_1 s m #[Value.ref b] below meth c 4 G A (210 + 10 * t) (20400 + 400 * t) Q L M 2393 [(3, .int (nI (6 * t))), (2, .ref m0), (1, .ref x0), (0, .ref b)] []) : Go p l e room_1 s m #[Value.ref b] below meth c 4 G A (200 + 10 * t) (20000 + 400 * t) Q L M 1282 [(3, .int (nI (6 * t))), (2, .ref m0), (1, .ref x0), (0, .ref b)] [] := by
  obtain ⟨a, act, C, D, R, F, I, HA, HR, hN, hLK, e0, e1⟩ := hW
  subst e0
  subst e1
  refine g_aload_n X dL_law_1282 rfl (j := 2) rfl ?_
  refine g_aload_n X dL_law_1283 rfl (j := 3) rfl ?_
  refine g_iload_n X dL_law_1284 rfl (j := 0) rfl ?_
  refine g_iconst X dL_law_1285 (v := 1) (by decide) ?_
  refine g_iadd X dL_law_1286 ?_
  refine Go.top (v := .int (nI ((6 * t) + 1))) (congrArg Value.int (nI_add (6 * t) 1)) ?_
  refine g_sld X hX hbl hbA (vp_in_nI (by omega) (by omega)) (v := xs ((6 * t) + 1)) (by rw [nI_clamp (by omega)]) dL_law_1287 ?_
  refine g_callVI X (s_X7_alone l G F I ((xs ((6 * t) + 1))) ) lk_L_169 (F.1 0 rfl).2 (F.1 0 rfl).1 rfl rfl dL_law_1288 (Nat.le_of_ble_eq_true rfl) ⟨by decide, by decide⟩ ⟨by show _ ≤ 600000; omega, by show _ ≤ 7302250; omega⟩ (fun r1 L M hp => ?_)
  obtain ⟨C, D, F, I, K1, hr⟩ := hp
  have hN : NowOk (C 3) (C 27) (C 29) := by rw [(K1 3 (by decide)).1, (K1 27 (by decide)).1, (K1 29 (by decide)).1]; exact hN
  have hLK : LK act (C 103) (C 137) (C 138) (C 80) (C 82) (C 84) (C 86) := by rw [(K1 103 (by decide)).1, (K1 137 (by decide)).1, (K1 138 (by decide)).1, (K1 80 (by decide)).1, (K1 82 (by decide)).1, (K1 84 (by decide)).1, (K1 86 (by decide)).1]; exact hLK
  refine g_pop X dL_law_1291 rfl ?_
  refine g_aload_n X dL_law_1292 rfl (j := 1) rfl ?_
  refine g_aload_n X dL_law_1293 rfl (j := 3) rfl ?_
  refine g_iload_n X dL_law_1294 rfl (j := 0) rfl ?_
  refine g_iconst X dL_law_1295 (v := 1) (by decide) ?_
  refine g_iadd X dL_law_1296 ?_
  refine Go.top (v := .int (nI ((6 * t) + 1))) (congrArg Value.int (nI_add (6 * t) 1)) ?_
  refine g_sld X hX hbl hbA (vp_in_nI (by omega) (by omega)) (v := xs ((6 * t) + 1)) (by rw [nI_clamp (by omega)]) dL_law_1297 ?_
  refine g_callVI X (s_X8_alone l G F I ((xs ((6 * t) + 1))) ) lk_L_172 (F.1 100 rfl).2 (F.1 100 rfl).1 rfl rfl dL_law_1298 (Nat.le_of_ble_eq_true rfl) ⟨by decide, by decide⟩ ⟨by show _ ≤ 600000; omega, by show _ ≤ 7302250; omega⟩ (fun r2 L M hp => ?_)
  obtain ⟨C, D, F, I, K1, hr⟩ := hp
  have hN : NowOk (C 3) (C 27) (C 29) := by rw [(K1 3 (by decide)).1, (K1 27 (by decide)).1, (K1 29 (by decide)).1]; exact hN
  have hLK : LK act (C 103) (C 137) (C 138) (C 80) (C 82) (C 84) (C 86) := by rw [(K1 103 (by decide)).1, (K1 137 (by decide)).1, (K1 138 (by decide)).1, (K1 80 (by decide)).1, (K1 82 (by decide)).1, (K1 84 (by decide)).1, (K1 86 (by decide)).1]; exact hLK
  refine g_pop X dL_law_1301 rfl ?_
  refine g_goto X dL_law_1302 (tgt := 2393) (by decide) ?_
  refine g_widen (k1 := 210 + 10 * t) (k2 := 20400 + 400 * t) (by omega) (by omega) ?_
  exact tail L M ⟨a, act, C, D, R, F, I, HA, HR, hN, hLK, rfl, rfl⟩
set_option maxHeartbeats 4000000 in
set_option maxRecDepth 100000 in
theorem lc_39 {p : Program} {l : Launch} {e : Env} {s : State} {m : MethodId} {below : List Frame} {meth : Method} {c : Code} {G : va_G} {cy : Nat → ClassId} {A : Nat → Prop} {Q : State → Prop} {b Ln : Nat} {xs : Nat → Int32} {x0 m0 : Nat} {L : List Nat} {M : Nat → va_E} (X : Cx p s m #[Value.ref b] meth c RL cL_law 4 G cy A) (hX : va_X b Ln xs s s.heap) (hbl : b < s.heap.size) (hbA : ¬ A b) (hLn : Ln ≤ 3072) (t : Nat) (ht : 6 * t + 6 ≤ Ln) (hW : Wd cy x0 m0 L M) (tail : ∀ (L : List Nat) (M : Nat → va_E), Wd cy x0 m0 L M → Go p l e room_1 s m #[Value.ref b] below meth c 4 G A (210 + 10 * t) (20400 + 400 * t) Q L M 2393 [(3, .int (nI (6 * t))), (2, .ref m0), (1, .ref x0), (0, .ref b)] []) : Go p l e room_1 s m #[Value.ref b] below meth c 4 G A (200 + 10 * t) (20000 + 400 * t) Q L M 1305 [(3, .int (nI (6 * t))), (2, .ref m0), (1, .ref x0), (0, .ref b)] [] := by
  obtain ⟨a, act, C, D, R, F, I, HA, HR, hN, hLK, e0, e1⟩ := hW
  subst e0
  subst e1
  refine g_aload_n X dL_law_1305 rfl (j := 2) rfl ?_
  refine g_aload_n X dL_law_1306 rfl (j := 3) rfl ?_
  refine g_iload_n X dL_law_1307 rfl (j := 0) rfl ?_
  refine g_iconst X dL_law_1308 (v := 1) (by decide) ?_
  refine g_iadd X dL_law_1309 ?_
  refine Go.top (v := .int (nI ((6 * t) + 1))) (congrArg Value.int (nI_add (6 * t) 1)) ?_
  refine g_sld X hX hbl hbA (vp_in_nI (by omega) (by omega)) (v := xs ((6 * t) + 1)) (by rw [nI_clamp (by omega)]) dL_law_1310 ?_
  refine g_callVI X (s_X7_steps l G F I ((xs ((6 * t) + 1))) ) lk_L_173 (F.1 0 rfl).2 (F.1 0 rfl).1 rfl rfl dL_law_1311 (Nat.le_of_ble_eq_true rfl) ⟨by decide, by decide⟩ ⟨by show _ ≤ 600000; omega, by show _ ≤ 7302250; omega⟩ (fun r1 L M hp => ?_)
  obtain ⟨C, D, F, I, K1, hr⟩ := hp
  have hN : NowOk (C 3) (C 27) (C 29) := by rw [(K1 3 (by decide)).1, (K1 27 (by decide)).1, (K1 29 (by decide)).1]; exact hN
  have hLK : LK act (C 103) (C 137) (C 138) (C 80) (C 82) (C 84) (C 86) := by rw [(K1 103 (by decide)).1, (K1 137 (by decide)).1, (K1 138 (by decide)).1, (K1 80 (by decide)).1, (K1 82 (by decide)).1, (K1 84 (by decide)).1, (K1 86 (by decide)).1]; exact hLK
  refine g_pop X dL_law_1314 rfl ?_
  refine g_aload_n X dL_law_1315 rfl (j := 1) rfl ?_
  refine g_aload_n X dL_law_1316 rfl (j := 3) rfl ?_
  refine g_iload_n X dL_law_1317 rfl (j := 0) rfl ?_
  refine g_iconst X dL_law_1318 (v := 1) (by decide) ?_
  refine g_iadd X dL_law_1319 ?_
  refine Go.top (v := .int (nI ((6 * t) + 1))) (congrArg Value.int (nI_add (6 * t) 1)) ?_
  refine g_sld X hX hbl hbA (vp_in_nI (by omega) (by omega)) (v := xs ((6 * t) + 1)) (by rw [nI_clamp (by omega)]) dL_law_1320 ?_
  refine g_callVI X (s_X8_steps l G F I ((xs ((6 * t) + 1))) ) lk_L_176 (F.1 100 rfl).2 (F.1 100 rfl).1 rfl rfl dL_law_1321 (Nat.le_of_ble_eq_true rfl) ⟨by decide, by decide⟩ ⟨by show _ ≤ 600000; omega, by show _ ≤ 7302250; omega⟩ (fun r2 L M hp => ?_)
  obtain ⟨C, D, F, I, K1, hr⟩ := hp
  have hN : NowOk (C 3) (C 27) (C 29) := by rw [(K1 3 (by decide)).1, (K1 27 (by decide)).1, (K1 29 (by decide)).1]; exact hN
  have hLK : LK act (C 103) (C 137) (C 138) (C 80) (C 82) (C 84) (C 86) := by rw [(K1 103 (by decide)).1, (K1 137 (by decide)).1, (K1 138 (by decide)).1, (K1 80 (by decide)).1, (K1 82 (by decide)).1, (K1 84 (by decide)).1, (K1 86 (by decide)).1]; exact hLK
  refine g_pop X dL_law_1324 rfl ?_
  refine g_goto X dL_law_1325 (tgt := 2393) (by decide) ?_
  refine g_widen (k1 := 210 + 10 * t) (k2 := 20400 + 400 * t) (by omega) (by omega) ?_
  exact tail L M ⟨a, act, C, D, R, F, I, HA, HR, hN, hLK, rfl, rfl⟩
set_option maxHeartbeats 4000000 in
set_option maxRecDepth 100000 in
theorem lc_40 {p : Program} {l : Launch} {e : Env} {s : State} {m : MethodId} {below : List Frame} {meth : Method} {c : Code} {G : va_G} {cy : Nat → ClassId} {A : Nat → Prop} {Q : State → Prop} {b Ln : Nat} {xs : Nat → Int32} {x0 m0 : Nat} {L : List Nat} {M : Nat → va_E} (X : Cx p s m #[Value.ref b] meth c RL cL_law 4 G cy A) (hX : va_X b Ln xs s s.heap) (hbl : b < s.heap.size) (hbA : ¬ A b) (hLn : Ln ≤ 3072) (t : Nat) (ht : 6 * t + 6 ≤ Ln) (hW : Wd cy x0 m0 L M) (tail : ∀ (L : List Nat) (M : Nat → va_E), Wd cy x0 m0 L M → Go p l e room_1 s m #[Value.ref b] below meth c 4 G A (210 + 10 * t) (20400 + 400 * t) Q L M 2393 [(3, .int (nI (6 * t))), (2, .ref m0), (1, .ref x0), (0, .ref b)] []) : Go p l e room_1 s m #[Value.ref b] below meth c 4 G A (200 + 10 * t) (20000 + 400 * t) Q L M 1328 [(3, .int (nI (6 * t))), (2, .ref m0), (1, .ref x0), (0, .ref b)] [] := by
  obtain ⟨a, act, C, D, R, F, I, HA, HR, hN, hLK, e0, e1⟩ := hW
  subst e0
  subst e1
  refine g_aload_n X dL_law_1328 rfl (j := 2) rfl ?_
  refine g_aload_n X dL_law_1329 rfl (j := 3) rfl ?_
  refine g_iload_n X dL_law_1330 rfl (j := 0) rfl ?_
  refine g_iconst X dL_law_1331 (v := 1) (by decide) ?_
  refine g_iadd X dL_law_1332 ?_
  refine Go.top (v := .int (nI ((6 * t) + 1))) (congrArg Value.int (nI_add (6 * t) 1)) ?_
  refine g_sld X hX hbl hbA (vp_in_nI (by omega) (by omega)) (v := xs ((6 * t) + 1)) (by rw [nI_clamp (by omega)]) dL_law_1333 ?_
  refine g_callVI X (s_X7_behind l G F I ((xs ((6 * t) + 1))) ) lk_L_177 (F.1 0 rfl).2 (F.1 0 rfl).1 rfl rfl dL_law_1334 (Nat.le_of_ble_eq_true rfl) ⟨by decide, by decide⟩ ⟨by show _ ≤ 600000; omega, by show _ ≤ 7302250; omega⟩ (fun r1 L M hp => ?_)
  obtain ⟨C, D, F, I, K1, hr⟩ := hp
  have hN : NowOk (C 3) (C 27) (C 29) := by rw [(K1 3 (by decide)).1, (K1 27 (by decide)).1, (K1 29 (by decide)).1]; exact hN
  have hLK : LK act (C 103) (C 137) (C 138) (C 80) (C 82) (C 84) (C 86) := by rw [(K1 103 (by decide)).1, (K1 137 (by decide)).1, (K1 138 (by decide)).1, (K1 80 (by decide)).1, (K1 82 (by decide)).1, (K1 84 (by decide)).1, (K1 86 (by decide)).1]; exact hLK
  refine g_pop X dL_law_1337 rfl ?_
  refine g_aload_n X dL_law_1338 rfl (j := 1) rfl ?_
  refine g_aload_n X dL_law_1339 rfl (j := 3) rfl ?_
  refine g_iload_n X dL_law_1340 rfl (j := 0) rfl ?_
  refine g_iconst X dL_law_1341 (v := 1) (by decide) ?_
  refine g_iadd X dL_law_1342 ?_
  refine Go.top (v := .int (nI ((6 * t) + 1))) (congrArg Value.int (nI_add (6 * t) 1)) ?_
  refine g_sld X hX hbl hbA (vp_in_nI (by omega) (by omega)) (v := xs ((6 * t) + 1)) (by rw [nI_clamp (by omega)]) dL_law_1343 ?_
  refine g_callVI X (s_X8_behind l G F I ((xs ((6 * t) + 1))) ) lk_L_180 (F.1 100 rfl).2 (F.1 100 rfl).1 rfl rfl dL_law_1344 (Nat.le_of_ble_eq_true rfl) ⟨by decide, by decide⟩ ⟨by show _ ≤ 600000; omega, by show _ ≤ 7302250; omega⟩ (fun r2 L M hp => ?_)
  obtain ⟨C, D, F, I, K1, hr⟩ := hp
  have hN : NowOk (C 3) (C 27) (C 29) := by rw [(K1 3 (by decide)).1, (K1 27 (by decide)).1, (K1 29 (by decide)).1]; exact hN
  have hLK : LK act (C 103) (C 137) (C 138) (C 80) (C 82) (C 84) (C 86) := by rw [(K1 103 (by decide)).1, (K1 137 (by decide)).1, (K1 138 (by decide)).1, (K1 80 (by decide)).1, (K1 82 (by decide)).1, (K1 84 (by decide)).1, (K1 86 (by decide)).1]; exact hLK
  refine g_pop X dL_law_1347 rfl ?_
  refine g_goto X dL_law_1348 (tgt := 2393) (by decide) ?_
  refine g_widen (k1 := 210 + 10 * t) (k2 := 20400 + 400 * t) (by omega) (by omega) ?_
  exact tail L M ⟨a, act, C, D, R, F, I, HA, HR, hN, hLK, rfl, rfl⟩
set_option maxHeartbeats 4000000 in
set_option maxRecDepth 100000 in
theorem lc_41 {p : Program} {l : Launch} {e : Env} {s : State} {m : MethodId} {below : List Frame} {meth : Method} {c : Code} {G : va_G} {cy : Nat → ClassId} {A : Nat → Prop} {Q : State → Prop} {b Ln : Nat} {xs : Nat → Int32} {x0 m0 : Nat} {L : List Nat} {M : Nat → va_E} (X : Cx p s m #[Value.ref b] meth c RL cL_law 4 G cy A) (hX : va_X b Ln xs s s.heap) (hbl : b < s.heap.size) (hbA : ¬ A b) (hLn : Ln ≤ 3072) (t : Nat) (ht : 6 * t + 6 ≤ Ln) (hW : Wd cy x0 m0 L M) (tail : ∀ (L : List Nat) (M : Nat → va_E), Wd cy x0 m0 L M → Go p l e room_1 s m #[Value.ref b] below meth c 4 G A (210 + 10 * t) (20400 + 400 * t) Q L M 2393 [(3, .int (nI (6 * t))), (2, .ref m0), (1, .ref x0), (0, .ref b)] []) : Go p l e room_1 s m #[Value.ref b] below meth c 4 G A (200 + 10 * t) (20000 + 400 * t) Q L M 1351 [(3, .int (nI (6 * t))), (2, .ref m0), (1, .ref x0), (0, .ref b)] [] := by
  obtain ⟨a, act, C, D, R, F, I, HA, HR, hN, hLK, e0, e1⟩ := hW
  subst e0
  subst e1
  refine g_aload_n X dL_law_1351 rfl (j := 2) rfl ?_
  refine g_aload_n X dL_law_1352 rfl (j := 3) rfl ?_
  refine g_iload_n X dL_law_1353 rfl (j := 0) rfl ?_
  refine g_iconst X dL_law_1354 (v := 1) (by decide) ?_
  refine g_iadd X dL_law_1355 ?_
  refine Go.top (v := .int (nI ((6 * t) + 1))) (congrArg Value.int (nI_add (6 * t) 1)) ?_
  refine g_sld X hX hbl hbA (vp_in_nI (by omega) (by omega)) (v := xs ((6 * t) + 1)) (by rw [nI_clamp (by omega)]) dL_law_1356 ?_
  refine g_aload_n X dL_law_1357 rfl (j := 3) rfl ?_
  refine g_iload_n X dL_law_1358 rfl (j := 0) rfl ?_
  refine g_iconst X dL_law_1359 (v := 2) (by decide) ?_
  refine g_iadd X dL_law_1360 ?_
  refine Go.top (v := .int (nI ((6 * t) + 2))) (congrArg Value.int (nI_add (6 * t) 2)) ?_
  refine g_sld X hX hbl hbA (vp_in_nI (by omega) (by omega)) (v := xs ((6 * t) + 2)) (by rw [nI_clamp (by omega)]) dL_law_1361 ?_
  refine g_callVI X (s_X7_nth l G F I ((xs ((6 * t) + 1))) ((xs ((6 * t) + 2))) ) lk_L_181 (F.1 0 rfl).2 (F.1 0 rfl).1 rfl rfl dL_law_1362 (Nat.le_of_ble_eq_true rfl) ⟨by decide, by decide⟩ ⟨by show _ ≤ 600000; omega, by show _ ≤ 7302250; omega⟩ (fun r1 L M hp => ?_)
  obtain ⟨C, D, F, I, K1, hr⟩ := hp
  have hN : NowOk (C 3) (C 27) (C 29) := by rw [(K1 3 (by decide)).1, (K1 27 (by decide)).1, (K1 29 (by decide)).1]; exact hN
  have hLK : LK act (C 103) (C 137) (C 138) (C 80) (C 82) (C 84) (C 86) := by rw [(K1 103 (by decide)).1, (K1 137 (by decide)).1, (K1 138 (by decide)).1, (K1 80 (by decide)).1, (K1 82 (by decide)).1, (K1 84 (by decide)).1, (K1 86 (by decide)).1]; exact hLK
  refine g_pop X dL_law_1365 rfl ?_
  refine g_aload_n X dL_law_1366 rfl (j := 1) rfl ?_
  refine g_aload_n X dL_law_1367 rfl (j := 3) rfl ?_
  refine g_iload_n X dL_law_1368 rfl (j := 0) rfl ?_
  refine g_iconst X dL_law_1369 (v := 1) (by decide) ?_
  refine g_iadd X dL_law_1370 ?_
  refine Go.top (v := .int (nI ((6 * t) + 1))) (congrArg Value.int (nI_add (6 * t) 1)) ?_
  refine g_sld X hX hbl hbA (vp_in_nI (by omega) (by omega)) (v := xs ((6 * t) + 1)) (by rw [nI_clamp (by omega)]) dL_law_1371 ?_
  refine g_aload_n X dL_law_1372 rfl (j := 3) rfl ?_
  refine g_iload_n X dL_law_1373 rfl (j := 0) rfl ?_
  refine g_iconst X dL_law_1374 (v := 2) (by decide) ?_
  refine g_iadd X dL_law_1375 ?_
  refine Go.top (v := .int (nI ((6 * t) + 2))) (congrArg Value.int (nI_add (6 * t) 2)) ?_
  refine g_sld X hX hbl hbA (vp_in_nI (by omega) (by omega)) (v := xs ((6 * t) + 2)) (by rw [nI_clamp (by omega)]) dL_law_1376 ?_
  refine g_callVI X (s_X8_nth l G F I ((xs ((6 * t) + 1))) ((xs ((6 * t) + 2))) ) lk_L_184 (F.1 100 rfl).2 (F.1 100 rfl).1 rfl rfl dL_law_1377 (Nat.le_of_ble_eq_true rfl) ⟨by decide, by decide⟩ ⟨by show _ ≤ 600000; omega, by show _ ≤ 7302250; omega⟩ (fun r2 L M hp => ?_)
  obtain ⟨C, D, F, I, K1, hr⟩ := hp
  have hN : NowOk (C 3) (C 27) (C 29) := by rw [(K1 3 (by decide)).1, (K1 27 (by decide)).1, (K1 29 (by decide)).1]; exact hN
  have hLK : LK act (C 103) (C 137) (C 138) (C 80) (C 82) (C 84) (C 86) := by rw [(K1 103 (by decide)).1, (K1 137 (by decide)).1, (K1 138 (by decide)).1, (K1 80 (by decide)).1, (K1 82 (by decide)).1, (K1 84 (by decide)).1, (K1 86 (by decide)).1]; exact hLK
  refine g_pop X dL_law_1380 rfl ?_
  refine g_goto X dL_law_1381 (tgt := 2393) (by decide) ?_
  refine g_widen (k1 := 210 + 10 * t) (k2 := 20400 + 400 * t) (by omega) (by omega) ?_
  exact tail L M ⟨a, act, C, D, R, F, I, HA, HR, hN, hLK, rfl, rfl⟩
set_option maxHeartbeats 4000000 in
set_option maxRecDepth 100000 in
theorem lc_42 {p : Program} {l : Launch} {e : Env} {s : State} {m : MethodId} {below : List Frame} {meth : Method} {c : Code} {G : va_G} {cy : Nat → ClassId} {A : Nat → Prop} {Q : State → Prop} {b Ln : Nat} {xs : Nat → Int32} {x0 m0 : Nat} {L : List Nat} {M : Nat → va_E} (X : Cx p s m #[Value.ref b] meth c RL cL_law 4 G cy A) (hX : va_X b Ln xs s s.heap) (hbl : b < s.heap.size) (hbA : ¬ A b) (hLn : Ln ≤ 3072) (t : Nat) (ht : 6 * t + 6 ≤ Ln) (hW : Wd cy x0 m0 L M) (tail : ∀ (L : List Nat) (M : Nat → va_E), Wd cy x0 m0 L M → Go p l e room_1 s m #[Value.ref b] below meth c 4 G A (210 + 10 * t) (20400 + 400 * t) Q L M 2393 [(3, .int (nI (6 * t))), (2, .ref m0), (1, .ref x0), (0, .ref b)] []) : Go p l e room_1 s m #[Value.ref b] below meth c 4 G A (200 + 10 * t) (20000 + 400 * t) Q L M 1384 [(3, .int (nI (6 * t))), (2, .ref m0), (1, .ref x0), (0, .ref b)] [] := by
  obtain ⟨a, act, C, D, R, F, I, HA, HR, hN, hLK, e0, e1⟩ := hW
  subst e0
  subst e1
  refine g_aload_n X dL_law_1384 rfl (j := 2) rfl ?_
  refine g_aload_n X dL_law_1385 rfl (j := 3) rfl ?_
  refine g_iload_n X dL_law_1386 rfl (j := 0) rfl ?_
  refine g_iconst X dL_law_1387 (v := 1) (by decide) ?_
  refine g_iadd X dL_law_1388 ?_
  refine Go.top (v := .int (nI ((6 * t) + 1))) (congrArg Value.int (nI_add (6 * t) 1)) ?_
  refine g_sld X hX hbl hbA (vp_in_nI (by omega) (by omega)) (v := xs ((6 * t) + 1)) (by rw [nI_clamp (by omega)]) dL_law_1389 ?_
  refine g_callVI X (s_X7_round l G F I ((xs ((6 * t) + 1))) ) lk_L_185 (F.1 0 rfl).2 (F.1 0 rfl).1 rfl rfl dL_law_1390 (Nat.le_of_ble_eq_true rfl) ⟨by decide, by decide⟩ ⟨by show _ ≤ 600000; omega, by show _ ≤ 7302250; omega⟩ (fun r1 L M hp => ?_)
  obtain ⟨C, D, F, I, K1, hr⟩ := hp
  have hN : NowOk (C 3) (C 27) (C 29) := by rw [(K1 3 (by decide)).1, (K1 27 (by decide)).1, (K1 29 (by decide)).1]; exact hN
  have hLK : LK act (C 103) (C 137) (C 138) (C 80) (C 82) (C 84) (C 86) := by rw [(K1 103 (by decide)).1, (K1 137 (by decide)).1, (K1 138 (by decide)).1, (K1 80 (by decide)).1, (K1 82 (by decide)).1, (K1 84 (by decide)).1, (K1 86 (by decide)).1]; exact hLK
  refine g_pop X dL_law_1393 rfl ?_
  refine g_aload_n X dL_law_1394 rfl (j := 1) rfl ?_
  refine g_aload_n X dL_law_1395 rfl (j := 3) rfl ?_
  refine g_iload_n X dL_law_1396 rfl (j := 0) rfl ?_
  refine g_iconst X dL_law_1397 (v := 1) (by decide) ?_
  refine g_iadd X dL_law_1398 ?_
  refine Go.top (v := .int (nI ((6 * t) + 1))) (congrArg Value.int (nI_add (6 * t) 1)) ?_
  refine g_sld X hX hbl hbA (vp_in_nI (by omega) (by omega)) (v := xs ((6 * t) + 1)) (by rw [nI_clamp (by omega)]) dL_law_1399 ?_
  refine g_callVI X (s_X8_round l G F I ((xs ((6 * t) + 1))) ) lk_L_188 (F.1 100 rfl).2 (F.1 100 rfl).1 rfl rfl dL_law_1400 (Nat.le_of_ble_eq_true rfl) ⟨by decide, by decide⟩ ⟨by show _ ≤ 600000; omega, by show _ ≤ 7302250; omega⟩ (fun r2 L M hp => ?_)
  obtain ⟨C, D, F, I, K1, hr⟩ := hp
  have hN : NowOk (C 3) (C 27) (C 29) := by rw [(K1 3 (by decide)).1, (K1 27 (by decide)).1, (K1 29 (by decide)).1]; exact hN
  have hLK : LK act (C 103) (C 137) (C 138) (C 80) (C 82) (C 84) (C 86) := by rw [(K1 103 (by decide)).1, (K1 137 (by decide)).1, (K1 138 (by decide)).1, (K1 80 (by decide)).1, (K1 82 (by decide)).1, (K1 84 (by decide)).1, (K1 86 (by decide)).1]; exact hLK
  refine g_pop X dL_law_1403 rfl ?_
  refine g_goto X dL_law_1404 (tgt := 2393) (by decide) ?_
  refine g_widen (k1 := 210 + 10 * t) (k2 := 20400 + 400 * t) (by omega) (by omega) ?_
  exact tail L M ⟨a, act, C, D, R, F, I, HA, HR, hN, hLK, rfl, rfl⟩
set_option maxHeartbeats 4000000 in
set_option maxRecDepth 100000 in
theorem lc_43 {p : Program} {l : Launch} {e : Env} {s : State} {m : MethodId} {below : List Frame} {meth : Method} {c : Code} {G : va_G} {cy : Nat → ClassId} {A : Nat → Prop} {Q : State → Prop} {b Ln : Nat} {xs : Nat → Int32} {x0 m0 : Nat} {L : List Nat} {M : Nat → va_E} (X : Cx p s m #[Value.ref b] meth c RL cL_law 4 G cy A) (hX : va_X b Ln xs s s.heap) (hbl : b < s.heap.size) (hbA : ¬ A b) (hLn : Ln ≤ 3072) (t : Nat) (ht : 6 * t + 6 ≤ Ln) (hW : Wd cy x0 m0 L M) (tail : ∀ (L : List Nat) (M : Nat → va_E), Wd cy x0 m0 L M → Go p l e room_1 s m #[Value.ref b] below meth c 4 G A (210 + 10 * t) (20400 + 400 * t) Q L M 2393 [(3, .int (nI (6 * t))), (2, .ref m0), (1, .ref x0), (0, .ref b)] []) : Go p l e room_1 s m #[Value.ref b] below meth c 4 G A (200 + 10 * t) (20000 + 400 * t) Q L M 1407 [(3, .int (nI (6 * t))), (2, .ref m0), (1, .ref x0), (0, .ref b)] [] := by
  obtain ⟨a, act, C, D, R, F, I, HA, HR, hN, hLK, e0, e1⟩ := hW
  subst e0
  subst e1
  refine g_aload_n X dL_law_1407 rfl (j := 2) rfl ?_
  refine g_aload_n X dL_law_1408 rfl (j := 3) rfl ?_
  refine g_iload_n X dL_law_1409 rfl (j := 0) rfl ?_
  refine g_iconst X dL_law_1410 (v := 1) (by decide) ?_
  refine g_iadd X dL_law_1411 ?_
  refine Go.top (v := .int (nI ((6 * t) + 1))) (congrArg Value.int (nI_add (6 * t) 1)) ?_
  refine g_sld X hX hbl hbA (vp_in_nI (by omega) (by omega)) (v := xs ((6 * t) + 1)) (by rw [nI_clamp (by omega)]) dL_law_1412 ?_
  refine g_aload_n X dL_law_1413 rfl (j := 3) rfl ?_
  refine g_iload_n X dL_law_1414 rfl (j := 0) rfl ?_
  refine g_iconst X dL_law_1415 (v := 2) (by decide) ?_
  refine g_iadd X dL_law_1416 ?_
  refine Go.top (v := .int (nI ((6 * t) + 2))) (congrArg Value.int (nI_add (6 * t) 2)) ?_
  refine g_sld X hX hbl hbA (vp_in_nI (by omega) (by omega)) (v := xs ((6 * t) + 2)) (by rw [nI_clamp (by omega)]) dL_law_1417 ?_
  refine g_aload_n X dL_law_1418 rfl (j := 3) rfl ?_
  refine g_iload_n X dL_law_1419 rfl (j := 0) rfl ?_
  refine g_iconst X dL_law_1420 (v := 3) (by decide) ?_
  refine g_iadd X dL_law_1421 ?_
  refine Go.top (v := .int (nI ((6 * t) + 3))) (congrArg Value.int (nI_add (6 * t) 3)) ?_
  refine g_sld X hX hbl hbA (vp_in_nI (by omega) (by omega)) (v := xs ((6 * t) + 3)) (by rw [nI_clamp (by omega)]) dL_law_1422 ?_
  refine g_callVI X (s_X7_houses l G F I ((xs ((6 * t) + 1))) ((xs ((6 * t) + 2))) ((xs ((6 * t) + 3))) ) lk_L_189 (F.1 0 rfl).2 (F.1 0 rfl).1 rfl rfl dL_law_1423 (Nat.le_of_ble_eq_true rfl) ⟨by decide, by decide⟩ ⟨by show _ ≤ 600000; omega, by show _ ≤ 7302250; omega⟩ (fun r1 L M hp => ?_)
  obtain ⟨C, D, F, I, K1, hr⟩ := hp
  have hN : NowOk (C 3) (C 27) (C 29) := by rw [(K1 3 (by decide)).1, (K1 27 (by decide)).1, (K1 29 (by decide)).1]; exact hN
  have hLK : LK act (C 103) (C 137) (C 138) (C 80) (C 82) (C 84) (C 86) := by rw [(K1 103 (by decide)).1, (K1 137 (by decide)).1, (K1 138 (by decide)).1, (K1 80 (by decide)).1, (K1 82 (by decide)).1, (K1 84 (by decide)).1, (K1 86 (by decide)).1]; exact hLK
  refine g_pop X dL_law_1426 rfl ?_
  refine g_aload_n X dL_law_1427 rfl (j := 1) rfl ?_
  refine g_aload_n X dL_law_1428 rfl (j := 3) rfl ?_
  refine g_iload_n X dL_law_1429 rfl (j := 0) rfl ?_
  refine g_iconst X dL_law_1430 (v := 1) (by decide) ?_
  refine g_iadd X dL_law_1431 ?_
  refine Go.top (v := .int (nI ((6 * t) + 1))) (congrArg Value.int (nI_add (6 * t) 1)) ?_
  refine g_sld X hX hbl hbA (vp_in_nI (by omega) (by omega)) (v := xs ((6 * t) + 1)) (by rw [nI_clamp (by omega)]) dL_law_1432 ?_
  refine g_aload_n X dL_law_1433 rfl (j := 3) rfl ?_
  refine g_iload_n X dL_law_1434 rfl (j := 0) rfl ?_
  refine g_iconst X dL_law_1435 (v := 2) (by decide) ?_
  refine g_iadd X dL_law_1436 ?_
  refine Go.top (v := .int (nI ((6 * t) + 2))) (congrArg Value.int (nI_add (6 * t) 2)) ?_
  refine g_sld X hX hbl hbA (vp_in_nI (by omega) (by omega)) (v := xs ((6 * t) + 2)) (by rw [nI_clamp (by omega)]) dL_law_1437 ?_
  refine g_aload_n X dL_law_1438 rfl (j := 3) rfl ?_
  refine g_iload_n X dL_law_1439 rfl (j := 0) rfl ?_
  refine g_iconst X dL_law_1440 (v := 3) (by decide) ?_
  refine g_iadd X dL_law_1441 ?_
  refine Go.top (v := .int (nI ((6 * t) + 3))) (congrArg Value.int (nI_add (6 * t) 3)) ?_
  refine g_sld X hX hbl hbA (vp_in_nI (by omega) (by omega)) (v := xs ((6 * t) + 3)) (by rw [nI_clamp (by omega)]) dL_law_1442 ?_
  refine g_callVI X (s_X8_houses l G F I ((xs ((6 * t) + 1))) ((xs ((6 * t) + 2))) ((xs ((6 * t) + 3))) ) lk_L_193 (F.1 100 rfl).2 (F.1 100 rfl).1 rfl rfl dL_law_1443 (Nat.le_of_ble_eq_true rfl) ⟨by decide, by decide⟩ ⟨by show _ ≤ 600000; omega, by show _ ≤ 7302250; omega⟩ (fun r2 L M hp => ?_)
  obtain ⟨C, D, F, I, K1, hr⟩ := hp
  have hN : NowOk (C 3) (C 27) (C 29) := by rw [(K1 3 (by decide)).1, (K1 27 (by decide)).1, (K1 29 (by decide)).1]; exact hN
  have hLK : LK act (C 103) (C 137) (C 138) (C 80) (C 82) (C 84) (C 86) := by rw [(K1 103 (by decide)).1, (K1 137 (by decide)).1, (K1 138 (by decide)).1, (K1 80 (by decide)).1, (K1 82 (by decide)).1, (K1 84 (by decide)).1, (K1 86 (by decide)).1]; exact hLK
  refine g_pop X dL_law_1446 rfl ?_
  refine g_goto X dL_law_1447 (tgt := 2393) (by decide) ?_
  refine g_widen (k1 := 210 + 10 * t) (k2 := 20400 + 400 * t) (by omega) (by omega) ?_
  exact tail L M ⟨a, act, C, D, R, F, I, HA, HR, hN, hLK, rfl, rfl⟩
set_option maxHeartbeats 4000000 in
set_option maxRecDepth 100000 in
theorem lc_44 {p : Program} {l : Launch} {e : Env} {s : State} {m : MethodId} {below : List Frame} {meth : Method} {c : Code} {G : va_G} {cy : Nat → ClassId} {A : Nat → Prop} {Q : State → Prop} {b Ln : Nat} {xs : Nat → Int32} {x0 m0 : Nat} {L : List Nat} {M : Nat → va_E} (X : Cx p s m #[Value.ref b] meth c RL cL_law 4 G cy A) (hX : va_X b Ln xs s s.heap) (hbl : b < s.heap.size) (hbA : ¬ A b) (hLn : Ln ≤ 3072) (t : Nat) (ht : 6 * t + 6 ≤ Ln) (hW : Wd cy x0 m0 L M) (tail : ∀ (L : List Nat) (M : Nat → va_E), Wd cy x0 m0 L M → Go p l e room_1 s m #[Value.ref b] below meth c 4 G A (210 + 10 * t) (20400 + 400 * t) Q L M 2393 [(3, .int (nI (6 * t))), (2, .ref m0), (1, .ref x0), (0, .ref b)] []) : Go p l e room_1 s m #[Value.ref b] below meth c 4 G A (200 + 10 * t) (20000 + 400 * t) Q L M 1450 [(3, .int (nI (6 * t))), (2, .ref m0), (1, .ref x0), (0, .ref b)] [] := by
  obtain ⟨a, act, C, D, R, F, I, HA, HR, hN, hLK, e0, e1⟩ := hW
  subst e0
  subst e1
  refine g_aload_n X dL_law_1450 rfl (j := 2) rfl ?_
  refine g_aload_n X dL_law_1451 rfl (j := 3) rfl ?_
  refine g_iload_n X dL_law_1452 rfl (j := 0) rfl ?_
  refine g_iconst X dL_law_1453 (v := 1) (by decide) ?_
  refine g_iadd X dL_law_1454 ?_
  refine Go.top (v := .int (nI ((6 * t) + 1))) (congrArg Value.int (nI_add (6 * t) 1)) ?_
  refine g_sld X hX hbl hbA (vp_in_nI (by omega) (by omega)) (v := xs ((6 * t) + 1)) (by rw [nI_clamp (by omega)]) dL_law_1455 ?_
  refine g_callVI X (s_X7_tree l G F I ((xs ((6 * t) + 1))) ) lk_L_194 (F.1 0 rfl).2 (F.1 0 rfl).1 rfl rfl dL_law_1456 (Nat.le_of_ble_eq_true rfl) ⟨by decide, by decide⟩ ⟨by show _ ≤ 600000; omega, by show _ ≤ 7302250; omega⟩ (fun r1 L M hp => ?_)
  obtain ⟨C, D, F, I, K1, hr⟩ := hp
  have hN : NowOk (C 3) (C 27) (C 29) := by rw [(K1 3 (by decide)).1, (K1 27 (by decide)).1, (K1 29 (by decide)).1]; exact hN
  have hLK : LK act (C 103) (C 137) (C 138) (C 80) (C 82) (C 84) (C 86) := by rw [(K1 103 (by decide)).1, (K1 137 (by decide)).1, (K1 138 (by decide)).1, (K1 80 (by decide)).1, (K1 82 (by decide)).1, (K1 84 (by decide)).1, (K1 86 (by decide)).1]; exact hLK
  refine g_pop X dL_law_1459 rfl ?_
  refine g_aload_n X dL_law_1460 rfl (j := 1) rfl ?_
  refine g_aload_n X dL_law_1461 rfl (j := 3) rfl ?_
  refine g_iload_n X dL_law_1462 rfl (j := 0) rfl ?_
  refine g_iconst X dL_law_1463 (v := 1) (by decide) ?_
  refine g_iadd X dL_law_1464 ?_
  refine Go.top (v := .int (nI ((6 * t) + 1))) (congrArg Value.int (nI_add (6 * t) 1)) ?_
  refine g_sld X hX hbl hbA (vp_in_nI (by omega) (by omega)) (v := xs ((6 * t) + 1)) (by rw [nI_clamp (by omega)]) dL_law_1465 ?_
  refine g_callVI X (s_X8_tree l G F I ((xs ((6 * t) + 1))) ) lk_L_197 (F.1 100 rfl).2 (F.1 100 rfl).1 rfl rfl dL_law_1466 (Nat.le_of_ble_eq_true rfl) ⟨by decide, by decide⟩ ⟨by show _ ≤ 600000; omega, by show _ ≤ 7302250; omega⟩ (fun r2 L M hp => ?_)
  obtain ⟨C, D, F, I, K1, hr⟩ := hp
  have hN : NowOk (C 3) (C 27) (C 29) := by rw [(K1 3 (by decide)).1, (K1 27 (by decide)).1, (K1 29 (by decide)).1]; exact hN
  have hLK : LK act (C 103) (C 137) (C 138) (C 80) (C 82) (C 84) (C 86) := by rw [(K1 103 (by decide)).1, (K1 137 (by decide)).1, (K1 138 (by decide)).1, (K1 80 (by decide)).1, (K1 82 (by decide)).1, (K1 84 (by decide)).1, (K1 86 (by decide)).1]; exact hLK
  refine g_pop X dL_law_1469 rfl ?_
  refine g_goto X dL_law_1470 (tgt := 2393) (by decide) ?_
  refine g_widen (k1 := 210 + 10 * t) (k2 := 20400 + 400 * t) (by omega) (by omega) ?_
  exact tail L M ⟨a, act, C, D, R, F, I, HA, HR, hN, hLK, rfl, rfl⟩
set_option maxHeartbeats 4000000 in
set_option maxRecDepth 100000 in
theorem lc_45 {p : Program} {l : Launch} {e : Env} {s : State} {m : MethodId} {below : List Frame} {meth : Method} {c : Code} {G : va_G} {cy : Nat → ClassId} {A : Nat → Prop} {Q : State → Prop} {b Ln : Nat} {xs : Nat → Int32} {x0 m0 : Nat} {L : List Nat} {M : Nat → va_E} (X : Cx p s m #[Value.ref b] meth c RL cL_law 4 G cy A) (hX : va_X b Ln xs s s.heap) (hbl : b < s.heap.size) (hbA : ¬ A b) (hLn : Ln ≤ 3072) (t : Nat) (ht : 6 * t + 6 ≤ Ln) (hW : Wd cy x0 m0 L M) (tail : ∀ (L : List Nat) (M : Nat → va_E), Wd cy x0 m0 L M → Go p l e room_1 s m #[Value.ref b] below meth c 4 G A (210 + 10 * t) (20400 + 400 * t) Q L M 2393 [(3, .int (nI (6 * t))), (2, .ref m0), (1, .ref x0), (0, .ref b)] []) : Go p l e room_1 s m #[Value.ref b] below meth c 4 G A (200 + 10 * t) (20000 + 400 * t) Q L M 1473 [(3, .int (nI (6 * t))), (2, .ref m0), (1, .ref x0), (0, .ref b)] [] := by
  obtain ⟨a, act, C, D, R, F, I, HA, HR, hN, hLK, e0, e1⟩ := hW
  subst e0
  subst e1
  refine g_aload_n X dL_law_1473 rfl (j := 2) rfl ?_
  refine g_aload_n X dL_law_1474 rfl (j := 3) rfl ?_
  refine g_iload_n X dL_law_1475 rfl (j := 0) rfl ?_
  refine g_iconst X dL_law_1476 (v := 1) (by decide) ?_
  refine g_iadd X dL_law_1477 ?_
  refine Go.top (v := .int (nI ((6 * t) + 1))) (congrArg Value.int (nI_add (6 * t) 1)) ?_
  refine g_sld X hX hbl hbA (vp_in_nI (by omega) (by omega)) (v := xs ((6 * t) + 1)) (by rw [nI_clamp (by omega)]) dL_law_1478 ?_
  refine g_callVI X (s_X7_ring l G F I ((xs ((6 * t) + 1))) ) lk_L_198 (F.1 0 rfl).2 (F.1 0 rfl).1 rfl rfl dL_law_1479 (Nat.le_of_ble_eq_true rfl) ⟨by decide, by decide⟩ ⟨by show _ ≤ 600000; omega, by show _ ≤ 7302250; omega⟩ (fun r1 L M hp => ?_)
  obtain ⟨C, D, F, I, K1, hr⟩ := hp
  have hN : NowOk (C 3) (C 27) (C 29) := by rw [(K1 3 (by decide)).1, (K1 27 (by decide)).1, (K1 29 (by decide)).1]; exact hN
  have hLK : LK act (C 103) (C 137) (C 138) (C 80) (C 82) (C 84) (C 86) := by rw [(K1 103 (by decide)).1, (K1 137 (by decide)).1, (K1 138 (by decide)).1, (K1 80 (by decide)).1, (K1 82 (by decide)).1, (K1 84 (by decide)).1, (K1 86 (by decide)).1]; exact hLK
  refine g_pop X dL_law_1482 rfl ?_
  refine g_aload_n X dL_law_1483 rfl (j := 1) rfl ?_
  refine g_aload_n X dL_law_1484 rfl (j := 3) rfl ?_
  refine g_iload_n X dL_law_1485 rfl (j := 0) rfl ?_
  refine g_iconst X dL_law_1486 (v := 1) (by decide) ?_
  refine g_iadd X dL_law_1487 ?_
  refine Go.top (v := .int (nI ((6 * t) + 1))) (congrArg Value.int (nI_add (6 * t) 1)) ?_
  refine g_sld X hX hbl hbA (vp_in_nI (by omega) (by omega)) (v := xs ((6 * t) + 1)) (by rw [nI_clamp (by omega)]) dL_law_1488 ?_
  refine g_callVI X (s_X8_ring l G F I ((xs ((6 * t) + 1))) ) lk_L_201 (F.1 100 rfl).2 (F.1 100 rfl).1 rfl rfl dL_law_1489 (Nat.le_of_ble_eq_true rfl) ⟨by decide, by decide⟩ ⟨by show _ ≤ 600000; omega, by show _ ≤ 7302250; omega⟩ (fun r2 L M hp => ?_)
  obtain ⟨C, D, F, I, K1, hr⟩ := hp
  have hN : NowOk (C 3) (C 27) (C 29) := by rw [(K1 3 (by decide)).1, (K1 27 (by decide)).1, (K1 29 (by decide)).1]; exact hN
  have hLK : LK act (C 103) (C 137) (C 138) (C 80) (C 82) (C 84) (C 86) := by rw [(K1 103 (by decide)).1, (K1 137 (by decide)).1, (K1 138 (by decide)).1, (K1 80 (by decide)).1, (K1 82 (by decide)).1, (K1 84 (by decide)).1, (K1 86 (by decide)).1]; exact hLK
  refine g_pop X dL_law_1492 rfl ?_
  refine g_goto X dL_law_1493 (tgt := 2393) (by decide) ?_
  refine g_widen (k1 := 210 + 10 * t) (k2 := 20400 + 400 * t) (by omega) (by omega) ?_
  exact tail L M ⟨a, act, C, D, R, F, I, HA, HR, hN, hLK, rfl, rfl⟩
set_option maxHeartbeats 4000000 in
set_option maxRecDepth 100000 in
theorem lc_46 {p : Program} {l : Launch} {e : Env} {s : State} {m : MethodId} {below : List Frame} {meth : Method} {c : Code} {G : va_G} {cy : Nat → ClassId} {A : Nat → Prop} {Q : State → Prop} {b Ln : Nat} {xs : Nat → Int32} {x0 m0 : Nat} {L : List Nat} {M : Nat → va_E} (X : Cx p s m #[Value.ref b] meth c RL cL_law 4 G cy A) (hX : va_X b Ln xs s s.heap) (hbl : b < s.heap.size) (hbA : ¬ A b) (hLn : Ln ≤ 3072) (t : Nat) (ht : 6 * t + 6 ≤ Ln) (hW : Wd cy x0 m0 L M) (tail : ∀ (L : List Nat) (M : Nat → va_E), Wd cy x0 m0 L M → Go p l e room_1 s m #[Value.ref b] below meth c 4 G A (210 + 10 * t) (20400 + 400 * t) Q L M 2393 [(3, .int (nI (6 * t))), (2, .ref m0), (1, .ref x0), (0, .ref b)] []) : Go p l e room_1 s m #[Value.ref b] below meth c 4 G A (200 + 10 * t) (20000 + 400 * t) Q L M 1496 [(3, .int (nI (6 * t))), (2, .ref m0), (1, .ref x0), (0, .ref b)] [] := by
  obtain ⟨a, act, C, D, R, F, I, HA, HR, hN, hLK, e0, e1⟩ := hW
  subst e0
  subst e1
  refine g_aload_n X dL_law_1496 rfl (j := 2) rfl ?_
  refine g_callVI X (s_X7_trees l G F I  ) lk_L_202 (F.1 0 rfl).2 (F.1 0 rfl).1 rfl rfl dL_law_1497 (Nat.le_of_ble_eq_true rfl) ⟨by decide, by decide⟩ ⟨by show _ ≤ 600000; omega, by show _ ≤ 7302250; omega⟩ (fun r1 L M hp => ?_)
  obtain ⟨C, D, F, I, K1, hr⟩ := hp
  have hN : NowOk (C 3) (C 27) (C 29) := by rw [(K1 3 (by decide)).1, (K1 27 (by decide)).1, (K1 29 (by decide)).1]; exact hN
  have hLK : LK act (C 103) (C 137) (C 138) (C 80) (C 82) (C 84) (C 86) := by rw [(K1 103 (by decide)).1, (K1 137 (by decide)).1, (K1 138 (by decide)).1, (K1 80 (by decide)).1, (K1 82 (by decide)).1, (K1 84 (by decide)).1, (K1 86 (by decide)).1]; exact hLK
  refine g_pop X dL_law_1500 rfl ?_
  refine g_aload_n X dL_law_1501 rfl (j := 1) rfl ?_
  refine g_callVI X (s_X8_trees l G F I  ) lk_L_205 (F.1 100 rfl).2 (F.1 100 rfl).1 rfl rfl dL_law_1502 (Nat.le_of_ble_eq_true rfl) ⟨by decide, by decide⟩ ⟨by show _ ≤ 600000; omega, by show _ ≤ 7302250; omega⟩ (fun r2 L M hp => ?_)
  obtain ⟨C, D, F, I, K1, hr⟩ := hp
  have hN : NowOk (C 3) (C 27) (C 29) := by rw [(K1 3 (by decide)).1, (K1 27 (by decide)).1, (K1 29 (by decide)).1]; exact hN
  have hLK : LK act (C 103) (C 137) (C 138) (C 80) (C 82) (C 84) (C 86) := by rw [(K1 103 (by decide)).1, (K1 137 (by decide)).1, (K1 138 (by decide)).1, (K1 80 (by decide)).1, (K1 82 (by decide)).1, (K1 84 (by decide)).1, (K1 86 (by decide)).1]; exact hLK
  refine g_pop X dL_law_1505 rfl ?_
  refine g_goto X dL_law_1506 (tgt := 2393) (by decide) ?_
  refine g_widen (k1 := 210 + 10 * t) (k2 := 20400 + 400 * t) (by omega) (by omega) ?_
  exact tail L M ⟨a, act, C, D, R, F, I, HA, HR, hN, hLK, rfl, rfl⟩
set_option maxHeartbeats 4000000 in
set_option maxRecDepth 100000 in
theorem lc_47 {p : Program} {l : Launch} {e : Env} {s : State} {m : MethodId} {below : List Frame} {meth : Method} {c : Code} {G : va_G} {cy : Nat → ClassId} {A : Nat → Prop} {Q : State → Prop} {b Ln : Nat} {xs : Nat → Int32} {x0 m0 : Nat} {L : List Nat} {M : Nat → va_E} (X : Cx p s m #[Value.ref b] meth c RL cL_law 4 G cy A) (hX : va_X b Ln xs s s.heap) (hbl : b < s.heap.size) (hbA : ¬ A b) (hLn : Ln ≤ 3072) (t : Nat) (ht : 6 * t + 6 ≤ Ln) (hW : Wd cy x0 m0 L M) (tail : ∀ (L : List Nat) (M : Nat → va_E), Wd cy x0 m0 L M → Go p l e room_1 s m #[Value.ref b] below meth c 4 G A (210 + 10 * t) (20400 + 400 * t) Q L M 2393 [(3, .int (nI (6 * t))), (2, .ref m0), (1, .ref x0), (0, .ref b)] []) : Go p l e room_1 s m #[Value.ref b] below meth c 4 G A (200 + 10 * t) (20000 + 400 * t) Q L M 1509 [(3, .int (nI (6 * t))), (2, .ref m0), (1, .ref x0), (0, .ref b)] [] := by
  obtain ⟨a, act, C, D, R, F, I, HA, HR, hN, hLK, e0, e1⟩ := hW
  subst e0
  subst e1
  refine g_aload_n X dL_law_1509 rfl (j := 2) rfl ?_
  refine g_aload_n X dL_law_1510 rfl (j := 3) rfl ?_
  refine g_iload_n X dL_law_1511 rfl (j := 0) rfl ?_
  refine g_iconst X dL_law_1512 (v := 1) (by decide) ?_
  refine g_iadd X dL_law_1513 ?_
  refine Go.top (v := .int (nI ((6 * t) + 1))) (congrArg Value.int (nI_add (6 * t) 1)) ?_
  refine g_sld X hX hbl hbA (vp_in_nI (by omega) (by omega)) (v := xs ((6 * t) + 1)) (by rw [nI_clamp (by omega)]) dL_law_1514 ?_
  refine g_aload_n X dL_law_1515 rfl (j := 3) rfl ?_
  refine g_iload_n X dL_law_1516 rfl (j := 0) rfl ?_
  refine g_iconst X dL_law_1517 (v := 2) (by decide) ?_
  refine g_iadd X dL_law_1518 ?_
  refine Go.top (v := .int (nI ((6 * t) + 2))) (congrArg Value.int (nI_add (6 * t) 2)) ?_
  refine g_sld X hX hbl hbA (vp_in_nI (by omega) (by omega)) (v := xs ((6 * t) + 2)) (by rw [nI_clamp (by omega)]) dL_law_1519 ?_
  refine g_callVI X (s_X7_point l G F I ((xs ((6 * t) + 1))) ((xs ((6 * t) + 2))) ) lk_L_206 (F.1 0 rfl).2 (F.1 0 rfl).1 rfl rfl dL_law_1520 (Nat.le_of_ble_eq_true rfl) ⟨by decide, by decide⟩ ⟨by show _ ≤ 600000; omega, by show _ ≤ 7302250; omega⟩ (fun r1 L M hp => ?_)
  obtain ⟨C, D, F, I, K1, hr⟩ := hp
  have hN : NowOk (C 3) (C 27) (C 29) := by rw [(K1 3 (by decide)).1, (K1 27 (by decide)).1, (K1 29 (by decide)).1]; exact hN
  have hLK : LK act (C 103) (C 137) (C 138) (C 80) (C 82) (C 84) (C 86) := by rw [(K1 103 (by decide)).1, (K1 137 (by decide)).1, (K1 138 (by decide)).1, (K1 80 (by decide)).1, (K1 82 (by decide)).1, (K1 84 (by decide)).1, (K1 86 (by decide)).1]; exact hLK
  refine g_pop X dL_law_1523 rfl ?_
  refine g_aload_n X dL_law_1524 rfl (j := 1) rfl ?_
  refine g_aload_n X dL_law_1525 rfl (j := 3) rfl ?_
  refine g_iload_n X dL_law_1526 rfl (j := 0) rfl ?_
  refine g_iconst X dL_law_1527 (v := 1) (by decide) ?_
  refine g_iadd X dL_law_1528 ?_
  refine Go.top (v := .int (nI ((6 * t) + 1))) (congrArg Value.int (nI_add (6 * t) 1)) ?_
  refine g_sld X hX hbl hbA (vp_in_nI (by omega) (by omega)) (v := xs ((6 * t) + 1)) (by rw [nI_clamp (by omega)]) dL_law_1529 ?_
  refine g_aload_n X dL_law_1530 rfl (j := 3) rfl ?_
  refine g_iload_n X dL_law_1531 rfl (j := 0) rfl ?_
  refine g_iconst X dL_law_1532 (v := 2) (by decide) ?_
  refine g_iadd X dL_law_1533 ?_
  refine Go.top (v := .int (nI ((6 * t) + 2))) (congrArg Value.int (nI_add (6 * t) 2)) ?_
  refine g_sld X hX hbl hbA (vp_in_nI (by omega) (by omega)) (v := xs ((6 * t) + 2)) (by rw [nI_clamp (by omega)]) dL_law_1534 ?_
  refine g_callVI X (s_X8_point l G F I ((xs ((6 * t) + 1))) ((xs ((6 * t) + 2))) ) lk_L_209 (F.1 100 rfl).2 (F.1 100 rfl).1 rfl rfl dL_law_1535 (Nat.le_of_ble_eq_true rfl) ⟨by decide, by decide⟩ ⟨by show _ ≤ 600000; omega, by show _ ≤ 7302250; omega⟩ (fun r2 L M hp => ?_)
  obtain ⟨C, D, F, I, K1, hr⟩ := hp
  have hN : NowOk (C 3) (C 27) (C 29) := by rw [(K1 3 (by decide)).1, (K1 27 (by decide)).1, (K1 29 (by decide)).1]; exact hN
  have hLK : LK act (C 103) (C 137) (C 138) (C 80) (C 82) (C 84) (C 86) := by rw [(K1 103 (by decide)).1, (K1 137 (by decide)).1, (K1 138 (by decide)).1, (K1 80 (by decide)).1, (K1 82 (by decide)).1, (K1 84 (by decide)).1, (K1 86 (by decide)).1]; exact hLK
  refine g_pop X dL_law_1538 rfl ?_
  refine g_goto X dL_law_1539 (tgt := 2393) (by decide) ?_
  refine g_widen (k1 := 210 + 10 * t) (k2 := 20400 + 400 * t) (by omega) (by omega) ?_
  exact tail L M ⟨a, act, C, D, R, F, I, HA, HR, hN, hLK, rfl, rfl⟩
set_option maxHeartbeats 4000000 in
set_option maxRecDepth 100000 in
theorem lc_48 {p : Program} {l : Launch} {e : Env} {s : State} {m : MethodId} {below : List Frame} {meth : Method} {c : Code} {G : va_G} {cy : Nat → ClassId} {A : Nat → Prop} {Q : State → Prop} {b Ln : Nat} {xs : Nat → Int32} {x0 m0 : Nat} {L : List Nat} {M : Nat → va_E} (X : Cx p s m #[Value.ref b] meth c RL cL_law 4 G cy A) (hX : va_X b Ln xs s s.heap) (hbl : b < s.heap.size) (hbA : ¬ A b) (hLn : Ln ≤ 3072) (t : Nat) (ht : 6 * t + 6 ≤ Ln) (hW : Wd cy x0 m0 L M) (tail : ∀ (L : List Nat) (M : Nat → va_E), Wd cy x0 m0 L M → Go p l e room_1 s m #[Value.ref b] below meth c 4 G A (210 + 10 * t) (20400 + 400 * t) Q L M 2393 [(3, .int (nI (6 * t))), (2, .ref m0), (1, .ref x0), (0, .ref b)] []) : Go p l e room_1 s m #[Value.ref b] below meth c 4 G A (200 + 10 * t) (20000 + 400 * t) Q L M 1542 [(3, .int (nI (6 * t))), (2, .ref m0), (1, .ref x0), (0, .ref b)] [] := by
  obtain ⟨a, act, C, D, R, F, I, HA, HR, hN, hLK, e0, e1⟩ := hW
  subst e0
  subst e1
  refine g_aload_n X dL_law_1542 rfl (j := 2) rfl ?_
  refine g_callVI X (s_X7_best l G F I  ) lk_L_210 (F.1 0 rfl).2 (F.1 0 rfl).1 rfl rfl dL_law_1543 (Nat.le_of_ble_eq_true rfl) ⟨by decide, by decide⟩ ⟨by show _ ≤ 600000; omega, by show _ ≤ 7302250; omega⟩ (fun r1 L M hp => ?_)
  obtain ⟨C, D, F, I, K1, hr⟩ := hp
  have hN : NowOk (C 3) (C 27) (C 29) := by rw [(K1 3 (by decide)).1, (K1 27 (by decide)).1, (K1 29 (by decide)).1]; exact hN
  have hLK : LK act (C 103) (C 137) (C 138) (C 80) (C 82) (C 84) (C 86) := by rw [(K1 103 (by decide)).1, (K1 137 (by decide)).1, (K1 138 (by decide)).1, (K1 80 (by decide)).1, (K1 82 (by decide)).1, (K1 84 (by decide)).1, (K1 86 (by decide)).1]; exact hLK
  refine g_pop X dL_law_1546 rfl ?_
  refine g_aload_n X dL_law_1547 rfl (j := 1) rfl ?_
  refine g_callVI X (s_X8_best l G F I  ) lk_L_213 (F.1 100 rfl).2 (F.1 100 rfl).1 rfl rfl dL_law_1548 (Nat.le_of_ble_eq_true rfl) ⟨by decide, by decide⟩ ⟨by show _ ≤ 600000; omega, by show _ ≤ 7302250; omega⟩ (fun r2 L M hp => ?_)
  obtain ⟨C, D, F, I, K1, hr⟩ := hp
  have hN : NowOk (C 3) (C 27) (C 29) := by rw [(K1 3 (by decide)).1, (K1 27 (by decide)).1, (K1 29 (by decide)).1]; exact hN
  have hLK : LK act (C 103) (C 137) (C 138) (C 80) (C 82) (C 84) (C 86) := by rw [(K1 103 (by decide)).1, (K1 137 (by decide)).1, (K1 138 (by decide)).1, (K1 80 (by decide)).1, (K1 82 (by decide)).1, (K1 84 (by decide)).1, (K1 86 (by decide)).1]; exact hLK
  refine g_pop X dL_law_1551 rfl ?_
  refine g_goto X dL_law_1552 (tgt := 2393) (by decide) ?_
  refine g_widen (k1 := 210 + 10 * t) (k2 := 20400 + 400 * t) (by omega) (by omega) ?_
  exact tail L M ⟨a, act, C, D, R, F, I, HA, HR, hN, hLK, rfl, rfl⟩
set_option maxHeartbeats 4000000 in
set_option maxRecDepth 100000 in
theorem lc_49 {p : Program} {l : Launch} {e : Env} {s : State} {m : MethodId} {below : List Frame} {meth : Method} {c : Code} {G : va_G} {cy : Nat → ClassId} {A : Nat → Prop} {Q : State → Prop} {b Ln : Nat} {xs : Nat → Int32} {x0 m0 : Nat} {L : List Nat} {M : Nat → va_E} (X : Cx p s m #[Value.ref b] meth c RL cL_law 4 G cy A) (hX : va_X b Ln xs s s.heap) (hbl : b < s.heap.size) (hbA : ¬ A b) (hLn : Ln ≤ 3072) (t : Nat) (ht : 6 * t + 6 ≤ Ln) (hW : Wd cy x0 m0 L M) (tail : ∀ (L : List Nat) (M : Nat → va_E), Wd cy x0 m0 L M → Go p l e room_1 s m #[Value.ref b] below meth c 4 G A (210 + 10 * t) (20400 + 400 * t) Q L M 2393 [(3, .int (nI (6 * t))), (2, .ref m0), (1, .ref x0), (0, .ref b)] []) : Go p l e room_1 s m #[Value.ref b] below meth c 4 G A (200 + 10 * t) (20000 + 400 * t) Q L M 1555 [(3, .int (nI (6 * t))), (2, .ref m0), (1, .ref x0), (0, .ref b)] [] := by
  obtain ⟨a, act, C, D, R, F, I, HA, HR, hN, hLK, e0, e1⟩ := hW
  subst e0
  subst e1
  refine g_aload_n X dL_law_1555 rfl (j := 2) rfl ?_
  refine g_callVI X (s_X7_crowds l G F I  ) lk_L_214 (F.1 0 rfl).2 (F.1 0 rfl).1 rfl rfl dL_law_1556 (Nat.le_of_ble_eq_true rfl) ⟨by decide, by decide⟩ ⟨by show _ ≤ 600000; omega, by show _ ≤ 7302250; omega⟩ (fun r1 L M hp => ?_)
  obtain ⟨C, D, F, I, K1, hr⟩ := hp
  have hN : NowOk (C 3) (C 27) (C 29) := by rw [(K1 3 (by decide)).1, (K1 27 (by decide)).1, (K1 29 (by decide)).1]; exact hN
  have hLK : LK act (C 103) (C 137) (C 138) (C 80) (C 82) (C 84) (C 86) := by rw [(K1 103 (by decide)).1, (K1 137 (by decide)).1, (K1 138 (by decide)).1, (K1 80 (by decide)).1, (K1 82 (by decide)).1, (K1 84 (by decide)).1, (K1 86 (by decide)).1]; exact hLK
  refine g_pop X dL_law_1559 rfl ?_
  refine g_aload_n X dL_law_1560 rfl (j := 1) rfl ?_
  refine g_callVI X (s_X8_crowds l G F I  ) lk_L_217 (F.1 100 rfl).2 (F.1 100 rfl).1 rfl rfl dL_law_1561 (Nat.le_of_ble_eq_true rfl) ⟨by decide, by decide⟩ ⟨by show _ ≤ 600000; omega, by show _ ≤ 7302250; omega⟩ (fun r2 L M hp => ?_)
  obtain ⟨C, D, F, I, K1, hr⟩ := hp
  have hN : NowOk (C 3) (C 27) (C 29) := by rw [(K1 3 (by decide)).1, (K1 27 (by decide)).1, (K1 29 (by decide)).1]; exact hN
  have hLK : LK act (C 103) (C 137) (C 138) (C 80) (C 82) (C 84) (C 86) := by rw [(K1 103 (by decide)).1, (K1 137 (by decide)).1, (K1 138 (by decide)).1, (K1 80 (by decide)).1, (K1 82 (by decide)).1, (K1 84 (by decide)).1, (K1 86 (by decide)).1]; exact hLK
  refine g_pop X dL_law_1564 rfl ?_
  refine g_goto X dL_law_1565 (tgt := 2393) (by decide) ?_
  refine g_widen (k1 := 210 + 10 * t) (k2 := 20400 + 400 * t) (by omega) (by omega) ?_
  exact tail L M ⟨a, act, C, D, R, F, I, HA, HR, hN, hLK, rfl, rfl⟩
set_option maxHeartbeats 4000000 in
set_option maxRecDepth 100000 in
theorem lc_50 {p : Program} {l : Launch} {e : Env} {s : State} {m : MethodId} {below : List Frame} {meth : Method} {c : Code} {G : va_G} {cy : Nat → ClassId} {A : Nat → Prop} {Q : State → Prop} {b Ln : Nat} {xs : Nat → Int32} {x0 m0 : Nat} {L : List Nat} {M : Nat → va_E} (X : Cx p s m #[Value.ref b] meth c RL cL_law 4 G cy A) (hX : va_X b Ln xs s s.heap) (hbl : b < s.heap.size) (hbA : ¬ A b) (hLn : Ln ≤ 3072) (t : Nat) (ht : 6 * t + 6 ≤ Ln) (hW : Wd cy x0 m0 L M) (tail : ∀ (L : List Nat) (M : Nat → va_E), Wd cy x0 m0 L M → Go p l e room_1 s m #[Value.ref b] below meth c 4 G A (210 + 10 * t) (20400 + 400 * t) Q L M 2393 [(3, .int (nI (6 * t))), (2, .ref m0), (1, .ref x0), (0, .ref b)] []) : Go p l e room_1 s m #[Value.ref b] below meth c 4 G A (200 + 10 * t) (20000 + 400 * t) Q L M 1568 [(3, .int (nI (6 * t))), (2, .ref m0), (1, .ref x0), (0, .ref b)] [] := by
  obtain ⟨a, act, C, D, R, F, I, HA, HR, hN, hLK, e0, e1⟩ := hW
  subst e0
  subst e1
  refine g_aload_n X dL_law_1568 rfl (j := 2) rfl ?_
  refine g_aload_n X dL_law_1569 rfl (j := 3) rfl ?_
  refine g_iload_n X dL_law_1570 rfl (j := 0) rfl ?_
  refine g_iconst X dL_law_1571 (v := 1) (by decide) ?_
  refine g_iadd X dL_law_1572 ?_
  refine Go.top (v := .int (nI ((6 * t) + 1))) (congrArg Value.int (nI_add (6 * t) 1)) ?_
  refine g_sld X hX hbl hbA (vp_in_nI (by omega) (by omega)) (v := xs ((6 * t) + 1)) (by rw [nI_clamp (by omega)]) dL_law_1573 ?_
  refine g_aload_n X dL_law_1574 rfl (j := 3) rfl ?_
  refine g_iload_n X dL_law_1575 rfl (j := 0) rfl ?_
  refine g_iconst X dL_law_1576 (v := 2) (by decide) ?_
  refine g_iadd X dL_law_1577 ?_
  refine Go.top (v := .int (nI ((6 * t) + 2))) (congrArg Value.int (nI_add (6 * t) 2)) ?_
  refine g_sld X hX hbl hbA (vp_in_nI (by omega) (by omega)) (v := xs ((6 * t) + 2)) (by rw [nI_clamp (by omega)]) dL_law_1578 ?_
  refine g_callVI X (s_X7_may l G F I ((xs ((6 * t) + 1))) ((xs ((6 * t) + 2))) HR) lk_L_218 (F.1 0 rfl).2 (F.1 0 rfl).1 rfl rfl dL_law_1579 (Nat.le_of_ble_eq_true rfl) ⟨by decide, by decide⟩ ⟨by show _ ≤ 600000; omega, by show _ ≤ 7302250; omega⟩ (fun r1 L M hp => ?_)
  obtain ⟨C, D, F, I, K1, hr⟩ := hp
  have hN : NowOk (C 3) (C 27) (C 29) := by rw [(K1 3 (by decide)).1, (K1 27 (by decide)).1, (K1 29 (by decide)).1]; exact hN
  have hLK : LK act (C 103) (C 137) (C 138) (C 80) (C 82) (C 84) (C 86) := by rw [(K1 103 (by decide)).1, (K1 137 (by decide)).1, (K1 138 (by decide)).1, (K1 80 (by decide)).1, (K1 82 (by decide)).1, (K1 84 (by decide)).1, (K1 86 (by decide)).1]; exact hLK
  refine g_pop X dL_law_1582 rfl ?_
  refine g_aload_n X dL_law_1583 rfl (j := 1) rfl ?_
  refine g_aload_n X dL_law_1584 rfl (j := 3) rfl ?_
  refine g_iload_n X dL_law_1585 rfl (j := 0) rfl ?_
  refine g_iconst X dL_law_1586 (v := 1) (by decide) ?_
  refine g_iadd X dL_law_1587 ?_
  refine Go.top (v := .int (nI ((6 * t) + 1))) (congrArg Value.int (nI_add (6 * t) 1)) ?_
  refine g_sld X hX hbl hbA (vp_in_nI (by omega) (by omega)) (v := xs ((6 * t) + 1)) (by rw [nI_clamp (by omega)]) dL_law_1588 ?_
  refine g_aload_n X dL_law_1589 rfl (j := 3) rfl ?_
  refine g_iload_n X dL_law_1590 rfl (j := 0) rfl ?_
  refine g_iconst X dL_law_1591 (v := 2) (by decide) ?_
  refine g_iadd X dL_law_1592 ?_
  refine Go.top (v := .int (nI ((6 * t) + 2))) (congrArg Value.int (nI_add (6 * t) 2)) ?_
  refine g_sld X hX hbl hbA (vp_in_nI (by omega) (by omega)) (v := xs ((6 * t) + 2)) (by rw [nI_clamp (by omega)]) dL_law_1593 ?_
  refine g_callVI X (s_X8_may l G F I ((xs ((6 * t) + 1))) ((xs ((6 * t) + 2))) ) lk_L_221 (F.1 100 rfl).2 (F.1 100 rfl).1 rfl rfl dL_law_1594 (Nat.le_of_ble_eq_true rfl) ⟨by decide, by decide⟩ ⟨by show _ ≤ 600000; omega, by show _ ≤ 7302250; omega⟩ (fun r2 L M hp => ?_)
  obtain ⟨C, D, F, I, K1, hr⟩ := hp
  have hN : NowOk (C 3) (C 27) (C 29) := by rw [(K1 3 (by decide)).1, (K1 27 (by decide)).1, (K1 29 (by decide)).1]; exact hN
  have hLK : LK act (C 103) (C 137) (C 138) (C 80) (C 82) (C 84) (C 86) := by rw [(K1 103 (by decide)).1, (K1 137 (by decide)).1, (K1 138 (by decide)).1, (K1 80 (by decide)).1, (K1 82 (by decide)).1, (K1 84 (by decide)).1, (K1 86 (by decide)).1]; exact hLK
  refine g_pop X dL_law_1597 rfl ?_
  refine g_goto X dL_law_1598 (tgt := 2393) (by decide) ?_
  refine g_widen (k1 := 210 + 10 * t) (k2 := 20400 + 400 * t) (by omega) (by omega) ?_
  exact tail L M ⟨a, act, C, D, R, F, I, HA, HR, hN, hLK, rfl, rfl⟩
set_option maxHeartbeats 4000000 in
set_option maxRecDepth 100000 in
theorem lc_51 {p : Program} {l : Launch} {e : Env} {s : State} {m : MethodId} {below : List Frame} {meth : Method} {c : Code} {G : va_G} {cy : Nat → ClassId} {A : Nat → Prop} {Q : State → Prop} {b Ln : Nat} {xs : Nat → Int32} {x0 m0 : Nat} {L : List Nat} {M : Nat → va_E} (X : Cx p s m #[Value.ref b] meth c RL cL_law 4 G cy A) (hX : va_X b Ln xs s s.heap) (hbl : b < s.heap.size) (hbA : ¬ A b) (hLn : Ln ≤ 3072) (t : Nat) (ht : 6 * t + 6 ≤ Ln) (hW : Wd cy x0 m0 L M) (tail : ∀ (L : List Nat) (M : Nat → va_E), Wd cy x0 m0 L M → Go p l e room_1 s m #[Value.ref b] below meth c 4 G A (210 + 10 * t) (20400 + 400 * t) Q L M 2393 [(3, .int (nI (6 * t))), (2, .ref m0), (1, .ref x0), (0, .ref b)] []) : Go p l e room_1 s m #[Value.ref b] below meth c 4 G A (200 + 10 * t) (20000 + 400 * t) Q L M 1601 [(3, .int (nI (6 * t))), (2, .ref m0), (1, .ref x0), (0, .ref b)] [] := by
  obtain ⟨a, act, C, D, R, F, I, HA, HR, hN, hLK, e0, e1⟩ := hW
  subst e0
  subst e1
  refine g_aload_n X dL_law_1601 rfl (j := 2) rfl ?_
  refine g_aload_n X dL_law_1602 rfl (j := 3) rfl ?_
  refine g_iload_n X dL_law_1603 rfl (j := 0) rfl ?_
  refine g_iconst X dL_law_1604 (v := 1) (by decide) ?_
  refine g_iadd X dL_law_1605 ?_
  refine Go.top (v := .int (nI ((6 * t) + 1))) (congrArg Value.int (nI_add (6 * t) 1)) ?_
  refine g_sld X hX hbl hbA (vp_in_nI (by omega) (by omega)) (v := xs ((6 * t) + 1)) (by rw [nI_clamp (by omega)]) dL_law_1606 ?_
  refine g_aload_n X dL_law_1607 rfl (j := 3) rfl ?_
  refine g_iload_n X dL_law_1608 rfl (j := 0) rfl ?_
  refine g_iconst X dL_law_1609 (v := 2) (by decide) ?_
  refine g_iadd X dL_law_1610 ?_
  refine Go.top (v := .int (nI ((6 * t) + 2))) (congrArg Value.int (nI_add (6 * t) 2)) ?_
  refine g_sld X hX hbl hbA (vp_in_nI (by omega) (by omega)) (v := xs ((6 * t) + 2)) (by rw [nI_clamp (by omega)]) dL_law_1611 ?_
  refine g_callVI X (s_X7_ask l G F I ((xs ((6 * t) + 1))) ((xs ((6 * t) + 2))) HR) lk_L_222 (F.1 0 rfl).2 (F.1 0 rfl).1 rfl rfl dL_law_1612 (Nat.le_of_ble_eq_true rfl) ⟨by decide, by decide⟩ ⟨by show _ ≤ 600000; omega, by show _ ≤ 7302250; omega⟩ (fun r1 L M hp => ?_)
  obtain ⟨C, D, F, I, K1, hr⟩ := hp
  have hN : NowOk (C 3) (C 27) (C 29) := by rw [(K1 3 (by decide)).1, (K1 27 (by decide)).1, (K1 29 (by decide)).1]; exact hN
  have hLK : LK act (C 103) (C 137) (C 138) (C 80) (C 82) (C 84) (C 86) := by rw [(K1 103 (by decide)).1, (K1 137 (by decide)).1, (K1 138 (by decide)).1, (K1 80 (by decide)).1, (K1 82 (by decide)).1, (K1 84 (by decide)).1, (K1 86 (by decide)).1]; exact hLK
  refine g_pop X dL_law_1615 rfl ?_
  refine g_aload_n X dL_law_1616 rfl (j := 1) rfl ?_
  refine g_aload_n X dL_law_1617 rfl (j := 3) rfl ?_
  refine g_iload_n X dL_law_1618 rfl (j := 0) rfl ?_
  refine g_iconst X dL_law_1619 (v := 1) (by decide) ?_
  refine g_iadd X dL_law_1620 ?_
  refine Go.top (v := .int (nI ((6 * t) + 1))) (congrArg Value.int (nI_add (6 * t) 1)) ?_
  refine g_sld X hX hbl hbA (vp_in_nI (by omega) (by omega)) (v := xs ((6 * t) + 1)) (by rw [nI_clamp (by omega)]) dL_law_1621 ?_
  refine g_aload_n X dL_law_1622 rfl (j := 3) rfl ?_
  refine g_iload_n X dL_law_1623 rfl (j := 0) rfl ?_
  refine g_iconst X dL_law_1624 (v := 2) (by decide) ?_
  refine g_iadd X dL_law_1625 ?_
  refine Go.top (v := .int (nI ((6 * t) + 2))) (congrArg Value.int (nI_add (6 * t) 2)) ?_
  refine g_sld X hX hbl hbA (vp_in_nI (by omega) (by omega)) (v := xs ((6 * t) + 2)) (by rw [nI_clamp (by omega)]) dL_law_1626 ?_
  refine g_callVI X (s_X8_ask l G F I ((xs ((6 * t) + 1))) ((xs ((6 * t) + 2))) ) lk_L_225 (F.1 100 rfl).2 (F.1 100 rfl).1 rfl rfl dL_law_1627 (Nat.le_of_ble_eq_true rfl) ⟨by decide, by decide⟩ ⟨by show _ ≤ 600000; omega, by show _ ≤ 7302250; omega⟩ (fun r2 L M hp => ?_)
  obtain ⟨C, D, F, I, K1, hr⟩ := hp
  have hN : NowOk (C 3) (C 27) (C 29) := by rw [(K1 3 (by decide)).1, (K1 27 (by decide)).1, (K1 29 (by decide)).1]; exact hN
  have hLK : LK act (C 103) (C 137) (C 138) (C 80) (C 82) (C 84) (C 86) := by rw [(K1 103 (by decide)).1, (K1 137 (by decide)).1, (K1 138 (by decide)).1, (K1 80 (by decide)).1, (K1 82 (by decide)).1, (K1 84 (by decide)).1, (K1 86 (by decide)).1]; exact hLK
  refine g_pop X dL_law_1630 rfl ?_
  refine g_goto X dL_law_1631 (tgt := 2393) (by decide) ?_
  refine g_widen (k1 := 210 + 10 * t) (k2 := 20400 + 400 * t) (by omega) (by omega) ?_
  exact tail L M ⟨a, act, C, D, R, F, I, HA, HR, hN, hLK, rfl, rfl⟩
set_option maxHeartbeats 4000000 in
set_option maxRecDepth 100000 in
theorem lc_52 {p : Program} {l : Launch} {e : Env} {s : State} {m : MethodId} {below : List Frame} {meth : Method} {c : Code} {G : va_G} {cy : Nat → ClassId} {A : Nat → Prop} {Q : State → Prop} {b Ln : Nat} {xs : Nat → Int32} {x0 m0 : Nat} {L : List Nat} {M : Nat → va_E} (X : Cx p s m #[Value.ref b] meth c RL cL_law 4 G cy A) (hX : va_X b Ln xs s s.heap) (hbl : b < s.heap.size) (hbA : ¬ A b) (hLn : Ln ≤ 3072) (t : Nat) (ht : 6 * t + 6 ≤ Ln) (hW : Wd cy x0 m0 L M) (tail : ∀ (L : List Nat) (M : Nat → va_E), Wd cy x0 m0 L M → Go p l e room_1 s m #[Value.ref b] below meth c 4 G A (210 + 10 * t) (20400 + 400 * t) Q L M 2393 [(3, .int (nI (6 * t))), (2, .ref m0), (1, .ref x0), (0, .ref b)] []) : Go p l e room_1 s m #[Value.ref b] below meth c 4 G A (200 + 10 * t) (20000 + 400 * t) Q L M 1634 [(3, .int (nI (6 * t))), (2, .ref m0), (1, .ref x0), (0, .ref b)] [] := by
  obtain ⟨a, act, C, D, R, F, I, HA, HR, hN, hLK, e0, e1⟩ := hW
  subst e0
  subst e1
  refine g_aload_n X dL_law_1634 rfl (j := 2) rfl ?_
  refine g_aload_n X dL_law_1635 rfl (j := 3) rfl ?_
  refine g_iload_n X dL_law_1636 rfl (j := 0) rfl ?_
  refine g_iconst X dL_law_1637 (v := 1) (by decide) ?_
  refine g_iadd X dL_law_1638 ?_
  refine Go.top (v := .int (nI ((6 * t) + 1))) (congrArg Value.int (nI_add (6 * t) 1)) ?_
  refine g_sld X hX hbl hbA (vp_in_nI (by omega) (by omega)) (v := xs ((6 * t) + 1)) (by rw [nI_clamp (by omega)]) dL_law_1639 ?_
  refine g_aload_n X dL_law_1640 rfl (j := 3) rfl ?_
  refine g_iload_n X dL_law_1641 rfl (j := 0) rfl ?_
  refine g_iconst X dL_law_1642 (v := 2) (by decide) ?_
  refine g_iadd X dL_law_1643 ?_
  refine Go.top (v := .int (nI ((6 * t) + 2))) (congrArg Value.int (nI_add (6 * t) 2)) ?_
  refine g_sld X hX hbl hbA (vp_in_nI (by omega) (by omega)) (v := xs ((6 * t) + 2)) (by rw [nI_clamp (by omega)]) dL_law_1644 ?_
  refine g_callVI X (s_X7_leaves l G F I ((xs ((6 * t) + 1))) ((xs ((6 * t) + 2))) HR) lk_L_226 (F.1 0 rfl).2 (F.1 0 rfl).1 rfl rfl dL_law_1645 (Nat.le_of_ble_eq_true rfl) ⟨by decide, by decide⟩ ⟨by show _ ≤ 600000; omega, by show _ ≤ 7302250; omega⟩ (fun r1 L M hp => ?_)
  obtain ⟨C, D, F, I, K1, hr⟩ := hp
  have hN : NowOk (C 3) (C 27) (C 29) := by rw [(K1 3 (by decide)).1, (K1 27 (by decide)).1, (K1 29 (by decide)).1]; exact hN
  have hLK : LK act (C 103) (C 137) (C 138) (C 80) (C 82) (C 84) (C 86) := by rw [(K1 103 (by decide)).1, (K1 137 (by decide)).1, (K1 138 (by decide)).1, (K1 80 (by decide)).1, (K1 82 (by decide)).1, (K1 84 (by decide)).1, (K1 86 (by decide)).1]; exact hLK
  refine g_pop X dL_law_1648 rfl ?_
  refine g_aload_n X dL_law_1649 rfl (j := 1) rfl ?_
  refine g_aload_n X dL_law_1650 rfl (j := 3) rfl ?_
  refine g_iload_n X dL_law_1651 rfl (j := 0) rfl ?_
  refine g_iconst X dL_law_1652 (v := 1) (by decide) ?_
  refine g_iadd X dL_law_1653 ?_
  refine Go.top (v := .int (nI ((6 * t) + 1))) (congrArg Value.int (nI_add (6 * t) 1)) ?_
  refine g_sld X hX hbl hbA (vp_in_nI (by omega) (by omega)) (v := xs ((6 * t) + 1)) (by rw [nI_clamp (by omega)]) dL_law_1654 ?_
  refine g_aload_n X dL_law_1655 rfl (j := 3) rfl ?_
  refine g_iload_n X dL_law_1656 rfl (j := 0) rfl ?_
  refine g_iconst X dL_law_1657 (v := 2) (by decide) ?_
  refine g_iadd X dL_law_1658 ?_
  refine Go.top (v := .int (nI ((6 * t) + 2))) (congrArg Value.int (nI_add (6 * t) 2)) ?_
  refine g_sld X hX hbl hbA (vp_in_nI (by omega) (by omega)) (v := xs ((6 * t) + 2)) (by rw [nI_clamp (by omega)]) dL_law_1659 ?_
  refine g_callVI X (s_X8_leaves l G F I ((xs ((6 * t) + 1))) ((xs ((6 * t) + 2))) ) lk_L_229 (F.1 100 rfl).2 (F.1 100 rfl).1 rfl rfl dL_law_1660 (Nat.le_of_ble_eq_true rfl) ⟨by decide, by decide⟩ ⟨by show _ ≤ 600000; omega, by show _ ≤ 7302250; omega⟩ (fun r2 L M hp => ?_)
  obtain ⟨C, D, F, I, K1, hr⟩ := hp
  have hN : NowOk (C 3) (C 27) (C 29) := by rw [(K1 3 (by decide)).1, (K1 27 (by decide)).1, (K1 29 (by decide)).1]; exact hN
  have hLK : LK act (C 103) (C 137) (C 138) (C 80) (C 82) (C 84) (C 86) := by rw [(K1 103 (by decide)).1, (K1 137 (by decide)).1, (K1 138 (by decide)).1, (K1 80 (by decide)).1, (K1 82 (by decide)).1, (K1 84 (by decide)).1, (K1 86 (by decide)).1]; exact hLK
  refine g_pop X dL_law_1663 rfl ?_
  refine g_goto X dL_law_1664 (tgt := 2393) (by decide) ?_
  refine g_widen (k1 := 210 + 10 * t) (k2 := 20400 + 400 * t) (by omega) (by omega) ?_
  exact tail L M ⟨a, act, C, D, R, F, I, HA, HR, hN, hLK, rfl, rfl⟩
set_option maxHeartbeats 4000000 in
set_option maxRecDepth 100000 in
theorem lc_53 {p : Program} {l : Launch} {e : Env} {s : State} {m : MethodId} {below : List Frame} {meth : Method} {c : Code} {G : va_G} {cy : Nat → ClassId} {A : Nat → Prop} {Q : State → Prop} {b Ln : Nat} {xs : Nat → Int32} {x0 m0 : Nat} {L : List Nat} {M : Nat → va_E} (X : Cx p s m #[Value.ref b] meth c RL cL_law 4 G cy A) (hX : va_X b Ln xs s s.heap) (hbl : b < s.heap.size) (hbA : ¬ A b) (hLn : Ln ≤ 3072) (t : Nat) (ht : 6 * t + 6 ≤ Ln) (hW : Wd cy x0 m0 L M) (tail : ∀ (L : List Nat) (M : Nat → va_E), Wd cy x0 m0 L M → Go p l e room_1 s m #[Value.ref b] below meth c 4 G A (210 + 10 * t) (20400 + 400 * t) Q L M 2393 [(3, .int (nI (6 * t))), (2, .ref m0), (1, .ref x0), (0, .ref b)] []) : Go p l e room_1 s m #[Value.ref b] below meth c 4 G A (200 + 10 * t) (20000 + 400 * t) Q L M 1667 [(3, .int (nI (6 * t))), (2, .ref m0), (1, .ref x0), (0, .ref b)] [] := by
  obtain ⟨a, act, C, D, R, F, I, HA, HR, hN, hLK, e0, e1⟩ := hW
  subst e0
  subst e1
  refine g_aload_n X dL_law_1667 rfl (j := 2) rfl ?_
  refine g_aload_n X dL_law_1668 rfl (j := 3) rfl ?_
  refine g_iload_n X dL_law_1669 rfl (j := 0) rfl ?_
  refine g_iconst X dL_law_1670 (v := 1) (by decide) ?_
  refine g_iadd X dL_law_1671 ?_
  refine Go.top (v := .int (nI ((6 * t) + 1))) (congrArg Value.int (nI_add (6 * t) 1)) ?_
  refine g_sld X hX hbl hbA (vp_in_nI (by omega) (by omega)) (v := xs ((6 * t) + 1)) (by rw [nI_clamp (by omega)]) dL_law_1672 ?_
  refine g_callVI X (s_X7_laws l G F I ((xs ((6 * t) + 1))) HR) lk_L_230 (F.1 0 rfl).2 (F.1 0 rfl).1 rfl rfl dL_law_1673 (Nat.le_of_ble_eq_true rfl) ⟨by decide, by decide⟩ ⟨by show _ ≤ 600000; omega, by show _ ≤ 7302250; omega⟩ (fun r1 L M hp => ?_)
  obtain ⟨C, D, F, I, K1, hr⟩ := hp
  have hN : NowOk (C 3) (C 27) (C 29) := by rw [(K1 3 (by decide)).1, (K1 27 (by decide)).1, (K1 29 (by decide)).1]; exact hN
  have hLK : LK act (C 103) (C 137) (C 138) (C 80) (C 82) (C 84) (C 86) := by rw [(K1 103 (by decide)).1, (K1 137 (by decide)).1, (K1 138 (by decide)).1, (K1 80 (by decide)).1, (K1 82 (by decide)).1, (K1 84 (by decide)).1, (K1 86 (by decide)).1]; exact hLK
  refine g_pop X dL_law_1676 rfl ?_
  refine g_aload_n X dL_law_1677 rfl (j := 1) rfl ?_
  refine g_aload_n X dL_law_1678 rfl (j := 3) rfl ?_
  refine g_iload_n X dL_law_1679 rfl (j := 0) rfl ?_
  refine g_iconst X dL_law_1680 (v := 1) (by decide) ?_
  refine g_iadd X dL_law_1681 ?_
  refine Go.top (v := .int (nI ((6 * t) + 1))) (congrArg Value.int (nI_add (6 * t) 1)) ?_
  refine g_sld X hX hbl hbA (vp_in_nI (by omega) (by omega)) (v := xs ((6 * t) + 1)) (by rw [nI_clamp (by omega)]) dL_law_1682 ?_
  refine g_callVI X (s_X8_laws l G F I ((xs ((6 * t) + 1))) ) lk_L_233 (F.1 100 rfl).2 (F.1 100 rfl).1 rfl rfl dL_law_1683 (Nat.le_of_ble_eq_true rfl) ⟨by decide, by decide⟩ ⟨by show _ ≤ 600000; omega, by show _ ≤ 7302250; omega⟩ (fun r2 L M hp => ?_)
  obtain ⟨C, D, F, I, K1, hr⟩ := hp
  have hN : NowOk (C 3) (C 27) (C 29) := by rw [(K1 3 (by decide)).1, (K1 27 (by decide)).1, (K1 29 (by decide)).1]; exact hN
  have hLK : LK act (C 103) (C 137) (C 138) (C 80) (C 82) (C 84) (C 86) := by rw [(K1 103 (by decide)).1, (K1 137 (by decide)).1, (K1 138 (by decide)).1, (K1 80 (by decide)).1, (K1 82 (by decide)).1, (K1 84 (by decide)).1, (K1 86 (by decide)).1]; exact hLK
  refine g_pop X dL_law_1686 rfl ?_
  refine g_goto X dL_law_1687 (tgt := 2393) (by decide) ?_
  refine g_widen (k1 := 210 + 10 * t) (k2 := 20400 + 400 * t) (by omega) (by omega) ?_
  exact tail L M ⟨a, act, C, D, R, F, I, HA, HR, hN, hLK, rfl, rfl⟩
set_option maxHeartbeats 4000000 in
set_option maxRecDepth 100000 in
theorem lc_54 {p : Program} {l : Launch} {e : Env} {s : State} {m : MethodId} {below : List Frame} {meth : Method} {c : Code} {G : va_G} {cy : Nat → ClassId} {A : Nat → Prop} {Q : State → Prop} {b Ln : Nat} {xs : Nat → Int32} {x0 m0 : Nat} {L : List Nat} {M : Nat → va_E} (X : Cx p s m #[Value.ref b] meth c RL cL_law 4 G cy A) (hX : va_X b Ln xs s s.heap) (hbl : b < s.heap.size) (hbA : ¬ A b) (hLn : Ln ≤ 3072) (t : Nat) (ht : 6 * t + 6 ≤ Ln) (hW : Wd cy x0 m0 L M) (tail : ∀ (L : List Nat) (M : Nat → va_E), Wd cy x0 m0 L M → Go p l e room_1 s m #[Value.ref b] below meth c 4 G A (210 + 10 * t) (20400 + 400 * t) Q L M 2393 [(3, .int (nI (6 * t))), (2, .ref m0), (1, .ref x0), (0, .ref b)] []) : Go p l e room_1 s m #[Value.ref b] below meth c 4 G A (200 + 10 * t) (20000 + 400 * t) Q L M 1690 [(3, .int (nI (6 * t))), (2, .ref m0), (1, .ref x0), (0, .ref b)] [] := by
  obtain ⟨a, act, C, D, R, F, I, HA, HR, hN, hLK, e0, e1⟩ := hW
  subst e0
  subst e1
  refine g_aload_n X dL_law_1690 rfl (j := 2) rfl ?_
  refine g_aload_n X dL_law_1691 rfl (j := 3) rfl ?_
  refine g_iload_n X dL_law_1692 rfl (j := 0) rfl ?_
  refine g_iconst X dL_law_1693 (v := 1) (by decide) ?_
  refine g_iadd X dL_law_1694 ?_
  refine Go.top (v := .int (nI ((6 * t) + 1))) (congrArg Value.int (nI_add (6 * t) 1)) ?_
  refine g_sld X hX hbl hbA (vp_in_nI (by omega) (by omega)) (v := xs ((6 * t) + 1)) (by rw [nI_clamp (by omega)]) dL_law_1695 ?_
  refine g_callVI X (s_X7_by l G F I ((xs ((6 * t) + 1))) ) lk_L_234 (F.1 0 rfl).2 (F.1 0 rfl).1 rfl rfl dL_law_1696 (Nat.le_of_ble_eq_true rfl) ⟨by decide, by decide⟩ ⟨by show _ ≤ 600000; omega, by show _ ≤ 7302250; omega⟩ (fun r1 L M hp => ?_)
  obtain ⟨C, D, F, I, K1, hr⟩ := hp
  have hN : NowOk (C 3) (C 27) (C 29) := by rw [(K1 3 (by decide)).1, (K1 27 (by decide)).1, (K1 29 (by decide)).1]; exact hN
  have hLK : LK act (C 103) (C 137) (C 138) (C 80) (C 82) (C 84) (C 86) := by rw [(K1 103 (by decide)).1, (K1 137 (by decide)).1, (K1 138 (by decide)).1, (K1 80 (by decide)).1, (K1 82 (by decide)).1, (K1 84 (by decide)).1, (K1 86 (by decide)).1]; exact hLK
  refine g_pop X dL_law_1699 rfl ?_
  refine g_aload_n X dL_law_1700 rfl (j := 1) rfl ?_
  refine g_aload_n X dL_law_1701 rfl (j := 3) rfl ?_
  refine g_iload_n X dL_law_1702 rfl (j := 0) rfl ?_
  refine g_iconst X dL_law_1703 (v := 1) (by decide) ?_
  refine g_iadd X dL_law_1704 ?_
  refine Go.top (v := .int (nI ((6 * t) + 1))) (congrArg Value.int (nI_add (6 * t) 1)) ?_
  refine g_sld X hX hbl hbA (vp_in_nI (by omega) (by omega)) (v := xs ((6 * t) + 1)) (by rw [nI_clamp (by omega)]) dL_law_1705 ?_
  refine g_callVI X (s_X8_by l G F I ((xs ((6 * t) + 1))) ) lk_L_237 (F.1 100 rfl).2 (F.1 100 rfl).1 rfl rfl dL_law_1706 (Nat.le_of_ble_eq_true rfl) ⟨by decide, by decide⟩ ⟨by show _ ≤ 600000; omega, by show _ ≤ 7302250; omega⟩ (fun r2 L M hp => ?_)
  obtain ⟨C, D, F, I, K1, hr⟩ := hp
  have hN : NowOk (C 3) (C 27) (C 29) := by rw [(K1 3 (by decide)).1, (K1 27 (by decide)).1, (K1 29 (by decide)).1]; exact hN
  have hLK : LK act (C 103) (C 137) (C 138) (C 80) (C 82) (C 84) (C 86) := by rw [(K1 103 (by decide)).1, (K1 137 (by decide)).1, (K1 138 (by decide)).1, (K1 80 (by decide)).1, (K1 82 (by decide)).1, (K1 84 (by decide)).1, (K1 86 (by decide)).1]; exact hLK
  refine g_pop X dL_law_1709 rfl ?_
  refine g_goto X dL_law_1710 (tgt := 2393) (by decide) ?_
  refine g_widen (k1 := 210 + 10 * t) (k2 := 20400 + 400 * t) (by omega) (by omega) ?_
  exact tail L M ⟨a, act, C, D, R, F, I, HA, HR, hN, hLK, rfl, rfl⟩
set_option maxHeartbeats 4000000 in
set_option maxRecDepth 100000 in
theorem lc_55 {p : Program} {l : Launch} {e : Env} {s : State} {m : MethodId} {below : List Frame} {meth : Method} {c : Code} {G : va_G} {cy : Nat → ClassId} {A : Nat → Prop} {Q : State → Prop} {b Ln : Nat} {xs : Nat → Int32} {x0 m0 : Nat} {L : List Nat} {M : Nat → va_E} (X : Cx p s m #[Value.ref b] meth c RL cL_law 4 G cy A) (hX : va_X b Ln xs s s.heap) (hbl : b < s.heap.size) (hbA : ¬ A b) (hLn : Ln ≤ 3072) (t : Nat) (ht : 6 * t + 6 ≤ Ln) (hW : Wd cy x0 m0 L M) (tail : ∀ (L : List Nat) (M : Nat → va_E), Wd cy x0 m0 L M → Go p l e room_1 s m #[Value.ref b] below meth c 4 G A (210 + 10 * t) (20400 + 400 * t) Q L M 2393 [(3, .int (nI (6 * t))), (2, .ref m0), (1, .ref x0), (0, .ref b)] []) : Go p l e room_1 s m #[Value.ref b] below meth c 4 G A (200 + 10 * t) (20000 + 400 * t) Q L M 1713 [(3, .int (nI (6 * t))), (2, .ref m0), (1, .ref x0), (0, .ref b)] [] := by
  obtain ⟨a, act, C, D, R, F, I, HA, HR, hN, hLK, e0, e1⟩ := hW
  subst e0
  subst e1
  refine g_aload_n X dL_law_1713 rfl (j := 2) rfl ?_
  refine g_callVI X (s_X7_law l G F I  ) lk_L_238 (F.1 0 rfl).2 (F.1 0 rfl).1 rfl rfl dL_law_1714 (Nat.le_of_ble_eq_true rfl) ⟨by decide, by decide⟩ ⟨by show _ ≤ 600000; omega, by show _ ≤ 7302250; omega⟩ (fun r1 L M hp => ?_)
  obtain ⟨C, D, F, I, K1, hr⟩ := hp
  have hN : NowOk (C 3) (C 27) (C 29) := by rw [(K1 3 (by decide)).1, (K1 27 (by decide)).1, (K1 29 (by decide)).1]; exact hN
  have hLK : LK act (C 103) (C 137) (C 138) (C 80) (C 82) (C 84) (C 86) := by rw [(K1 103 (by decide)).1, (K1 137 (by decide)).1, (K1 138 (by decide)).1, (K1 80 (by decide)).1, (K1 82 (by decide)).1, (K1 84 (by decide)).1, (K1 86 (by decide)).1]; exact hLK
  refine g_pop X dL_law_1717 rfl ?_
  refine g_aload_n X dL_law_1718 rfl (j := 1) rfl ?_
  refine g_callVI X (s_X8_law l G F I  ) lk_L_241 (F.1 100 rfl).2 (F.1 100 rfl).1 rfl rfl dL_law_1719 (Nat.le_of_ble_eq_true rfl) ⟨by decide, by decide⟩ ⟨by show _ ≤ 600000; omega, by show _ ≤ 7302250; omega⟩ (fun r2 L M hp => ?_)
  obtain ⟨C, D, F, I, K1, hr⟩ := hp
  have hN : NowOk (C 3) (C 27) (C 29) := by rw [(K1 3 (by decide)).1, (K1 27 (by decide)).1, (K1 29 (by decide)).1]; exact hN
  have hLK : LK act (C 103) (C 137) (C 138) (C 80) (C 82) (C 84) (C 86) := by rw [(K1 103 (by decide)).1, (K1 137 (by decide)).1, (K1 138 (by decide)).1, (K1 80 (by decide)).1, (K1 82 (by decide)).1, (K1 84 (by decide)).1, (K1 86 (by decide)).1]; exact hLK
  refine g_pop X dL_law_1722 rfl ?_
  refine g_goto X dL_law_1723 (tgt := 2393) (by decide) ?_
  refine g_widen (k1 := 210 + 10 * t) (k2 := 20400 + 400 * t) (by omega) (by omega) ?_
  exact tail L M ⟨a, act, C, D, R, F, I, HA, HR, hN, hLK, rfl, rfl⟩
set_option maxHeartbeats 4000000 in
set_option maxRecDepth 100000 in
theorem lc_56 {p : Program} {l : Launch} {e : Env} {s : State} {m : MethodId} {below : List Frame} {meth : Method} {c : Code} {G : va_G} {cy : Nat → ClassId} {A : Nat → Prop} {Q : State → Prop} {b Ln : Nat} {xs : Nat → Int32} {x0 m0 : Nat} {L : List Nat} {M : Nat → va_E} (X : Cx p s m #[Value.ref b] meth c RL cL_law 4 G cy A) (hX : va_X b Ln xs s s.heap) (hbl : b < s.heap.size) (hbA : ¬ A b) (hLn : Ln ≤ 3072) (t : Nat) (ht : 6 * t + 6 ≤ Ln) (hW : Wd cy x0 m0 L M) (tail : ∀ (L : List Nat) (M : Nat → va_E), Wd cy x0 m0 L M → Go p l e room_1 s m #[Value.ref b] below meth c 4 G A (210 + 10 * t) (20400 + 400 * t) Q L M 2393 [(3, .int (nI (6 * t))), (2, .ref m0), (1, .ref x0), (0, .ref b)] []) : Go p l e room_1 s m #[Value.ref b] below meth c 4 G A (200 + 10 * t) (20000 + 400 * t) Q L M 1726 [(3, .int (nI (6 * t))), (2, .ref m0), (1, .ref x0), (0, .ref b)] [] := by
  obtain ⟨a, act, C, D, R, F, I, HA, HR, hN, hLK, e0, e1⟩ := hW
  subst e0
  subst e1
  refine g_aload_n X dL_law_1726 rfl (j := 2) rfl ?_
  refine g_aload_n X dL_law_1727 rfl (j := 3) rfl ?_
  refine g_iload_n X dL_law_1728 rfl (j := 0) rfl ?_
  refine g_iconst X dL_law_1729 (v := 1) (by decide) ?_
  refine g_iadd X dL_law_1730 ?_
  refine Go.top (v := .int (nI ((6 * t) + 1))) (congrArg Value.int (nI_add (6 * t) 1)) ?_
  refine g_sld X hX hbl hbA (vp_in_nI (by omega) (by omega)) (v := xs ((6 * t) + 1)) (by rw [nI_clamp (by omega)]) dL_law_1731 ?_
  refine g_callVI X (s_X7_worth l G F I ((xs ((6 * t) + 1))) ) lk_L_242 (F.1 0 rfl).2 (F.1 0 rfl).1 rfl rfl dL_law_1732 (Nat.le_of_ble_eq_true rfl) ⟨by decide, by decide⟩ ⟨by show _ ≤ 600000; omega, by show _ ≤ 7302250; omega⟩ (fun r1 L M hp => ?_)
  obtain ⟨C, D, F, I, K1, hr⟩ := hp
  have hN : NowOk (C 3) (C 27) (C 29) := by rw [(K1 3 (by decide)).1, (K1 27 (by decide)).1, (K1 29 (by decide)).1]; exact hN
  have hLK : LK act (C 103) (C 137) (C 138) (C 80) (C 82) (C 84) (C 86) := by rw [(K1 103 (by decide)).1, (K1 137 (by decide)).1, (K1 138 (by decide)).1, (K1 80 (by decide)).1, (K1 82 (by decide)).1, (K1 84 (by decide)).1, (K1 86 (by decide)).1]; exact hLK
  refine g_pop X dL_law_1735 rfl ?_
  refine g_aload_n X dL_law_1736 rfl (j := 1) rfl ?_
  refine g_aload_n X dL_law_1737 rfl (j := 3) rfl ?_
  refine g_iload_n X dL_law_1738 rfl (j := 0) rfl ?_
  refine g_iconst X dL_law_1739 (v := 1) (by decide) ?_
  refine g_iadd X dL_law_1740 ?_
  refine Go.top (v := .int (nI ((6 * t) + 1))) (congrArg Value.int (nI_add (6 * t) 1)) ?_
  refine g_sld X hX hbl hbA (vp_in_nI (by omega) (by omega)) (v := xs ((6 * t) + 1)) (by rw [nI_clamp (by omega)]) dL_law_1741 ?_
  refine g_callVI X (s_X8_worth l G F I ((xs ((6 * t) + 1))) ) lk_L_245 (F.1 100 rfl).2 (F.1 100 rfl).1 rfl rfl dL_law_1742 (Nat.le_of_ble_eq_true rfl) ⟨by decide, by decide⟩ ⟨by show _ ≤ 600000; omega, by show _ ≤ 7302250; omega⟩ (fun r2 L M hp => ?_)
  obtain ⟨C, D, F, I, K1, hr⟩ := hp
  have hN : NowOk (C 3) (C 27) (C 29) := by rw [(K1 3 (by decide)).1, (K1 27 (by decide)).1, (K1 29 (by decide)).1]; exact hN
  have hLK : LK act (C 103) (C 137) (C 138) (C 80) (C 82) (C 84) (C 86) := by rw [(K1 103 (by decide)).1, (K1 137 (by decide)).1, (K1 138 (by decide)).1, (K1 80 (by decide)).1, (K1 82 (by decide)).1, (K1 84 (by decide)).1, (K1 86 (by decide)).1]; exact hLK
  refine g_pop X dL_law_1745 rfl ?_
  refine g_goto X dL_law_1746 (tgt := 2393) (by decide) ?_
  refine g_widen (k1 := 210 + 10 * t) (k2 := 20400 + 400 * t) (by omega) (by omega) ?_
  exact tail L M ⟨a, act, C, D, R, F, I, HA, HR, hN, hLK, rfl, rfl⟩
set_option maxHeartbeats 4000000 in
set_option maxRecDepth 100000 in
theorem lc_57 {p : Program} {l : Launch} {e : Env} {s : State} {m : MethodId} {below : List Frame} {meth : Method} {c : Code} {G : va_G} {cy : Nat → ClassId} {A : Nat → Prop} {Q : State → Prop} {b Ln : Nat} {xs : Nat → Int32} {x0 m0 : Nat} {L : List Nat} {M : Nat → va_E} (X : Cx p s m #[Value.ref b] meth c RL cL_law 4 G cy A) (hX : va_X b Ln xs s s.heap) (hbl : b < s.heap.size) (hbA : ¬ A b) (hLn : Ln ≤ 3072) (t : Nat) (ht : 6 * t + 6 ≤ Ln) (hW : Wd cy x0 m0 L M) (tail : ∀ (L : List Nat) (M : Nat → va_E), Wd cy x0 m0 L M → Go p l e room_1 s m #[Value.ref b] below meth c 4 G A (210 + 10 * t) (20400 + 400 * t) Q L M 2393 [(3, .int (nI (6 * t))), (2, .ref m0), (1, .ref x0), (0, .ref b)] []) : Go p l e room_1 s m #[Value.ref b] below meth c 4 G A (200 + 10 * t) (20000 + 400 * t) Q L M 1749 [(3, .int (nI (6 * t))), (2, .ref m0), (1, .ref x0), (0, .ref b)] [] := by
  obtain ⟨a, act, C, D, R, F, I, HA, HR, hN, hLK, e0, e1⟩ := hW
  subst e0
  subst e1
  refine g_aload_n X dL_law_1749 rfl (j := 2) rfl ?_
  refine g_aload_n X dL_law_1750 rfl (j := 3) rfl ?_
  refine g_iload_n X dL_law_1751 rfl (j := 0) rfl ?_
  refine g_iconst X dL_law_1752 (v := 1) (by decide) ?_
  refine g_iadd X dL_law_1753 ?_
  refine Go.top (v := .int (nI ((6 * t) + 1))) (congrArg Value.int (nI_add (6 * t) 1)) ?_
  refine g_sld X hX hbl hbA (vp_in_nI (by omega) (by omega)) (v := xs ((6 * t) + 1)) (by rw [nI_clamp (by omega)]) dL_law_1754 ?_
  refine g_aload_n X dL_law_1755 rfl (j := 3) rfl ?_
  refine g_iload_n X dL_law_1756 rfl (j := 0) rfl ?_
  refine g_iconst X dL_law_1757 (v := 2) (by decide) ?_
  refine g_iadd X dL_law_1758 ?_
  refine Go.top (v := .int (nI ((6 * t) + 2))) (congrArg Value.int (nI_add (6 * t) 2)) ?_
  refine g_sld X hX hbl hbA (vp_in_nI (by omega) (by omega)) (v := xs ((6 * t) + 2)) (by rw [nI_clamp (by omega)]) dL_law_1759 ?_
  refine g_callVI X (s_X7_share l G F I ((xs ((6 * t) + 1))) ((xs ((6 * t) + 2))) ) lk_L_246 (F.1 0 rfl).2 (F.1 0 rfl).1 rfl rfl dL_law_1760 (Nat.le_of_ble_eq_true rfl) ⟨by decide, by decide⟩ ⟨by show _ ≤ 600000; omega, by show _ ≤ 7302250; omega⟩ (fun r1 L M hp => ?_)
  obtain ⟨C, D, F, I, K1, hr⟩ := hp
  have hN : NowOk (C 3) (C 27) (C 29) := by rw [(K1 3 (by decide)).1, (K1 27 (by decide)).1, (K1 29 (by decide)).1]; exact hN
  have hLK : LK act (C 103) (C 137) (C 138) (C 80) (C 82) (C 84) (C 86) := by rw [(K1 103 (by decide)).1, (K1 137 (by decide)).1, (K1 138 (by decide)).1, (K1 80 (by decide)).1, (K1 82 (by decide)).1, (K1 84 (by decide)).1, (K1 86 (by decide)).1]; exact hLK
  refine g_pop X dL_law_1763 rfl ?_
  refine g_aload_n X dL_law_1764 rfl (j := 1) rfl ?_
  refine g_aload_n X dL_law_1765 rfl (j := 3) rfl ?_
  refine g_iload_n X dL_law_1766 rfl (j := 0) rfl ?_
  refine g_iconst X dL_law_1767 (v := 1) (by decide) ?_
  refine g_iadd X dL_law_1768 ?_
  refine Go.top (v := .int (nI ((6 * t) + 1))) (congrArg Value.int (nI_add (6 * t) 1)) ?_
  refine g_sld X hX hbl hbA (vp_in_nI (by omega) (by omega)) (v := xs ((6 * t) + 1)) (by rw [nI_clamp (by omega)]) dL_law_1769 ?_
  refine g_aload_n X dL_law_1770 rfl (j := 3) rfl ?_
  refine g_iload_n X dL_law_1771 rfl (j := 0) rfl ?_
  refine g_iconst X dL_law_1772 (v := 2) (by decide) ?_
  refine g_iadd X dL_law_1773 ?_
  refine Go.top (v := .int (nI ((6 * t) + 2))) (congrArg Value.int (nI_add (6 * t) 2)) ?_
  refine g_sld X hX hbl hbA (vp_in_nI (by omega) (by omega)) (v := xs ((6 * t) + 2)) (by rw [nI_clamp (by omega)]) dL_law_1774 ?_
  refine g_callVI X (s_X8_share l G F I ((xs ((6 * t) + 1))) ((xs ((6 * t) + 2))) ) lk_L_249 (F.1 100 rfl).2 (F.1 100 rfl).1 rfl rfl dL_law_1775 (Nat.le_of_ble_eq_true rfl) ⟨by decide, by decide⟩ ⟨by show _ ≤ 600000; omega, by show _ ≤ 7302250; omega⟩ (fun r2 L M hp => ?_)
  obtain ⟨C, D, F, I, K1, hr⟩ := hp
  have hN : NowOk (C 3) (C 27) (C 29) := by rw [(K1 3 (by decide)).1, (K1 27 (by decide)).1, (K1 29 (by decide)).1]; exact hN
  have hLK : LK act (C 103) (C 137) (C 138) (C 80) (C 82) (C 84) (C 86) := by rw [(K1 103 (by decide)).1, (K1 137 (by decide)).1, (K1 138 (by decide)).1, (K1 80 (by decide)).1, (K1 82 (by decide)).1, (K1 84 (by decide)).1, (K1 86 (by decide)).1]; exact hLK
  refine g_pop X dL_law_1778 rfl ?_
  refine g_goto X dL_law_1779 (tgt := 2393) (by decide) ?_
  refine g_widen (k1 := 210 + 10 * t) (k2 := 20400 + 400 * t) (by omega) (by omega) ?_
  exact tail L M ⟨a, act, C, D, R, F, I, HA, HR, hN, hLK, rfl, rfl⟩
set_option maxHeartbeats 4000000 in
set_option maxRecDepth 100000 in
theorem lc_58 {p : Program} {l : Launch} {e : Env} {s : State} {m : MethodId} {below : List Frame} {meth : Method} {c : Code} {G : va_G} {cy : Nat → ClassId} {A : Nat → Prop} {Q : State → Prop} {b Ln : Nat} {xs : Nat → Int32} {x0 m0 : Nat} {L : List Nat} {M : Nat → va_E} (X : Cx p s m #[Value.ref b] meth c RL cL_law 4 G cy A) (hX : va_X b Ln xs s s.heap) (hbl : b < s.heap.size) (hbA : ¬ A b) (hLn : Ln ≤ 3072) (t : Nat) (ht : 6 * t + 6 ≤ Ln) (hW : Wd cy x0 m0 L M) (tail : ∀ (L : List Nat) (M : Nat → va_E), Wd cy x0 m0 L M → Go p l e room_1 s m #[Value.ref b] below meth c 4 G A (210 + 10 * t) (20400 + 400 * t) Q L M 2393 [(3, .int (nI (6 * t))), (2, .ref m0), (1, .ref x0), (0, .ref b)] []) : Go p l e room_1 s m #[Value.ref b] below meth c 4 G A (200 + 10 * t) (20000 + 400 * t) Q L M 1782 [(3, .int (nI (6 * t))), (2, .ref m0), (1, .ref x0), (0, .ref b)] [] := by
  obtain ⟨a, act, C, D, R, F, I, HA, HR, hN, hLK, e0, e1⟩ := hW
  subst e0
  subst e1
  refine g_aload_n X dL_law_1782 rfl (j := 2) rfl ?_
  refine g_aload_n X dL_law_1783 rfl (j := 3) rfl ?_
  refine g_iload_n X dL_law_1784 rfl (j := 0) rfl ?_
  refine g_iconst X dL_law_1785 (v := 1) (by decide) ?_
  refine g_iadd X dL_law_1786 ?_
  refine Go.top (v := .int (nI ((6 * t) + 1))) (congrArg Value.int (nI_add (6 * t) 1)) ?_
  refine g_sld X hX hbl hbA (vp_in_nI (by omega) (by omega)) (v := xs ((6 * t) + 1)) (by rw [nI_clamp (by omega)]) dL_law_1787 ?_
  refine g_aload_n X dL_law_1788 rfl (j := 3) rfl ?_
  refine g_iload_n X dL_law_1789 rfl (j := 0) rfl ?_
  refine g_iconst X dL_law_1790 (v := 2) (by decide) ?_
  refine g_iadd X dL_law_1791 ?_
  refine Go.top (v := .int (nI ((6 * t) + 2))) (congrArg Value.int (nI_add (6 * t) 2)) ?_
  refine g_sld X hX hbl hbA (vp_in_nI (by omega) (by omega)) (v := xs ((6 * t) + 2)) (by rw [nI_clamp (by omega)]) dL_law_1792 ?_
  refine g_callVI X (s_X7_rests l G F I ((xs ((6 * t) + 1))) ((xs ((6 * t) + 2))) ) lk_L_250 (F.1 0 rfl).2 (F.1 0 rfl).1 rfl rfl dL_law_1793 (Nat.le_of_ble_eq_true rfl) ⟨by decide, by decide⟩ ⟨by show _ ≤ 600000; omega, by show _ ≤ 7302250; omega⟩ (fun r1 L M hp => ?_)
  obtain ⟨C, D, F, I, K1, hr⟩ := hp
  have hN : NowOk (C 3) (C 27) (C 29) := by rw [(K1 3 (by decide)).1, (K1 27 (by decide)).1, (K1 29 (by decide)).1]; exact hN
  have hLK : LK act (C 103) (C 137) (C 138) (C 80) (C 82) (C 84) (C 86) := by rw [(K1 103 (by decide)).1, (K1 137 (by decide)).1, (K1 138 (by decide)).1, (K1 80 (by decide)).1, (K1 82 (by decide)).1, (K1 84 (by decide)).1, (K1 86 (by decide)).1]; exact hLK
  refine g_pop X dL_law_1796 rfl ?_
  refine g_aload_n X dL_law_1797 rfl (j := 1) rfl ?_
  refine g_aload_n X dL_law_1798 rfl (j := 3) rfl ?_
  refine g_iload_n X dL_law_1799 rfl (j := 0) rfl ?_
  refine g_iconst X dL_law_1800 (v := 1) (by decide) ?_
  refine g_iadd X dL_law_1801 ?_
  refine Go.top (v := .int (nI ((6 * t) + 1))) (congrArg Value.int (nI_add (6 * t) 1)) ?_
  refine g_sld X hX hbl hbA (vp_in_nI (by omega) (by omega)) (v := xs ((6 * t) + 1)) (by rw [nI_clamp (by omega)]) dL_law_1802 ?_
  refine g_aload_n X dL_law_1803 rfl (j := 3) rfl ?_
  refine g_iload_n X dL_law_1804 rfl (j := 0) rfl ?_
  refine g_iconst X dL_law_1805 (v := 2) (by decide) ?_
  refine g_iadd X dL_law_1806 ?_
  refine Go.top (v := .int (nI ((6 * t) + 2))) (congrArg Value.int (nI_add (6 * t) 2)) ?_
  refine g_sld X hX hbl hbA (vp_in_nI (by omega) (by omega)) (v := xs ((6 * t) + 2)) (by rw [nI_clamp (by omega)]) dL_law_1807 ?_
  refine g_callVI X (s_X8_rests l G F I ((xs ((6 * t) + 1))) ((xs ((6 * t) + 2))) ) lk_L_253 (F.1 100 rfl).2 (F.1 100 rfl).1 rfl rfl dL_law_1808 (Nat.le_of_ble_eq_true rfl) ⟨by decide, by decide⟩ ⟨by show _ ≤ 600000; omega, by show _ ≤ 7302250; omega⟩ (fun r2 L M hp => ?_)
  obtain ⟨C, D, F, I, K1, hr⟩ := hp
  have hN : NowOk (C 3) (C 27) (C 29) := by rw [(K1 3 (by decide)).1, (K1 27 (by decide)).1, (K1 29 (by decide)).1]; exact hN
  have hLK : LK act (C 103) (C 137) (C 138) (C 80) (C 82) (C 84) (C 86) := by rw [(K1 103 (by decide)).1, (K1 137 (by decide)).1, (K1 138 (by decide)).1, (K1 80 (by decide)).1, (K1 82 (by decide)).1, (K1 84 (by decide)).1, (K1 86 (by decide)).1]; exact hLK
  refine g_pop X dL_law_1811 rfl ?_
  refine g_goto X dL_law_1812 (tgt := 2393) (by decide) ?_
  refine g_widen (k1 := 210 + 10 * t) (k2 := 20400 + 400 * t) (by omega) (by omega) ?_
  exact tail L M ⟨a, act, C, D, R, F, I, HA, HR, hN, hLK, rfl, rfl⟩
set_option maxHeartbeats 4000000 in
set_option maxRecDepth 100000 in
theorem lc_59 {p : Program} {l : Launch} {e : Env} {s : State} {m : MethodId} {below : List Frame} {meth : Method} {c : Code} {G : va_G} {cy : Nat → ClassId} {A : Nat → Prop} {Q : State → Prop} {b Ln : Nat} {xs : Nat → Int32} {x0 m0 : Nat} {L : List Nat} {M : Nat → va_E} (X : Cx p s m #[Value.ref b] meth c RL cL_law 4 G cy A) (hX : va_X b Ln xs s s.heap) (hbl : b < s.heap.size) (hbA : ¬ A b) (hLn : Ln ≤ 3072) (t : Nat) (ht : 6 * t + 6 ≤ Ln) (hW : Wd cy x0 m0 L M) (tail : ∀ (L : List Nat) (M : Nat → va_E), Wd cy x0 m0 L M → Go p l e room_1 s m #[Value.ref b] below meth c 4 G A (210 + 10 * t) (20400 + 400 * t) Q L M 2393 [(3, .int (nI (6 * t))), (2, .ref m0), (1, .ref x0), (0, .ref b)] []) : Go p l e room_1 s m #[Value.ref b] below meth c 4 G A (200 + 10 * t) (20000 + 400 * t) Q L M 1815 [(3, .int (nI (6 * t))), (2, .ref m0), (1, .ref x0), (0, .ref b)] [] := by
  obtain ⟨a, act, C, D, R, F, I, HA, HR, hN, hLK, e0, e1⟩ := hW
  subst e0
  subst e1
  refine g_aload_n X dL_law_1815 rfl (j := 2) rfl ?_
  refine g_aload_n X dL_law_1816 rfl (j := 3) rfl ?_
  refine g_iload_n X dL_law_1817 rfl (j := 0) rfl ?_
  refine g_iconst X dL_law_1818 (v := 1) (by decide) ?_
  refine g_iadd X dL_law_1819 ?_
  refine Go.top (v := .int (nI ((6 * t) + 1))) (congrArg Value.int (nI_add (6 * t) 1)) ?_
  refine g_sld X hX hbl hbA (vp_in_nI (by omega) (by omega)) (v := xs ((6 * t) + 1)) (by rw [nI_clamp (by omega)]) dL_law_1820 ?_
  refine g_aload_n X dL_law_1821 rfl (j := 3) rfl ?_
  refine g_iload_n X dL_law_1822 rfl (j := 0) rfl ?_
  refine g_iconst X dL_law_1823 (v := 2) (by decide) ?_
  refine g_iadd X dL_law_1824 ?_
  refine Go.top (v := .int (nI ((6 * t) + 2))) (congrArg Value.int (nI_add (6 * t) 2)) ?_
  refine g_sld X hX hbl hbA (vp_in_nI (by omega) (by omega)) (v := xs ((6 * t) + 2)) (by rw [nI_clamp (by omega)]) dL_law_1825 ?_
  refine g_aload_n X dL_law_1826 rfl (j := 3) rfl ?_
  refine g_iload_n X dL_law_1827 rfl (j := 0) rfl ?_
  refine g_iconst X dL_law_1828 (v := 3) (by decide) ?_
  refine g_iadd X dL_law_1829 ?_
  refine Go.top (v := .int (nI ((6 * t) + 3))) (congrArg Value.int (nI_add (6 * t) 3)) ?_
  refine g_sld X hX hbl hbA (vp_in_nI (by omega) (by omega)) (v := xs ((6 * t) + 3)) (by rw [nI_clamp (by omega)]) dL_law_1830 ?_
  refine g_aload_n X dL_law_1831 rfl (j := 3) rfl ?_
  refine g_iload_n X dL_law_1832 rfl (j := 0) rfl ?_
  refine g_iconst X dL_law_1833 (v := 4) (by decide) ?_
  refine g_iadd X dL_law_1834 ?_
  refine Go.top (v := .int (nI ((6 * t) + 4))) (congrArg Value.int (nI_add (6 * t) 4)) ?_
  refine g_sld X hX hbl hbA (vp_in_nI (by omega) (by omega)) (v := xs ((6 * t) + 4)) (by rw [nI_clamp (by omega)]) dL_law_1835 ?_
  refine g_callVI X (s_X7_gets l G F I ((xs ((6 * t) + 1))) ((xs ((6 * t) + 2))) ((xs ((6 * t) + 3))) ((xs ((6 * t) + 4))) ) lk_L_254 (F.1 0 rfl).2 (F.1 0 rfl).1 rfl rfl dL_law_1836 (Nat.le_of_ble_eq_true rfl) ⟨by decide, by decide⟩ ⟨by show _ ≤ 600000; omega, by show _ ≤ 7302250; omega⟩ (fun r1 L M hp => ?_)
  obtain ⟨C, D, F, I, K1, hr⟩ := hp
  have hN : NowOk (C 3) (C 27) (C 29) := by rw [(K1 3 (by decide)).1, (K1 27 (by decide)).1, (K1 29 (by decide)).1]; exact hN
  have hLK : LK act (C 103) (C 137) (C 138) (C 80) (C 82) (C 84) (C 86) := by rw [(K1 103 (by decide)).1, (K1 137 (by decide)).1, (K1 138 (by decide)).1, (K1 80 (by decide)).1, (K1 82 (by decide)).1, (K1 84 (by decide)).1, (K1 86 (by decide)).1]; exact hLK
  refine g_pop X dL_law_1839 rfl ?_
  refine g_aload_n X dL_law_1840 rfl (j := 1) rfl ?_
  refine g_aload_n X dL_law_1841 rfl (j := 3) rfl ?_
  refine g_iload_n X dL_law_1842 rfl (j := 0) rfl ?_
  refine g_iconst X dL_law_1843 (v := 1) (by decide) ?_
  refine g_iadd X dL_law_1844 ?_
  refine Go.top (v := .int (nI ((6 * t) + 1))) (congrArg Value.int (nI_add (6 * t) 1)) ?_
  refine g_sld X hX hbl hbA (vp_in_nI (by omega) (by omega)) (v := xs ((6 * t) + 1)) (by rw [nI_clamp (by omega)]) dL_law_1845 ?_
  refine g_aload_n X dL_law_1846 rfl (j := 3) rfl ?_
  refine g_iload_n X dL_law_1847 rfl (j := 0) rfl ?_
  refine g_iconst X dL_law_1848 (v := 2) (by decide) ?_
  refine g_iadd X dL_law_1849 ?_
  refine Go.top (v := .int (nI ((6 * t) + 2))) (congrArg Value.int (nI_add (6 * t) 2)) ?_
  refine g_sld X hX hbl hbA (vp_in_nI (by omega) (by omega)) (v := xs ((6 * t) + 2)) (by rw [nI_clamp (by omega)]) dL_law_1850 ?_
  refine g_aload_n X dL_law_1851 rfl (j := 3) rfl ?_
  refine g_iload_n X dL_law_1852 rfl (j := 0) rfl ?_
  refine g_iconst X dL_law_1853 (v := 3) (by decide) ?_
  refine g_iadd X dL_law_1854 ?_
  refine Go.top (v := .int (nI ((6 * t) + 3))) (congrArg Value.int (nI_add (6 * t) 3)) ?_
  refine g_sld X hX hbl hbA (vp_in_nI (by omega) (by omega)) (v := xs ((6 * t) + 3)) (by rw [nI_clamp (by omega)]) dL_law_1855 ?_
  refine g_aload_n X dL_law_1856 rfl (j := 3) rfl ?_
  refine g_iload_n X dL_law_1857 rfl (j := 0) rfl ?_
  refine g_iconst X dL_law_1858 (v := 4) (by decide) ?_
  refine g_iadd X dL_law_1859 ?_
  refine Go.top (v := .int (nI ((6 * t) + 4))) (congrArg Value.int (nI_add (6 * t) 4)) ?_
  refine g_sld X hX hbl hbA (vp_in_nI (by omega) (by omega)) (v := xs ((6 * t) + 4)) (by rw [nI_clamp (by omega)]) dL_law_1860 ?_
  refine g_callVI X (s_X8_gets l G F I ((xs ((6 * t) + 1))) ((xs ((6 * t) + 2))) ((xs ((6 * t) + 3))) ((xs ((6 * t) + 4))) ) lk_L_258 (F.1 100 rfl).2 (F.1 100 rfl).1 rfl rfl dL_law_1861 (Nat.le_of_ble_eq_true rfl) ⟨by decide, by decide⟩ ⟨by show _ ≤ 600000; omega, by show _ ≤ 7302250; omega⟩ (fun r2 L M hp => ?_)
  obtain ⟨C, D, F, I, K1, hr⟩ := hp
  have hN : NowOk (C 3) (C 27) (C 29) := by rw [(K1 3 (by decide)).1, (K1 27 (by decide)).1, (K1 29 (by decide)).1]; exact hN
  have hLK : LK act (C 103) (C 137) (C 138) (C 80) (C 82) (C 84) (C 86) := by rw [(K1 103 (by decide)).1, (K1 137 (by decide)).1, (K1 138 (by decide)).1, (K1 80 (by decide)).1, (K1 82 (by decide)).1, (K1 84 (by decide)).1, (K1 86 (by decide)).1]; exact hLK
  refine g_pop X dL_law_1864 rfl ?_
  refine g_goto X dL_law_1865 (tgt := 2393) (by decide) ?_
  refine g_widen (k1 := 210 + 10 * t) (k2 := 20400 + 400 * t) (by omega) (by omega) ?_
  exact tail L M ⟨a, act, C, D, R, F, I, HA, HR, hN, hLK, rfl, rfl⟩
set_option maxHeartbeats 4000000 in
set_option maxRecDepth 100000 in
theorem lc_60 {p : Program} {l : Launch} {e : Env} {s : State} {m : MethodId} {below : List Frame} {meth : Method} {c : Code} {G : va_G} {cy : Nat → ClassId} {A : Nat → Prop} {Q : State → Prop} {b Ln : Nat} {xs : Nat → Int32} {x0 m0 : Nat} {L : List Nat} {M : Nat → va_E} (X : Cx p s m #[Value.ref b] meth c RL cL_law 4 G cy A) (hX : va_X b Ln xs s s.heap) (hbl : b < s.heap.size) (hbA : ¬ A b) (hLn : Ln ≤ 3072) (t : Nat) (ht : 6 * t + 6 ≤ Ln) (hW : Wd cy x0 m0 L M) (tail : ∀ (L : List Nat) (M : Nat → va_E), Wd cy x0 m0 L M → Go p l e room_1 s m #[Value.ref b] below meth c 4 G A (210 + 10 * t) (20400 + 400 * t) Q L M 2393 [(3, .int (nI (6 * t))), (2, .ref m0), (1, .ref x0), (0, .ref b)] []) : Go p l e room_1 s m #[Value.ref b] below meth c 4 G A (200 + 10 * t) (20000 + 400 * t) Q L M 1868 [(3, .int (nI (6 * t))), (2, .ref m0), (1, .ref x0), (0, .ref b)] [] := by
  obtain ⟨a, act, C, D, R, F, I, HA, HR, hN, hLK, e0, e1⟩ := hW
  subst e0
  subst e1
  refine g_aload_n X dL_law_1868 rfl (j := 2) rfl ?_
  refine g_aload_n X dL_law_1869 rfl (j := 3) rfl ?_
  refine g_iload_n X dL_law_1870 rfl (j := 0) rfl ?_
  refine g_iconst X dL_law_1871 (v := 1) (by decide) ?_
  refine g_iadd X dL_law_1872 ?_
  refine Go.top (v := .int (nI ((6 * t) + 1))) (congrArg Value.int (nI_add (6 * t) 1)) ?_
  refine g_sld X hX hbl hbA (vp_in_nI (by omega) (by omega)) (v := xs ((6 * t) + 1)) (by rw [nI_clamp (by omega)]) dL_law_1873 ?_
  refine g_aload_n X dL_law_1874 rfl (j := 3) rfl ?_
  refine g_iload_n X dL_law_1875 rfl (j := 0) rfl ?_
  refine g_iconst X dL_law_1876 (v := 2) (by decide) ?_
  refine g_iadd X dL_law_1877 ?_
  refine Go.top (v := .int (nI ((6 * t) + 2))) (congrArg Value.int (nI_add (6 * t) 2)) ?_
  refine g_sld X hX hbl hbA (vp_in_nI (by omega) (by omega)) (v := xs ((6 * t) + 2)) (by rw [nI_clamp (by omega)]) dL_law_1878 ?_
  refine g_aload_n X dL_law_1879 rfl (j := 3) rfl ?_
  refine g_iload_n X dL_law_1880 rfl (j := 0) rfl ?_
  refine g_iconst X dL_law_1881 (v := 3) (by decide) ?_
  refine g_iadd X dL_law_1882 ?_
  refine Go.top (v := .int (nI ((6 * t) + 3))) (congrArg Value.int (nI_add (6 * t) 3)) ?_
  refine g_sld X hX hbl hbA (vp_in_nI (by omega) (by omega)) (v := xs ((6 * t) + 3)) (by rw [nI_clamp (by omega)]) dL_law_1883 ?_
  refine g_callVJ X (s_X7_chance l G F I ((xs ((6 * t) + 1))) ((xs ((6 * t) + 2))) ((xs ((6 * t) + 3))) ) lk_L_259 (F.1 0 rfl).2 (F.1 0 rfl).1 rfl rfl dL_law_1884 (Nat.le_of_ble_eq_true rfl) ⟨by decide, by decide⟩ ⟨by show _ ≤ 600000; omega, by show _ ≤ 7302250; omega⟩ (fun r1 L M hp => ?_)
  obtain ⟨C, D, F, I, K1, hr⟩ := hp
  have hN : NowOk (C 3) (C 27) (C 29) := by rw [(K1 3 (by decide)).1, (K1 27 (by decide)).1, (K1 29 (by decide)).1]; exact hN
  have hLK : LK act (C 103) (C 137) (C 138) (C 80) (C 82) (C 84) (C 86) := by rw [(K1 103 (by decide)).1, (K1 137 (by decide)).1, (K1 138 (by decide)).1, (K1 80 (by decide)).1, (K1 82 (by decide)).1, (K1 84 (by decide)).1, (K1 86 (by decide)).1]; exact hLK
  refine g_pop2L X dL_law_1887 ?_
  refine g_aload_n X dL_law_1888 rfl (j := 1) rfl ?_
  refine g_aload_n X dL_law_1889 rfl (j := 3) rfl ?_
  refine g_iload_n X dL_law_1890 rfl (j := 0) rfl ?_
  refine g_iconst X dL_law_1891 (v := 1) (by decide) ?_
  refine g_iadd X dL_law_1892 ?_
  refine Go.top (v := .int (nI ((6 * t) + 1))) (congrArg Value.int (nI_add (6 * t) 1)) ?_
  refine g_sld X hX hbl hbA (vp_in_nI (by omega) (by omega)) (v := xs ((6 * t) + 1)) (by rw [nI_clamp (by omega)]) dL_law_1893 ?_
  refine g_aload_n X dL_law_1894 rfl (j := 3) rfl ?_
  refine g_iload_n X dL_law_1895 rfl (j := 0) rfl ?_
  refine g_iconst X dL_law_1896 (v := 2) (by decide) ?_
  refine g_iadd X dL_law_1897 ?_
  refine Go.top (v := .int (nI ((6 * t) + 2))) (congrArg Value.int (nI_add (6 * t) 2)) ?_
  refine g_sld X hX hbl hbA (vp_in_nI (by omega) (by omega)) (v := xs ((6 * t) + 2)) (by rw [nI_clamp (by omega)]) dL_law_1898 ?_
  refine g_aload_n X dL_law_1899 rfl (j := 3) rfl ?_
  refine g_iload_n X dL_law_1900 rfl (j := 0) rfl ?_
  refine g_iconst X dL_law_1901 (v := 3) (by decide) ?_
  refine g_iadd X dL_law_1902 ?_
  refine Go.top (v := .int (nI ((6 * t) + 3))) (congrArg Value.int (nI_add (6 * t) 3)) ?_
  refine g_sld X hX hbl hbA (vp_in_nI (by omega) (by omega)) (v := xs ((6 * t) + 3)) (by rw [nI_clamp (by omega)]) dL_law_1903 ?_
  refine g_callVJ X (s_X8_chance l G F I ((xs ((6 * t) + 1))) ((xs ((6 * t) + 2))) ((xs ((6 * t) + 3))) ) lk_L_263 (F.1 100 rfl).2 (F.1 100 rfl).1 rfl rfl dL_law_1904 (Nat.le_of_ble_eq_true rfl) ⟨by decide, by decide⟩ ⟨by show _ ≤ 600000; omega, by show _ ≤ 7302250; omega⟩ (fun r2 L M hp => ?_)
  obtain ⟨C, D, F, I, K1, hr⟩ := hp
  have hN : NowOk (C 3) (C 27) (C 29) := by rw [(K1 3 (by decide)).1, (K1 27 (by decide)).1, (K1 29 (by decide)).1]; exact hN
  have hLK : LK act (C 103) (C 137) (C 138) (C 80) (C 82) (C 84) (C 86) := by rw [(K1 103 (by decide)).1, (K1 137 (by decide)).1, (K1 138 (by decide)).1, (K1 80 (by decide)).1, (K1 82 (by decide)).1, (K1 84 (by decide)).1, (K1 86 (by decide)).1]; exact hLK
  refine g_pop2L X dL_law_1907 ?_
  refine g_goto X dL_law_1908 (tgt := 2393) (by decide) ?_
  refine g_widen (k1 := 210 + 10 * t) (k2 := 20400 + 400 * t) (by omega) (by omega) ?_
  exact tail L M ⟨a, act, C, D, R, F, I, HA, HR, hN, hLK, rfl, rfl⟩
set_option maxHeartbeats 4000000 in
set_option maxRecDepth 100000 in
theorem lc_61 {p : Program} {l : Launch} {e : Env} {s : State} {m : MethodId} {below : List Frame} {meth : Method} {c : Code} {G : va_G} {cy : Nat → ClassId} {A : Nat → Prop} {Q : State → Prop} {b Ln : Nat} {xs : Nat → Int32} {x0 m0 : Nat} {L : List Nat} {M : Nat → va_E} (X : Cx p s m #[Value.ref b] meth c RL cL_law 4 G cy A) (hX : va_X b Ln xs s s.heap) (hbl : b < s.heap.size) (hbA : ¬ A b) (hLn : Ln ≤ 3072) (t : Nat) (ht : 6 * t + 6 ≤ Ln) (hW : Wd cy x0 m0 L M) (tail : ∀ (L : List Nat) (M : Nat → va_E), Wd cy x0 m0 L M → Go p l e room_1 s m #[Value.ref b] below meth c 4 G A (210 + 10 * t) (20400 + 400 * t) Q L M 2393 [(3, .int (nI (6 * t))), (2, .ref m0), (1, .ref x0), (0, .ref b)] []) : Go p l e room_1 s m #[Value.ref b] below meth c 4 G A (200 + 10 * t) (20000 + 400 * t) Q L M 1911 [(3, .int (nI (6 * t))), (2, .ref m0), (1, .ref x0), (0, .ref b)] [] := by
  obtain ⟨a, act, C, D, R, F, I, HA, HR, hN, hLK, e0, e1⟩ := hW
  subst e0
  subst e1
  refine g_aload_n X dL_law_1911 rfl (j := 2) rfl ?_
  refine g_aload_n X dL_law_1912 rfl (j := 3) rfl ?_
  refine g_iload_n X dL_law_1913 rfl (j := 0) rfl ?_
  refine g_iconst X dL_law_1914 (v := 1) (by decide) ?_
  refine g_iadd X dL_law_1915 ?_
  refine Go.top (v := .int (nI ((6 * t) + 1))) (congrArg Value.int (nI_add (6 * t) 1)) ?_
  refine g_sld X hX hbl hbA (vp_in_nI (by omega) (by omega)) (v := xs ((6 * t) + 1)) (by rw [nI_clamp (by omega)]) dL_law_1916 ?_
  refine g_aload_n X dL_law_1917 rfl (j := 3) rfl ?_
  refine g_iload_n X dL_law_1918 rfl (j := 0) rfl ?_
  refine g_iconst X dL_law_1919 (v := 2) (by decide) ?_
  refine g_iadd X dL_law_1920 ?_
  refine Go.top (v := .int (nI ((6 * t) + 2))) (congrArg Value.int (nI_add (6 * t) 2)) ?_
  refine g_sld X hX hbl hbA (vp_in_nI (by omega) (by omega)) (v := xs ((6 * t) + 2)) (by rw [nI_clamp (by omega)]) dL_law_1921 ?_
  refine g_callVJ X (s_X7_mean l G F I ((xs ((6 * t) + 1))) ((xs ((6 * t) + 2))) ) lk_L_264 (F.1 0 rfl).2 (F.1 0 rfl).1 rfl rfl dL_law_1922 (Nat.le_of_ble_eq_true rfl) ⟨by decide, by decide⟩ ⟨by show _ ≤ 600000; omega, by show _ ≤ 7302250; omega⟩ (fun r1 L M hp => ?_)
  obtain ⟨C, D, F, I, K1, hr⟩ := hp
  have hN : NowOk (C 3) (C 27) (C 29) := by rw [(K1 3 (by decide)).1, (K1 27 (by decide)).1, (K1 29 (by decide)).1]; exact hN
  have hLK : LK act (C 103) (C 137) (C 138) (C 80) (C 82) (C 84) (C 86) := by rw [(K1 103 (by decide)).1, (K1 137 (by decide)).1, (K1 138 (by decide)).1, (K1 80 (by decide)).1, (K1 82 (by decide)).1, (K1 84 (by decide)).1, (K1 86 (by decide)).1]; exact hLK
  refine g_pop2L X dL_law_1925 ?_
  refine g_aload_n X dL_law_1926 rfl (j := 1) rfl ?_
  refine g_aload_n X dL_law_1927 rfl (j := 3) rfl ?_
  refine g_iload_n X dL_law_1928 rfl (j := 0) rfl ?_
  refine g_iconst X dL_law_1929 (v := 1) (by decide) ?_
  refine g_iadd X dL_law_1930 ?_
  refine Go.top (v := .int (nI ((6 * t) + 1))) (congrArg Value.int (nI_add (6 * t) 1)) ?_
  refine g_sld X hX hbl hbA (vp_in_nI (by omega) (by omega)) (v := xs ((6 * t) + 1)) (by rw [nI_clamp (by omega)]) dL_law_1931 ?_
  refine g_aload_n X dL_law_1932 rfl (j := 3) rfl ?_
  refine g_iload_n X dL_law_1933 rfl (j := 0) rfl ?_
  refine g_iconst X dL_law_1934 (v := 2) (by decide) ?_
  refine g_iadd X dL_law_1935 ?_
  refine Go.top (v := .int (nI ((6 * t) + 2))) (congrArg Value.int (nI_add (6 * t) 2)) ?_
  refine g_sld X hX hbl hbA (vp_in_nI (by omega) (by omega)) (v := xs ((6 * t) + 2)) (by rw [nI_clamp (by omega)]) dL_law_1936 ?_
  refine g_callVJ X (s_X8_mean l G F I ((xs ((6 * t) + 1))) ((xs ((6 * t) + 2))) ) lk_L_268 (F.1 100 rfl).2 (F.1 100 rfl).1 rfl rfl dL_law_1937 (Nat.le_of_ble_eq_true rfl) ⟨by decide, by decide⟩ ⟨by show _ ≤ 600000; omega, by show _ ≤ 7302250; omega⟩ (fun r2 L M hp => ?_)
  obtain ⟨C, D, F, I, K1, hr⟩ := hp
  have hN : NowOk (C 3) (C 27) (C 29) := by rw [(K1 3 (by decide)).1, (K1 27 (by decide)).1, (K1 29 (by decide)).1]; exact hN
  have hLK : LK act (C 103) (C 137) (C 138) (C 80) (C 82) (C 84) (C 86) := by rw [(K1 103 (by decide)).1, (K1 137 (by decide)).1, (K1 138 (by decide)).1, (K1 80 (by decide)).1, (K1 82 (by decide)).1, (K1 84 (by decide)).1, (K1 86 (by decide)).1]; exact hLK
  refine g_pop2L X dL_law_1940 ?_
  refine g_goto X dL_law_1941 (tgt := 2393) (by decide) ?_
  refine g_widen (k1 := 210 + 10 * t) (k2 := 20400 + 400 * t) (by omega) (by omega) ?_
  exact tail L M ⟨a, act, C, D, R, F, I, HA, HR, hN, hLK, rfl, rfl⟩
set_option maxHeartbeats 4000000 in
set_option maxRecDepth 100000 in
theorem lc_62 {p : Program} {l : Launch} {e : Env} {s : State} {m : MethodId} {below : List Frame} {meth : Method} {c : Code} {G : va_G} {cy : Nat → ClassId} {A : Nat → Prop} {Q : State → Prop} {b Ln : Nat} {xs : Nat → Int32} {x0 m0 : Nat} {L : List Nat} {M : Nat → va_E} (X : Cx p s m #[Value.ref b] meth c RL cL_law 4 G cy A) (hX : va_X b Ln xs s s.heap) (hbl : b < s.heap.size) (hbA : ¬ A b) (hLn : Ln ≤ 3072) (t : Nat) (ht : 6 * t + 6 ≤ Ln) (hW : Wd cy x0 m0 L M) (tail : ∀ (L : List Nat) (M : Nat → va_E), Wd cy x0 m0 L M → Go p l e room_1 s m #[Value.ref b] below meth c 4 G A (210 + 10 * t) (20400 + 400 * t) Q L M 2393 [(3, .int (nI (6 * t))), (2, .ref m0), (1, .ref x0), (0, .ref b)] []) : Go p l e room_1 s m #[Value.ref b] below meth c 4 G A (200 + 10 * t) (20000 + 400 * t) Q L M 1944 [(3, .int (nI (6 * t))), (2, .ref m0), (1, .ref x0), (0, .ref b)] [] := by
  obtain ⟨a, act, C, D, R, F, I, HA, HR, hN, hLK, e0, e1⟩ := hW
  subst e0
  subst e1
  refine g_aload_n X dL_law_1944 rfl (j := 2) rfl ?_
  refine g_aload_n X dL_law_1945 rfl (j := 3) rfl ?_
  refine g_iload_n X dL_law_1946 rfl (j := 0) rfl ?_
  refine g_iconst X dL_law_1947 (v := 1) (by decide) ?_
  refine g_iadd X dL_law_1948 ?_
  refine Go.top (v := .int (nI ((6 * t) + 1))) (congrArg Value.int (nI_add (6 * t) 1)) ?_
  refine g_sld X hX hbl hbA (vp_in_nI (by omega) (by omega)) (v := xs ((6 * t) + 1)) (by rw [nI_clamp (by omega)]) dL_law_1949 ?_
  refine g_aload_n X dL_law_1950 rfl (j := 3) rfl ?_
  refine g_iload_n X dL_law_1951 rfl (j := 0) rfl ?_
  refine g_iconst X dL_law_1952 (v := 2) (by decide) ?_
  refine g_iadd X dL_law_1953 ?_
  refine Go.top (v := .int (nI ((6 * t) + 2))) (congrArg Value.int (nI_add (6 * t) 2)) ?_
  refine g_sld X hX hbl hbA (vp_in_nI (by omega) (by omega)) (v := xs ((6 * t) + 2)) (by rw [nI_clamp (by omega)]) dL_law_1954 ?_
  refine g_callVI X (s_X7_twists l G F I ((xs ((6 * t) + 1))) ((xs ((6 * t) + 2))) hN) lk_L_269 (F.1 0 rfl).2 (F.1 0 rfl).1 rfl rfl dL_law_1955 (Nat.le_of_ble_eq_true rfl) ⟨by decide, by decide⟩ ⟨by show _ ≤ 600000; omega, by show _ ≤ 7302250; omega⟩ (fun r1 L M hp => ?_)
  obtain ⟨C, D, F, I, K1, hr⟩ := hp
  have hN : NowOk (C 3) (C 27) (C 29) := hr
  have hLK : LK act (C 103) (C 137) (C 138) (C 80) (C 82) (C 84) (C 86) := by rw [(K1 103 (by decide)).1, (K1 137 (by decide)).1, (K1 138 (by decide)).1, (K1 80 (by decide)).1, (K1 82 (by decide)).1, (K1 84 (by decide)).1, (K1 86 (by decide)).1]; exact hLK
  refine g_pop X dL_law_1958 rfl ?_
  refine g_aload_n X dL_law_1959 rfl (j := 1) rfl ?_
  refine g_aload_n X dL_law_1960 rfl (j := 3) rfl ?_
  refine g_iload_n X dL_law_1961 rfl (j := 0) rfl ?_
  refine g_iconst X dL_law_1962 (v := 1) (by decide) ?_
  refine g_iadd X dL_law_1963 ?_
  refine Go.top (v := .int (nI ((6 * t) + 1))) (congrArg Value.int (nI_add (6 * t) 1)) ?_
  refine g_sld X hX hbl hbA (vp_in_nI (by omega) (by omega)) (v := xs ((6 * t) + 1)) (by rw [nI_clamp (by omega)]) dL_law_1964 ?_
  refine g_aload_n X dL_law_1965 rfl (j := 3) rfl ?_
  refine g_iload_n X dL_law_1966 rfl (j := 0) rfl ?_
  refine g_iconst X dL_law_1967 (v := 2) (by decide) ?_
  refine g_iadd X dL_law_1968 ?_
  refine Go.top (v := .int (nI ((6 * t) + 2))) (congrArg Value.int (nI_add (6 * t) 2)) ?_
  refine g_sld X hX hbl hbA (vp_in_nI (by omega) (by omega)) (v := xs ((6 * t) + 2)) (by rw [nI_clamp (by omega)]) dL_law_1969 ?_
  refine g_callVI X (s_X8_twists l G F I ((xs ((6 * t) + 1))) ((xs ((6 * t) + 2))) ) lk_L_272 (F.1 100 rfl).2 (F.1 100 rfl).1 rfl rfl dL_law_1970 (Nat.le_of_ble_eq_true rfl) ⟨by decide, by decide⟩ ⟨by show _ ≤ 600000; omega, by show _ ≤ 7302250; omega⟩ (fun r2 L M hp => ?_)
  obtain ⟨C, D, F, I, K1, hr⟩ := hp
  have hLK : LK act (C 103) (C 137) (C 138) (C 80) (C 82) (C 84) (C 86) := by rw [(K1 103 (by decide)).1, (K1 137 (by decide)).1, (K1 138 (by decide)).1, (K1 80 (by decide)).1, (K1 82 (by decide)).1, (K1 84 (by decide)).1, (K1 86 (by decide)).1]; exact hLK
  have hN : NowOk (C 3) (C 27) (C 29) := by rw [(K1 3 (by decide)).1, (K1 27 (by decide)).1, (K1 29 (by decide)).1]; exact hN
  refine g_pop X dL_law_1973 rfl ?_
  refine g_goto X dL_law_1974 (tgt := 2393) (by decide) ?_
  refine g_widen (k1 := 210 + 10 * t) (k2 := 20400 + 400 * t) (by omega) (by omega) ?_
  exact tail L M ⟨a, act, C, D, R, F, I, HA, HR, hN, hLK, rfl, rfl⟩
set_option maxHeartbeats 4000000 in
set_option maxRecDepth 100000 in
theorem lc_63 {p : Program} {l : Launch} {e : Env} {s : State} {m : MethodId} {below : List Frame} {meth : Method} {c : Code} {G : va_G} {cy : Nat → ClassId} {A : Nat → Prop} {Q : State → Prop} {b Ln : Nat} {xs : Nat → Int32} {x0 m0 : Nat} {L : List Nat} {M : Nat → va_E} (X : Cx p s m #[Value.ref b] meth c RL cL_law 4 G cy A) (hX : va_X b Ln xs s s.heap) (hbl : b < s.heap.size) (hbA : ¬ A b) (hLn : Ln ≤ 3072) (t : Nat) (ht : 6 * t + 6 ≤ Ln) (hW : Wd cy x0 m0 L M) (tail : ∀ (L : List Nat) (M : Nat → va_E), Wd cy x0 m0 L M → Go p l e room_1 s m #[Value.ref b] below meth c 4 G A (210 + 10 * t) (20400 + 400 * t) Q L M 2393 [(3, .int (nI (6 * t))), (2, .ref m0), (1, .ref x0), (0, .ref b)] []) : Go p l e room_1 s m #[Value.ref b] below meth c 4 G A (200 + 10 * t) (20000 + 400 * t) Q L M 1977 [(3, .int (nI (6 * t))), (2, .ref m0), (1, .ref x0), (0, .ref b)] [] := by
  obtain ⟨a, act, C, D, R, F, I, HA, HR, hN, hLK, e0, e1⟩ := hW
  subst e0
  subst e1
  refine g_aload_n X dL_law_1977 rfl (j := 2) rfl ?_
  refine g_aload_n X dL_law_1978 rfl (j := 3) rfl ?_
  refine g_iload_n X dL_law_1979 rfl (j := 0) rfl ?_
  refine g_iconst X dL_law_1980 (v := 1) (by decide) ?_
  refine g_iadd X dL_law_1981 ?_
  refine Go.top (v := .int (nI ((6 * t) + 1))) (congrArg Value.int (nI_add (6 * t) 1)) ?_
  refine g_sld X hX hbl hbA (vp_in_nI (by omega) (by omega)) (v := xs ((6 * t) + 1)) (by rw [nI_clamp (by omega)]) dL_law_1982 ?_
  refine g_aload_n X dL_law_1983 rfl (j := 3) rfl ?_
  refine g_iload_n X dL_law_1984 rfl (j := 0) rfl ?_
  refine g_iconst X dL_law_1985 (v := 2) (by decide) ?_
  refine g_iadd X dL_law_1986 ?_
  refine Go.top (v := .int (nI ((6 * t) + 2))) (congrArg Value.int (nI_add (6 * t) 2)) ?_
  refine g_sld X hX hbl hbA (vp_in_nI (by omega) (by omega)) (v := xs ((6 * t) + 2)) (by rw [nI_clamp (by omega)]) dL_law_1987 ?_
  refine g_callVI X (s_X7_holds l G F I ((xs ((6 * t) + 1))) ((xs ((6 * t) + 2))) hN) lk_L_273 (F.1 0 rfl).2 (F.1 0 rfl).1 rfl rfl dL_law_1988 (Nat.le_of_ble_eq_true rfl) ⟨by decide, by decide⟩ ⟨by show _ ≤ 600000; omega, by show _ ≤ 7302250; omega⟩ (fun r1 L M hp => ?_)
  obtain ⟨C, D, F, I, K1, hr⟩ := hp
  have hN : NowOk (C 3) (C 27) (C 29) := hr
  have hLK : LK act (C 103) (C 137) (C 138) (C 80) (C 82) (C 84) (C 86) := by rw [(K1 103 (by decide)).1, (K1 137 (by decide)).1, (K1 138 (by decide)).1, (K1 80 (by decide)).1, (K1 82 (by decide)).1, (K1 84 (by decide)).1, (K1 86 (by decide)).1]; exact hLK
  refine g_pop X dL_law_1991 rfl ?_
  refine g_aload_n X dL_law_1992 rfl (j := 1) rfl ?_
  refine g_aload_n X dL_law_1993 rfl (j := 3) rfl ?_
  refine g_iload_n X dL_law_1994 rfl (j := 0) rfl ?_
  refine g_iconst X dL_law_1995 (v := 1) (by decide) ?_
  refine g_iadd X dL_law_1996 ?_
  refine Go.top (v := .int (nI ((6 * t) + 1))) (congrArg Value.int (nI_add (6 * t) 1)) ?_
  refine g_sld X hX hbl hbA (vp_in_nI (by omega) (by omega)) (v := xs ((6 * t) + 1)) (by rw [nI_clamp (by omega)]) dL_law_1997 ?_
  refine g_aload_n X dL_law_1998 rfl (j := 3) rfl ?_
  refine g_iload_n X dL_law_1999 rfl (j := 0) rfl ?_
  refine g_iconst X dL_law_2000 (v := 2) (by decide) ?_
  refine g_iadd X dL_law_2001 ?_
  refine Go.top (v := .int (nI ((6 * t) + 2))) (congrArg Value.int (nI_add (6 * t) 2)) ?_
  refine g_sld X hX hbl hbA (vp_in_nI (by omega) (by omega)) (v := xs ((6 * t) + 2)) (by rw [nI_clamp (by omega)]) dL_law_2002 ?_
  refine g_callVI X (s_X8_holds l G F I ((xs ((6 * t) + 1))) ((xs ((6 * t) + 2))) ) lk_L_276 (F.1 100 rfl).2 (F.1 100 rfl).1 rfl rfl dL_law_2003 (Nat.le_of_ble_eq_true rfl) ⟨by decide, by decide⟩ ⟨by show _ ≤ 600000; omega, by show _ ≤ 7302250; omega⟩ (fun r2 L M hp => ?_)
  obtain ⟨C, D, F, I, K1, hr⟩ := hp
  have hLK : LK act (C 103) (C 137) (C 138) (C 80) (C 82) (C 84) (C 86) := by rw [(K1 103 (by decide)).1, (K1 137 (by decide)).1, (K1 138 (by decide)).1, (K1 80 (by decide)).1, (K1 82 (by decide)).1, (K1 84 (by decide)).1, (K1 86 (by decide)).1]; exact hLK
  have hN : NowOk (C 3) (C 27) (C 29) := by rw [(K1 3 (by decide)).1, (K1 27 (by decide)).1, (K1 29 (by decide)).1]; exact hN
  refine g_pop X dL_law_2006 rfl ?_
  refine g_goto X dL_law_2007 (tgt := 2393) (by decide) ?_
  refine g_widen (k1 := 210 + 10 * t) (k2 := 20400 + 400 * t) (by omega) (by omega) ?_
  exact tail L M ⟨a, act, C, D, R, F, I, HA, HR, hN, hLK, rfl, rfl⟩
set_option maxHeartbeats 4000000 in
set_option maxRecDepth 100000 in
theorem lc_64 {p : Program} {l : Launch} {e : Env} {s : State} {m : MethodId} {below : List Frame} {meth : Method} {c : Code} {G : va_G} {cy : Nat → ClassId} {A : Nat → Prop} {Q : State → Prop} {b Ln : Nat} {xs : Nat → Int32} {x0 m0 : Nat} {L : List Nat} {M : Nat → va_E} (X : Cx p s m #[Value.ref b] meth c RL cL_law 4 G cy A) (hX : va_X b Ln xs s s.heap) (hbl : b < s.heap.size) (hbA : ¬ A b) (hLn : Ln ≤ 3072) (t : Nat) (ht : 6 * t + 6 ≤ Ln) (hW : Wd cy x0 m0 L M) (tail : ∀ (L : List Nat) (M : Nat → va_E), Wd cy x0 m0 L M → Go p l e room_1 s m #[Value.ref b] below meth c 4 G A (210 + 10 * t) (20400 + 400 * t) Q L M 2393 [(3, .int (nI (6 * t))), (2, .ref m0), (1, .ref x0), (0, .ref b)] []) : Go p l e room_1 s m #[Value.ref b] below meth c 4 G A (200 + 10 * t) (20000 + 400 * t) Q L M 2010 [(3, .int (nI (6 * t))), (2, .ref m0), (1, .ref x0), (0, .ref b)] [] := by
  obtain ⟨a, act, C, D, R, F, I, HA, HR, hN, hLK, e0, e1⟩ := hW
  subst e0
  subst e1
  refine g_aload_n X dL_law_2010 rfl (j := 2) rfl ?_
  refine g_callVI X (s_X7_undo l G F I  hN) lk_L_277 (F.1 0 rfl).2 (F.1 0 rfl).1 rfl rfl dL_law_2011 (Nat.le_of_ble_eq_true rfl) ⟨by decide, by decide⟩ ⟨by show _ ≤ 600000; omega, by show _ ≤ 7302250; omega⟩ (fun r1 L M hp => ?_)
  obtain ⟨C, D, F, I, K1, hr⟩ := hp
  have hN : NowOk (C 3) (C 27) (C 29) := hr
  have hLK : LK act (C 103) (C 137) (C 138) (C 80) (C 82) (C 84) (C 86) := by rw [(K1 103 (by decide)).1, (K1 137 (by decide)).1, (K1 138 (by decide)).1, (K1 80 (by decide)).1, (K1 82 (by decide)).1, (K1 84 (by decide)).1, (K1 86 (by decide)).1]; exact hLK
  refine g_pop X dL_law_2014 rfl ?_
  refine g_aload_n X dL_law_2015 rfl (j := 1) rfl ?_
  refine g_callVI X (s_X8_undo l G F I  ) lk_L_280 (F.1 100 rfl).2 (F.1 100 rfl).1 rfl rfl dL_law_2016 (Nat.le_of_ble_eq_true rfl) ⟨by decide, by decide⟩ ⟨by show _ ≤ 600000; omega, by show _ ≤ 7302250; omega⟩ (fun r2 L M hp => ?_)
  obtain ⟨C, D, F, I, K1, hr⟩ := hp
  have hLK : LK act (C 103) (C 137) (C 138) (C 80) (C 82) (C 84) (C 86) := by rw [(K1 103 (by decide)).1, (K1 137 (by decide)).1, (K1 138 (by decide)).1, (K1 80 (by decide)).1, (K1 82 (by decide)).1, (K1 84 (by decide)).1, (K1 86 (by decide)).1]; exact hLK
  have hN : NowOk (C 3) (C 27) (C 29) := by rw [(K1 3 (by decide)).1, (K1 27 (by decide)).1, (K1 29 (by decide)).1]; exact hN
  refine g_pop X dL_law_2019 rfl ?_
  refine g_goto X dL_law_2020 (tgt := 2393) (by decide) ?_
  refine g_widen (k1 := 210 + 10 * t) (k2 := 20400 + 400 * t) (by omega) (by omega) ?_
  exact tail L M ⟨a, act, C, D, R, F, I, HA, HR, hN, hLK, rfl, rfl⟩
set_option maxHeartbeats 4000000 in
set_option maxRecDepth 100000 in
theorem lc_65 {p : Program} {l : Launch} {e : Env} {s : State} {m : MethodId} {below : List Frame} {meth : Method} {c : Code} {G : va_G} {cy : Nat → ClassId} {A : Nat → Prop} {Q : State → Prop} {b Ln : Nat} {xs : Nat → Int32} {x0 m0 : Nat} {L : List Nat} {M : Nat → va_E} (X : Cx p s m #[Value.ref b] meth c RL cL_law 4 G cy A) (hX : va_X b Ln xs s s.heap) (hbl : b < s.heap.size) (hbA : ¬ A b) (hLn : Ln ≤ 3072) (t : Nat) (ht : 6 * t + 6 ≤ Ln) (hW : Wd cy x0 m0 L M) (tail : ∀ (L : List Nat) (M : Nat → va_E), Wd cy x0 m0 L M → Go p l e room_1 s m #[Value.ref b] below meth c 4 G A (210 + 10 * t) (20400 + 400 * t) Q L M 2393 [(3, .int (nI (6 * t))), (2, .ref m0), (1, .ref x0), (0, .ref b)] []) : Go p l e room_1 s m #[Value.ref b] below meth c 4 G A (200 + 10 * t) (20000 + 400 * t) Q L M 2023 [(3, .int (nI (6 * t))), (2, .ref m0), (1, .ref x0), (0, .ref b)] [] := by
  obtain ⟨a, act, C, D, R, F, I, HA, HR, hN, hLK, e0, e1⟩ := hW
  subst e0
  subst e1
  refine g_aload_n X dL_law_2023 rfl (j := 2) rfl ?_
  refine g_callVI X (s_X7_anew l G F I  hN) lk_L_281 (F.1 0 rfl).2 (F.1 0 rfl).1 rfl rfl dL_law_2024 (Nat.le_of_ble_eq_true rfl) ⟨by decide, by decide⟩ ⟨by show _ ≤ 600000; omega, by show _ ≤ 7302250; omega⟩ (fun r1 L M hp => ?_)
  obtain ⟨C, D, F, I, K1, hr⟩ := hp
  have hN : NowOk (C 3) (C 27) (C 29) := hr
  have hLK : LK act (C 103) (C 137) (C 138) (C 80) (C 82) (C 84) (C 86) := by rw [(K1 103 (by decide)).1, (K1 137 (by decide)).1, (K1 138 (by decide)).1, (K1 80 (by decide)).1, (K1 82 (by decide)).1, (K1 84 (by decide)).1, (K1 86 (by decide)).1]; exact hLK
  refine g_pop X dL_law_2027 rfl ?_
  refine g_aload_n X dL_law_2028 rfl (j := 1) rfl ?_
  refine g_callVI X (s_X8_anew l G F I  ) lk_L_284 (F.1 100 rfl).2 (F.1 100 rfl).1 rfl rfl dL_law_2029 (Nat.le_of_ble_eq_true rfl) ⟨by decide, by decide⟩ ⟨by show _ ≤ 600000; omega, by show _ ≤ 7302250; omega⟩ (fun r2 L M hp => ?_)
  obtain ⟨C, D, F, I, K1, hr⟩ := hp
  have hLK : LK act (C 103) (C 137) (C 138) (C 80) (C 82) (C 84) (C 86) := by rw [(K1 103 (by decide)).1, (K1 137 (by decide)).1, (K1 138 (by decide)).1, (K1 80 (by decide)).1, (K1 82 (by decide)).1, (K1 84 (by decide)).1, (K1 86 (by decide)).1]; exact hLK
  have hN : NowOk (C 3) (C 27) (C 29) := by rw [(K1 3 (by decide)).1, (K1 27 (by decide)).1, (K1 29 (by decide)).1]; exact hN
  refine g_pop X dL_law_2032 rfl ?_
  refine g_goto X dL_law_2033 (tgt := 2393) (by decide) ?_
  refine g_widen (k1 := 210 + 10 * t) (k2 := 20400 + 400 * t) (by omega) (by omega) ?_
  exact tail L M ⟨a, act, C, D, R, F, I, HA, HR, hN, hLK, rfl, rfl⟩
set_option maxHeartbeats 4000000 in
set_option maxRecDepth 100000 in
theorem lc_66 {p : Program} {l : Launch} {e : Env} {s : State} {m : MethodId} {below : List Frame} {meth : Method} {c : Code} {G : va_G} {cy : Nat → ClassId} {A : Nat → Prop} {Q : State → Prop} {b Ln : Nat} {xs : Nat → Int32} {x0 m0 : Nat} {L : List Nat} {M : Nat → va_E} (X : Cx p s m #[Value.ref b] meth c RL cL_law 4 G cy A) (hX : va_X b Ln xs s s.heap) (hbl : b < s.heap.size) (hbA : ¬ A b) (hLn : Ln ≤ 3072) (t : Nat) (ht : 6 * t + 6 ≤ Ln) (hW : Wd cy x0 m0 L M) (tail : ∀ (L : List Nat) (M : Nat → va_E), Wd cy x0 m0 L M → Go p l e room_1 s m #[Value.ref b] below meth c 4 G A (210 + 10 * t) (20400 + 400 * t) Q L M 2393 [(3, .int (nI (6 * t))), (2, .ref m0), (1, .ref x0), (0, .ref b)] []) : Go p l e room_1 s m #[Value.ref b] below meth c 4 G A (200 + 10 * t) (20000 + 400 * t) Q L M 2036 [(3, .int (nI (6 * t))), (2, .ref m0), (1, .ref x0), (0, .ref b)] [] := by
  obtain ⟨a, act, C, D, R, F, I, HA, HR, hN, hLK, e0, e1⟩ := hW
  subst e0
  subst e1
  refine g_aload_n X dL_law_2036 rfl (j := 2) rfl ?_
  refine g_aload_n X dL_law_2037 rfl (j := 3) rfl ?_
  refine g_iload_n X dL_law_2038 rfl (j := 0) rfl ?_
  refine g_iconst X dL_law_2039 (v := 1) (by decide) ?_
  refine g_iadd X dL_law_2040 ?_
  refine Go.top (v := .int (nI ((6 * t) + 1))) (congrArg Value.int (nI_add (6 * t) 1)) ?_
  refine g_sld X hX hbl hbA (vp_in_nI (by omega) (by omega)) (v := xs ((6 * t) + 1)) (by rw [nI_clamp (by omega)]) dL_law_2041 ?_
  refine g_aload_n X dL_law_2042 rfl (j := 3) rfl ?_
  refine g_iload_n X dL_law_2043 rfl (j := 0) rfl ?_
  refine g_iconst X dL_law_2044 (v := 2) (by decide) ?_
  refine g_iadd X dL_law_2045 ?_
  refine Go.top (v := .int (nI ((6 * t) + 2))) (congrArg Value.int (nI_add (6 * t) 2)) ?_
  refine g_sld X hX hbl hbA (vp_in_nI (by omega) (by omega)) (v := xs ((6 * t) + 2)) (by rw [nI_clamp (by omega)]) dL_law_2046 ?_
  refine g_callVI X (s_X7_drawn l G F I ((xs ((6 * t) + 1))) ((xs ((6 * t) + 2))) ) lk_L_285 (F.1 0 rfl).2 (F.1 0 rfl).1 rfl rfl dL_law_2047 (Nat.le_of_ble_eq_true rfl) ⟨by decide, by decide⟩ ⟨by show _ ≤ 600000; omega, by show _ ≤ 7302250; omega⟩ (fun r1 L M hp => ?_)
  obtain ⟨C, D, F, I, K1, hr⟩ := hp
  have hN : NowOk (C 3) (C 27) (C 29) := by rw [(K1 3 (by decide)).1, (K1 27 (by decide)).1, (K1 29 (by decide)).1]; exact hN
  have hLK : LK act (C 103) (C 137) (C 138) (C 80) (C 82) (C 84) (C 86) := by rw [(K1 103 (by decide)).1, (K1 137 (by decide)).1, (K1 138 (by decide)).1, (K1 80 (by decide)).1, (K1 82 (by decide)).1, (K1 84 (by decide)).1, (K1 86 (by decide)).1]; exact hLK
  refine g_pop X dL_law_2050 rfl ?_
  refine g_aload_n X dL_law_2051 rfl (j := 1) rfl ?_
  refine g_aload_n X dL_law_2052 rfl (j := 3) rfl ?_
  refine g_iload_n X dL_law_2053 rfl (j := 0) rfl ?_
  refine g_iconst X dL_law_2054 (v := 1) (by decide) ?_
  refine g_iadd X dL_law_2055 ?_
  refine Go.top (v := .int (nI ((6 * t) + 1))) (congrArg Value.int (nI_add (6 * t) 1)) ?_
  refine g_sld X hX hbl hbA (vp_in_nI (by omega) (by omega)) (v := xs ((6 * t) + 1)) (by rw [nI_clamp (by omega)]) dL_law_2056 ?_
  refine g_aload_n X dL_law_2057 rfl (j := 3) rfl ?_
  refine g_iload_n X dL_law_2058 rfl (j := 0) rfl ?_
  refine g_iconst X dL_law_2059 (v := 2) (by decide) ?_
  refine g_iadd X dL_law_2060 ?_
  refine Go.top (v := .int (nI ((6 * t) + 2))) (congrArg Value.int (nI_add (6 * t) 2)) ?_
  refine g_sld X hX hbl hbA (vp_in_nI (by omega) (by omega)) (v := xs ((6 * t) + 2)) (by rw [nI_clamp (by omega)]) dL_law_2061 ?_
  refine g_callVI X (s_X8_drawn l G F I ((xs ((6 * t) + 1))) ((xs ((6 * t) + 2))) ) lk_L_288 (F.1 100 rfl).2 (F.1 100 rfl).1 rfl rfl dL_law_2062 (Nat.le_of_ble_eq_true rfl) ⟨by decide, by decide⟩ ⟨by show _ ≤ 600000; omega, by show _ ≤ 7302250; omega⟩ (fun r2 L M hp => ?_)
  obtain ⟨C, D, F, I, K1, hr⟩ := hp
  have hN : NowOk (C 3) (C 27) (C 29) := by rw [(K1 3 (by decide)).1, (K1 27 (by decide)).1, (K1 29 (by decide)).1]; exact hN
  have hLK : LK act (C 103) (C 137) (C 138) (C 80) (C 82) (C 84) (C 86) := by rw [(K1 103 (by decide)).1, (K1 137 (by decide)).1, (K1 138 (by decide)).1, (K1 80 (by decide)).1, (K1 82 (by decide)).1, (K1 84 (by decide)).1, (K1 86 (by decide)).1]; exact hLK
  refine g_pop X dL_law_2065 rfl ?_
  refine g_goto X dL_law_2066 (tgt := 2393) (by decide) ?_
  refine g_widen (k1 := 210 + 10 * t) (k2 := 20400 + 400 * t) (by omega) (by omega) ?_
  exact tail L M ⟨a, act, C, D, R, F, I, HA, HR, hN, hLK, rfl, rfl⟩
set_option maxHeartbeats 4000000 in
set_option maxRecDepth 100000 in
theorem lc_67 {p : Program} {l : Launch} {e : Env} {s : State} {m : MethodId} {below : List Frame} {meth : Method} {c : Code} {G : va_G} {cy : Nat → ClassId} {A : Nat → Prop} {Q : State → Prop} {b Ln : Nat} {xs : Nat → Int32} {x0 m0 : Nat} {L : List Nat} {M : Nat → va_E} (X : Cx p s m #[Value.ref b] meth c RL cL_law 4 G cy A) (hX : va_X b Ln xs s s.heap) (hbl : b < s.heap.size) (hbA : ¬ A b) (hLn : Ln ≤ 3072) (t : Nat) (ht : 6 * t + 6 ≤ Ln) (hW : Wd cy x0 m0 L M) (tail : ∀ (L : List Nat) (M : Nat → va_E), Wd cy x0 m0 L M → Go p l e room_1 s m #[Value.ref b] below meth c 4 G A (210 + 10 * t) (20400 + 400 * t) Q L M 2393 [(3, .int (nI (6 * t))), (2, .ref m0), (1, .ref x0), (0, .ref b)] []) : Go p l e room_1 s m #[Value.ref b] below meth c 4 G A (200 + 10 * t) (20000 + 400 * t) Q L M 2069 [(3, .int (nI (6 * t))), (2, .ref m0), (1, .ref x0), (0, .ref b)] [] := by
  obtain ⟨a, act, C, D, R, F, I, HA, HR, hN, hLK, e0, e1⟩ := hW
  subst e0
  subst e1
  refine g_aload_n X dL_law_2069 rfl (j := 2) rfl ?_
  refine g_aload_n X dL_law_2070 rfl (j := 3) rfl ?_
  refine g_iload_n X dL_law_2071 rfl (j := 0) rfl ?_
  refine g_iconst X dL_law_2072 (v := 1) (by decide) ?_
  refine g_iadd X dL_law_2073 ?_
  refine Go.top (v := .int (nI ((6 * t) + 1))) (congrArg Value.int (nI_add (6 * t) 1)) ?_
  refine g_sld X hX hbl hbA (vp_in_nI (by omega) (by omega)) (v := xs ((6 * t) + 1)) (by rw [nI_clamp (by omega)]) dL_law_2074 ?_
  refine g_aload_n X dL_law_2075 rfl (j := 3) rfl ?_
  refine g_iload_n X dL_law_2076 rfl (j := 0) rfl ?_
  refine g_iconst X dL_law_2077 (v := 2) (by decide) ?_
  refine g_iadd X dL_law_2078 ?_
  refine Go.top (v := .int (nI ((6 * t) + 2))) (congrArg Value.int (nI_add (6 * t) 2)) ?_
  refine g_sld X hX hbl hbA (vp_in_nI (by omega) (by omega)) (v := xs ((6 * t) + 2)) (by rw [nI_clamp (by omega)]) dL_law_2079 ?_
  refine g_aload_n X dL_law_2080 rfl (j := 3) rfl ?_
  refine g_iload_n X dL_law_2081 rfl (j := 0) rfl ?_
  refine g_iconst X dL_law_2082 (v := 3) (by decide) ?_
  refine g_iadd X dL_law_2083 ?_
  refine Go.top (v := .int (nI ((6 * t) + 3))) (congrArg Value.int (nI_add (6 * t) 3)) ?_
  refine g_sld X hX hbl hbA (vp_in_nI (by omega) (by omega)) (v := xs ((6 * t) + 3)) (by rw [nI_clamp (by omega)]) dL_law_2084 ?_
  refine g_callVI X (s_X7_luck l G F I ((xs ((6 * t) + 1))) ((xs ((6 * t) + 2))) ((xs ((6 * t) + 3))) ) lk_L_289 (F.1 0 rfl).2 (F.1 0 rfl).1 rfl rfl dL_law_2085 (Nat.le_of_ble_eq_true rfl) ⟨by decide, by decide⟩ ⟨by show _ ≤ 600000; omega, by show _ ≤ 7302250; omega⟩ (fun r1 L M hp => ?_)
  obtain ⟨C, D, F, I, K1, hr⟩ := hp
  have hN : NowOk (C 3) (C 27) (C 29) := by rw [(K1 3 (by decide)).1, (K1 27 (by decide)).1, (K1 29 (by decide)).1]; exact hN
  have hLK : LK act (C 103) (C 137) (C 138) (C 80) (C 82) (C 84) (C 86) := by rw [(K1 103 (by decide)).1, (K1 137 (by decide)).1, (K1 138 (by decide)).1, (K1 80 (by decide)).1, (K1 82 (by decide)).1, (K1 84 (by decide)).1, (K1 86 (by decide)).1]; exact hLK
  refine g_pop X dL_law_2088 rfl ?_
  refine g_aload_n X dL_law_2089 rfl (j := 1) rfl ?_
  refine g_aload_n X dL_law_2090 rfl (j := 3) rfl ?_
  refine g_iload_n X dL_law_2091 rfl (j := 0) rfl ?_
  refine g_iconst X dL_law_2092 (v := 1) (by decide) ?_
  refine g_iadd X dL_law_2093 ?_
  refine Go.top (v := .int (nI ((6 * t) + 1))) (congrArg Value.int (nI_add (6 * t) 1)) ?_
  refine g_sld X hX hbl hbA (vp_in_nI (by omega) (by omega)) (v := xs ((6 * t) + 1)) (by rw [nI_clamp (by omega)]) dL_law_2094 ?_
  refine g_aload_n X dL_law_2095 rfl (j := 3) rfl ?_
  refine g_iload_n X dL_law_2096 rfl (j := 0) rfl ?_
  refine g_iconst X dL_law_2097 (v := 2) (by decide) ?_
  refine g_iadd X dL_law_2098 ?_
  refine Go.top (v := .int (nI ((6 * t) + 2))) (congrArg Value.int (nI_add (6 * t) 2)) ?_
  refine g_sld X hX hbl hbA (vp_in_nI (by omega) (by omega)) (v := xs ((6 * t) + 2)) (by rw [nI_clamp (by omega)]) dL_law_2099 ?_
  refine g_aload_n X dL_law_2100 rfl (j := 3) rfl ?_
  refine g_iload_n X dL_law_2101 rfl (j := 0) rfl ?_
  refine g_iconst X dL_law_2102 (v := 3) (by decide) ?_
  refine g_iadd X dL_law_2103 ?_
  refine Go.top (v := .int (nI ((6 * t) + 3))) (congrArg Value.int (nI_add (6 * t) 3)) ?_
  refine g_sld X hX hbl hbA (vp_in_nI (by omega) (by omega)) (v := xs ((6 * t) + 3)) (by rw [nI_clamp (by omega)]) dL_law_2104 ?_
  refine g_callVI X (s_X8_luck l G F I ((xs ((6 * t) + 1))) ((xs ((6 * t) + 2))) ((xs ((6 * t) + 3))) ) lk_L_292 (F.1 100 rfl).2 (F.1 100 rfl).1 rfl rfl dL_law_2105 (Nat.le_of_ble_eq_true rfl) ⟨by decide, by decide⟩ ⟨by show _ ≤ 600000; omega, by show _ ≤ 7302250; omega⟩ (fun r2 L M hp => ?_)
  obtain ⟨C, D, F, I, K1, hr⟩ := hp
  have hN : NowOk (C 3) (C 27) (C 29) := by rw [(K1 3 (by decide)).1, (K1 27 (by decide)).1, (K1 29 (by decide)).1]; exact hN
  have hLK : LK act (C 103) (C 137) (C 138) (C 80) (C 82) (C 84) (C 86) := by rw [(K1 103 (by decide)).1, (K1 137 (by decide)).1, (K1 138 (by decide)).1, (K1 80 (by decide)).1, (K1 82 (by decide)).1, (K1 84 (by decide)).1, (K1 86 (by decide)).1]; exact hLK
  refine g_pop X dL_law_2108 rfl ?_
  refine g_goto X dL_law_2109 (tgt := 2393) (by decide) ?_
  refine g_widen (k1 := 210 + 10 * t) (k2 := 20400 + 400 * t) (by omega) (by omega) ?_
  exact tail L M ⟨a, act, C, D, R, F, I, HA, HR, hN, hLK, rfl, rfl⟩
set_option maxHeartbeats 4000000 in
set_option maxRecDepth 100000 in
theorem lc_68 {p : Program} {l : Launch} {e : Env} {s : State} {m : MethodId} {below : List Frame} {meth : Method} {c : Code} {G : va_G} {cy : Nat → ClassId} {A : Nat → Prop} {Q : State → Prop} {b Ln : Nat} {xs : Nat → Int32} {x0 m0 : Nat} {L : List Nat} {M : Nat → va_E} (X : Cx p s m #[Value.ref b] meth c RL cL_law 4 G cy A) (hX : va_X b Ln xs s s.heap) (hbl : b < s.heap.size) (hbA : ¬ A b) (hLn : Ln ≤ 3072) (t : Nat) (ht : 6 * t + 6 ≤ Ln) (hW : Wd cy x0 m0 L M) (tail : ∀ (L : List Nat) (M : Nat → va_E), Wd cy x0 m0 L M → Go p l e room_1 s m #[Value.ref b] below meth c 4 G A (210 + 10 * t) (20400 + 400 * t) Q L M 2393 [(3, .int (nI (6 * t))), (2, .ref m0), (1, .ref x0), (0, .ref b)] []) : Go p l e room_1 s m #[Value.ref b] below meth c 4 G A (200 + 10 * t) (20000 + 400 * t) Q L M 2112 [(3, .int (nI (6 * t))), (2, .ref m0), (1, .ref x0), (0, .ref b)] [] := by
  obtain ⟨a, act, C, D, R, F, I, HA, HR, hN, hLK, e0, e1⟩ := hW
  subst e0
  subst e1
  refine g_aload_n X dL_law_2112 rfl (j := 2) rfl ?_
  refine g_aload_n X dL_law_2113 rfl (j := 3) rfl ?_
  refine g_iload_n X dL_law_2114 rfl (j := 0) rfl ?_
  refine g_iconst X dL_law_2115 (v := 1) (by decide) ?_
  refine g_iadd X dL_law_2116 ?_
  refine Go.top (v := .int (nI ((6 * t) + 1))) (congrArg Value.int (nI_add (6 * t) 1)) ?_
  refine g_sld X hX hbl hbA (vp_in_nI (by omega) (by omega)) (v := xs ((6 * t) + 1)) (by rw [nI_clamp (by omega)]) dL_law_2117 ?_
  refine g_aload_n X dL_law_2118 rfl (j := 3) rfl ?_
  refine g_iload_n X dL_law_2119 rfl (j := 0) rfl ?_
  refine g_iconst X dL_law_2120 (v := 2) (by decide) ?_
  refine g_iadd X dL_law_2121 ?_
  refine Go.top (v := .int (nI ((6 * t) + 2))) (congrArg Value.int (nI_add (6 * t) 2)) ?_
  refine g_sld X hX hbl hbA (vp_in_nI (by omega) (by omega)) (v := xs ((6 * t) + 2)) (by rw [nI_clamp (by omega)]) dL_law_2122 ?_
  refine g_callVI X (s_X7_rate l G F I ((xs ((6 * t) + 1))) ((xs ((6 * t) + 2))) hN) lk_L_293 (F.1 0 rfl).2 (F.1 0 rfl).1 rfl rfl dL_law_2123 (Nat.le_of_ble_eq_true rfl) ⟨by decide, by decide⟩ ⟨by show _ ≤ 600000; omega, by show _ ≤ 7302250; omega⟩ (fun r1 L M hp => ?_)
  obtain ⟨C, D, F, I, K1, hr⟩ := hp
  have hN : NowOk (C 3) (C 27) (C 29) := hr
  have hLK : LK act (C 103) (C 137) (C 138) (C 80) (C 82) (C 84) (C 86) := by rw [(K1 103 (by decide)).1, (K1 137 (by decide)).1, (K1 138 (by decide)).1, (K1 80 (by decide)).1, (K1 82 (by decide)).1, (K1 84 (by decide)).1, (K1 86 (by decide)).1]; exact hLK
  refine g_pop X dL_law_2126 rfl ?_
  refine g_aload_n X dL_law_2127 rfl (j := 1) rfl ?_
  refine g_aload_n X dL_law_2128 rfl (j := 3) rfl ?_
  refine g_iload_n X dL_law_2129 rfl (j := 0) rfl ?_
  refine g_iconst X dL_law_2130 (v := 1) (by decide) ?_
  refine g_iadd X dL_law_2131 ?_
  refine Go.top (v := .int (nI ((6 * t) + 1))) (congrArg Value.int (nI_add (6 * t) 1)) ?_
  refine g_sld X hX hbl hbA (vp_in_nI (by omega) (by omega)) (v := xs ((6 * t) + 1)) (by rw [nI_clamp (by omega)]) dL_law_2132 ?_
  refine g_aload_n X dL_law_2133 rfl (j := 3) rfl ?_
  refine g_iload_n X dL_law_2134 rfl (j := 0) rfl ?_
  refine g_iconst X dL_law_2135 (v := 2) (by decide) ?_
  refine g_iadd X dL_law_2136 ?_
  refine Go.top (v := .int (nI ((6 * t) + 2))) (congrArg Value.int (nI_add (6 * t) 2)) ?_
  refine g_sld X hX hbl hbA (vp_in_nI (by omega) (by omega)) (v := xs ((6 * t) + 2)) (by rw [nI_clamp (by omega)]) dL_law_2137 ?_
  refine g_callVI X (s_X8_rate l G F I ((xs ((6 * t) + 1))) ((xs ((6 * t) + 2))) ) lk_L_296 (F.1 100 rfl).2 (F.1 100 rfl).1 rfl rfl dL_law_2138 (Nat.le_of_ble_eq_true rfl) ⟨by decide, by decide⟩ ⟨by show _ ≤ 600000; omega, by show _ ≤ 7302250; omega⟩ (fun r2 L M hp => ?_)
  obtain ⟨C, D, F, I, K1, hr⟩ := hp
  have hLK : LK act (C 103) (C 137) (C 138) (C 80) (C 82) (C 84) (C 86) := by rw [(K1 103 (by decide)).1, (K1 137 (by decide)).1, (K1 138 (by decide)).1, (K1 80 (by decide)).1, (K1 82 (by decide)).1, (K1 84 (by decide)).1, (K1 86 (by decide)).1]; exact hLK
  have hN : NowOk (C 3) (C 27) (C 29) := by rw [(K1 3 (by decide)).1, (K1 27 (by decide)).1, (K1 29 (by decide)).1]; exact hN
  refine g_pop X dL_law_2141 rfl ?_
  refine g_goto X dL_law_2142 (tgt := 2393) (by decide) ?_
  refine g_widen (k1 := 210 + 10 * t) (k2 := 20400 + 400 * t) (by omega) (by omega) ?_
  exact tail L M ⟨a, act, C, D, R, F, I, HA, HR, hN, hLK, rfl, rfl⟩
set_option maxHeartbeats 4000000 in
set_option maxRecDepth 100000 in
theorem lc_69 {p : Program} {l : Launch} {e : Env} {s : State} {m : MethodId} {below : List Frame} {meth : Method} {c : Code} {G : va_G} {cy : Nat → ClassId} {A : Nat → Prop} {Q : State → Prop} {b Ln : Nat} {xs : Nat → Int32} {x0 m0 : Nat} {L : List Nat} {M : Nat → va_E} (X : Cx p s m #[Value.ref b] meth c RL cL_law 4 G cy A) (hX : va_X b Ln xs s s.heap) (hbl : b < s.heap.size) (hbA : ¬ A b) (hLn : Ln ≤ 3072) (t : Nat) (ht : 6 * t + 6 ≤ Ln) (hW : Wd cy x0 m0 L M) (tail : ∀ (L : List Nat) (M : Nat → va_E), Wd cy x0 m0 L M → Go p l e room_1 s m #[Value.ref b] below meth c 4 G A (210 + 10 * t) (20400 + 400 * t) Q L M 2393 [(3, .int (nI (6 * t))), (2, .ref m0), (1, .ref x0), (0, .ref b)] []) : Go p l e room_1 s m #[Value.ref b] below meth c 4 G A (200 + 10 * t) (20000 + 400 * t) Q L M 2145 [(3, .int (nI (6 * t))), (2, .ref m0), (1, .ref x0), (0, .ref b)] [] := by
  obtain ⟨a, act, C, D, R, F, I, HA, HR, hN, hLK, e0, e1⟩ := hW
  subst e0
  subst e1
  refine g_aload_n X dL_law_2145 rfl (j := 2) rfl ?_
  refine g_aload_n X dL_law_2146 rfl (j := 3) rfl ?_
  refine g_iload_n X dL_law_2147 rfl (j := 0) rfl ?_
  refine g_iconst X dL_law_2148 (v := 1) (by decide) ?_
  refine g_iadd X dL_law_2149 ?_
  refine Go.top (v := .int (nI ((6 * t) + 1))) (congrArg Value.int (nI_add (6 * t) 1)) ?_
  refine g_sld X hX hbl hbA (vp_in_nI (by omega) (by omega)) (v := xs ((6 * t) + 1)) (by rw [nI_clamp (by omega)]) dL_law_2150 ?_
  refine g_callVI X (s_X7_count l G F I ((xs ((6 * t) + 1))) HR) lk_L_297 (F.1 0 rfl).2 (F.1 0 rfl).1 rfl rfl dL_law_2151 (Nat.le_of_ble_eq_true rfl) ⟨by decide, by decide⟩ ⟨by show _ ≤ 600000; omega, by show _ ≤ 7302250; omega⟩ (fun r1 L M hp => ?_)
  obtain ⟨C, D, F, I, K1, hr⟩ := hp
  have hN : NowOk (C 3) (C 27) (C 29) := by rw [(K1 3 (by decide)).1, (K1 27 (by decide)).1, (K1 29 (by decide)).1]; exact hN
  have hLK : LK act (C 103) (C 137) (C 138) (C 80) (C 82) (C 84) (C 86) := by rw [(K1 103 (by decide)).1, (K1 137 (by decide)).1, (K1 138 (by decide)).1, (K1 80 (by decide)).1, (K1 82 (by decide)).1, (K1 84 (by decide)).1, (K1 86 (by decide)).1]; exact hLK
  refine g_pop X dL_law_2154 rfl ?_
  refine g_aload_n X dL_law_2155 rfl (j := 1) rfl ?_
  refine g_aload_n X dL_law_2156 rfl (j := 3) rfl ?_
  refine g_iload_n X dL_law_2157 rfl (j := 0) rfl ?_
  refine g_iconst X dL_law_2158 (v := 1) (by decide) ?_
  refine g_iadd X dL_law_2159 ?_
  refine Go.top (v := .int (nI ((6 * t) + 1))) (congrArg Value.int (nI_add (6 * t) 1)) ?_
  refine g_sld X hX hbl hbA (vp_in_nI (by omega) (by omega)) (v := xs ((6 * t) + 1)) (by rw [nI_clamp (by omega)]) dL_law_2160 ?_
  refine g_callVI X (s_X8_count l G F I ((xs ((6 * t) + 1))) ) lk_L_300 (F.1 100 rfl).2 (F.1 100 rfl).1 rfl rfl dL_law_2161 (Nat.le_of_ble_eq_true rfl) ⟨by decide, by decide⟩ ⟨by show _ ≤ 600000; omega, by show _ ≤ 7302250; omega⟩ (fun r2 L M hp => ?_)
  obtain ⟨C, D, F, I, K1, hr⟩ := hp
  have hN : NowOk (C 3) (C 27) (C 29) := by rw [(K1 3 (by decide)).1, (K1 27 (by decide)).1, (K1 29 (by decide)).1]; exact hN
  have hLK : LK act (C 103) (C 137) (C 138) (C 80) (C 82) (C 84) (C 86) := by rw [(K1 103 (by decide)).1, (K1 137 (by decide)).1, (K1 138 (by decide)).1, (K1 80 (by decide)).1, (K1 82 (by decide)).1, (K1 84 (by decide)).1, (K1 86 (by decide)).1]; exact hLK
  refine g_pop X dL_law_2164 rfl ?_
  refine g_goto X dL_law_2165 (tgt := 2393) (by decide) ?_
  refine g_widen (k1 := 210 + 10 * t) (k2 := 20400 + 400 * t) (by omega) (by omega) ?_
  exact tail L M ⟨a, act, C, D, R, F, I, HA, HR, hN, hLK, rfl, rfl⟩
set_option maxHeartbeats 4000000 in
set_option maxRecDepth 100000 in
theorem lc_70 {p : Program} {l : Launch} {e : Env} {s : State} {m : MethodId} {below : List Frame} {meth : Method} {c : Code} {G : va_G} {cy : Nat → ClassId} {A : Nat → Prop} {Q : State → Prop} {b Ln : Nat} {xs : Nat → Int32} {x0 m0 : Nat} {L : List Nat} {M : Nat → va_E} (X : Cx p s m #[Value.ref b] meth c RL cL_law 4 G cy A) (hX : va_X b Ln xs s s.heap) (hbl : b < s.heap.size) (hbA : ¬ A b) (hLn : Ln ≤ 3072) (t : Nat) (ht : 6 * t + 6 ≤ Ln) (hW : Wd cy x0 m0 L M) (tail : ∀ (L : List Nat) (M : Nat → va_E), Wd cy x0 m0 L M → Go p l e room_1 s m #[Value.ref b] below meth c 4 G A (210 + 10 * t) (20400 + 400 * t) Q L M 2393 [(3, .int (nI (6 * t))), (2, .ref m0), (1, .ref x0), (0, .ref b)] []) : Go p l e room_1 s m #[Value.ref b] below meth c 4 G A (200 + 10 * t) (20000 + 400 * t) Q L M 2168 [(3, .int (nI (6 * t))), (2, .ref m0), (1, .ref x0), (0, .ref b)] [] := by
  obtain ⟨a, act, C, D, R, F, I, HA, HR, hN, hLK, e0, e1⟩ := hW
  subst e0
  subst e1
  refine g_aload_n X dL_law_2168 rfl (j := 2) rfl ?_
  refine g_aload_n X dL_law_2169 rfl (j := 3) rfl ?_
  refine g_iload_n X dL_law_2170 rfl (j := 0) rfl ?_
  refine g_iconst X dL_law_2171 (v := 1) (by decide) ?_
  refine g_iadd X dL_law_2172 ?_
  refine Go.top (v := .int (nI ((6 * t) + 1))) (congrArg Value.int (nI_add (6 * t) 1)) ?_
  refine g_sld X hX hbl hbA (vp_in_nI (by omega) (by omega)) (v := xs ((6 * t) + 1)) (by rw [nI_clamp (by omega)]) dL_law_2173 ?_
  have hLK0 := hLK
  refine g_callVI X (s_X7_image_x l G F I HA HR hN ((xs ((6 * t) + 1)))) lk_L_301 (F.1 0 rfl).2 (F.1 0 rfl).1 rfl rfl dL_law_2174 (Nat.le_of_ble_eq_true rfl) ⟨by decide, by decide⟩ ⟨by show _ ≤ 600000; omega, by show _ ≤ 7302250; omega⟩ (fun r1 L M hp => ?_)
  obtain ⟨a, act, C, D, R, F, I, HA, HR, hst, hN, K1, hr⟩ := hp
  rw [← hst 100 rfl]
  obtain ⟨hsp, hxa, hxb⟩ := hr
  have e103 := (K1 103 (by decide)).1
  have e137 := (K1 137 (by decide)).1
  have e138 := (K1 138 (by decide)).1
  have e80 := (K1 80 (by decide)).1
  have e82 := (K1 82 (by decide)).1
  have e84 := (K1 84 (by decide)).1
  have e86 := (K1 86 (by decide)).1
  refine g_pop X dL_law_2177 rfl ?_
  refine g_aload_n X dL_law_2178 rfl (j := 1) rfl ?_
  refine g_aload_n X dL_law_2179 rfl (j := 3) rfl ?_
  refine g_iload_n X dL_law_2180 rfl (j := 0) rfl ?_
  refine g_iconst X dL_law_2181 (v := 1) (by decide) ?_
  refine g_iadd X dL_law_2182 ?_
  refine Go.top (v := .int (nI ((6 * t) + 1))) (congrArg Value.int (nI_add (6 * t) 1)) ?_
  refine g_sld X hX hbl hbA (vp_in_nI (by omega) (by omega)) (v := xs ((6 * t) + 1)) (by rw [nI_clamp (by omega)]) dL_law_2183 ?_
  refine g_callVI X (s_X8_image_x l G F I ((xs ((6 * t) + 1))) ) lk_L_304 (F.1 100 rfl).2 (F.1 100 rfl).1 rfl rfl dL_law_2184 (Nat.le_of_ble_eq_true rfl) ⟨by decide, by decide⟩ ⟨by show _ ≤ 600000; omega, by show _ ≤ 7302250; omega⟩ (fun r2 L M hp => ?_)
  obtain ⟨C, D, F, I, K1, hr⟩ := hp
  have hN : NowOk (C 3) (C 27) (C 29) := by rw [(K1 3 (by decide)).1, (K1 27 (by decide)).1, (K1 29 (by decide)).1]; exact hN
  obtain ⟨hsp2, hmi⟩ := hr
  have hLK : LK act (C 103) (C 137) (C 138) (C 80) (C 82) (C 84) (C 86) := LK_img hLK0 hxa hxb e103 hmi ((K1 137 (by decide)).1.trans e137) ((K1 138 (by decide)).1.trans e138) ((K1 80 (by decide)).1.trans e80) ((K1 82 (by decide)).1.trans e82) ((K1 84 (by decide)).1.trans e84) ((K1 86 (by decide)).1.trans e86)
  refine g_pop X dL_law_2187 rfl ?_
  refine g_goto X dL_law_2188 (tgt := 2393) (by decide) ?_
  refine g_widen (k1 := 210 + 10 * t) (k2 := 20400 + 400 * t) (by omega) (by omega) ?_
  rw [hst 100 rfl]
  exact tail L M ⟨a, act, C, D, R, F, I, HA, HR, hN, hLK, hst 0 rfl, hst 100 rfl⟩
set_option maxHeartbeats 4000000 in
set_option maxRecDepth 100000 in
theorem lc_71 {p : Program} {l : Launch} {e : Env} {s : State} {m : MethodId} {below : List Frame} {meth : Method} {c : Code} {G : va_G} {cy : Nat → ClassId} {A : Nat → Prop} {Q : State → Prop} {b Ln : Nat} {xs : Nat → Int32} {x0 m0 : Nat} {L : List Nat} {M : Nat → va_E} (X : Cx p s m #[Value.ref b] meth c RL cL_law 4 G cy A) (hX : va_X b Ln xs s s.heap) (hbl : b < s.heap.size) (hbA : ¬ A b) (hLn : Ln ≤ 3072) (t : Nat) (ht : 6 * t + 6 ≤ Ln) (hW : Wd cy x0 m0 L M) (tail : ∀ (L : List Nat) (M : Nat → va_E), Wd cy x0 m0 L M → Go p l e room_1 s m #[Value.ref b] below meth c 4 G A (210 + 10 * t) (20400 + 400 * t) Q L M 2393 [(3, .int (nI (6 * t))), (2, .ref m0), (1, .ref x0), (0, .ref b)] []) : Go p l e room_1 s m #[Value.ref b] below meth c 4 G A (200 + 10 * t) (20000 + 400 * t) Q L M 2191 [(3, .int (nI (6 * t))), (2, .ref m0), (1, .ref x0), (0, .ref b)] [] := by
  obtain ⟨a, act, C, D, R, F, I, HA, HR, hN, hLK, e0, e1⟩ := hW
  subst e0
  subst e1
  refine g_aload_n X dL_law_2191 rfl (j := 2) rfl ?_
  refine g_aload_n X dL_law_2192 rfl (j := 3) rfl ?_
  refine g_iload_n X dL_law_2193 rfl (j := 0) rfl ?_
  refine g_iconst X dL_law_2194 (v := 1) (by decide) ?_
  refine g_iadd X dL_law_2195 ?_
  refine Go.top (v := .int (nI ((6 * t) + 1))) (congrArg Value.int (nI_add (6 * t) 1)) ?_
  refine g_sld X hX hbl hbA (vp_in_nI (by omega) (by omega)) (v := xs ((6 * t) + 1)) (by rw [nI_clamp (by omega)]) dL_law_2196 ?_
  have hLK0 := hLK
  refine g_callVI X (s_X7_back_x l G F I ((xs ((6 * t) + 1))) hN HR) lk_L_305 (F.1 0 rfl).2 (F.1 0 rfl).1 rfl rfl dL_law_2197 (Nat.le_of_ble_eq_true rfl) ⟨by decide, by decide⟩ ⟨by show _ ≤ 600000; omega, by show _ ≤ 7302250; omega⟩ (fun r1 L M hp => ?_)
  obtain ⟨C, D, F, I, K1, hr⟩ := hp
  obtain ⟨hN, hsp⟩ := hr
  have hLK : LK act (C 103) (C 137) (C 138) (C 80) (C 82) (C 84) (C 86) := by rw [(K1 103 (by decide)).1, (K1 137 (by decide)).1, (K1 138 (by decide)).1, (K1 80 (by decide)).1, (K1 82 (by decide)).1, (K1 84 (by decide)).1, (K1 86 (by decide)).1]; exact hLK
  have e103 := (K1 103 (by decide)).1
  have e137 := (K1 137 (by decide)).1
  have e138 := (K1 138 (by decide)).1
  refine g_pop X dL_law_2200 rfl ?_
  refine g_aload_n X dL_law_2201 rfl (j := 1) rfl ?_
  refine g_aload_n X dL_law_2202 rfl (j := 3) rfl ?_
  refine g_iload_n X dL_law_2203 rfl (j := 0) rfl ?_
  refine g_iconst X dL_law_2204 (v := 1) (by decide) ?_
  refine g_iadd X dL_law_2205 ?_
  refine Go.top (v := .int (nI ((6 * t) + 1))) (congrArg Value.int (nI_add (6 * t) 1)) ?_
  refine g_sld X hX hbl hbA (vp_in_nI (by omega) (by omega)) (v := xs ((6 * t) + 1)) (by rw [nI_clamp (by omega)]) dL_law_2206 ?_
  refine g_callVI X (s_X8_back_x l G F I ((xs ((6 * t) + 1))) ) lk_L_308 (F.1 100 rfl).2 (F.1 100 rfl).1 rfl rfl dL_law_2207 (Nat.le_of_ble_eq_true rfl) ⟨by decide, by decide⟩ ⟨by show _ ≤ 600000; omega, by show _ ≤ 7302250; omega⟩ (fun r2 L M hp => ?_)
  obtain ⟨C, D, F, I, K1, hr⟩ := hp
  have hLK : LK act (C 103) (C 137) (C 138) (C 80) (C 82) (C 84) (C 86) := by rw [(K1 103 (by decide)).1, (K1 137 (by decide)).1, (K1 138 (by decide)).1, (K1 80 (by decide)).1, (K1 82 (by decide)).1, (K1 84 (by decide)).1, (K1 86 (by decide)).1]; exact hLK
  have hN : NowOk (C 3) (C 27) (C 29) := by rw [(K1 3 (by decide)).1, (K1 27 (by decide)).1, (K1 29 (by decide)).1]; exact hN
  refine g_pop X dL_law_2210 rfl ?_
  refine g_goto X dL_law_2211 (tgt := 2393) (by decide) ?_
  refine g_widen (k1 := 210 + 10 * t) (k2 := 20400 + 400 * t) (by omega) (by omega) ?_
  exact tail L M ⟨a, act, C, D, R, F, I, HA, HR, hN, hLK, rfl, rfl⟩
set_option maxHeartbeats 4000000 in
set_option maxRecDepth 100000 in
theorem lc_72 {p : Program} {l : Launch} {e : Env} {s : State} {m : MethodId} {below : List Frame} {meth : Method} {c : Code} {G : va_G} {cy : Nat → ClassId} {A : Nat → Prop} {Q : State → Prop} {b Ln : Nat} {xs : Nat → Int32} {x0 m0 : Nat} {L : List Nat} {M : Nat → va_E} (X : Cx p s m #[Value.ref b] meth c RL cL_law 4 G cy A) (hX : va_X b Ln xs s s.heap) (hbl : b < s.heap.size) (hbA : ¬ A b) (hLn : Ln ≤ 3072) (t : Nat) (ht : 6 * t + 6 ≤ Ln) (hW : Wd cy x0 m0 L M) (tail : ∀ (L : List Nat) (M : Nat → va_E), Wd cy x0 m0 L M → Go p l e room_1 s m #[Value.ref b] below meth c 4 G A (210 + 10 * t) (20400 + 400 * t) Q L M 2393 [(3, .int (nI (6 * t))), (2, .ref m0), (1, .ref x0), (0, .ref b)] []) : Go p l e room_1 s m #[Value.ref b] below meth c 4 G A (200 + 10 * t) (20000 + 400 * t) Q L M 2214 [(3, .int (nI (6 * t))), (2, .ref m0), (1, .ref x0), (0, .ref b)] [] := by
  obtain ⟨a, act, C, D, R, F, I, HA, HR, hN, hLK, e0, e1⟩ := hW
  subst e0
  subst e1
  refine g_aload_n X dL_law_2214 rfl (j := 2) rfl ?_
  refine g_aload_n X dL_law_2215 rfl (j := 3) rfl ?_
  refine g_iload_n X dL_law_2216 rfl (j := 0) rfl ?_
  refine g_iconst X dL_law_2217 (v := 1) (by decide) ?_
  refine g_iadd X dL_law_2218 ?_
  refine Go.top (v := .int (nI ((6 * t) + 1))) (congrArg Value.int (nI_add (6 * t) 1)) ?_
  refine g_sld X hX hbl hbA (vp_in_nI (by omega) (by omega)) (v := xs ((6 * t) + 1)) (by rw [nI_clamp (by omega)]) dL_law_2219 ?_
  refine g_aload_n X dL_law_2220 rfl (j := 3) rfl ?_
  refine g_iload_n X dL_law_2221 rfl (j := 0) rfl ?_
  refine g_iconst X dL_law_2222 (v := 2) (by decide) ?_
  refine g_iadd X dL_law_2223 ?_
  refine Go.top (v := .int (nI ((6 * t) + 2))) (congrArg Value.int (nI_add (6 * t) 2)) ?_
  refine g_sld X hX hbl hbA (vp_in_nI (by omega) (by omega)) (v := xs ((6 * t) + 2)) (by rw [nI_clamp (by omega)]) dL_law_2224 ?_
  refine g_aload_n X dL_law_2225 rfl (j := 3) rfl ?_
  refine g_iload_n X dL_law_2226 rfl (j := 0) rfl ?_
  refine g_iconst X dL_law_2227 (v := 3) (by decide) ?_
  refine g_iadd X dL_law_2228 ?_
  refine Go.top (v := .int (nI ((6 * t) + 3))) (congrArg Value.int (nI_add (6 * t) 3)) ?_
  refine g_sld X hX hbl hbA (vp_in_nI (by omega) (by omega)) (v := xs ((6 * t) + 3)) (by rw [nI_clamp (by omega)]) dL_law_2229 ?_
  have hLK0 := hLK
  refine g_callVI X (s_X7_row_x l G F I HA HR hN ((xs ((6 * t) + 1))) ((xs ((6 * t) + 2))) ((xs ((6 * t) + 3)))) lk_L_309 (F.1 0 rfl).2 (F.1 0 rfl).1 rfl rfl dL_law_2230 (Nat.le_of_ble_eq_true rfl) ⟨by decide, by decide⟩ ⟨by show _ ≤ 600000; omega, by show _ ≤ 7302250; omega⟩ (fun r1 L M hp => ?_)
  obtain ⟨a, act, C, D, R, F, I, HA, HR, hst, hN, K1, hr⟩ := hp
  rw [← hst 100 rfl]
  obtain ⟨hsp, hxa, hxb⟩ := hr
  have e103 := (K1 103 (by decide)).1
  have e137 := (K1 137 (by decide)).1
  have e138 := (K1 138 (by decide)).1
  refine g_pop X dL_law_2233 rfl ?_
  refine g_aload_n X dL_law_2234 rfl (j := 1) rfl ?_
  refine g_aload_n X dL_law_2235 rfl (j := 3) rfl ?_
  refine g_iload_n X dL_law_2236 rfl (j := 0) rfl ?_
  refine g_iconst X dL_law_2237 (v := 1) (by decide) ?_
  refine g_iadd X dL_law_2238 ?_
  refine Go.top (v := .int (nI ((6 * t) + 1))) (congrArg Value.int (nI_add (6 * t) 1)) ?_
  refine g_sld X hX hbl hbA (vp_in_nI (by omega) (by omega)) (v := xs ((6 * t) + 1)) (by rw [nI_clamp (by omega)]) dL_law_2239 ?_
  refine g_aload_n X dL_law_2240 rfl (j := 3) rfl ?_
  refine g_iload_n X dL_law_2241 rfl (j := 0) rfl ?_
  refine g_iconst X dL_law_2242 (v := 2) (by decide) ?_
  refine g_iadd X dL_law_2243 ?_
  refine Go.top (v := .int (nI ((6 * t) + 2))) (congrArg Value.int (nI_add (6 * t) 2)) ?_
  refine g_sld X hX hbl hbA (vp_in_nI (by omega) (by omega)) (v := xs ((6 * t) + 2)) (by rw [nI_clamp (by omega)]) dL_law_2244 ?_
  refine g_aload_n X dL_law_2245 rfl (j := 3) rfl ?_
  refine g_iload_n X dL_law_2246 rfl (j := 0) rfl ?_
  refine g_iconst X dL_law_2247 (v := 3) (by decide) ?_
  refine g_iadd X dL_law_2248 ?_
  refine Go.top (v := .int (nI ((6 * t) + 3))) (congrArg Value.int (nI_add (6 * t) 3)) ?_
  refine g_sld X hX hbl hbA (vp_in_nI (by omega) (by omega)) (v := xs ((6 * t) + 3)) (by rw [nI_clamp (by omega)]) dL_law_2249 ?_
  refine g_callVI X (s_X8_row_x l G F I ((xs ((6 * t) + 1))) ((xs ((6 * t) + 2))) ((xs ((6 * t) + 3))) ) lk_L_312 (F.1 100 rfl).2 (F.1 100 rfl).1 rfl rfl dL_law_2250 (Nat.le_of_ble_eq_true rfl) ⟨by decide, by decide⟩ ⟨by show _ ≤ 600000; omega, by show _ ≤ 7302250; omega⟩ (fun r2 L M hp => ?_)
  obtain ⟨C, D, F, I, K1, hr⟩ := hp
  have hN : NowOk (C 3) (C 27) (C 29) := by rw [(K1 3 (by decide)).1, (K1 27 (by decide)).1, (K1 29 (by decide)).1]; exact hN
  obtain ⟨hsp2, hmi⟩ := hr
  have hLK : LK act (C 103) (C 137) (C 138) (C 80) (C 82) (C 84) (C 86) := LK_row hLK0 hxa hxb e137 e138 hmi (hsp.trans hsp2.symm) ((K1 103 (by decide)).1.trans e103) (K1 80 (by decide)).1 (K1 82 (by decide)).1 (K1 84 (by decide)).1 (K1 86 (by decide)).1
  refine g_pop X dL_law_2253 rfl ?_
  refine g_goto X dL_law_2254 (tgt := 2393) (by decide) ?_
  refine g_widen (k1 := 210 + 10 * t) (k2 := 20400 + 400 * t) (by omega) (by omega) ?_
  rw [hst 100 rfl]
  exact tail L M ⟨a, act, C, D, R, F, I, HA, HR, hN, hLK, hst 0 rfl, hst 100 rfl⟩
set_option maxHeartbeats 4000000 in
set_option maxRecDepth 100000 in
theorem lc_73 {p : Program} {l : Launch} {e : Env} {s : State} {m : MethodId} {below : List Frame} {meth : Method} {c : Code} {G : va_G} {cy : Nat → ClassId} {A : Nat → Prop} {Q : State → Prop} {b Ln : Nat} {xs : Nat → Int32} {x0 m0 : Nat} {L : List Nat} {M : Nat → va_E} (X : Cx p s m #[Value.ref b] meth c RL cL_law 4 G cy A) (hX : va_X b Ln xs s s.heap) (hbl : b < s.heap.size) (hbA : ¬ A b) (hLn : Ln ≤ 3072) (t : Nat) (ht : 6 * t + 6 ≤ Ln) (hW : Wd cy x0 m0 L M) (tail : ∀ (L : List Nat) (M : Nat → va_E), Wd cy x0 m0 L M → Go p l e room_1 s m #[Value.ref b] below meth c 4 G A (210 + 10 * t) (20400 + 400 * t) Q L M 2393 [(3, .int (nI (6 * t))), (2, .ref m0), (1, .ref x0), (0, .ref b)] []) : Go p l e room_1 s m #[Value.ref b] below meth c 4 G A (200 + 10 * t) (20000 + 400 * t) Q L M 2257 [(3, .int (nI (6 * t))), (2, .ref m0), (1, .ref x0), (0, .ref b)] [] := by
  obtain ⟨a, act, C, D, R, F, I, HA, HR, hN, hLK, e0, e1⟩ := hW
  subst e0
  subst e1
  refine g_aload_n X dL_law_2257 rfl (j := 2) rfl ?_
  refine g_aload_n X dL_law_2258 rfl (j := 3) rfl ?_
  refine g_iload_n X dL_law_2259 rfl (j := 0) rfl ?_
  refine g_iconst X dL_law_2260 (v := 1) (by decide) ?_
  refine g_iadd X dL_law_2261 ?_
  refine Go.top (v := .int (nI ((6 * t) + 1))) (congrArg Value.int (nI_add (6 * t) 1)) ?_
  refine g_sld X hX hbl hbA (vp_in_nI (by omega) (by omega)) (v := xs ((6 * t) + 1)) (by rw [nI_clamp (by omega)]) dL_law_2262 ?_
  refine g_aload_n X dL_law_2263 rfl (j := 3) rfl ?_
  refine g_iload_n X dL_law_2264 rfl (j := 0) rfl ?_
  refine g_iconst X dL_law_2265 (v := 2) (by decide) ?_
  refine g_iadd X dL_law_2266 ?_
  refine Go.top (v := .int (nI ((6 * t) + 2))) (congrArg Value.int (nI_add (6 * t) 2)) ?_
  refine g_sld X hX hbl hbA (vp_in_nI (by omega) (by omega)) (v := xs ((6 * t) + 2)) (by rw [nI_clamp (by omega)]) dL_law_2267 ?_
  refine g_aload_n X dL_law_2268 rfl (j := 3) rfl ?_
  refine g_iload_n X dL_law_2269 rfl (j := 0) rfl ?_
  refine g_iconst X dL_law_2270 (v := 3) (by decide) ?_
  refine g_iadd X dL_law_2271 ?_
  refine Go.top (v := .int (nI ((6 * t) + 3))) (congrArg Value.int (nI_add (6 * t) 3)) ?_
  refine g_sld X hX hbl hbA (vp_in_nI (by omega) (by omega)) (v := xs ((6 * t) + 3)) (by rw [nI_clamp (by omega)]) dL_law_2272 ?_
  refine g_i2l X dL_law_2273 rfl ?_
  refine g_bipush X dL_law_2274 (v := 32) (by decide) ?_
  refine g_lshl X dL_law_2276 rfl ?_
  refine Go.genL (fun o1 => ?_)
  refine g_aload_n X dL_law_2277 rfl (j := 3) rfl ?_
  refine g_iload_n X dL_law_2278 rfl (j := 0) rfl ?_
  refine g_iconst X dL_law_2279 (v := 4) (by decide) ?_
  refine g_iadd X dL_law_2280 ?_
  refine Go.top (v := .int (nI ((6 * t) + 4))) (congrArg Value.int (nI_add (6 * t) 4)) ?_
  refine g_sld X hX hbl hbA (vp_in_nI (by omega) (by omega)) (v := xs ((6 * t) + 4)) (by rw [nI_clamp (by omega)]) dL_law_2281 ?_
  refine g_i2l X dL_law_2282 rfl ?_
  refine g_ldc2 X (v := 4294967295) wd1687 dL_law_2283 ?_
  refine g_land X dL_law_2286 ?_
  refine Go.genL (fun o2 => ?_)
  refine g_lor X dL_law_2287 ?_
  refine Go.genL (fun o3 => ?_)
  have hLK0 := hLK
  refine g_callVI X (s_X7_write_x l G F I ((xs ((6 * t) + 1))) ((xs ((6 * t) + 2))) o3 HR) lk_L_315 (F.1 0 rfl).2 (F.1 0 rfl).1 rfl rfl dL_law_2288 (Nat.le_of_ble_eq_true rfl) ⟨by decide, by decide⟩ ⟨by show _ ≤ 600000; omega, by show _ ≤ 7302250; omega⟩ (fun r4 L M hp => ?_)
  obtain ⟨C, D, F, I, K1, hr⟩ := hp
  have hN : NowOk (C 3) (C 27) (C 29) := by rw [(K1 3 (by decide)).1, (K1 27 (by decide)).1, (K1 29 (by decide)).1]; exact hN
  have hLK : LK act (C 103) (C 137) (C 138) (C 80) (C 82) (C 84) (C 86) := by rw [(K1 103 (by decide)).1, (K1 137 (by decide)).1, (K1 138 (by decide)).1, (K1 80 (by decide)).1, (K1 82 (by decide)).1, (K1 84 (by decide)).1, (K1 86 (by decide)).1]; exact hLK
  have hsp := hr
  have e103 := (K1 103 (by decide)).1
  have e137 := (K1 137 (by decide)).1
  have e138 := (K1 138 (by decide)).1
  refine g_pop X dL_law_2291 rfl ?_
  refine g_aload_n X dL_law_2292 rfl (j := 1) rfl ?_
  refine g_aload_n X dL_law_2293 rfl (j := 3) rfl ?_
  refine g_iload_n X dL_law_2294 rfl (j := 0) rfl ?_
  refine g_iconst X dL_law_2295 (v := 1) (by decide) ?_
  refine g_iadd X dL_law_2296 ?_
  refine Go.top (v := .int (nI ((6 * t) + 1))) (congrArg Value.int (nI_add (6 * t) 1)) ?_
  refine g_sld X hX hbl hbA (vp_in_nI (by omega) (by omega)) (v := xs ((6 * t) + 1)) (by rw [nI_clamp (by omega)]) dL_law_2297 ?_
  refine g_aload_n X dL_law_2298 rfl (j := 3) rfl ?_
  refine g_iload_n X dL_law_2299 rfl (j := 0) rfl ?_
  refine g_iconst X dL_law_2300 (v := 2) (by decide) ?_
  refine g_iadd X dL_law_2301 ?_
  refine Go.top (v := .int (nI ((6 * t) + 2))) (congrArg Value.int (nI_add (6 * t) 2)) ?_
  refine g_sld X hX hbl hbA (vp_in_nI (by omega) (by omega)) (v := xs ((6 * t) + 2)) (by rw [nI_clamp (by omega)]) dL_law_2302 ?_
  refine g_aload_n X dL_law_2303 rfl (j := 3) rfl ?_
  refine g_iload_n X dL_law_2304 rfl (j := 0) rfl ?_
  refine g_iconst X dL_law_2305 (v := 3) (by decide) ?_
  refine g_iadd X dL_law_2306 ?_
  refine Go.top (v := .int (nI ((6 * t) + 3))) (congrArg Value.int (nI_add (6 * t) 3)) ?_
  refine g_sld X hX hbl hbA (vp_in_nI (by omega) (by omega)) (v := xs ((6 * t) + 3)) (by rw [nI_clamp (by omega)]) dL_law_2307 ?_
  refine g_i2l X dL_law_2308 rfl ?_
  refine g_bipush X dL_law_2309 (v := 32) (by decide) ?_
  refine g_lshl X dL_law_2311 rfl ?_
  refine Go.genL (fun o5 => ?_)
  refine g_aload_n X dL_law_2312 rfl (j := 3) rfl ?_
  refine g_iload_n X dL_law_2313 rfl (j := 0) rfl ?_
  refine g_iconst X dL_law_2314 (v := 4) (by decide) ?_
  refine g_iadd X dL_law_2315 ?_
  refine Go.top (v := .int (nI ((6 * t) + 4))) (congrArg Value.int (nI_add (6 * t) 4)) ?_
  refine g_sld X hX hbl hbA (vp_in_nI (by omega) (by omega)) (v := xs ((6 * t) + 4)) (by rw [nI_clamp (by omega)]) dL_law_2316 ?_
  refine g_i2l X dL_law_2317 rfl ?_
  refine g_ldc2 X (v := 4294967295) wd1687 dL_law_2318 ?_
  refine g_land X dL_law_2321 ?_
  refine Go.genL (fun o6 => ?_)
  refine g_lor X dL_law_2322 ?_
  refine Go.genL (fun o7 => ?_)
  refine g_callVI X (s_X8_write_x l G F I ((xs ((6 * t) + 1))) ((xs ((6 * t) + 2))) o7 ) lk_L_319 (F.1 100 rfl).2 (F.1 100 rfl).1 rfl rfl dL_law_2323 (Nat.le_of_ble_eq_true rfl) ⟨by decide, by decide⟩ ⟨by show _ ≤ 600000; omega, by show _ ≤ 7302250; omega⟩ (fun r8 L M hp => ?_)
  obtain ⟨C, D, F, I, K1, hr⟩ := hp
  have hN : NowOk (C 3) (C 27) (C 29) := by rw [(K1 3 (by decide)).1, (K1 27 (by decide)).1, (K1 29 (by decide)).1]; exact hN
  have hLK : LK act (C 103) (C 137) (C 138) (C 80) (C 82) (C 84) (C 86) := by rw [(K1 103 (by decide)).1, (K1 137 (by decide)).1, (K1 138 (by decide)).1, (K1 80 (by decide)).1, (K1 82 (by decide)).1, (K1 84 (by decide)).1, (K1 86 (by decide)).1]; exact hLK
  refine g_pop X dL_law_2326 rfl ?_
  refine g_goto X dL_law_2327 (tgt := 2393) (by decide) ?_
  refine g_widen (k1 := 210 + 10 * t) (k2 := 20400 + 400 * t) (by omega) (by omega) ?_
  exact tail L M ⟨a, act, C, D, R, F, I, HA, HR, hN, hLK, rfl, rfl⟩
set_option maxHeartbeats 4000000 in
set_option maxRecDepth 100000 in
theorem lc_74 {p : Program} {l : Launch} {e : Env} {s : State} {m : MethodId} {below : List Frame} {meth : Method} {c : Code} {G : va_G} {cy : Nat → ClassId} {A : Nat → Prop} {Q : State → Prop} {b Ln : Nat} {xs : Nat → Int32} {x0 m0 : Nat} {L : List Nat} {M : Nat → va_E} (X : Cx p s m #[Value.ref b] meth c RL cL_law 4 G cy A) (hX : va_X b Ln xs s s.heap) (hbl : b < s.heap.size) (hbA : ¬ A b) (hLn : Ln ≤ 3072) (t : Nat) (ht : 6 * t + 6 ≤ Ln) (hW : Wd cy x0 m0 L M) (tail : ∀ (L : List Nat) (M : Nat → va_E), Wd cy x0 m0 L M → Go p l e room_1 s m #[Value.ref b] below meth c 4 G A (210 + 10 * t) (20400 + 400 * t) Q L M 2393 [(3, .int (nI (6 * t))), (2, .ref m0), (1, .ref x0), (0, .ref b)] []) : Go p l e room_1 s m #[Value.ref b] below meth c 4 G A (200 + 10 * t) (20000 + 400 * t) Q L M 2330 [(3, .int (nI (6 * t))), (2, .ref m0), (1, .ref x0), (0, .ref b)] [] := by
  obtain ⟨a, act, C, D, R, F, I, HA, HR, hN, hLK, e0, e1⟩ := hW
  subst e0
  subst e1
  refine g_aload_n X dL_law_2330 rfl (j := 2) rfl ?_
  refine g_aload_n X dL_law_2331 rfl (j := 3) rfl ?_
  refine g_iload_n X dL_law_2332 rfl (j := 0) rfl ?_
  refine g_iconst X dL_law_2333 (v := 1) (by decide) ?_
  refine g_iadd X dL_law_2334 ?_
  refine Go.top (v := .int (nI ((6 * t) + 1))) (congrArg Value.int (nI_add (6 * t) 1)) ?_
  refine g_sld X hX hbl hbA (vp_in_nI (by omega) (by omega)) (v := xs ((6 * t) + 1)) (by rw [nI_clamp (by omega)]) dL_law_2335 ?_
  refine g_aload_n X dL_law_2336 rfl (j := 3) rfl ?_
  refine g_iload_n X dL_law_2337 rfl (j := 0) rfl ?_
  refine g_iconst X dL_law_2338 (v := 2) (by decide) ?_
  refine g_iadd X dL_law_2339 ?_
  refine Go.top (v := .int (nI ((6 * t) + 2))) (congrArg Value.int (nI_add (6 * t) 2)) ?_
  refine g_sld X hX hbl hbA (vp_in_nI (by omega) (by omega)) (v := xs ((6 * t) + 2)) (by rw [nI_clamp (by omega)]) dL_law_2340 ?_
  refine g_aload_n X dL_law_2341 rfl (j := 3) rfl ?_
  refine g_iload_n X dL_law_2342 rfl (j := 0) rfl ?_
  refine g_iconst X dL_law_2343 (v := 3) (by decide) ?_
  refine g_iadd X dL_law_2344 ?_
  refine Go.top (v := .int (nI ((6 * t) + 3))) (congrArg Value.int (nI_add (6 * t) 3)) ?_
  refine g_sld X hX hbl hbA (vp_in_nI (by omega) (by omega)) (v := xs ((6 * t) + 3)) (by rw [nI_clamp (by omega)]) dL_law_2345 ?_
  refine g_aload_n X dL_law_2346 rfl (j := 3) rfl ?_
  refine g_iload_n X dL_law_2347 rfl (j := 0) rfl ?_
  refine g_iconst X dL_law_2348 (v := 4) (by decide) ?_
  refine g_iadd X dL_law_2349 ?_
  refine Go.top (v := .int (nI ((6 * t) + 4))) (congrArg Value.int (nI_add (6 * t) 4)) ?_
  refine g_sld X hX hbl hbA (vp_in_nI (by omega) (by omega)) (v := xs ((6 * t) + 4)) (by rw [nI_clamp (by omega)]) dL_law_2350 ?_
  refine g_aload_n X dL_law_2351 rfl (j := 3) rfl ?_
  refine g_iload_n X dL_law_2352 rfl (j := 0) rfl ?_
  refine g_iconst X dL_law_2353 (v := 5) (by decide) ?_
  refine g_iadd X dL_law_2354 ?_
  refine Go.top (v := .int (nI ((6 * t) + 5))) (congrArg Value.int (nI_add (6 * t) 5)) ?_
  refine g_sld X hX hbl hbA (vp_in_nI (by omega) (by omega)) (v := xs ((6 * t) + 5)) (by rw [nI_clamp (by omega)]) dL_law_2355 ?_
  have hLK0 := hLK
  refine g_callVI X (s_X7_paste_x l G F I ((xs ((6 * t) + 1))) ((xs ((6 * t) + 2))) ((xs ((6 * t) + 3))) ((xs ((6 * t) + 4))) ((xs ((6 * t) + 5))) HR) lk_L_320 (F.1 0 rfl).2 (F.1 0 rfl).1 rfl rfl dL_law_2356 (Nat.le_of_ble_eq_true rfl) ⟨by decide, by decide⟩ ⟨by show _ ≤ 600000; omega, by show _ ≤ 7302250; omega⟩ (fun r1 L M hp => ?_)
  obtain ⟨C, D, F, I, K1, hr⟩ := hp
  have hN : NowOk (C 3) (C 27) (C 29) := by rw [(K1 3 (by decide)).1, (K1 27 (by decide)).1, (K1 29 (by decide)).1]; exact hN
  have hLK : LK act (C 103) (C 137) (C 138) (C 80) (C 82) (C 84) (C 86) := by rw [(K1 103 (by decide)).1, (K1 137 (by decide)).1, (K1 138 (by decide)).1, (K1 80 (by decide)).1, (K1 82 (by decide)).1, (K1 84 (by decide)).1, (K1 86 (by decide)).1]; exact hLK
  have hsp := hr
  have e103 := (K1 103 (by decide)).1
  have e137 := (K1 137 (by decide)).1
  have e138 := (K1 138 (by decide)).1
  refine g_aload_n X dL_law_2359 rfl (j := 1) rfl ?_
  refine g_aload_n X dL_law_2360 rfl (j := 3) rfl ?_
  refine g_iload_n X dL_law_2361 rfl (j := 0) rfl ?_
  refine g_iconst X dL_law_2362 (v := 1) (by decide) ?_
  refine g_iadd X dL_law_2363 ?_
  refine Go.top (v := .int (nI ((6 * t) + 1))) (congrArg Value.int (nI_add (6 * t) 1)) ?_
  refine g_sld X hX hbl hbA (vp_in_nI (by omega) (by omega)) (v := xs ((6 * t) + 1)) (by rw [nI_clamp (by omega)]) dL_law_2364 ?_
  refine g_aload_n X dL_law_2365 rfl (j := 3) rfl ?_
  refine g_iload_n X dL_law_2366 rfl (j := 0) rfl ?_
  refine g_iconst X dL_law_2367 (v := 2) (by decide) ?_
  refine g_iadd X dL_law_2368 ?_
  refine Go.top (v := .int (nI ((6 * t) + 2))) (congrArg Value.int (nI_add (6 * t) 2)) ?_
  refine g_sld X hX hbl hbA (vp_in_nI (by omega) (by omega)) (v := xs ((6 * t) + 2)) (by rw [nI_clamp (by omega)]) dL_law_2369 ?_
  refine g_aload_n X dL_law_2370 rfl (j := 3) rfl ?_
  refine g_iload_n X dL_law_2371 rfl (j := 0) rfl ?_
  refine g_iconst X dL_law_2372 (v := 3) (by decide) ?_
  refine g_iadd X dL_law_2373 ?_
  refine Go.top (v := .int (nI ((6 * t) + 3))) (congrArg Value.int (nI_add (6 * t) 3)) ?_
  refine g_sld X hX hbl hbA (vp_in_nI (by omega) (by omega)) (v := xs ((6 * t) + 3)) (by rw [nI_clamp (by omega)]) dL_law_2374 ?_
  refine g_aload_n X dL_law_2375 rfl (j := 3) rfl ?_
  refine g_iload_n X dL_law_2376 rfl (j := 0) rfl ?_
  refine g_iconst X dL_law_2377 (v := 4) (by decide) ?_
  refine g_iadd X dL_law_2378 ?_
  refine Go.top (v := .int (nI ((6 * t) + 4))) (congrArg Value.int (nI_add (6 * t) 4)) ?_
  refine g_sld X hX hbl hbA (vp_in_nI (by omega) (by omega)) (v := xs ((6 * t) + 4)) (by rw [nI_clamp (by omega)]) dL_law_2379 ?_
  refine g_aload_n X dL_law_2380 rfl (j := 3) rfl ?_
  refine g_iload_n X dL_law_2381 rfl (j := 0) rfl ?_
  refine g_iconst X dL_law_2382 (v := 5) (by decide) ?_
  refine g_iadd X dL_law_2383 ?_
  refine Go.top (v := .int (nI ((6 * t) + 5))) (congrArg Value.int (nI_add (6 * t) 5)) ?_
  refine g_sld X hX hbl hbA (vp_in_nI (by omega) (by omega)) (v := xs ((6 * t) + 5)) (by rw [nI_clamp (by omega)]) dL_law_2384 ?_
  refine g_callVI X (s_X8_paste_x l G F I ((xs ((6 * t) + 1))) ((xs ((6 * t) + 2))) ((xs ((6 * t) + 3))) ((xs ((6 * t) + 4))) ((xs ((6 * t) + 5))) ) lk_L_323 (F.1 100 rfl).2 (F.1 100 rfl).1 rfl rfl dL_law_2385 (Nat.le_of_ble_eq_true rfl) ⟨by decide, by decide⟩ ⟨by show _ ≤ 600000; omega, by show _ ≤ 7302250; omega⟩ (fun r2 L M hp => ?_)
  obtain ⟨C, D, F, I, K1, hr⟩ := hp
  have hN : NowOk (C 3) (C 27) (C 29) := by rw [(K1 3 (by decide)).1, (K1 27 (by decide)).1, (K1 29 (by decide)).1]; exact hN
  have hLK : LK act (C 103) (C 137) (C 138) (C 80) (C 82) (C 84) (C 86) := by rw [(K1 103 (by decide)).1, (K1 137 (by decide)).1, (K1 138 (by decide)).1, (K1 80 (by decide)).1, (K1 82 (by decide)).1, (K1 84 (by decide)).1, (K1 86 (by decide)).1]; exact hLK
  have hsp2 := hr
  rw [e137, e138] at hsp2
  have hsp := hsp.trans (paS_cg (fun j hj => hLK0.2.1 j hj) (fun j hj h => (LK_sz hLK0 hj h).1) (fun j hj h => (LK_sz hLK0 hj h).2))
  refine g_icmp_eq X dL_law_2388 (tgt := 2393) (by decide) (fun _ => ?_) (fun q => absurd (hsp.trans hsp2.symm) q)
  refine g_widen (k1 := 210 + 10 * t) (k2 := 20400 + 400 * t) (by omega) (by omega) ?_
  exact tail L M ⟨a, act, C, D, R, F, I, HA, HR, hN, hLK, rfl, rfl⟩
