def sel4 (c80 c82 c84 c86 : Nat → Int32) (j : Nat) : Nat → Int32 := match j with
  | 0 => c80
  | 1 => c82
  | 2 => c84
  | _ => c86
def LK (act : Nat → Bool) (c103 c137 c138 c80 c82 c84 c86 : Nat → Int32) : Prop := (∀ j, j < 3 → act (50 + 10 * j) = acI c103 j) ∧ (∀ j, j < 4 → act (80 + 2 * j) = acM c137 j) ∧ ∀ j, j < 4 → act (80 + 2 * j) = true → sel4 c80 c82 c84 c86 j 2 = c137 j ∧ sel4 c80 c82 c84 c86 j 1 = c138 j
theorem sel4_eq {C : Nat → Nat → Int32} {j : Nat} (hj : j < 4) : sel4 (C 80) (C 82) (C 84) (C 86) j = C (80 + 2 * j) := match j, hj with
  | 0, _ => rfl
  | 1, _ => rfl
  | 2, _ => rfl
  | 3, _ => rfl
  | j + 4, hj => absurd hj (by omega)
theorem LK_sz {act : Nat → Bool} {C : Nat → Nat → Int32} (h : LK act (C 103) (C 137) (C 138) (C 80) (C 82) (C 84) (C 86)) {j : Nat} (hj : j < 4) (ha : act (80 + 2 * j) = true) : C (80 + 2 * j) 2 = C 137 j ∧ C (80 + 2 * j) 1 = C 138 j := by
  have z := h.2.2 j hj ha
  rw [sel4_eq hj] at z
  exact z
theorem LK_img {act act2 : Nat → Bool} {C C1 C2 : Nat → Nat → Int32} {q : Int32} (hL : LK act (C 103) (C 137) (C 138) (C 80) (C 82) (C 84) (C 86)) (h50 : ∀ j, j < 3 → act2 (50 + 10 * j) = (act (50 + 10 * j) || decide (q = nI j))) (h80 : ∀ j, j < 4 → act2 (80 + 2 * j) = act (80 + 2 * j)) (e103 : C1 103 = C 103) (hm : ∀ j, j < 3 → acI (C2 103) j = (acI (C1 103) j || decide (q = nI j))) (f137 : C2 137 = C 137) (f138 : C2 138 = C 138) (f80 : C2 80 = C 80) (f82 : C2 82 = C 82) (f84 : C2 84 = C 84) (f86 : C2 86 = C 86) : LK act2 (C2 103) (C2 137) (C2 138) (C2 80) (C2 82) (C2 84) (C2 86) := by
  refine ⟨fun j hj => ?_, fun j hj => ?_, fun j hj ha => ?_⟩
  · rw [h50 j hj, hm j hj, e103, hL.1 j hj]
  · rw [h80 j hj, f137]; exact hL.2.1 j hj
  · rw [h80 j hj] at ha
    rw [f137, f138, f80, f82, f84, f86]
    exact hL.2.2 j hj ha
theorem LK_row {act act2 : Nat → Bool} {C C1 C2 : Nat → Nat → Int32} {q w z r r2 : Int32} (hL : LK act (C 103) (C 137) (C 138) (C 80) (C 82) (C 84) (C 86)) (h50 : ∀ j, j < 3 → act2 (50 + 10 * j) = act (50 + 10 * j)) (hx : (r = 0 ∧ ∃ n : Nat, n < 4 ∧ q = nI n ∧ (∀ j, j < 4 → act2 (80 + 2 * j) = (act (80 + 2 * j) || decide (j = n))) ∧ C1 (80 + 2 * n) 2 = z ∧ C1 (80 + 2 * n) 1 = w ∧ ∀ j, j < 4 → j ≠ n → C1 (80 + 2 * j) = C (80 + 2 * j)) ∨ (¬ r = 0 ∧ ∀ j, j < 4 → act2 (80 + 2 * j) = act (80 + 2 * j) ∧ C1 (80 + 2 * j) = C (80 + 2 * j))) (e137 : C1 137 = C 137) (e138 : C1 138 = C 138) (hm : (r2 = 0 ∧ ∃ n : Nat, n < 4 ∧ q = nI n ∧ 0 ≤ z.toInt ∧ C2 137 = upd (C1 137) n z ∧ C2 138 = upd (C1 138) n w) ∨ (¬ r2 = 0 ∧ C2 137 = C1 137 ∧ C2 138 = C1 138)) (hr : r = r2) (f103 : C2 103 = C 103) (f80 : C2 80 = C1 80) (f82 : C2 82 = C1 82) (f84 : C2 84 = C1 84) (f86 : C2 86 = C1 86) : LK act2 (C2 103) (C2 137) (C2 138) (C2 80) (C2 82) (C2 84) (C2 86) := by
  have i1 : ∀ j, j < 3 → act2 (50 + 10 * j) = acI (C2 103) j := fun j hj => by rw [h50 j hj, f103]; exact hL.1 j hj
  rw [f80, f82, f84, f86]
  rcases hx with ⟨h0, n, hn, eq, ha, hs2, hs1, ho⟩ | ⟨h0, hs⟩
  · rcases hm with ⟨-, m, hm, eq2, hz, h137, h138⟩ | ⟨h0', -⟩
    · obtain rfl : n = m := (nI_eq (by omega) (by omega)).mp (eq.symm.trans eq2)
      refine ⟨i1, fun j hj => ?_, fun j hj hj2 => ?_⟩
      · rw [ha j hj, h137, e137]
        by_cases e : j = n
        · subst e
          rw [decide_eq_true (p := j = j) rfl, Bool.or_true]
          unfold acM
          rw [pk_us]
          have nz : ¬ z = -1 := fun y => by rw [y] at hz; exact absurd hz (by decide)
          exact (decide_eq_true nz).symm
        · rw [decide_eq_false e, Bool.or_false, hL.2.1 j hj]
          unfold acM
          rw [pk_un e]
      · rw [sel4_eq hj, h137, h138, e137, e138]
        by_cases e : j = n
        · subst e
          rw [pk_us, pk_us]
          exact ⟨hs2, hs1⟩
        · rw [ha j hj, decide_eq_false e, Bool.or_false] at hj2
          rw [pk_un e, pk_un e, ho j hj e]
          exact LK_sz hL hj hj2
    · exact absurd (hr.symm.trans h0) h0'
  · rcases hm with ⟨h0', -⟩ | ⟨-, h137, h138⟩
    · exact absurd (hr.trans h0') h0
    · refine ⟨i1, fun j hj => ?_, fun j hj hj2 => ?_⟩
      · rw [(hs j hj).1, h137, e137]; exact hL.2.1 j hj
      · rw [(hs j hj).1] at hj2
        rw [sel4_eq hj, h137, h138, e137, e138, (hs j hj).2]
        exact LK_sz hL hj hj2
theorem bkS_cg {q : Int32} {f g : Nat → Bool} (h : ∀ j, j < 3 → f j = g j) : bkS q f = bkS q g := by
  unfold bkS
  by_cases hq : 0 ≤ q.toInt ∧ q.toInt < 3
  · rw [if_pos hq, if_pos hq, h _ (by omega)]
  · rw [if_neg hq, if_neg hq]
theorem wrS_cg {q i : Int32} {f g : Nat → Bool} {s t : Nat → Int32} (h : ∀ j, j < 4 → f j = g j) (h2 : ∀ j, j < 4 → f j = true → s j = t j) : wrS q i f s = wrS q i g t := by
  unfold wrS
  by_cases hq : 0 ≤ q.toInt ∧ q.toInt < 4
  · rw [if_pos hq, if_pos hq, ← h _ (by omega)]
    cases e : f q.toInt.toNat with
    | false => rw [if_neg (show ¬ (false = true) by decide), if_neg (show ¬ (false = true) by decide)]
    | true => rw [if_pos rfl, if_pos rfl, h2 _ (by omega) e]
  · rw [if_neg hq, if_neg hq]
theorem paS_cg {q i t k n : Int32} {f g : Nat → Bool} {s s2 w w2 : Nat → Int32} (h : ∀ j, j < 4 → f j = g j) (h2 : ∀ j, j < 4 → f j = true → s j = s2 j) (h3 : ∀ j, j < 4 → f j = true → w j = w2 j) : paS q i t k n f s w = paS q i t k n g s2 w2 := by
  unfold paS
  by_cases hq : (0 ≤ q.toInt ∧ q.toInt < 4) ∧ 0 ≤ t.toInt ∧ t.toInt < 4
  · rw [if_pos hq, if_pos hq, ← h _ (by omega), ← h _ (by omega)]
    cases e : f q.toInt.toNat with
    | false =>
      have z : ∀ b : Bool, ¬ ((false && b) = true) := by decide
      rw [if_neg (z _), if_neg (z _)]
    | true =>
      cases e2 : f t.toInt.toNat with
      | false =>
        have z : ¬ ((true && false) = true) := by decide
        rw [if_neg z, if_neg z]
      | true => rw [h2 _ (by omega) e, h2 _ (by omega) e2, h3 _ (by omega) e, h3 _ (by omega) e2]
  · rw [if_neg hq, if_neg hq]
theorem acI_up {f : Nat → Int32} {n j : Nat} (hn : n < 2 ^ 31) (hj : j < 2 ^ 31) : acI (upd f n 1) j = (acI f j || decide (nI n = nI j)) := by
  unfold acI
  by_cases e : j = n
  · subst e
    rw [pk_us, decide_eq_true (p := nI j = nI j) rfl, Bool.or_true]
    decide
  · rw [pk_un e, decide_eq_false (p := nI n = nI j) (fun z => e ((nI_eq hn hj).mp z).symm), Bool.or_false]
theorem out3 {q : Int32} (h : ¬ (0 ≤ q.toInt ∧ q.toInt ≤ 2)) {j : Nat} (hj : j < 3) : decide (q = nI j) = false := by
  refine decide_eq_false (fun e => h ?_)
  subst e
  rw [nI_toInt (by omega)]
  omega
theorem out3' {q : Int32} (h : q < 0 ∨ 3 ≤ q) {j : Nat} (hj : j < 3) : decide (q = nI j) = false := by
  refine out3 (fun z => ?_) hj
  rcases h with h | h
  · have y := Int32.lt_iff_toInt_lt.mp h; have k : (0 : Int32).toInt = 0 := (by decide); omega
  · have y := Int32.le_iff_toInt_le.mp h; have k : (3 : Int32).toInt = 3 := (by decide); omega
