def sh (cy : Nat → ClassId) (a : Nat → Nat) (k : Nat) (c : Nat → Int32) (d : Nat → Int64) (r : Nat → Option Nat) : va_E := match k with
  | 0 => .inr (7, [.ref (a 1), .ref (a 3), .ref (a 13), .ref (a 23), .ref (a 24), .ref (a 25), .ref (a 31), .ref (a 37), .ref (a 39), .ref (a 41), .int (c 10), .ref (a 42)])
  | 1 => .inr (6, [.ref (a 2), .int (c 1), .int (c 2), .int (c 3), .int (c 4), .int (c 5), .int (c 6), .int (c 7)])
  | 2 => .inl (cy 0, 800, .inl c)
  | 3 => .inr (2, [.int (c 0), .int (c 1), .int (c 2), .int (c 3), .int (c 4), .int (c 5), .int (c 6), .int (c 7), .int (c 8), .ref (a 4), .ref (a 5), .ref (a 6), .ref (a 7), .ref (a 8), .ref (a 9), .ref (a 10)])
  | 4 => .inl (cy 1, 4, .inl c)
  | 5 => .inl (cy 1, 7, .inl c)
  | 6 => .inl (cy 1, 28, .inl c)
  | 7 => .inl (cy 1, 7, .inl c)
  | 8 => .inl (cy 1, 8, .inl c)
  | 9 => .inl (cy 1, 8, .inl c)
  | 10 => .inr (0, [.int (c 0), .ref (a 11), .ref (a 12)])
  | 11 => .inl (cy 1, 30, .inl c)
  | 12 => .inl (cy 1, 240, .inl c)
  | 13 => .inr (2, [.int (c 0), .int (c 1), .int (c 2), .int (c 3), .int (c 4), .int (c 5), .int (c 6), .int (c 7), .int (c 8), .ref (a 14), .ref (a 15), .ref (a 16), .ref (a 17), .ref (a 18), .ref (a 19), .ref (a 20)])
  | 14 => .inl (cy 1, 4, .inl c)
  | 15 => .inl (cy 1, 7, .inl c)
  | 16 => .inl (cy 1, 28, .inl c)
  | 17 => .inl (cy 1, 7, .inl c)
  | 18 => .inl (cy 1, 8, .inl c)
  | 19 => .inl (cy 1, 8, .inl c)
  | 20 => .inr (0, [.int (c 0), .ref (a 21), .ref (a 22)])
  | 21 => .inl (cy 1, 30, .inl c)
  | 22 => .inl (cy 1, 240, .inl c)
  | 23 => .inl (cy 4, 3, .inr (.inr (.inr (.inr r))))
  | 24 => .inl (cy 5, 4, .inr (.inr (.inr (.inr r))))
  | 25 => .inr (4, [.ref (a 3), .int (c 1), .int (c 2), .int (c 3), .ref (a 26), .ref (a 27), .ref (a 28), .ref (a 29), .ref (a 30)])
  | 26 => .inl (cy 1, 8, .inl c)
  | 27 => .inl (cy 1, 136, .inl c)
  | 28 => .inl (cy 1, 119, .inl c)
  | 29 => .inl (cy 1, 136, .inl c)
  | 30 => .inl (cy 1, 4, .inl c)
  | 31 => .inr (4, [.ref (a 3), .int (c 1), .int (c 2), .int (c 3), .ref (a 32), .ref (a 33), .ref (a 34), .ref (a 35), .ref (a 36)])
  | 32 => .inl (cy 1, 8, .inl c)
  | 33 => .inl (cy 1, 136, .inl c)
  | 34 => .inl (cy 1, 119, .inl c)
  | 35 => .inl (cy 1, 136, .inl c)
  | 36 => .inl (cy 1, 4, .inl c)
  | 37 => .inr (3, [.ref (a 3), .ref (a 38), .int (c 2)])
  | 38 => .inl (cy 1, 7, .inl c)
  | 39 => .inr (1, [.ref (a 3), .int (c 1), .ref (a 40), .long (d 3)])
  | 40 => .inl (cy 2, 8, .inr (.inl d))
  | 41 => .inl (cy 1, 128, .inl c)
  | 42 => .inl (cy 1, 544, .inl c)
  | 50 => .inr (2, [.int (c 0), .int (c 1), .int (c 2), .int (c 3), .int (c 4), .int (c 5), .int (c 6), .int (c 7), .int (c 8), .ref (a 51), .ref (a 52), .ref (a 53), .ref (a 54), .ref (a 55), .ref (a 56), .ref (a 57)])
  | 51 => .inl (cy 1, 4, .inl c)
  | 52 => .inl (cy 1, 7, .inl c)
  | 53 => .inl (cy 1, 28, .inl c)
  | 54 => .inl (cy 1, 7, .inl c)
  | 55 => .inl (cy 1, 8, .inl c)
  | 56 => .inl (cy 1, 8, .inl c)
  | 57 => .inr (0, [.int (c 0), .ref (a 58), .ref (a 59)])
  | 58 => .inl (cy 1, 30, .inl c)
  | 59 => .inl (cy 1, 240, .inl c)
  | 60 => .inr (2, [.int (c 0), .int (c 1), .int (c 2), .int (c 3), .int (c 4), .int (c 5), .int (c 6), .int (c 7), .int (c 8), .ref (a 61), .ref (a 62), .ref (a 63), .ref (a 64), .ref (a 65), .ref (a 66), .ref (a 67)])
  | 61 => .inl (cy 1, 4, .inl c)
  | 62 => .inl (cy 1, 7, .inl c)
  | 63 => .inl (cy 1, 28, .inl c)
  | 64 => .inl (cy 1, 7, .inl c)
  | 65 => .inl (cy 1, 8, .inl c)
  | 66 => .inl (cy 1, 8, .inl c)
  | 67 => .inr (0, [.int (c 0), .ref (a 68), .ref (a 69)])
  | 68 => .inl (cy 1, 30, .inl c)
  | 69 => .inl (cy 1, 240, .inl c)
  | 70 => .inr (2, [.int (c 0), .int (c 1), .int (c 2), .int (c 3), .int (c 4), .int (c 5), .int (c 6), .int (c 7), .int (c 8), .ref (a 71), .ref (a 72), .ref (a 73), .ref (a 74), .ref (a 75), .ref (a 76), .ref (a 77)])
  | 71 => .inl (cy 1, 4, .inl c)
  | 72 => .inl (cy 1, 7, .inl c)
  | 73 => .inl (cy 1, 28, .inl c)
  | 74 => .inl (cy 1, 7, .inl c)
  | 75 => .inl (cy 1, 8, .inl c)
  | 76 => .inl (cy 1, 8, .inl c)
  | 77 => .inr (0, [.int (c 0), .ref (a 78), .ref (a 79)])
  | 78 => .inl (cy 1, 30, .inl c)
  | 79 => .inl (cy 1, 240, .inl c)
  | 80 => .inr (5, [.ref (a 81), .int (c 1), .int (c 2)])
  | 81 => .inl (cy 2, 60, .inr (.inl d))
  | 82 => .inr (5, [.ref (a 83), .int (c 1), .int (c 2)])
  | 83 => .inl (cy 2, 60, .inr (.inl d))
  | 84 => .inr (5, [.ref (a 85), .int (c 1), .int (c 2)])
  | 85 => .inl (cy 2, 60, .inr (.inl d))
  | 86 => .inr (5, [.ref (a 87), .int (c 1), .int (c 2)])
  | 87 => .inl (cy 2, 60, .inr (.inl d))
  | 100 => .inr (8, .int (c 0) :: .ref (a 101) :: .ref (a 102) :: .ref (a 103) :: .ref (a 104) :: .int (c 5) :: .ref (a 106) :: .int (c 7) :: .int (c 8) :: .int (c 9) :: .int (c 10) :: .int (c 11) :: .int (c 12) :: .int (c 13) :: .ref (a 114) :: .ref (a 115) :: .ref (a 116) :: .int (c 17) :: .int (c 18) :: .int (c 19) :: .ref (a 120) :: .ref (a 121) :: .ref (a 122) :: .ref (a 123) :: .ref (a 124) :: .ref (a 125) :: .ref (a 126) :: .ref (a 127) :: .ref (a 128) :: .ref (a 129) :: .int (c 30) :: .ref (a 131) :: .int (c 32) :: .ref (a 133) :: .long (d 34) :: .long (d 35) :: .long (d 36) :: .ref (a 137) :: .ref (a 138) :: .ref (a 139) :: .ref (a 140) :: [])
  | 101 => .inl (cy 1, 102, .inl c)
  | 102 => .inl (cy 1, 306, .inl c)
  | 103 => .inl (cy 3, 3, .inl c)
  | 104 => .inl (cy 0, 800, .inl c)
  | 106 => .inl (cy 1, 5, .inl c)
  | 114 => .inl (cy 1, 102, .inl c)
  | 115 => .inl (cy 1, 7, .inl c)
  | 116 => .inl (cy 1, 8, .inl c)
  | 120 => .inl (cy 1, 7, .inl c)
  | 121 => .inl (cy 1, 8, .inl c)
  | 122 => .inl (cy 1, 136, .inl c)
  | 123 => .inl (cy 1, 119, .inl c)
  | 124 => .inl (cy 1, 16, .inl c)
  | 125 => .inl (cy 1, 28, .inl c)
  | 126 => .inl (cy 1, 8, .inl c)
  | 127 => .inl (cy 1, 4, .inl c)
  | 128 => .inl (cy 1, 4, .inl c)
  | 129 => .inl (cy 1, 7, .inl c)
  | 131 => .inl (cy 1, 544, .inl c)
  | 133 => .inl (cy 1, 128, .inl c)
  | 137 => .inl (cy 1, 4, .inl c)
  | 138 => .inl (cy 1, 4, .inl c)
  | 139 => .inl (cy 2, 240, .inr (.inl d))
  | 140 => .inl (cy 2, 60, .inr (.inl d))
  | _ => .inr (0, [])
def baseact (k : Nat) : Bool := decide (k < 43) || [100, 101, 102, 103, 104, 106, 114, 115, 116, 120, 121, 122, 123, 124, 125, 126, 127, 128, 129, 131, 133, 137, 138, 139, 140].contains k
def ent (cy : Nat → ClassId) (a : Nat → Nat) (C : Nat → Nat → Int32) (D : Nat → Nat → Int64) (R : Nat → Nat → Option Nat) (k : Nat) : va_E := sh cy a k (C k) (D k) (R k)
def WI (L : List Nat) (M : Nat → va_E) (a : Nat → Nat) (act : Nat → Bool) (E : Nat → va_E) : Prop := (∀ k, (baseact k || act k) = true → M (a k) = E k ∧ a k ∈ L) ∧ ∀ k k', (baseact k || act k) = true → (baseact k' || act k') = true → a k = a k' → k = k'
theorem WI.set {L : List Nat} {M : Nat → va_E} {a : Nat → Nat} {act : Nat → Bool} {E E2 : Nat → va_E} (F : WI L M a act E) {k : Nat} (hk : (baseact k || act k) = true) (h2 : ∀ k', k' ≠ k → E2 k' = E k') : WI L (va_up M (a k) (E2 k)) a act E2 := by
  refine ⟨fun k' hk' => ?_, F.2⟩
  by_cases h : k' = k
  · subst h
    exact ⟨va_up_self _ _ _, (F.1 k' hk').2⟩
  · refine ⟨?_, (F.1 k' hk').2⟩
    rw [va_up_ne _ _ (fun z => h (F.2 k' k hk' hk z)), h2 k' h]
    exact (F.1 k' hk').1
def rg (lo hi : Int) (x : Int32) : Prop := lo ≤ x.toInt ∧ x.toInt ≤ hi
def gl (x : Int32) : Prop := (0 ≤ x.toInt ∧ x.toInt < 7) ∨ (10 ≤ x.toInt ∧ x.toInt < 14)
def okp (x : Int32) : Prop := x.toInt = -1 ∨ gl x
def okw (j : Nat) (x : Int32) : Prop := (j = 0 → rg 0 16 x) ∧ (j = 2 → rg 0 10 x) ∧ (j = 3 → rg 0 4 x) ∧ (j = 4 → rg 0 7 x) ∧ (j = 7 → rg 0 8 x) ∧ (j = 8 → rg 0 30 x) ∧ (14 ≤ j → j < 56 → (j - 14) % 6 = 0 → rg 0 4 x) ∧ (14 ≤ j → j < 56 → (j - 14) % 6 = 5 → rg 0 3 x) ∧ (14 ≤ j → j < 56 → (j - 14) % 6 ≠ 0 → (j - 14) % 6 ≠ 5 → gl x) ∧ (56 ≤ j → j < 72 → j % 2 = 0 → rg 0 6 x) ∧ (72 ≤ j → j < 102 → rg 0 699 x ∨ 10000 ≤ x.toInt)
def okv (k j : Nat) (x : Int32) : Prop := match k with
  | 1 => (j = 1 ∨ j = 5 ∨ j = 6) → rg 0 800 x
  | 3 => (j = 1 → rg 0 16 x) ∧ (j = 4 → rg 0 4 x) ∧ (j = 5 → rg 0 7 x) ∧ (j = 8 → rg 0 8 x)
  | 5 => rg 0 4 x
  | 6 => gl x
  | 7 => rg 0 3 x
  | 8 => rg 0 6 x
  | 10 => j = 0 → rg 0 30 x
  | 11 => rg 0 239 x
  | 13 => (j = 1 → rg 0 16 x) ∧ (j = 4 → rg 0 4 x) ∧ (j = 5 → rg 0 7 x) ∧ (j = 8 → rg 0 8 x)
  | 15 => rg 0 4 x
  | 16 => gl x
  | 17 => rg 0 3 x
  | 18 => rg 0 6 x
  | 20 => j = 0 → rg 0 30 x
  | 21 => rg 0 239 x
  | 27 => okp x
  | 28 => rg 0 3 x
  | 29 => rg (-1) 3 x
  | 33 => okp x
  | 34 => rg 0 3 x
  | 35 => rg (-1) 3 x
  | 37 => j = 2 → rg 0 600 x
  | 38 => rg 0 3 x
  | 50 => (j = 1 → rg 0 16 x) ∧ (j = 4 → rg 0 4 x) ∧ (j = 5 → rg 0 7 x) ∧ (j = 8 → rg 0 8 x)
  | 52 => rg 0 4 x
  | 53 => gl x
  | 54 => rg 0 3 x
  | 55 => rg 0 6 x
  | 57 => j = 0 → rg 0 30 x
  | 58 => rg 0 239 x
  | 60 => (j = 1 → rg 0 16 x) ∧ (j = 4 → rg 0 4 x) ∧ (j = 5 → rg 0 7 x) ∧ (j = 8 → rg 0 8 x)
  | 62 => rg 0 4 x
  | 63 => gl x
  | 64 => rg 0 3 x
  | 65 => rg 0 6 x
  | 67 => j = 0 → rg 0 30 x
  | 68 => rg 0 239 x
  | 70 => (j = 1 → rg 0 16 x) ∧ (j = 4 → rg 0 4 x) ∧ (j = 5 → rg 0 7 x) ∧ (j = 8 → rg 0 8 x)
  | 72 => rg 0 4 x
  | 73 => gl x
  | 74 => rg 0 3 x
  | 75 => rg 0 6 x
  | 77 => j = 0 → rg 0 30 x
  | 78 => rg 0 239 x
  | 80 => j = 2 → rg 0 60 x
  | 82 => j = 2 → rg 0 60 x
  | 84 => j = 2 → rg 0 60 x
  | 86 => j = 2 → rg 0 60 x
  | 100 => (j = 5 ∨ j = 7 ∨ j = 8 ∨ j = 9) → rg 0 800 x
  | 101 => okw j x
  | 102 => okw (j % 102) x
  | 114 => okw j x
  | 115 => rg 0 3 x
  | 120 => rg 0 3 x
  | 121 => okp x
  | 122 => okp x
  | 123 => rg 0 3 x
  | 129 => rg 0 3 x
  | 131 => okp x
  | 137 => rg (-1) 60 x
  | _ => True
def Inv (C : Nat → Nat → Int32) : Prop := ∀ k j, okv k j (C k j)
def Kp (ks : List Nat) (C : Nat → Nat → Int32) (D : Nat → Nat → Int64) (C2 : Nat → Nat → Int32) (D2 : Nat → Nat → Int64) : Prop := ∀ k, k ∉ ks → C2 k = C k ∧ D2 k = D k
theorem Kp.rf {ks : List Nat} {C : Nat → Nat → Int32} {D : Nat → Nat → Int64} : Kp ks C D C D := fun _ _ => ⟨rfl, rfl⟩
theorem Kp.step {ks k1 : List Nat} {C C1 C2 : Nat → Nat → Int32} {D D1 D2 : Nat → Nat → Int64} (K : Kp ks C D C1 D1) (K1 : Kp k1 C1 D1 C2 D2) (h : ∀ k ∈ k1, k ∈ ks) : Kp ks C D C2 D2 := fun k hk => ⟨(K1 k (fun z => hk (h k z))).1.trans (K k hk).1, (K1 k (fun z => hk (h k z))).2.trans (K k hk).2⟩
theorem Inv.set {C : Nat → Nat → Int32} (I : Inv C) {k j : Nat} {x : Int32} (h : okv k j x) : Inv (va_up C k (upd (C k) j x)) := by
  intro k' j'
  by_cases hk : k' = k
  · subst hk
    rw [va_up_self]
    by_cases hj : j' = j
    · subst hj; rw [pk_us]; exact h
    · rw [pk_un hj]; exact I k' j'
  · rw [va_up_ne _ _ hk]; exact I k' j'
theorem ent_neC {cy : Nat → ClassId} {a : Nat → Nat} {C : Nat → Nat → Int32} {D : Nat → Nat → Int64} {R : Nat → Nat → Option Nat} {k : Nat} {g : Nat → Int32} : ∀ k', k' ≠ k → ent cy a (va_up C k g) D R k' = ent cy a C D R k' := fun k' h => by unfold ent; rw [va_up_ne _ _ h]
theorem ent_neD {cy : Nat → ClassId} {a : Nat → Nat} {C : Nat → Nat → Int32} {D : Nat → Nat → Int64} {R : Nat → Nat → Option Nat} {k : Nat} {g : Nat → Int64} : ∀ k', k' ≠ k → ent cy a C (va_up D k g) R k' = ent cy a C D R k' := fun k' h => by unfold ent; rw [va_up_ne _ _ h]
theorem kpC {C : Nat → Nat → Int32} {D : Nat → Nat → Int64} {k : Nat} {g : Nat → Int32} : Kp [k] C D (va_up C k g) D := fun k' h => ⟨va_up_ne _ _ (fun z => h (z ▸ List.mem_singleton.mpr rfl)), rfl⟩
theorem kpD {C : Nat → Nat → Int32} {D : Nat → Nat → Int64} {k : Nat} {g : Nat → Int64} : Kp [k] C D C (va_up D k g) := fun k' h => ⟨rfl, va_up_ne _ _ (fun z => h (z ▸ List.mem_singleton.mpr rfl))⟩
theorem rg_nat {lo hi : Int} {x : Int32} (h : rg lo hi x) (h0 : 0 ≤ lo) : ∃ n : Nat, (n : Int) ≤ hi ∧ x = nI n := by
  refine ⟨x.toInt.toNat, ?_, ?_⟩
  · have := h.1; have := h.2; omega
  · have h1 := h.1
    apply Int32.toInt_inj.mp
    have h3 : x.toInt < 2 ^ 31 := Int32.toInt_lt x
    rw [nI_toInt (by omega)]
    omega
theorem gl_nat {x : Int32} (h : gl x) : ∃ n : Nat, (n < 7 ∨ (10 ≤ n ∧ n < 14)) ∧ x = nI n := by
  have h1 : rg 0 13 x := by unfold gl at h; unfold rg; omega
  obtain ⟨n, hn, e⟩ := rg_nat h1 (by decide)
  refine ⟨n, ?_, e⟩
  have e2 : x.toInt = n := by rw [e]; exact nI_toInt (by omega)
  unfold gl at h
  omega
theorem okp_nat {x : Int32} (h : okp x) : x = -1 ∨ ∃ n : Nat, (n < 7 ∨ (10 ≤ n ∧ n < 14)) ∧ x = nI n := by
  rcases h with h | h
  · exact Or.inl (Int32.toInt_inj.mp (by rw [h]; decide))
  · exact Or.inr (gl_nat h)
theorem rg_of {n : Nat} {lo hi : Int} (h1 : lo ≤ n) (h2 : (n : Int) ≤ hi) (h3 : n < 2 ^ 31) : rg lo hi (nI n) := by
  unfold rg; rw [nI_toInt h3]; exact ⟨h1, h2⟩
theorem gl_of {n : Nat} (h : n < 7 ∨ (10 ≤ n ∧ n < 14)) : gl (nI n) := by
  unfold gl; rw [nI_toInt (by omega)]; omega
theorem okp_of {n : Nat} (h : n < 7 ∨ (10 ≤ n ∧ n < 14)) : okp (nI n) := Or.inr (gl_of h)
theorem okp_m1 : okp (-1) := Or.inl (by decide)
theorem nI_nm1 {n : Nat} (h : n < 2 ^ 31) : ¬ nI n = -1 := fun e => by
  have := congrArg Int32.toInt e
  rw [nI_toInt h] at this
  have k : (-1 : Int32).toInt = -1 := (by decide)
  omega
theorem nI_lo (x : Int32) {n : Nat} (hn : n < 2 ^ 31) (h0 : ¬ x < 0) (h1 : ¬ nI n ≤ x) : ∃ j : Nat, j < n ∧ x = nI j := by
  rcases pk_ix x hn with h | h | h
  · exact absurd h h0
  · exact absurd h h1
  · exact h
section IROWS
variable {p : Program} {l : Launch} {e : Env} {s : State} {m : MethodId} {args : Array Value} {below : List Frame} {meth : Method} {c : Code} {own : String} {cc : ByteArray} {nL : Nat} {G : va_G} {cy : Nat → ClassId} {A : Nat → Prop} {Rm : Room} {cells slots : Nat} {Q : State → Prop} {L : List Nat} {M : Nat → va_E} {pc : Nat} {lv : List (Nat × Value)} {st : List Value} {a : Nat → Nat} {act : Nat → Bool} {C : Nat → Nat → Int32} {D : Nat → Nat → Int64} {R : Nat → Nat → Option Nat}
theorem i_get (X : Cx p s m args meth c own cc nL G cy A) (F : WI L M a act (ent cy a C D R)) (k : Nat) (hk : (baseact k || act k) = true) {idx ci kf : Nat} {ty : FieldType} {fin : Bool} {fs : List Value} {v : Value} (he : sh cy a k (C k) (D k) (R k) = .inr (ci, fs)) (f : FLk own idx ci kf ty fin) (hd : decode cc pc = .ok (.getfield idx, 3)) (hv : fs[kf]? = some v) (kk : Go p l e Rm s m args below meth c nL G A cells slots Q L M (pc + 3) lv (v :: st)) : Go p l e Rm s m args below meth c nL G A cells slots Q L M pc lv (.ref (a k) :: st) := g_get X f hd (F.1 k hk).2 ((F.1 k hk).1.trans he) hv kk
theorem i_put (X : Cx p s m args meth c own cc nL G cy A) (F : WI L M a act (ent cy a C D R)) (I : Inv C) (k : Nat) (hk : (baseact k || act k) = true) {idx ci kf : Nat} {ty : FieldType} {fs : List Value} {x : Int32} (he : sh cy a k (C k) (D k) (R k) = .inr (ci, fs)) (h3 : sh cy a k (upd (C k) kf x) (D k) (R k) = .inr (ci, fs.set kf (.int x))) (f : FLk own idx ci kf ty false) (hd : decode cc pc = .ok (.putfield idx, 3)) (hn : narrow ty (.int x) = .int x) (hfit : fits ty (.int x) = true) (hlen : kf < fs.length) (ho : okv k kf x) (kk : ∀ (M : Nat → va_E) (C2 : Nat → Nat → Int32), WI L M a act (ent cy a C2 D R) → Inv C2 → Kp [k] C D C2 D → C2 k = upd (C k) kf x → Go p l e Rm s m args below meth c nL G A cells slots Q L M (pc + 3) lv st) : Go p l e Rm s m args below meth c nL G A cells slots Q L M pc lv (.int x :: .ref (a k) :: st) := by
  refine g_put X f hd (F.1 k hk).2 ((F.1 k hk).1.trans he) hn hfit hlen ?_
  have F2 := F.set (E2 := ent cy a (va_up C k (upd (C k) kf x)) D R) hk ent_neC
  have e2 : ent cy a (va_up C k (upd (C k) kf x)) D R k = .inr (ci, fs.set kf (.int x)) := by unfold ent; rw [va_up_self]; exact h3
  rw [e2] at F2
  exact kk _ _ F2 (I.set ho) kpC (va_up_self _ _ _)
theorem i_putL (X : Cx p s m args meth c own cc nL G cy A) (F : WI L M a act (ent cy a C D R)) (k : Nat) (hk : (baseact k || act k) = true) {idx ci kf : Nat} {fs : List Value} {x : Int64} (he : sh cy a k (C k) (D k) (R k) = .inr (ci, fs)) (h3 : sh cy a k (C k) (vp_updL (D k) kf x) (R k) = .inr (ci, fs.set kf (.long x))) (f : FLk own idx ci kf .long false) (hd : decode cc pc = .ok (.putfield idx, 3)) (hlen : kf < fs.length) (kk : ∀ (M : Nat → va_E) (D2 : Nat → Nat → Int64), WI L M a act (ent cy a C D2 R) → Kp [k] C D C D2 → D2 k = vp_updL (D k) kf x → Go p l e Rm s m args below meth c nL G A cells slots Q L M (pc + 3) lv st) : Go p l e Rm s m args below meth c nL G A cells slots Q L M pc lv (.long x :: .ref (a k) :: st) := by
  refine g_put X f hd (F.1 k hk).2 ((F.1 k hk).1.trans he) rfl rfl hlen ?_
  have F2 := F.set (E2 := ent cy a C (va_up D k (vp_updL (D k) kf x)) R) hk ent_neD
  have e2 : ent cy a C (va_up D k (vp_updL (D k) kf x)) R k = .inr (ci, fs.set kf (.long x)) := by unfold ent; rw [va_up_self]; exact h3
  rw [e2] at F2
  exact kk _ _ F2 kpD (va_up_self _ _ _)
theorem i_iald (X : Cx p s m args meth c own cc nL G cy A) (F : WI L M a act (ent cy a C D R)) (k : Nat) (hk : (baseact k || act k) = true) {N : Nat} {i v : Int32} (he : sh cy a k (C k) (D k) (R k) = .inl (cy 1, N, .inl (C k))) (hd : decode cc pc = .ok (.iaload, 1)) (hin : vp_in i N) (hv : C k i.toNatClampNeg = v) (kk : Go p l e Rm s m args below meth c nL G A cells slots Q L M (pc + 1) lv (.int v :: st)) : Go p l e Rm s m args below meth c nL G A cells slots Q L M pc lv (.int i :: .ref (a k) :: st) := g_iald X hd (F.1 k hk).2 ((F.1 k hk).1.trans he) hin hv kk
theorem i_bald (X : Cx p s m args meth c own cc nL G cy A) (F : WI L M a act (ent cy a C D R)) (k : Nat) (hk : (baseact k || act k) = true) {N : Nat} {i v : Int32} (he : sh cy a k (C k) (D k) (R k) = .inl (cy 0, N, .inl (C k))) (hd : decode cc pc = .ok (.baload, 1)) (hin : vp_in i N) (hv : C k i.toNatClampNeg = v) (kk : Go p l e Rm s m args below meth c nL G A cells slots Q L M (pc + 1) lv (.int v :: st)) : Go p l e Rm s m args below meth c nL G A cells slots Q L M pc lv (.int i :: .ref (a k) :: st) := g_bald X hd (F.1 k hk).2 ((F.1 k hk).1.trans he) hin hv kk
theorem i_zald (X : Cx p s m args meth c own cc nL G cy A) (F : WI L M a act (ent cy a C D R)) (k : Nat) (hk : (baseact k || act k) = true) {N : Nat} {i v : Int32} (he : sh cy a k (C k) (D k) (R k) = .inl (cy 3, N, .inl (C k))) (hd : decode cc pc = .ok (.baload, 1)) (hin : vp_in i N) (hv : C k i.toNatClampNeg = v) (kk : Go p l e Rm s m args below meth c nL G A cells slots Q L M (pc + 1) lv (.int v :: st)) : Go p l e Rm s m args below meth c nL G A cells slots Q L M pc lv (.int i :: .ref (a k) :: st) := g_zald X hd (F.1 k hk).2 ((F.1 k hk).1.trans he) hin hv kk
theorem i_lald (X : Cx p s m args meth c own cc nL G cy A) (F : WI L M a act (ent cy a C D R)) (k : Nat) (hk : (baseact k || act k) = true) {N : Nat} {i : Int32} {v : Int64} (he : sh cy a k (C k) (D k) (R k) = .inl (cy 2, N, .inr (.inl (D k)))) (hd : decode cc pc = .ok (.laload, 1)) (hin : vp_in i N) (hv : D k i.toNatClampNeg = v) (kk : Go p l e Rm s m args below meth c nL G A cells slots Q L M (pc + 1) lv (.long v :: st)) : Go p l e Rm s m args below meth c nL G A cells slots Q L M pc lv (.int i :: .ref (a k) :: st) := g_lald X hd (F.1 k hk).2 ((F.1 k hk).1.trans he) hin hv kk
theorem i_iast (X : Cx p s m args meth c own cc nL G cy A) (F : WI L M a act (ent cy a C D R)) (I : Inv C) (k : Nat) (hk : (baseact k || act k) = true) {N : Nat} {i x : Int32} (he : ∀ z, sh cy a k z (D k) (R k) = .inl (cy 1, N, .inl z)) (hd : decode cc pc = .ok (.iastore, 1)) (hin : vp_in i N) (ho : okv k i.toNatClampNeg x) (kk : ∀ (M : Nat → va_E) (C2 : Nat → Nat → Int32), WI L M a act (ent cy a C2 D R) → Inv C2 → Kp [k] C D C2 D → C2 k = upd (C k) i.toNatClampNeg x → Go p l e Rm s m args below meth c nL G A cells slots Q L M (pc + 1) lv st) : Go p l e Rm s m args below meth c nL G A cells slots Q L M pc lv (.int x :: .int i :: .ref (a k) :: st) := by
  refine g_iast X hd (F.1 k hk).2 ((F.1 k hk).1.trans (he (C k))) hin ?_
  have F2 := F.set (E2 := ent cy a (va_up C k (upd (C k) i.toNatClampNeg x)) D R) hk ent_neC
  have e2 : ent cy a (va_up C k (upd (C k) i.toNatClampNeg x)) D R k = .inl (cy 1, N, .inl (upd (C k) i.toNatClampNeg x)) := by unfold ent; rw [va_up_self]; exact he _
  rw [e2] at F2
  exact kk _ _ F2 (I.set ho) kpC (va_up_self _ _ _)
theorem i_bast (X : Cx p s m args meth c own cc nL G cy A) (F : WI L M a act (ent cy a C D R)) (I : Inv C) (k : Nat) (hk : (baseact k || act k) = true) {N : Nat} {i x : Int32} (he : ∀ z, sh cy a k z (D k) (R k) = .inl (cy 0, N, .inl z)) (hd : decode cc pc = .ok (.bastore, 1)) (hin : vp_in i N) (ho : okv k i.toNatClampNeg (vp_nar .byte x)) (kk : ∀ (M : Nat → va_E) (C2 : Nat → Nat → Int32), WI L M a act (ent cy a C2 D R) → Inv C2 → Kp [k] C D C2 D → C2 k = upd (C k) i.toNatClampNeg (vp_nar .byte x) → Go p l e Rm s m args below meth c nL G A cells slots Q L M (pc + 1) lv st) : Go p l e Rm s m args below meth c nL G A cells slots Q L M pc lv (.int x :: .int i :: .ref (a k) :: st) := by
  refine g_bast X hd (F.1 k hk).2 ((F.1 k hk).1.trans (he (C k))) hin ?_
  have F2 := F.set (E2 := ent cy a (va_up C k (upd (C k) i.toNatClampNeg (vp_nar .byte x))) D R) hk ent_neC
  have e2 : ent cy a (va_up C k (upd (C k) i.toNatClampNeg (vp_nar .byte x))) D R k = .inl (cy 0, N, .inl (upd (C k) i.toNatClampNeg (vp_nar .byte x))) := by unfold ent; rw [va_up_self]; exact he _
  rw [e2] at F2
  exact kk _ _ F2 (I.set ho) kpC (va_up_self _ _ _)
theorem i_zast (X : Cx p s m args meth c own cc nL G cy A) (F : WI L M a act (ent cy a C D R)) (I : Inv C) (k : Nat) (hk : (baseact k || act k) = true) {N : Nat} {i x : Int32} (he : ∀ z, sh cy a k z (D k) (R k) = .inl (cy 3, N, .inl z)) (hd : decode cc pc = .ok (.bastore, 1)) (hin : vp_in i N) (ho : okv k i.toNatClampNeg (vp_nar .boolean x)) (kk : ∀ (M : Nat → va_E) (C2 : Nat → Nat → Int32), WI L M a act (ent cy a C2 D R) → Inv C2 → Kp [k] C D C2 D → C2 k = upd (C k) i.toNatClampNeg (vp_nar .boolean x) → Go p l e Rm s m args below meth c nL G A cells slots Q L M (pc + 1) lv st) : Go p l e Rm s m args below meth c nL G A cells slots Q L M pc lv (.int x :: .int i :: .ref (a k) :: st) := by
  refine g_zast X hd (F.1 k hk).2 ((F.1 k hk).1.trans (he (C k))) hin ?_
  have F2 := F.set (E2 := ent cy a (va_up C k (upd (C k) i.toNatClampNeg (vp_nar .boolean x))) D R) hk ent_neC
  have e2 : ent cy a (va_up C k (upd (C k) i.toNatClampNeg (vp_nar .boolean x))) D R k = .inl (cy 3, N, .inl (upd (C k) i.toNatClampNeg (vp_nar .boolean x))) := by unfold ent; rw [va_up_self]; exact he _
  rw [e2] at F2
  exact kk _ _ F2 (I.set ho) kpC (va_up_self _ _ _)
theorem i_last (X : Cx p s m args meth c own cc nL G cy A) (F : WI L M a act (ent cy a C D R)) (k : Nat) (hk : (baseact k || act k) = true) {N : Nat} {i : Int32} {x : Int64} (he : ∀ z, sh cy a k (C k) z (R k) = .inl (cy 2, N, .inr (.inl z))) (hd : decode cc pc = .ok (.lastore, 1)) (hin : vp_in i N) (kk : ∀ (M : Nat → va_E) (D2 : Nat → Nat → Int64), WI L M a act (ent cy a C D2 R) → Kp [k] C D C D2 → D2 k = vp_updL (D k) i.toNatClampNeg x → Go p l e Rm s m args below meth c nL G A cells slots Q L M (pc + 1) lv st) : Go p l e Rm s m args below meth c nL G A cells slots Q L M pc lv (.long x :: .int i :: .ref (a k) :: st) := by
  refine g_last X hd (F.1 k hk).2 ((F.1 k hk).1.trans (he (D k))) hin ?_
  have F2 := F.set (E2 := ent cy a C (va_up D k (vp_updL (D k) i.toNatClampNeg x)) R) hk ent_neD
  have e2 : ent cy a C (va_up D k (vp_updL (D k) i.toNatClampNeg x)) R k = .inl (cy 2, N, .inr (.inl (vp_updL (D k) i.toNatClampNeg x))) := by unfold ent; rw [va_up_self]; exact he _
  rw [e2] at F2
  exact kk _ _ F2 kpD (va_up_self _ _ _)
theorem i_alen (X : Cx p s m args meth c own cc nL G cy A) (F : WI L M a act (ent cy a C D R)) (k : Nat) (hk : (baseact k || act k) = true) {t0 : Nat} {x : vp_A} {ty : FieldType} {cA : ClassId} {v : Int32} (he : sh cy a k (C k) (D k) (R k) = .inl (cA, x)) (ht : (tyL cy)[t0]? = some (cA, ty)) (hd : decode cc pc = .ok (.arraylength, 1)) (hv : Int32.ofNat x.1 = v) (kk : Go p l e Rm s m args below meth c nL G A cells slots Q L M (pc + 1) lv (.int v :: st)) : Go p l e Rm s m args below meth c nL G A cells slots Q L M pc lv (.ref (a k) :: st) := g_alen X ht hd (F.1 k hk).2 ((F.1 k hk).1.trans he) hv kk
theorem i_copyi (X : Cx p s m args meth c own cc nL G cy A) (F : WI L M a act (ent cy a C D R)) (I : Inv C) (k0 : Nat) (hk0 : (baseact k0 || act k0) = true) (k1 : Nat) (hk1 : (baseact k1 || act k1) = true) {idx t0 N0 N1 : Nat} {cA : ClassId} {ty : FieldType} {sp dp nn : Int32} (he0 : sh cy a k0 (C k0) (D k0) (R k0) = .inl (cA, N0, .inl (C k0))) (he1 : ∀ z, sh cy a k1 z (D k1) (R k1) = .inl (cA, N1, .inl z)) (ht : (tyL cy)[t0]? = some (cA, ty)) (hprim : refKind ty = false) (h1 : Cond.methodLink own idx arraycopyName ∈ tblG) (h2 : Cond.native arraycopyName ∈ tblG) (h3 : Cond.static arraycopyName ∈ tblG) (h4 : Cond.initialized "java/lang/System" ∈ tblG) (c1 : ¬ sp < 0) (c2 : ¬ dp < 0) (c3 : ¬ nn < 0) (c4 : sp.toNatClampNeg + nn.toNatClampNeg ≤ N0) (c5 : dp.toNatClampNeg + nn.toNatClampNeg ≤ N1) (hfit : ∀ i, i < nn.toNatClampNeg → fits ty (.int (C k0 (sp.toNatClampNeg + i))) = true) (hn1 : 1 ≤ Rm.frames) (hlo : (st.map fun v => v.category).sum + (nativeFrameWords "java/lang/System" "arraycopy" 5 + 11) ≤ Rm.locals) (hd : decode cc pc = .ok (.invokestatic idx, 3)) (ho : ∀ j, okv k1 j (va_cpy (C k0) (C k1) sp.toNatClampNeg dp.toNatClampNeg nn.toNatClampNeg j)) (kk : ∀ (M : Nat → va_E) (C2 : Nat → Nat → Int32), WI L M a act (ent cy a C2 D R) → Inv C2 → Kp [k1] C D C2 D → C2 k1 = va_cpy (C k0) (C k1) sp.toNatClampNeg dp.toNatClampNeg nn.toNatClampNeg → Go p l e Rm s m args below meth c nL G A cells slots Q L M (pc + 3) lv st) : Go p l e Rm s m args below meth c nL G A cells slots Q L M pc lv (.int nn :: .int dp :: .ref (a k1) :: .int sp :: .ref (a k0) :: st) := by
  refine g_copyi X ht hprim h1 h2 h3 h4 (F.1 k0 hk0).2 ((F.1 k0 hk0).1.trans he0) (F.1 k1 hk1).2 ((F.1 k1 hk1).1.trans (he1 (C k1))) c1 c2 c3 c4 c5 hfit hn1 hlo hd ?_
  have F2 := F.set (E2 := ent cy a (va_up C k1 (va_cpy (C k0) (C k1) sp.toNatClampNeg dp.toNatClampNeg nn.toNatClampNeg)) D R) hk1 ent_neC
  have e2 : ent cy a (va_up C k1 (va_cpy (C k0) (C k1) sp.toNatClampNeg dp.toNatClampNeg nn.toNatClampNeg)) D R k1 = .inl (cA, N1, .inl (va_cpy (C k0) (C k1) sp.toNatClampNeg dp.toNatClampNeg nn.toNatClampNeg)) := by unfold ent; rw [va_up_self]; exact he1 _
  rw [e2] at F2
  refine kk _ _ F2 (fun k j => ?_) kpC (va_up_self _ _ _)
  by_cases h : k = k1
  · subst h; rw [va_up_self]; exact ho j
  · rw [va_up_ne _ _ h]; exact I k j
theorem cpy_ok {f g : Nat → Int32} {P : Nat → Int32 → Prop} {n : Nat} (hf : ∀ j, P j (f j)) (hg : ∀ j, P j (g j)) : ∀ j, P j (va_cpy f g 0 0 n j) := by
  intro j
  by_cases h : j < n
  · rw [pk_cpy_in (Nat.zero_le j) (by omega)]
    have := hf j
    simpa using this
  · rw [pk_cpy_out (by omega)]
    exact hg j
theorem i_loop {σ : Type} {mods : List Nat} {C0 : Nat → Nat → Int32} {D0 : Nat → Nat → Int64} (mu : σ → Nat) (lvf : σ → List (Nat × Value)) (P : σ → (Nat → Nat → Int32) → Prop) (step : ∀ (x : σ) (L : List Nat) (M : Nat → va_E) (C : Nat → Nat → Int32) (D : Nat → Nat → Int64), WI L M a act (ent cy a C D R) → Inv C → Kp mods C0 D0 C D → P x C → (∀ (y : σ) (L : List Nat) (M : Nat → va_E) (C : Nat → Nat → Int32) (D : Nat → Nat → Int64), WI L M a act (ent cy a C D R) → Inv C → Kp mods C0 D0 C D → P y C → mu y < mu x → Go p l e Rm s m args below meth c nL G A cells slots Q L M pc (lvf y) st) → Go p l e Rm s m args below meth c nL G A cells slots Q L M pc (lvf x) st) (x : σ) (F : WI L M a act (ent cy a C D R)) (I : Inv C) (K : Kp mods C0 D0 C D) (hP : P x C) : Go p l e Rm s m args below meth c nL G A cells slots Q L M pc (lvf x) st := by
  have key : ∀ (n : Nat) (x : σ) (L : List Nat) (M : Nat → va_E) (C : Nat → Nat → Int32) (D : Nat → Nat → Int64), WI L M a act (ent cy a C D R) → Inv C → Kp mods C0 D0 C D → P x C → mu x < n → Go p l e Rm s m args below meth c nL G A cells slots Q L M pc (lvf x) st := by
    intro n
    induction n with
    | zero => intro x L M C D _ _ _ _ h; omega
    | succ n ih => intro x L M C D F I K hP h; exact step x L M C D F I K hP (fun y L M C D F I K hP h2 => ih y L M C D F I K hP (by omega))
  exact key (mu x + 1) x L M C D F I K hP (by omega)
theorem g_mmax (X : Cx p s m args meth c own cc nL G cy A) {idx : Nat} {x y : Int32} (w1 : Cond.methodLink own idx Lib.Math.max.name ∈ tblG) (w2 : Cond.static Lib.Math.max.name ∈ tblG) (w3 : Cond.initialized "java/lang/Math" ∈ tblG) (w4 : Cond.code Lib.Math.max.name Lib.Math.max.code 2 (some .int) ∈ tblG) (hf : 1 ≤ Rm.frames) (hlo : (st.map fun v => v.category).sum + 13 ≤ Rm.locals) (hc : cells ≤ Rm.cells) (hs : slots ≤ Rm.slots) (hd : decode cc pc = .ok (.invokestatic idx, 3)) (k : ∀ v : Int32, Go p l e Rm s m args below meth c nL G A cells slots Q L M (pc + 3) lv (.int v :: st)) : Go p l e Rm s m args below meth c nL G A cells slots Q L M pc lv (.int y :: .int x :: st) := fun H locs ls hP hD hS hl => va_mmax X.1 X.2.1 (by rw [X.2.2.1]; exact hl.1.symm) X.2.2.2.1 (X.2.2.2.2.1 _ w1) (X.2.2.2.2.1 _ w2) (X.2.2.2.2.1 _ w3) (X.2.2.2.2.1 _ w4) hf hlo hc hs hd (k _ H locs ls hP hD hS hl)
theorem g_mmin (X : Cx p s m args meth c own cc nL G cy A) {idx : Nat} {x y : Int32} (w1 : Cond.methodLink own idx Lib.Math.min.name ∈ tblG) (w2 : Cond.static Lib.Math.min.name ∈ tblG) (w3 : Cond.initialized "java/lang/Math" ∈ tblG) (w4 : Cond.code Lib.Math.min.name Lib.Math.min.code 2 (some .int) ∈ tblG) (hf : 1 ≤ Rm.frames) (hlo : (st.map fun v => v.category).sum + 13 ≤ Rm.locals) (hc : cells ≤ Rm.cells) (hs : slots ≤ Rm.slots) (hd : decode cc pc = .ok (.invokestatic idx, 3)) (k : ∀ v : Int32, Go p l e Rm s m args below meth c nL G A cells slots Q L M (pc + 3) lv (.int v :: st)) : Go p l e Rm s m args below meth c nL G A cells slots Q L M pc lv (.int y :: .int x :: st) := fun H locs ls hP hD hS hl => va_mmin X.1 X.2.1 (by rw [X.2.2.1]; exact hl.1.symm) X.2.2.2.1 (X.2.2.2.2.1 _ w1) (X.2.2.2.2.1 _ w2) (X.2.2.2.2.1 _ w3) (X.2.2.2.2.1 _ w4) hf hlo hc hs hd (k _ H locs ls hP hD hS hl)
theorem g_mabsL (X : Cx p s m args meth c own cc nL G cy A) {idx : Nat} {x : Int64} (w1 : Cond.methodLink own idx Lib.MathLoose.abs_long.x ∈ tblG) (w2 : Cond.static Lib.MathLoose.abs_long.x ∈ tblG) (w3 : Cond.initialized "java/lang/Math" ∈ tblG) (w4 : Cond.code Lib.MathLoose.abs_long.x Lib.MathLoose.abs_long.code 2 (some .long) ∈ tblG) (hf : 1 ≤ Rm.frames) (hlo : (st.map fun v => v.category).sum + 13 ≤ Rm.locals) (hc : cells ≤ Rm.cells) (hs : slots ≤ Rm.slots) (hd : decode cc pc = .ok (.invokestatic idx, 3)) (k : ∀ v : Int64, Go p l e Rm s m args below meth c nL G A cells slots Q L M (pc + 3) lv (.long v :: st)) : Go p l e Rm s m args below meth c nL G A cells slots Q L M pc lv (.long x :: st) := fun H locs ls hP hD hS hl => va_mabs_long X.1 X.2.1 (by rw [X.2.2.1]; exact hl.1.symm) X.2.2.2.1 (X.2.2.2.2.1 _ w1) (X.2.2.2.2.1 _ w2) (X.2.2.2.2.1 _ w3) (X.2.2.2.2.1 _ w4) hf hlo hc hs hd (k _ H locs ls hP hD hS hl)
theorem g_iushr (X : Cx p s m args meth c own cc nL G cy A) {x y v : Int32} (hd : decode cc pc = .ok (.iushr, 1)) (hv : (x.toUInt32 >>> (y.toUInt32 &&& Int32.toUInt32 31)).toInt32 = v) (k : Go p l e Rm s m args below meth c nL G A cells slots Q L M (pc + 1) lv (.int v :: st)) : Go p l e Rm s m args below meth c nL G A cells slots Q L M pc lv (.int y :: .int x :: st) := fun H locs ls hP hD hS hl => lv_iushr X.1 X.2.1 hd hv (k H locs ls hP hD hS hl)
theorem cpy_any {f g : Nat → Int32} {P : Int32 → Prop} {sp dp n : Nat} (hf : ∀ j, P (f j)) (hg : ∀ j, P (g j)) : ∀ j, P (va_cpy f g sp dp n j) := by
  intro j
  by_cases h : dp ≤ j ∧ j < dp + n
  · rw [pk_cpy_in h.1 h.2]; exact hf _
  · rw [pk_cpy_out (by omega)]; exact hg j
theorem Go.gen {x : Int32} (k : ∀ y : Int32, Go p l e Rm s m args below meth c nL G A cells slots Q L M pc lv (.int y :: st)) : Go p l e Rm s m args below meth c nL G A cells slots Q L M pc lv (.int x :: st) := k x
theorem Go.genL {x : Int64} (k : ∀ y : Int64, Go p l e Rm s m args below meth c nL G A cells slots Q L M pc lv (.long y :: st)) : Go p l e Rm s m args below meth c nL G A cells slots Q L M pc lv (.long x :: st) := k x
theorem g_lshr (X : Cx p s m args meth c own cc nL G cy A) {x v : Int64} {y : Int32} (hd : decode cc pc = .ok (.lshr, 1)) (hv : x >>> (y.toInt64 &&& 63) = v) (k : Go p l e Rm s m args below meth c nL G A cells slots Q L M (pc + 1) lv (.long v :: st)) : Go p l e Rm s m args below meth c nL G A cells slots Q L M pc lv (.int y :: .long x :: st) := fun H locs ls hP hD hS hl => lv_lshr X.1 X.2.1 hd hv (k H locs ls hP hD hS hl)
theorem g_i2s (X : Cx p s m args meth c own cc nL G cy A) {x v : Int32} (hd : decode cc pc = .ok (.i2s, 1)) (hv : x.toInt16.toInt32 = v) (k : Go p l e Rm s m args below meth c nL G A cells slots Q L M (pc + 1) lv (.int v :: st)) : Go p l e Rm s m args below meth c nL G A cells slots Q L M pc lv (.int x :: st) := fun H locs ls hP hD hS hl => lv_i2s X.1 X.2.1 hd hv (k H locs ls hP hD hS hl)
theorem Cx.sc (X : Cx p s m args meth c own cc nL G cy A) : SCH G A s s.heap := X.2.2.2.2.2.2.2.2.2
theorem g_ldcS (X : Cx p s m args meth c own cc nL G cy A) {idx : Nat} {tx : String} {i : Nat} (hr : (own, idx, tx, i) ∈ strW) (hd : decode cc pc = .ok (.ldc idx, 2)) (k : Go p l e Rm s m args below meth c nL G A cells slots Q L M (pc + 2) lv (.ref (G.2 1000 i) :: st)) : Go p l e Rm s m args below meth c nL G A cells slots Q L M pc lv st := fun H locs ls hP hD hS hl => va_ldcS X.1 X.2.1 X.2.2.2.1 (X.sc.2.1 _ hr) hd (k H locs ls hP hD hS hl)
theorem g_strV (X : Cx p s m args meth c own cc nL G cy A) {idx i : Nat} (hi : i < 26) (hw : Cond.fieldLink own idx "java/lang/String" "value" "[B" ∈ tblG) (hd : decode cc pc = .ok (.getfield idx, 3)) (k : Go p l e Rm s m args below meth c nL G A cells slots Q L M (pc + 3) lv (.ref (G.2 1001 i) :: st)) : Go p l e Rm s m args below meth c nL G A cells slots Q L M pc lv (.ref (G.2 1000 i) :: st) := fun H locs ls hP hD hS hl => vk_getf X.1 X.2.1 (X.sc.1 i hi).2.2.1 hS X.2.2.2.1 (X.2.2.2.2.1 _ hw) (fun _ h => h) hd (k H locs ls hP hD hS hl)
theorem g_strC (X : Cx p s m args meth c own cc nL G cy A) {idx i : Nat} (hi : i < 26) (hw : Cond.fieldLink own idx "java/lang/String" "coder" "B" ∈ tblG) (hd : decode cc pc = .ok (.getfield idx, 3)) (k : Go p l e Rm s m args below meth c nL G A cells slots Q L M (pc + 3) lv (.int 0 :: st)) : Go p l e Rm s m args below meth c nL G A cells slots Q L M pc lv (.ref (G.2 1000 i) :: st) := fun H locs ls hP hD hS hl => vk_getf X.1 X.2.1 (X.sc.1 i hi).2.1 hS X.2.2.2.1 (X.2.2.2.2.1 _ hw) (fun _ h => h) hd (k H locs ls hP hD hS hl)
theorem g_compact (X : Cx p s m args meth c own cc nL G cy A) {idx : Nat} (hw : Cond.fieldLink own idx "java/lang/String" "COMPACT_STRINGS" "Z" ∈ tblG) (hd : decode cc pc = .ok (.getstatic idx, 3)) (k : Go p l e Rm s m args below meth c nL G A cells slots Q L M (pc + 3) lv (.int 1 :: st)) : Go p l e Rm s m args below meth c nL G A cells slots Q L M pc lv st := fun H locs ls hP hD hS hl => va_gets X.1 X.2.1 X.sc.2.2.2.2.1 hS X.2.2.2.1 (X.2.2.2.2.1 _ hw) (fun _ h => h) hd (k H locs ls hP hD hS hl)
theorem g_facs (X : Cx p s m args meth c own cc nL G cy A) {idx : Nat} (hw : Cond.fieldLink own idx "ObligingPosts" "FACTORIALS" "[I" ∈ tblG) (hd : decode cc pc = .ok (.getstatic idx, 3)) (k : Go p l e Rm s m args below meth c nL G A cells slots Q L M (pc + 3) lv (.ref (G.2 1002 0) :: st)) : Go p l e Rm s m args below meth c nL G A cells slots Q L M pc lv st := fun H locs ls hP hD hS hl => va_gets X.1 X.2.1 X.sc.2.2.1 hS X.2.2.2.1 (X.2.2.2.2.1 _ hw) (fun _ h => h) hd (k H locs ls hP hD hS hl)
theorem g_sioobe (X : Cx p s m args meth c own cc nL G cy A) {idx : Nat} (hw : Cond.fieldLink own idx "jdk/internal/util/Preconditions" "SIOOBE_FORMATTER" "Ljava/util/function/BiFunction;" ∈ tblG) (hd : decode cc pc = .ok (.getstatic idx, 3)) (k0 : Go p l e Rm s m args below meth c nL G A cells slots Q L M (pc + 3) lv (.null :: st)) (k1 : ∀ t : Nat, Go p l e Rm s m args below meth c nL G A cells slots Q L M (pc + 3) lv (.ref t :: st)) : Go p l e Rm s m args below meth c nL G A cells slots Q L M pc lv st := fun H locs ls hP hD hS hl => by
  rcases X.sc.2.2.2.2.2 with z | ⟨t, z⟩
  · exact va_gets X.1 X.2.1 z hS X.2.2.2.1 (X.2.2.2.2.1 _ hw) (fun _ h => h) hd (k0 H locs ls hP hD hS hl)
  · exact va_gets X.1 X.2.1 z hS X.2.2.2.1 (X.2.2.2.2.1 _ hw) (fun _ h => h) hd (k1 t H locs ls hP hD hS hl)
theorem g_slenK (X : Cx p s m args meth c own cc nL G cy A) {i : Nat} {v : Int32} (hi : i < 26) (hv : Int32.ofNat (strB.getD i []).length = v) (hd : decode cc pc = .ok (.arraylength, 1)) (k : Go p l e Rm s m args below meth c nL G A cells slots Q L M (pc + 1) lv (.int v :: st)) : Go p l e Rm s m args below meth c nL G A cells slots Q L M pc lv (.ref (G.2 1001 i) :: st) := fun H locs ls hP hD hS hl => va_tlen X.1 X.2.1 (X.sc.1 i hi).2.2.2 hS hv hd (k H locs ls hP hD hS hl)
theorem g_sbyte (X : Cx p s m args meth c own cc nL G cy A) {i : Nat} {j : Int32} (hi : i < 26) (hin : vp_in j (strB.getD i []).length) (hd : decode cc pc = .ok (.baload, 1)) (k : ∀ v : Int32, Go p l e Rm s m args below meth c nL G A cells slots Q L M (pc + 1) lv (.int v :: st)) : Go p l e Rm s m args below meth c nL G A cells slots Q L M pc lv (.int j :: .ref (G.2 1001 i) :: st) := fun H locs ls hP hD hS hl => va_tb X.1 X.2.1 (X.sc.1 i hi).2.2.2 hS hin rfl hd (k _ H locs ls hP hD hS hl)
theorem g_fact (X : Cx p s m args meth c own cc nL G cy A) {j : Int32} {v : Int32} (hin : vp_in j 8) (hv : facL.getD j.toNatClampNeg 0 = v) (hd : decode cc pc = .ok (.iaload, 1)) (k : Go p l e Rm s m args below meth c nL G A cells slots Q L M (pc + 1) lv (.int v :: st)) : Go p l e Rm s m args below meth c nL G A cells slots Q L M pc lv (.int j :: .ref (G.2 1002 0) :: st) := fun H locs ls hP hD hS hl => va_ti X.1 X.2.1 X.sc.2.2.2.1 hS hin (congrArg Value.int hv) hd (k H locs ls hP hD hS hl)
theorem str_le : ∀ i, i < 26 → (strB.getD i []).length ≤ 6 := by decide
theorem g_i2c (X : Cx p s m args meth c own cc nL G cy A) {x v : Int32} (hd : decode cc pc = .ok (.i2c, 1)) (hv : (x.toUInt32 % 65536).toInt32 = v) (k : Go p l e Rm s m args below meth c nL G A cells slots Q L M (pc + 1) lv (.int v :: st)) : Go p l e Rm s m args below meth c nL G A cells slots Q L M pc lv (.int x :: st) := fun H locs ls hP hD hS hl => lv_i2c X.1 X.2.1 hd hv (k H locs ls hP hD hS hl)
theorem g_lrem (X : Cx p s m args meth c own cc nL G cy A) {x y : Int64} (hd : decode cc pc = .ok (.lrem, 1)) (hne : ¬ y = 0) (k : Go p l e Rm s m args below meth c nL G A cells slots Q L M (pc + 1) lv (.long (x - x / y * y) :: st)) : Go p l e Rm s m args below meth c nL G A cells slots Q L M pc lv (.long y :: .long x :: st) := fun H locs ls hP hD hS hl => lv_lrem X.1 X.2.1 hd hne (k H locs ls hP hD hS hl)
theorem g_ldiv (X : Cx p s m args meth c own cc nL G cy A) {x y : Int64} (hd : decode cc pc = .ok (.ldiv, 1)) (hne : ¬ y = 0) (k : Go p l e Rm s m args below meth c nL G A cells slots Q L M (pc + 1) lv (.long (x / y) :: st)) : Go p l e Rm s m args below meth c nL G A cells slots Q L M pc lv (.long y :: .long x :: st) := fun H locs ls hP hD hS hl => lv_ldiv X.1 X.2.1 hd hne (k H locs ls hP hD hS hl)
theorem g_ixor (X : Cx p s m args meth c own cc nL G cy A) {x y : Int32} (hd : decode cc pc = .ok (.ixor, 1)) (k : Go p l e Rm s m args below meth c nL G A cells slots Q L M (pc + 1) lv (.int (x ^^^ y) :: st)) : Go p l e Rm s m args below meth c nL G A cells slots Q L M pc lv (.int y :: .int x :: st) := fun H locs ls hP hD hS hl => lv_ixor X.1 X.2.1 hd (k H locs ls hP hD hS hl)
theorem g_callT (X : Cx p s m args meth c own cc nL G cy A) {y : MethodName} {c2 : ByteArray} {mL2 n2 mc2 ms2 nP idx i : Nat} {rt : Option FieldType} {As : List Value} {st0 : List Value} {post : Int32 → List Nat → (Nat → va_E) → Prop} (hi : i < 26) (hM : MI l G cy y c2 mL2 rt n2 mc2 ms2 (.ref (G.2 1000 i) :: As) L M post) (hy : y.cls = "java/lang/String") (w1 : Cond.methodLink own idx y ∈ tblG) (w2 : Cond.instanceMethod y ∈ tblG) (w3 : Cond.selects y.cls y y ∈ tblG) (w4 : Cond.initialized y.cls ∈ tblG) (w5 : Cond.code y c2 mL2 rt ∈ tblG) (hpl : Plain y nP) (hn : As.length = nP) (hst : st0 = As.reverse ++ .ref (G.2 1000 i) :: st) (hd : decode cc pc = .ok (.invokevirtual idx, 3)) (hcat : (st.map fun v => v.category).sum ≤ 8) (hR : n2 + 1 ≤ Rm.frames ∧ 8 + (mL2 + 11) + 100 * n2 ≤ Rm.locals) (hf : cells + mc2 ≤ Rm.cells ∧ slots + ms2 ≤ Rm.slots) (k : ∀ (r : Int32) (L2 : List Nat) (M2 : Nat → va_E), post r L2 M2 → Go p l e Rm s m args below meth c nL G A (cells + mc2) (slots + ms2) Q L2 M2 (pc + 3) lv (.int r :: st)) : Go p l e Rm s m args below meth c nL G A cells slots Q L M pc lv st0 := by
  intro H locs ls hP hD hS hl
  subst hst
  have recv : ∃ cell : Cell, H[G.2 1000 i]? = some cell ∧ cell.vm.isStatics = false ∧ s.vm.findClass y.cls = some cell.cls := by
    obtain ⟨cell, h1, h2, h3, -⟩ := (X.sc.1 i hi).1.kept hS.2.1
    exact ⟨cell, h1, h2, by rw [hy]; exact h3⟩
  refine va_calli (va_runV (As := As) (rest := st) (Ts := tblG) ⟨X.1, X.2.1, X.2.2.1, X.2.2.2.1, X.2.2.2.2.1⟩ (hM H.size) ⟨callB_of nP X.2.2.2.2.1 (gCode w5) rfl rfl rfl (X.2.2.2.2.1 _ w4) (X.2.2.2.2.1 _ w1) hpl hR, X.2.2.2.2.1 _ w2, X.2.2.2.2.1 _ w3⟩ ⟨wp_blind, recv, wp_pre hP hD X.2.2.2.2.2.2.1 X.2.2.2.2.2.1 X.sc hS X.2.2.2.2.2.2.2.1⟩ rfl hn hl.1 rfl (lv_room hcat) hd hf) hS (fun q _ h => pl_free hD hS X.2.2.2.2.2.2.2.1 q h) (pl_free hD hS X.2.2.2.2.2.2.2.1) (fun r u t H1 locs1 ht hvm hw hB hz hk hS1 => ?_)
  obtain ⟨hB1, hB2⟩ := hB
  rw [ht] at hB1
  exact k r u.1 u.2 hw H1 locs1 ls hB1 (hB2.weaken (fun _ _ _ h => pl_free hD hS X.2.2.2.2.2.2.2.1 _ h)) hS1 hl
def RA (a : Nat → Nat) (act : Nat → Bool) (R : Nat → Nat → Option Nat) : Prop := (∀ j, j < 4 → R 24 j = if act (80 + 2 * j) then some (a (80 + 2 * j)) else none) ∧ (∀ j, j < 3 → R 23 j = if act (50 + 10 * j) then some (a (50 + 10 * j)) else none) ∧ (∀ j, j < 4 → act (81 + 2 * j) = act (80 + 2 * j)) ∧ ∀ j, j < 3 → ∀ i, i < 10 → act (50 + 10 * j + i) = act (50 + 10 * j)
theorem i_aald (X : Cx p s m args meth c own cc nL G cy A) (F : WI L M a act (ent cy a C D R)) (k : Nat) (hk : (baseact k || act k) = true) {t0 N : Nat} {cA : ClassId} {K : String} {i : Int32} {v : Value} (ht : (tyL cy)[t0]? = some (cA, .object K)) (he : sh cy a k (C k) (D k) (R k) = .inl (cA, N, .inr (.inr (.inr (.inr (R k)))))) (hd : decode cc pc = .ok (.aaload, 1)) (hin : vp_in i N) (hv : va_rf (R k i.toNatClampNeg) = v) (kk : Go p l e Rm s m args below meth c nL G A cells slots Q L M (pc + 1) lv (v :: st)) : Go p l e Rm s m args below meth c nL G A cells slots Q L M pc lv (.int i :: .ref (a k) :: st) := g_aldq X ht hd (F.1 k hk).2 ((F.1 k hk).1.trans he) hin hv kk
theorem nI_sub_eq {x y z : Nat} (hx : x < 2 ^ 30) (hy : y < 2 ^ 30) (hz : z < 2 ^ 30) (h : nI x - nI y = nI z) : x = y + z := by
  have e : nI x = nI (z + y) := by rw [← nI_add, ← h]; exact (Int32.sub_add_cancel _ _).symm
  have := (nI_eq (a := x) (b := z + y) (by omega) (by omega)).mp e
  omega
theorem nI_ofInt {x : Int32} {lo hi : Int} (h1 : lo ≤ x.toInt) (h2 : x.toInt ≤ hi) (h0 : 0 ≤ lo) : ∃ n : Nat, lo ≤ (n : Int) ∧ (n : Int) ≤ hi ∧ x = nI n := by
  refine ⟨x.toInt.toNat, by omega, by omega, ?_⟩
  apply Int32.toInt_inj.mp
  have h3 : x.toInt < 2 ^ 31 := Int32.toInt_lt x
  rw [nI_toInt (by omega)]
  omega
def okat (f g : Nat → Int32) (j : Nat) : Prop := g j = -1 ∨ ∃ n : Nat, n < 7 ∧ f j = nI n
def NowOk (c3 f g : Nat → Int32) : Prop := ∀ h w : Nat, (h : Int) < (c3 1).toInt → (w : Int) < (c3 8).toInt → w < 8 → okat f g (h * 8 + w)
theorem step_ok {f g f2 g2 : Nat → Int32} {h w : Nat} {v r : Int32} (hf : f2 = upd f ((h + 1) * 8 + w) v) (hg : g2 = upd g (h * 8 + w) r) (hw : w < 8) (hr : r = -1 ∨ ∃ n : Nat, n < 7 ∧ f (h * 8 + w) = nI n) (hp : ∀ x, x < w → okat f g (h * 8 + x)) : ∀ x, x < w + 1 → okat f2 g2 (h * 8 + x) := by
  intro x hx
  by_cases e : x = w
  · subst e
    rcases hr with hr | ⟨n, hn, hr⟩
    · exact Or.inl (by rw [hg, pk_us]; exact hr)
    · exact Or.inr ⟨n, hn, by rw [hf, pk_un (by omega)]; exact hr⟩
  · rcases hp x (by omega) with z | ⟨n, hn, z⟩
    · exact Or.inl (by rw [hg, pk_un (by omega)]; exact z)
    · exact Or.inr ⟨n, hn, by rw [hf, pk_un (by omega)]; exact z⟩
theorem okat_cg {f g f2 g2 : Nat → Int32} {j : Nat} (hf : f2 j = f j) (hg : g2 j = g j) (h : okat f g j) : okat f2 g2 j := by
  unfold okat; rw [hf, hg]; exact h
def seen (d : Nat → Int64) (k : Nat) : Prop := ∀ i : Nat, 3 * i < k → (0 ≤ (d (3 * i)).toInt ∧ (d (3 * i)).toInt ≤ 7) ∧ 0 ≤ (d (3 * i + 1)).toInt ∧ (d (3 * i + 1)).toInt ≤ 16
theorem seen_0 {d : Nat → Int64} : seen d 0 := fun i h => absurd h (Nat.not_lt_zero _)
theorem seen_st {d : Nat → Int64} {k : Nat} (hk : k % 3 = 0) (h : seen d k) (h1 : 0 ≤ (d k).toInt) (h2 : (d k).toInt ≤ 7) (h3 : 0 ≤ (d (k + 1)).toInt) (h4 : (d (k + 1)).toInt ≤ 16) : seen d (k + 3) := by
  intro i hi
  by_cases e : 3 * i = k
  · rw [e]; exact ⟨⟨h1, h2⟩, h3, h4⟩
  · exact h i (by omega)
def qs (x : Int32) : Prop := x = -1 ∨ ∃ n : Nat, x = nI n ∧ n / 100 ≤ 7 ∧ n % 100 ≤ 16 ∧ n ≤ 716
theorem qs_m1 : qs (-1) := Or.inl rfl
theorem qs_of {w h : Nat} (hw : w ≤ 7) (hh : h ≤ 16) : qs (nI (100 * w + h)) := Or.inr ⟨_, rfl, by omega, by omega, by omega⟩
theorem nI_neI {a b : Nat} (ha : a < 2 ^ 31) (hb : b < 2 ^ 31) (h : ¬ nI a = nI b) : a ≠ b := fun e => h (by rw [e])
def us (x k : Int32) : Int32 := (x.toUInt32 >>> (k.toUInt32 &&& Int32.toUInt32 31)).toInt32
def bc1 (x : Int32) : Int32 := x - (us x 1 &&& 1431655765)
def bc2 (x : Int32) : Int32 := (x &&& 858993459) + (us x 2 &&& 858993459)
def bc3 (x : Int32) : Int32 := (x + us x 4) &&& 252645135
def bc4 (x : Int32) : Int32 := x + us x 8
def bc5 (x : Int32) : Int32 := x + us x 16
def bcI (x : Int32) : Int32 := bc5 (bc4 (bc3 (bc2 (bc1 x)))) &&& 63
def bcB (n t q : Nat) : Bool := !(decide (t < 2 ^ n)) || (!(decide (q < n)) || (!(decide ((nI t >>> (nI q &&& 31)) &&& 1 = 0)) || (decide (0 ≤ (bcI (nI t)).toInt) && decide ((bcI (nI t)).toInt + 1 ≤ (n : Int)))))
set_option maxRecDepth 100000 in
theorem bc_all : ((List.range 8).all fun n => (List.range 128).all fun t => (List.range 7).all fun q => bcB n t q) = true := by decide +kernel
theorem bc_le {n t q : Nat} (hn : n ≤ 7) (ht : t < 2 ^ n) (hq : q < n) (h : (nI t >>> (nI q &&& 31)) &&& 1 = 0) : ∃ k : Nat, k + 1 ≤ n ∧ bcI (nI t) = nI k := by
  have h7 : 2 ^ n ≤ 2 ^ 7 := Nat.pow_le_pow_right (by decide) hn
  have hb := List.all_eq_true.mp (List.all_eq_true.mp (List.all_eq_true.mp bc_all n (List.mem_range.mpr (by omega))) t (List.mem_range.mpr (by omega))) q (List.mem_range.mpr (by omega))
  unfold bcB at hb
  rw [decide_eq_true ht, decide_eq_true hq, decide_eq_true h] at hb
  have hb2 : (decide (0 ≤ (bcI (nI t)).toInt) && decide ((bcI (nI t)).toInt + 1 ≤ (n : Int))) = true := hb
  obtain ⟨h1, h2⟩ := (Bool.and_eq_true _ _).mp hb2
  have h1 := of_decide_eq_true h1
  have h2 := of_decide_eq_true h2
  obtain ⟨k, h3, h4, e⟩ := nI_ofInt (lo := 0) (hi := n - 1) h1 (by omega) (by decide)
  exact ⟨k, by omega, e⟩
theorem shl_pow : ∀ n, n < 8 → (1 : Int32) <<< (nI n &&& 31) = nI (2 ^ n) := by decide +kernel
set_option maxRecDepth 100000 in
theorem or_pow0 : ∀ t, t < 128 → ∀ q, q < 7 → 0 ≤ (nI t ||| ((1 : Int32) <<< (nI q &&& 31))).toInt ∧ (nI t ||| ((1 : Int32) <<< (nI q &&& 31))).toInt ≤ 127 := by decide +kernel
theorem or_pow {t q : Nat} (ht : t < 128) (hq : q < 7) : ∃ k : Nat, k ≤ 127 ∧ nI t ||| ((1 : Int32) <<< (nI q &&& 31)) = nI k := by
  obtain ⟨h1, h2⟩ := or_pow0 t ht q hq
  obtain ⟨k, h3, h4, e⟩ := nI_ofInt h1 h2 (by decide)
  exact ⟨k, by omega, e⟩
theorem l2i_nat {x : Int64} {hi : Nat} (h0 : 0 ≤ x.toInt) (h1 : x.toInt ≤ hi) (hh : hi < 2 ^ 31) : ∃ n : Nat, n ≤ hi ∧ x.toInt32 = nI n := by
  have e := Jvm.Kit.i32_of_i64 (x := x) (by omega) (by omega)
  obtain ⟨n, a1, a2, a3⟩ := nI_ofInt (x := x.toInt32) (lo := 0) (hi := hi) (by omega) (by omega) (by decide)
  exact ⟨n, by omega, a3⟩
theorem num_nat {r q : Int32} {lo : Int} {B : Nat} (hlo : 0 ≤ lo) (h : r = 0 ∨ (lo ≤ r.toInt ∧ r.toInt ≤ q.toInt)) (hp : q.toInt ≤ B) : ∃ n : Nat, n ≤ B ∧ r = nI n := by
  rcases h with rfl | ⟨h1, h2⟩
  · exact ⟨0, Nat.zero_le _, rfl⟩
  · obtain ⟨n, a1, a2, a3⟩ := nI_ofInt (x := r) (lo := 0) (hi := B) (by omega) (by omega) (by decide)
    exact ⟨n, by omega, a3⟩
theorem nI_m1 {n : Nat} (h : n < 2 ^ 31) : (nI n - 1).toInt = (n : Int) - 1 := by
  cases n with
  | zero => decide
  | succ k =>
    have e : nI (k + 1) - 1 = nI k := by rw [← nI_add]; exact Int32.add_sub_cancel _ _
    rw [e, nI_toInt (by omega)]; omega
theorem i32_ge {x y : Int32} (h : ¬ x < y) : y.toInt ≤ x.toInt := Int32.le_iff_toInt_le.mp (Int32.not_lt.mp h)
theorem i32_le {x y : Int32} (h : x ≤ y) : x.toInt ≤ y.toInt := Int32.le_iff_toInt_le.mp h
theorem slot_no {x : Int32} {n : Nat} (hn : n ≤ 3) (e : x = nI n) : ¬ (x < 0 ∨ 4 ≤ x) := by
  subst e
  rintro (h | h)
  · exact nI_pos (by omega) h
  · have z := Int32.le_iff_toInt_le.mp h
    rw [nI_toInt (by omega)] at z
    have k : (4 : Int32).toInt = 4 := (by decide)
    omega
theorem rt_nat {x : Int32} (h : rg (-1) 3 x) (hn : ¬ x = -1) : ∃ n : Nat, n ≤ 3 ∧ x = nI n := by
  have h1 : x.toInt ≠ -1 := fun z => hn (Int32.toInt_inj.mp (by rw [z]; decide))
  have h2 := h.1
  obtain ⟨n, a1, a2, a3⟩ := nI_ofInt (x := x) (lo := 0) (hi := 3) (by omega) h.2 (by decide)
  exact ⟨n, by omega, a3⟩
theorem run_st {f g f2 g2 c3 d3 : Nat → Int32} {i : Nat} (hr : (∀ j, j < i * 8 → g2 j = g j) ∧ (∀ j, j < (i + 1) * 8 → f2 j = f j) ∧ ∀ x : Nat, (x : Int) < (d3 8).toInt → x < 8 → okat f2 g2 (i * 8 + x)) (hc : d3 = c3) (h : ∀ h w : Nat, h < i → (w : Int) < (c3 8).toInt → w < 8 → okat f g (h * 8 + w)) : ∀ h w : Nat, h < i + 1 → (w : Int) < (d3 8).toInt → w < 8 → okat f2 g2 (h * 8 + w) := by
  subst hc
  intro h' w h1 h2 h3
  by_cases e : h' = i
  · subst e; exact hr.2.2 w h2 h3
  · exact okat_cg (hr.2.1 _ (by omega)) (hr.1 _ (by omega)) (h h' w (by omega) h2 h3)
def inR (x : Int32) (n : Int) : Prop := 0 ≤ x.toInt ∧ x.toInt < n
def wrS (q i : Int32) (ac : Nat → Bool) (sz : Nat → Int32) : Int32 := if 0 ≤ q.toInt ∧ q.toInt < 4 then (if ac q.toInt.toNat then (if 0 ≤ i.toInt ∧ i.toInt < (sz q.toInt.toNat).toInt then 0 else -7) else -6) else -2
def bkS (q : Int32) (ac : Nat → Bool) : Int32 := if 0 ≤ q.toInt ∧ q.toInt < 3 then (if ac q.toInt.toNat then 0 else -6) else -2
def imS (q : Int32) : Int32 := if 0 ≤ q.toInt ∧ q.toInt < 3 then 0 else -2
def paS (q i t k n : Int32) (ac : Nat → Bool) (sz wi : Nat → Int32) : Int32 := if (0 ≤ q.toInt ∧ q.toInt < 4) ∧ 0 ≤ t.toInt ∧ t.toInt < 4 then (if ac q.toInt.toNat && ac t.toInt.toNat then (if wi q.toInt.toNat = wi t.toInt.toNat then (if (0 ≤ i.toInt ∧ 0 ≤ n.toInt ∧ i.toInt + n.toInt ≤ (sz q.toInt.toNat).toInt) ∧ 0 ≤ k.toInt ∧ k.toInt + n.toInt ≤ (sz t.toInt.toNat).toInt then 0 else -7) else -8) else -6) else -2
theorem bk_t {c : Nat} {ac : Nat → Bool} (hc : c < 3) (h : ac c = true) : 0 = bkS (nI c) ac := by
  unfold bkS; rw [nI_toInt (by omega), if_pos (by omega), Int.toNat_natCast, h]; rfl
theorem bk_f {c : Nat} {ac : Nat → Bool} (hc : c < 3) (h : ac c = false) : -6 = bkS (nI c) ac := by
  unfold bkS; rw [nI_toInt (by omega), if_pos (by omega), Int.toNat_natCast, h]; rfl
theorem bk_out {q : Int32} {ac : Nat → Bool} (h : q < 0 ∨ 3 ≤ q) : -2 = bkS q ac := by
  unfold bkS; rw [if_neg]
  rintro ⟨h1, h2⟩
  rcases h with h | h
  · have z := Int32.lt_iff_toInt_lt.mp h; have k : (0 : Int32).toInt = 0 := (by decide); omega
  · have z := Int32.le_iff_toInt_le.mp h; have k : (3 : Int32).toInt = 3 := (by decide); omega
theorem im_in {c : Nat} (hc : c < 3) : 0 = imS (nI c) := by unfold imS; rw [nI_toInt (by omega), if_pos (by omega)]
theorem im_out {q : Int32} (h : q < 0 ∨ 3 ≤ q) : -2 = imS q := by
  unfold imS; rw [if_neg]
  rintro ⟨h1, h2⟩
  rcases h with h | h
  · have z := Int32.lt_iff_toInt_lt.mp h; have k : (0 : Int32).toInt = 0 := (by decide); omega
  · have z := Int32.le_iff_toInt_le.mp h; have k : (3 : Int32).toInt = 3 := (by decide); omega
theorem not4 {q : Int32} (h : q < 0 ∨ 4 ≤ q) : ¬ (0 ≤ q.toInt ∧ q.toInt < 4) := by
  rintro ⟨h1, h2⟩
  rcases h with h | h
  · have z := Int32.lt_iff_toInt_lt.mp h; have k : (0 : Int32).toInt = 0 := (by decide); omega
  · have z := Int32.le_iff_toInt_le.mp h; have k : (4 : Int32).toInt = 4 := (by decide); omega
theorem wr_out {q i : Int32} {ac : Nat → Bool} {sz : Nat → Int32} (h : q < 0 ∨ 4 ≤ q) : -2 = wrS q i ac sz := by
  unfold wrS; rw [if_neg (not4 h)]
theorem wr_no {c : Nat} {i : Int32} {ac : Nat → Bool} {sz : Nat → Int32} (hc : c < 4) (h : ac c = false) : -6 = wrS (nI c) i ac sz := by
  unfold wrS; rw [nI_toInt (by omega), if_pos (by omega), Int.toNat_natCast, h]; rfl
theorem wr_b {c : Nat} {i : Int32} {ac : Nat → Bool} {sz : Nat → Int32} (hc : c < 4) (h : ac c = true) (hi : ¬ (0 ≤ i.toInt ∧ i.toInt < (sz c).toInt)) : -7 = wrS (nI c) i ac sz := by
  unfold wrS; rw [nI_toInt (by omega), if_pos (by omega), Int.toNat_natCast, h, if_pos rfl, if_neg hi]
theorem wr_k {c : Nat} {i : Int32} {ac : Nat → Bool} {sz : Nat → Int32} (hc : c < 4) (h : ac c = true) (hi : 0 ≤ i.toInt ∧ i.toInt < (sz c).toInt) : 0 = wrS (nI c) i ac sz := by
  unfold wrS; rw [nI_toInt (by omega), if_pos (by omega), Int.toNat_natCast, h, if_pos rfl, if_pos hi]
theorem pa_out {q i t k n : Int32} {ac : Nat → Bool} {sz wi : Nat → Int32} (h : (q < 0 ∨ 4 ≤ q) ∨ (t < 0 ∨ 4 ≤ t)) : -2 = paS q i t k n ac sz wi := by
  unfold paS; rw [if_neg]
  rintro ⟨h1, h2⟩
  rcases h with h | h
  · exact not4 h h1
  · exact not4 h h2
theorem pa_in {c d : Nat} {i k n : Int32} {ac : Nat → Bool} {sz wi : Nat → Int32} (hc : c < 4) (hd : d < 4) : paS (nI c) i (nI d) k n ac sz wi = if ac c && ac d then (if wi c = wi d then (if (0 ≤ i.toInt ∧ 0 ≤ n.toInt ∧ i.toInt + n.toInt ≤ (sz c).toInt) ∧ 0 ≤ k.toInt ∧ k.toInt + n.toInt ≤ (sz d).toInt then 0 else -7) else -8) else -6 := by
  unfold paS; rw [nI_toInt (by omega), nI_toInt (by omega), if_pos (by omega), Int.toNat_natCast, Int.toNat_natCast]
theorem pa_no {c d : Nat} {i k n : Int32} {ac : Nat → Bool} {sz wi : Nat → Int32} (hc : c < 4) (hd : d < 4) (h : ac c = false ∨ ac d = false) : -6 = paS (nI c) i (nI d) k n ac sz wi := by
  rw [pa_in hc hd, if_neg]
  rcases h with h | h <;> rw [h] <;> simp
theorem pa_w {c d : Nat} {i k n : Int32} {ac : Nat → Bool} {sz wi : Nat → Int32} (hc : c < 4) (hd : d < 4) (h1 : ac c = true) (h2 : ac d = true) (h : ¬ wi c = wi d) : -8 = paS (nI c) i (nI d) k n ac sz wi := by
  rw [pa_in hc hd, if_pos (by rw [h1, h2]; rfl), if_neg h]
theorem pa_b {c d : Nat} {i k n : Int32} {ac : Nat → Bool} {sz wi : Nat → Int32} (hc : c < 4) (hd : d < 4) (h1 : ac c = true) (h2 : ac d = true) (h : wi c = wi d) (hb : ¬ ((0 ≤ i.toInt ∧ 0 ≤ n.toInt ∧ i.toInt + n.toInt ≤ (sz c).toInt) ∧ 0 ≤ k.toInt ∧ k.toInt + n.toInt ≤ (sz d).toInt)) : -7 = paS (nI c) i (nI d) k n ac sz wi := by
  rw [pa_in hc hd, if_pos (by rw [h1, h2]; rfl), if_pos h, if_neg hb]
theorem pa_k {c d : Nat} {i k n : Int32} {ac : Nat → Bool} {sz wi : Nat → Int32} (hc : c < 4) (hd : d < 4) (h1 : ac c = true) (h2 : ac d = true) (h : wi c = wi d) (hb : (0 ≤ i.toInt ∧ 0 ≤ n.toInt ∧ i.toInt + n.toInt ≤ (sz c).toInt) ∧ 0 ≤ k.toInt ∧ k.toInt + n.toInt ≤ (sz d).toInt) : 0 = paS (nI c) i (nI d) k n ac sz wi := by
  rw [pa_in hc hd, if_pos (by rw [h1, h2]; rfl), if_pos h, if_pos hb]
theorem ladd_n {x y : Nat} (hx : x < 2 ^ 31) (hy : y < 2 ^ 31) : ((nI x).toInt64 + (nI y).toInt64).toInt = (x : Int) + y := by
  have a := Jvm.Kit.i64_of_i32 (nI x); have b := Jvm.Kit.i64_of_i32 (nI y)
  rw [nI_toInt hx] at a; rw [nI_toInt hy] at b
  rw [Jvm.Kit.i64_add (by omega) (by omega), a, b]
theorem i_copyl (X : Cx p s m args meth c own cc nL G cy A) (F : WI L M a act (ent cy a C D R)) (k0 : Nat) (hk0 : (baseact k0 || act k0) = true) (k1 : Nat) (hk1 : (baseact k1 || act k1) = true) {idx t0 N0 N1 : Nat} {cA : ClassId} {ty : FieldType} {sp dp nn : Int32} (he0 : sh cy a k0 (C k0) (D k0) (R k0) = .inl (cA, N0, .inr (.inl (D k0)))) (he1 : ∀ z, sh cy a k1 (C k1) z (R k1) = .inl (cA, N1, .inr (.inl z))) (ht : (tyL cy)[t0]? = some (cA, ty)) (hprim : refKind ty = false) (h1 : Cond.methodLink own idx arraycopyName ∈ tblG) (h2 : Cond.native arraycopyName ∈ tblG) (h3 : Cond.static arraycopyName ∈ tblG) (h4 : Cond.initialized "java/lang/System" ∈ tblG) (c1 : ¬ sp < 0) (c2 : ¬ dp < 0) (c3 : ¬ nn < 0) (c4 : sp.toNatClampNeg + nn.toNatClampNeg ≤ N0) (c5 : dp.toNatClampNeg + nn.toNatClampNeg ≤ N1) (hfit : ∀ i, i < nn.toNatClampNeg → fits ty (.long (D k0 (sp.toNatClampNeg + i))) = true) (hn1 : 1 ≤ Rm.frames) (hlo : (st.map fun v => v.category).sum + (nativeFrameWords "java/lang/System" "arraycopy" 5 + 11) ≤ Rm.locals) (hd : decode cc pc = .ok (.invokestatic idx, 3)) (kk : ∀ (M : Nat → va_E) (D2 : Nat → Nat → Int64), WI L M a act (ent cy a C D2 R) → Kp [k1] C D C D2 → Go p l e Rm s m args below meth c nL G A cells slots Q L M (pc + 3) lv st) : Go p l e Rm s m args below meth c nL G A cells slots Q L M pc lv (.int nn :: .int dp :: .ref (a k1) :: .int sp :: .ref (a k0) :: st) := by
  intro H locs ls hP hD hS hl
  obtain ⟨q0, -, hq0⟩ := pl_at (F.1 k0 hk0).2 ((F.1 k0 hk0).1.trans he0)
  obtain ⟨q1, hq1, hq2⟩ := pl_at (F.1 k1 hk1).2 ((F.1 k1 hk1).1.trans (he1 (D k1)))
  refine va_copyl X.1 X.2.1 (by rw [X.2.2.1]; exact hl.1.symm) X.2.2.2.1 (X.2.2.2.2.1 _ h1) (X.2.2.2.2.1 _ h2) (X.2.2.2.2.1 _ h3) (X.2.2.2.2.1 _ h4) X.2.2.2.2.2.2.1 hP hD hS q0 q1 t0 t0 hq0 hq2 ht ht hprim c1 c2 c3 c4 c5 hfit hn1 hlo hd (fun H1 locs1 hP1 hD1 hS1 => ?_)
  rw [pl_set hD (F.1 k1 hk1).2 hq1] at hP1 hD1
  have F2 := F.set (E2 := ent cy a C (va_up D k1 (va_cpy (D k0) (D k1) sp.toNatClampNeg dp.toNatClampNeg nn.toNatClampNeg)) R) hk1 ent_neD
  have e2 : ent cy a C (va_up D k1 (va_cpy (D k0) (D k1) sp.toNatClampNeg dp.toNatClampNeg nn.toNatClampNeg)) R k1 = .inl (cA, N1, .inr (.inl (va_cpy (D k0) (D k1) sp.toNatClampNeg dp.toNatClampNeg nn.toNatClampNeg))) := by unfold ent; rw [va_up_self]; exact he1 _
  rw [e2] at F2
  exact kk _ _ F2 kpD H1 locs1 ls hP1 hD1 hS1 hl
end IROWS
