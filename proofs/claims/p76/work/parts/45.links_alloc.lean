theorem dX5_begin_0 : decode cX5_begin 0 = .ok (.aload_n 0, 1) := by decide +kernel
theorem dX5_begin_1 : decode cX5_begin 1 = .ok (.iload_n 1, 1) := by decide +kernel
theorem dX5_begin_2 : decode cX5_begin 2 = .ok (.putfield 15, 3) := by decide +kernel
theorem dX5_begin_5 : decode cX5_begin 5 = .ok (.aload_n 0, 1) := by decide +kernel
theorem dX5_begin_6 : decode cX5_begin 6 = .ok (.iload_n 2, 1) := by decide +kernel
theorem dX5_begin_7 : decode cX5_begin 7 = .ok (.putfield 19, 3) := by decide +kernel
theorem dX5_begin_10 : decode cX5_begin 10 = .ok (.aload_n 0, 1) := by decide +kernel
theorem dX5_begin_11 : decode cX5_begin 11 = .ok (.getfield 9, 3) := by decide +kernel
theorem dX5_begin_14 : decode cX5_begin 14 = .ok (.lconst 0, 1) := by decide +kernel
theorem dX5_begin_15 : decode cX5_begin 15 = .ok (.invokestatic 22, 3) := by decide +kernel
theorem dX5_begin_18 : decode cX5_begin 18 = .ok (.return_, 1) := by decide +kernel
theorem dX7_image_0 : decode cX7_image 0 = .ok (.iload_n 1, 1) := by decide +kernel
theorem dX7_image_1 : decode cX7_image 1 = .ok (.ifCond .lt 8, 3) := by decide +kernel
theorem dX7_image_4 : decode cX7_image 4 = .ok (.iload_n 1, 1) := by decide +kernel
theorem dX7_image_5 : decode cX7_image 5 = .ok (.iconst 3, 1) := by decide +kernel
theorem dX7_image_6 : decode cX7_image 6 = .ok (.if_icmp .lt 6, 3) := by decide +kernel
theorem dX7_image_9 : decode cX7_image 9 = .ok (.bipush (-2), 2) := by decide +kernel
theorem dX7_image_11 : decode cX7_image 11 = .ok (.ireturn, 1) := by decide +kernel
theorem dX7_image_12 : decode cX7_image 12 = .ok (.aload_n 0, 1) := by decide +kernel
theorem dX7_image_13 : decode cX7_image 13 = .ok (.getfield 26, 3) := by decide +kernel
theorem dX7_image_16 : decode cX7_image 16 = .ok (.iload_n 1, 1) := by decide +kernel
theorem dX7_image_17 : decode cX7_image 17 = .ok (.aaload, 1) := by decide +kernel
theorem dX7_image_18 : decode cX7_image 18 = .ok (.ifnonnull 16, 3) := by decide +kernel
theorem dX7_image_21 : decode cX7_image 21 = .ok (.aload_n 0, 1) := by decide +kernel
theorem dX7_image_22 : decode cX7_image 22 = .ok (.getfield 26, 3) := by decide +kernel
theorem dX7_image_25 : decode cX7_image 25 = .ok (.iload_n 1, 1) := by decide +kernel
theorem dX7_image_26 : decode cX7_image 26 = .ok (.new 16, 3) := by decide +kernel
theorem dX7_image_29 : decode cX7_image 29 = .ok (.dup, 1) := by decide +kernel
theorem dX7_image_30 : decode cX7_image 30 = .ok (.invokespecial 18, 3) := by decide +kernel
theorem dX7_image_33 : decode cX7_image 33 = .ok (.aastore, 1) := by decide +kernel
theorem dX7_image_34 : decode cX7_image 34 = .ok (.aload_n 0, 1) := by decide +kernel
theorem dX7_image_35 : decode cX7_image 35 = .ok (.getfield 26, 3) := by decide +kernel
theorem dX7_image_38 : decode cX7_image 38 = .ok (.iload_n 1, 1) := by decide +kernel
theorem dX7_image_39 : decode cX7_image 39 = .ok (.aaload, 1) := by decide +kernel
theorem dX7_image_40 : decode cX7_image 40 = .ok (.aload_n 0, 1) := by decide +kernel
theorem dX7_image_41 : decode cX7_image 41 = .ok (.getfield 19, 3) := by decide +kernel
theorem dX7_image_44 : decode cX7_image 44 = .ok (.invokevirtual 87, 3) := by decide +kernel
theorem dX7_image_47 : decode cX7_image 47 = .ok (.iconst 0, 1) := by decide +kernel
theorem dX7_image_48 : decode cX7_image 48 = .ok (.ireturn, 1) := by decide +kernel
theorem dX7_row_0 : decode cX7_row 0 = .ok (.iload_n 1, 1) := by decide +kernel
theorem dX7_row_1 : decode cX7_row 1 = .ok (.invokestatic 389, 3) := by decide +kernel
theorem dX7_row_4 : decode cX7_row 4 = .ok (.ifCond .eq 18, 3) := by decide +kernel
theorem dX7_row_7 : decode cX7_row 7 = .ok (.iload_n 2, 1) := by decide +kernel
theorem dX7_row_8 : decode cX7_row 8 = .ok (.ifCond .lt 14, 3) := by decide +kernel
theorem dX7_row_11 : decode cX7_row 11 = .ok (.iload_n 2, 1) := by decide +kernel
theorem dX7_row_12 : decode cX7_row 12 = .ok (.iconst 3, 1) := by decide +kernel
theorem dX7_row_13 : decode cX7_row 13 = .ok (.if_icmp .gt 9, 3) := by decide +kernel
theorem dX7_row_16 : decode cX7_row 16 = .ok (.iload_n 3, 1) := by decide +kernel
theorem dX7_row_17 : decode cX7_row 17 = .ok (.bipush 60, 2) := by decide +kernel
theorem dX7_row_19 : decode cX7_row 19 = .ok (.if_icmp .le 6, 3) := by decide +kernel
theorem dX7_row_22 : decode cX7_row 22 = .ok (.bipush (-2), 2) := by decide +kernel
theorem dX7_row_24 : decode cX7_row 24 = .ok (.ireturn, 1) := by decide +kernel
theorem dX7_row_25 : decode cX7_row 25 = .ok (.iload_n 3, 1) := by decide +kernel
theorem dX7_row_26 : decode cX7_row 26 = .ok (.ifCond .ge 6, 3) := by decide +kernel
theorem dX7_row_29 : decode cX7_row 29 = .ok (.bipush (-3), 2) := by decide +kernel
theorem dX7_row_31 : decode cX7_row 31 = .ok (.ireturn, 1) := by decide +kernel
theorem dX7_row_32 : decode cX7_row 32 = .ok (.aload_n 0, 1) := by decide +kernel
theorem dX7_row_33 : decode cX7_row 33 = .ok (.getfield 32, 3) := by decide +kernel
theorem dX7_row_36 : decode cX7_row 36 = .ok (.iload_n 1, 1) := by decide +kernel
theorem dX7_row_37 : decode cX7_row 37 = .ok (.aaload, 1) := by decide +kernel
theorem dX7_row_38 : decode cX7_row 38 = .ok (.ifnonnull 16, 3) := by decide +kernel
theorem dX7_row_41 : decode cX7_row 41 = .ok (.aload_n 0, 1) := by decide +kernel
theorem dX7_row_42 : decode cX7_row 42 = .ok (.getfield 32, 3) := by decide +kernel
theorem dX7_row_45 : decode cX7_row 45 = .ok (.iload_n 1, 1) := by decide +kernel
theorem dX7_row_46 : decode cX7_row 46 = .ok (.new 30, 3) := by decide +kernel
theorem dX7_row_49 : decode cX7_row 49 = .ok (.dup, 1) := by decide +kernel
theorem dX7_row_50 : decode cX7_row 50 = .ok (.invokespecial 392, 3) := by decide +kernel
theorem dX7_row_53 : decode cX7_row 53 = .ok (.aastore, 1) := by decide +kernel
theorem dX7_row_54 : decode cX7_row 54 = .ok (.aload_n 0, 1) := by decide +kernel
theorem dX7_row_55 : decode cX7_row 55 = .ok (.getfield 32, 3) := by decide +kernel
theorem dX7_row_58 : decode cX7_row 58 = .ok (.iload_n 1, 1) := by decide +kernel
theorem dX7_row_59 : decode cX7_row 59 = .ok (.aaload, 1) := by decide +kernel
theorem dX7_row_60 : decode cX7_row 60 = .ok (.iload_n 2, 1) := by decide +kernel
theorem dX7_row_61 : decode cX7_row 61 = .ok (.iload_n 3, 1) := by decide +kernel
theorem dX7_row_62 : decode cX7_row 62 = .ok (.invokevirtual 393, 3) := by decide +kernel
theorem dX7_row_65 : decode cX7_row 65 = .ok (.iconst 0, 1) := by decide +kernel
theorem dX7_row_66 : decode cX7_row 66 = .ok (.ireturn, 1) := by decide +kernel
theorem base_no : ∀ k, k < 88 → 50 ≤ k → baseact k = false := by decide
theorem noact50 {a : Nat → Nat} {act : Nat → Bool} {R : Nat → Nat → Option Nat} (HR : RA a act R) (h : act 50 = false) : ∀ k, 50 ≤ k ∧ k < 50 + 10 → (baseact k || act k) = false := by
  intro k hk
  have e := HR.2.2.2 0 (by decide) (k - 50) (by omega)
  rw [show 50 + 10 * 0 + (k - 50) = k by omega] at e
  rw [base_no k (by omega) (by omega), e]
  exact h
theorem noact60 {a : Nat → Nat} {act : Nat → Bool} {R : Nat → Nat → Option Nat} (HR : RA a act R) (h : act 60 = false) : ∀ k, 60 ≤ k ∧ k < 60 + 10 → (baseact k || act k) = false := by
  intro k hk
  have e := HR.2.2.2 1 (by decide) (k - 60) (by omega)
  rw [show 50 + 10 * 1 + (k - 60) = k by omega] at e
  rw [base_no k (by omega) (by omega), e]
  exact h
theorem noact70 {a : Nat → Nat} {act : Nat → Bool} {R : Nat → Nat → Option Nat} (HR : RA a act R) (h : act 70 = false) : ∀ k, 70 ≤ k ∧ k < 70 + 10 → (baseact k || act k) = false := by
  intro k hk
  have e := HR.2.2.2 2 (by decide) (k - 70) (by omega)
  rw [show 50 + 10 * 2 + (k - 70) = k by omega] at e
  rw [base_no k (by omega) (by omega), e]
  exact h
theorem noact80 {a : Nat → Nat} {act : Nat → Bool} {R : Nat → Nat → Option Nat} (HR : RA a act R) (h : act 80 = false) : ∀ k, 80 ≤ k ∧ k < 80 + 2 → (baseact k || act k) = false := by
  intro k hk
  rcases (show k = 80 ∨ k = 81 by omega) with rfl | rfl
  · rw [h]; decide
  · have e := HR.2.2.1 0 (by decide)
    have e2 : act 81 = false := e.trans h
    rw [e2]; decide
theorem noact82 {a : Nat → Nat} {act : Nat → Bool} {R : Nat → Nat → Option Nat} (HR : RA a act R) (h : act 82 = false) : ∀ k, 82 ≤ k ∧ k < 82 + 2 → (baseact k || act k) = false := by
  intro k hk
  rcases (show k = 82 ∨ k = 83 by omega) with rfl | rfl
  · rw [h]; decide
  · have e := HR.2.2.1 1 (by decide)
    have e2 : act 83 = false := e.trans h
    rw [e2]; decide
theorem noact84 {a : Nat → Nat} {act : Nat → Bool} {R : Nat → Nat → Option Nat} (HR : RA a act R) (h : act 84 = false) : ∀ k, 84 ≤ k ∧ k < 84 + 2 → (baseact k || act k) = false := by
  intro k hk
  rcases (show k = 84 ∨ k = 85 by omega) with rfl | rfl
  · rw [h]; decide
  · have e := HR.2.2.1 2 (by decide)
    have e2 : act 85 = false := e.trans h
    rw [e2]; decide
theorem noact86 {a : Nat → Nat} {act : Nat → Bool} {R : Nat → Nat → Option Nat} (HR : RA a act R) (h : act 86 = false) : ∀ k, 86 ≤ k ∧ k < 86 + 2 → (baseact k || act k) = false := by
  intro k hk
  rcases (show k = 86 ∨ k = 87 by omega) with rfl | rfl
  · rw [h]; decide
  · have e := HR.2.2.1 3 (by decide)
    have e2 : act 87 = false := e.trans h
    rw [e2]; decide
theorem wd1095 : Cond.methodLink RX5 22 yJ7_fill_d0a16 ∈ tblG := gw6 8 (by decide +kernel) (by decide +kernel)
theorem lk_X5_22 : LkS RX5 22 yJ7_fill_d0a16 cJ7_fill_d0a16 5 none 2 := ⟨wd1095, wd527, wd102, wd528, pl_J7_fill_d0a16⟩
theorem wd1096 : Cond.instantiable RX5 3 ∈ tblG := gw5 226 (by decide +kernel) (by decide +kernel)
theorem wd1097 : Cond.instanceMethod yX5_init ∈ tblG := gw5 228 (by decide +kernel) (by decide +kernel)
theorem wd1098 : Cond.code yX5_init cX5_init 1 none ∈ tblG := gw5 229 (by decide +kernel) (by decide +kernel)
theorem pl_X5_init : Plain yX5_init 0 := ⟨by decide, by decide, by decide +kernel⟩
theorem lk_X7_392 : LkI RX7 392 yX5_init cX5_init 1 0 := ⟨Or.inr ⟨"ObligingPosts", List.mem_of_getElem? (i := 66) (by decide +kernel)⟩, rfl, wd1097, wd633, wd1098, pl_X5_init⟩
theorem wd1099 : Cond.methodLink RX7 393 yX5_begin ∈ tblG := gw6 4 (by decide +kernel) (by decide +kernel)
theorem wd1100 : Cond.instanceMethod yX5_begin ∈ tblG := gw6 5 (by decide +kernel) (by decide +kernel)
theorem wd1101 : Cond.selects RX5 yX5_begin yX5_begin ∈ tblG := gw6 6 (by decide +kernel) (by decide +kernel)
theorem wd1102 : Cond.code yX5_begin cX5_begin 3 none ∈ tblG := gw6 7 (by decide +kernel) (by decide +kernel)
theorem pl_X5_begin : Plain yX5_begin 2 := ⟨by decide, by decide, by decide +kernel⟩
theorem lk_X7_393 : LkV RX7 393 5 yX5_begin cX5_begin 3 none 2 := ⟨⟨TX5, 3, rfl⟩, wd1099, wd1100, wd1101, wd633, wd1102, pl_X5_begin⟩
