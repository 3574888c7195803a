def tyL (cy : Nat → ClassId) : List (ClassId × FieldType) := [(cy 0, .byte), (cy 1, .int), (cy 2, .long), (cy 3, .boolean), (cy 4, .object "ObligingPosts$Heath"), (cy 5, .object "ObligingPosts$Slot")]
def nsW : List Cond := [.fieldLinkNest "ObligingPosts" 73 "ObligingPosts$Tape" "size" "I" "ObligingPosts", .fieldLinkNest "ObligingPosts" 84 "ObligingPosts$Tape" "fault" "I" "ObligingPosts", .fieldLinkNest "ObligingPosts" 93 "ObligingPosts$Heath" "lines" "I" "ObligingPosts", .fieldLinkNest "ObligingPosts" 96 "ObligingPosts$Tape" "faultPlace" "I" "ObligingPosts", .fieldLinkNest "ObligingPosts" 103 "ObligingPosts$Heath" "rooms" "[I" "ObligingPosts", .fieldLinkNest "ObligingPosts" 109 "ObligingPosts$Heath" "roadsOf" "[I" "ObligingPosts", .fieldLinkNest "ObligingPosts" 119 "ObligingPosts$Heath" "toldArms" "[I" "ObligingPosts", .fieldLinkNest "ObligingPosts" 128 "ObligingPosts$Heath" "starts" "[I" "ObligingPosts", .fieldLinkNest "ObligingPosts" 131 "ObligingPosts$Heath" "comings" "[I" "ObligingPosts", .fieldLinkNest "ObligingPosts" 168 "ObligingPosts$Heath" "hours" "I" "ObligingPosts", .fieldLinkNest "ObligingPosts" 219 "ObligingPosts$Heath" "posts" "I" "ObligingPosts", .fieldLinkNest "ObligingPosts" 240 "ObligingPosts$Lone" "timesSent" "I" "ObligingPosts", .fieldLinkNest "ObligingPosts" 249 "ObligingPosts$Night" "arms" "[I" "ObligingPosts", .fieldLinkNest "ObligingPosts" 263 "ObligingPosts$Lone" "arms" "[I" "ObligingPosts", .fieldLinkNest "ObligingPosts" 276 "ObligingPosts$Heath" "walkers" "I" "ObligingPosts", .fieldLinkNest "ObligingPosts" 336 "ObligingPosts$Fog" "weights" "[J" "ObligingPosts", .fieldLinkNest "ObligingPosts" 340 "ObligingPosts$Fog" "whole" "J" "ObligingPosts", .fieldLinkNest "ObligingPosts" 344 "ObligingPosts$Heath" "acts" "LObligingPosts$Acts;" "ObligingPosts", .fieldLinkNest "ObligingPosts" 354 "ObligingPosts$Acts" "size" "I" "ObligingPosts", .fieldLinkNest "ObligingPosts" 371 "ObligingPosts$Heath" "law" "I" "ObligingPosts", .fieldLinkNest "ObligingPosts" 374 "ObligingPosts$Heath" "odds" "I" "ObligingPosts", .fieldLinkNest "ObligingPosts" 377 "ObligingPosts$Heath" "inns" "I" "ObligingPosts", .fieldLinkNest "ObligingPosts" 380 "ObligingPosts$Heath" "roads" "I" "ObligingPosts", .fieldLinkNest "ObligingPosts" 383 "ObligingPosts$Heath" "armLines" "I" "ObligingPosts", .fieldLinkNest "ObligingPosts" 395 "ObligingPosts$Slot" "size" "I" "ObligingPosts", .fieldLinkNest "ObligingPosts" 400 "ObligingPosts$Slot" "width" "I" "ObligingPosts", .fieldLinkNest "ObligingPosts" 406 "ObligingPosts$Slot" "numbers" "[J" "ObligingPosts", .fieldLinkNest "ObligingPosts" 425 "ObligingPosts$Night" "law" "I" "ObligingPosts", .fieldLinkNest "ObligingPosts" 426 "ObligingPosts$Night" "foggy" "I" "ObligingPosts", .fieldLinkNest "ObligingPosts" 429 "ObligingPosts$Night" "turning" "I" "ObligingPosts", .fieldLinkNest "ObligingPosts" 432 "ObligingPosts$Night" "comings" "[I" "ObligingPosts", .fieldLinkNest "ObligingPosts" 441 "ObligingPosts$Night" "places" "[I" "ObligingPosts", .fieldLinkNest "ObligingPosts$Fog" 55 "ObligingPosts$Heath" "odds" "I" "ObligingPosts", .fieldLinkNest "ObligingPosts$Fog" 60 "ObligingPosts$Night" "foggy" "I" "ObligingPosts", .fieldLinkNest "ObligingPosts$Fog" 67 "ObligingPosts$Heath" "walkers" "I" "ObligingPosts", .fieldLinkNest "ObligingPosts$Fog" 70 "ObligingPosts$Heath" "hours" "I" "ObligingPosts", .fieldLinkNest "ObligingPosts$Lone" 23 "ObligingPosts$Heath" "toldArms" "[I" "ObligingPosts", .fieldLinkNest "ObligingPosts$Lone" 34 "ObligingPosts$Heath" "posts" "I" "ObligingPosts", .fieldLinkNest "ObligingPosts$Lone" 37 "ObligingPosts$Heath" "roadsOf" "[I" "ObligingPosts", .fieldLinkNest "ObligingPosts$Lone" 44 "ObligingPosts$Heath" "law" "I" "ObligingPosts", .fieldLinkNest "ObligingPosts$Night" 41 "ObligingPosts$Heath" "law" "I" "ObligingPosts", .fieldLinkNest "ObligingPosts$Night" 44 "ObligingPosts$Heath" "comings" "[I" "ObligingPosts", .fieldLinkNest "ObligingPosts$Night" 51 "ObligingPosts$Heath" "toldArms" "[I" "ObligingPosts", .fieldLinkNest "ObligingPosts$Night" 57 "ObligingPosts$Heath" "hours" "I" "ObligingPosts", .fieldLinkNest "ObligingPosts$Night" 64 "ObligingPosts$Heath" "walkers" "I" "ObligingPosts", .fieldLinkNest "ObligingPosts$Night" 67 "ObligingPosts$Heath" "starts" "[I" "ObligingPosts", .fieldLinkNest "ObligingPosts$Night" 87 "ObligingPosts$Heath" "posts" "I" "ObligingPosts", .fieldLinkNest "ObligingPosts$Night" 94 "ObligingPosts$Heath" "acts" "LObligingPosts$Acts;" "ObligingPosts", .fieldLinkNest "ObligingPosts$Night" 129 "ObligingPosts$Heath" "rooms" "[I" "ObligingPosts", .fieldLinkNest "ObligingPosts$Night" 135 "ObligingPosts$Heath" "roadsOf" "[I" "ObligingPosts", .fieldLinkNest "ObligingPosts$Tape" 52 "ObligingPosts$Heath" "lines" "I" "ObligingPosts", .fieldLinkNest "ObligingPosts$Tape" 103 "ObligingPosts$Heath" "hours" "I" "ObligingPosts", .fieldLinkNest "ObligingPosts$Tape" 107 "ObligingPosts$Heath" "law" "I" "ObligingPosts", .fieldLinkNest "ObligingPosts$Tape" 111 "ObligingPosts$Heath" "odds" "I" "ObligingPosts", .fieldLinkNest "ObligingPosts$Tape" 113 "ObligingPosts$Heath" "inns" "I" "ObligingPosts", .fieldLinkNest "ObligingPosts$Tape" 122 "ObligingPosts$Heath" "rooms" "[I" "ObligingPosts", .fieldLinkNest "ObligingPosts$Tape" 126 "ObligingPosts$Heath" "posts" "I" "ObligingPosts", .fieldLinkNest "ObligingPosts$Tape" 129 "ObligingPosts$Heath" "roads" "I" "ObligingPosts", .fieldLinkNest "ObligingPosts$Tape" 135 "ObligingPosts$Heath" "roadsOf" "[I" "ObligingPosts", .fieldLinkNest "ObligingPosts$Tape" 145 "ObligingPosts$Heath" "armLines" "I" "ObligingPosts", .fieldLinkNest "ObligingPosts$Tape" 148 "ObligingPosts$Heath" "toldArms" "[I" "ObligingPosts", .fieldLinkNest "ObligingPosts$Tape" 151 "ObligingPosts$Heath" "walkers" "I" "ObligingPosts", .fieldLinkNest "ObligingPosts$Tape" 156 "ObligingPosts$Heath" "starts" "[I" "ObligingPosts", .fieldLinkNest "ObligingPosts$Tape" 159 "ObligingPosts$Heath" "comings" "[I" "ObligingPosts", .methodLinkNest "ObligingPosts" 11 ⟨"ObligingPosts$Tape", "<init>", "()V"⟩ "ObligingPosts", .methodLinkNest "ObligingPosts" 18 ⟨"ObligingPosts$Heath", "<init>", "()V"⟩ "ObligingPosts", .methodLinkNest "ObligingPosts" 392 ⟨"ObligingPosts$Slot", "<init>", "()V"⟩ "ObligingPosts", .methodLinkNest "ObligingPosts$Heath" 60 ⟨"ObligingPosts$Acts", "<init>", "()V"⟩ "ObligingPosts"]
def isNs : Cond → Bool
  | .fieldLinkNest _ _ _ _ _ _ => true
  | .methodLinkNest _ _ _ _ => true
  | _ => false
theorem nsW_ns : nsW.all isNs = true := by decide +kernel
theorem isNs_on {w : Cond} (hn : isNs w = true) : w.onTables = true := by
  cases w <;> first | rfl | cases hn
def NW (U : State) : Prop := (∀ w ∈ nsW, va_Nw w U) ∧ va_AO "ObligingPosts$Heath" U ∧ va_AO "ObligingPosts$Slot" U
theorem ns_warm {w : Cond} (hn : isNs w = true) {s U : State} (hW : s.WarmedH U.vm) (h : va_Nw w s) : va_Nw w U := by
  cases w <;> first | exact va_Nw.warmF hW h | exact va_Nw.warmM hW h | cases hn
theorem NW.warm {s U : State} (hW : s.WarmedH U.vm) (h : NW s) : NW U := ⟨fun w hw => ns_warm (List.all_eq_true.mp nsW_ns w hw) hW (h.1 w hw), h.2.1.moved hW.alike, h.2.2.moved hW.alike⟩
theorem NW.same {u U : State} (e : u.vm = U.vm) (h : NW u) : NW U := ⟨fun w hw => va_Nw.same (isNs_on (List.all_eq_true.mp nsW_ns w hw)) e (h.1 w hw), h.2.1.moved (e ▸ Vm.Alike.refl u.vm), h.2.2.moved (e ▸ Vm.Alike.refl u.vm)⟩
theorem gAll : GoodIn tblG tblG := fun w hw => ⟨hw, good_of_word (List.mem_filter.mp hw).2⟩
theorem gCode {w : Cond} (h : w ∈ tblG) : GoodIn tblG (w :: tblG) := fun x hx => (List.mem_cons.mp hx).elim (fun q => by rw [q]; exact gAll w h) (gAll x)
/-- facts on a memory: at these addresses, all apart, these cells -/
def FW (L : List Nat) (M : Nat → va_E) (fl : List (Nat × va_E)) : Prop := (∀ (k : Nat) (q : Nat × va_E), fl[k]? = some q → M q.1 = q.2 ∧ q.1 ∈ L) ∧ ∀ (i j : Nat) (p q : Nat × va_E), fl[i]? = some p → fl[j]? = some q → p.1 = q.1 → i = j
theorem FW.at {L : List Nat} {M : Nat → va_E} {fl : List (Nat × va_E)} (F : FW L M fl) (k : Nat) {a : Nat} {e : va_E} (h : fl[k]? = some (a, e)) : M a = e := (F.1 k _ h).1
theorem FW.mem {L : List Nat} {M : Nat → va_E} {fl : List (Nat × va_E)} (F : FW L M fl) (k : Nat) {a : Nat} {e : va_E} (h : fl[k]? = some (a, e)) : a ∈ L := (F.1 k _ h).2
theorem FW.ne {L : List Nat} {M : Nat → va_E} {fl : List (Nat × va_E)} (F : FW L M fl) (i j : Nat) {a b : Nat} {d e : va_E} (hi : fl[i]? = some (a, d)) (hj : fl[j]? = some (b, e)) (hij : i ≠ j) : a ≠ b := fun q => hij (F.2 i j _ _ hi hj q)
theorem FW.nil {L : List Nat} {M : Nat → va_E} : FW L M [] := ⟨fun k q h => by simp at h, fun i j p q h => by simp at h⟩
theorem FW.sub {L : List Nat} {M : Nat → va_E} {fl fl' : List (Nat × va_E)} (F : FW L M fl) (is : List Nat) (hn : va_nd is = true) (hs : is.map (fun i => fl[i]?) = fl'.map some) : FW L M fl' := by
  have D : va_D (fun _ => True) fl := ⟨F.2, fun _ _ _ => trivial⟩
  refine ⟨fun k q hk => ?_, (D.sub is hn hs).1⟩
  have h1 : (is.map (fun i => fl[i]?))[k]? = some (some q) := by rw [hs, List.getElem?_map, hk]; rfl
  rw [List.getElem?_map] at h1
  cases hi : is[k]? with
  | none => rw [hi] at h1; cases h1
  | some i => rw [hi] at h1; exact F.1 i q (Option.some.inj h1)
theorem FW.left {L : List Nat} {M : Nat → va_E} {x y : List (Nat × va_E)} (F : FW L M (x ++ y)) : FW L M x := ⟨fun k q h => F.1 k q (by rw [List.getElem?_append_left (List.getElem?_eq_some_iff.mp h).1]; exact h), fun i j p q hi hj => F.2 i j p q (by rw [List.getElem?_append_left (List.getElem?_eq_some_iff.mp hi).1]; exact hi) (by rw [List.getElem?_append_left (List.getElem?_eq_some_iff.mp hj).1]; exact hj)⟩
theorem FW.right {L : List Nat} {M : Nat → va_E} {x y : List (Nat × va_E)} (F : FW L M (x ++ y)) : FW L M y := by
  have h : ∀ (k : Nat) (q : Nat × va_E), y[k]? = some q → (x ++ y)[x.length + k]? = some q := fun k q hk => by rw [List.getElem?_append_right (Nat.le_add_right _ _), Nat.add_sub_cancel_left]; exact hk
  exact ⟨fun k q hk => F.1 _ q (h k q hk), fun i j p q hi hj e => Nat.add_left_cancel (F.2 _ _ p q (h i p hi) (h j q hj) e)⟩
theorem FW.set {L : List Nat} {M : Nat → va_E} {fl : List (Nat × va_E)} (F : FW L M fl) (k : Nat) {a : Nat} {e0 : va_E} (h : fl[k]? = some (a, e0)) (e : va_E) : FW L (va_up M a e) (fl.set k (a, e)) := by
  have hk := (List.getElem?_eq_some_iff.mp h).1
  have key : ∀ (i : Nat) (q : Nat × va_E), (fl.set k (a, e))[i]? = some q → (i = k ∧ q = (a, e)) ∨ (i ≠ k ∧ fl[i]? = some q) := by
    intro i q hq
    by_cases hi : i = k
    · subst hi
      rw [List.getElem?_set_self hk] at hq
      exact Or.inl ⟨rfl, (Option.some.inj hq).symm⟩
    · rw [List.getElem?_set_ne (fun z => hi z.symm)] at hq
      exact Or.inr ⟨hi, hq⟩
  have addr : ∀ (i : Nat) (q : Nat × va_E), (fl.set k (a, e))[i]? = some q → ∃ q', fl[i]? = some q' ∧ q'.1 = q.1 := by
    intro i q hq
    rcases key i q hq with ⟨h1, h2⟩ | ⟨h1, h2⟩
    · exact ⟨(a, e0), by rw [h1]; exact h, by rw [h2]⟩
    · exact ⟨q, h2, rfl⟩
  refine ⟨fun i q hq => ?_, fun i j p q hi hj epq => ?_⟩
  · rcases key i q hq with ⟨h1, h2⟩ | ⟨h1, h2⟩
    · rw [h2]
      exact ⟨va_up_self _ _ _, F.mem k h⟩
    · refine ⟨?_, (F.1 i q h2).2⟩
      rw [va_up_ne _ _ (fun z => h1 (F.2 i k q (a, e0) h2 h z))]
      exact (F.1 i q h2).1
  · obtain ⟨p', hp', ep⟩ := addr i p hi
    obtain ⟨q', hq', eq⟩ := addr j q hj
    exact F.2 i j p' q' hp' hq' (by rw [ep, eq]; exact epq)
theorem FW.push {L : List Nat} {M : Nat → va_E} {fl : List (Nat × va_E)} (F : FW L M fl) {q : Nat} (hq : q ∉ L) (e : va_E) : FW (L ++ [q]) (va_up M q e) (fl ++ [(q, e)]) := by
  have key : ∀ (i : Nat) (x : Nat × va_E), (fl ++ [(q, e)])[i]? = some x → (fl[i]? = some x ∧ i < fl.length ∧ x.1 ≠ q) ∨ (i = fl.length ∧ x = (q, e)) := by
    intro i x hx
    by_cases hi : i < fl.length
    · rw [List.getElem?_append_left hi] at hx
      exact Or.inl ⟨hx, hi, fun z => hq (z ▸ (F.1 i x hx).2)⟩
    · rw [List.getElem?_append_right (by omega)] at hx
      have hz : i - fl.length < 1 := (List.getElem?_eq_some_iff.mp hx).1
      have h0 : i - fl.length = 0 := by omega
      rw [h0] at hx
      exact Or.inr ⟨by omega, (Option.some.inj hx).symm⟩
  refine ⟨fun i x hx => ?_, fun i j x y hx hy exy => ?_⟩
  · rcases key i x hx with ⟨h1, -, h3⟩ | ⟨h1, h2⟩
    · exact ⟨by rw [va_up_ne _ _ h3]; exact (F.1 i x h1).1, List.mem_append_left _ (F.1 i x h1).2⟩
    · rw [h2]; exact ⟨va_up_self _ _ _, List.mem_append_right _ (List.mem_singleton.mpr rfl)⟩
  · rcases key i x hx with ⟨h1, h2, h3⟩ | ⟨h1, h2⟩ <;> rcases key j y hy with ⟨g1, g2, g3⟩ | ⟨g1, g2⟩
    · exact F.2 i j x y h1 g1 exy
    · exact absurd (by rw [exy, g2]) h3
    · exact absurd (by rw [← exy, h2]) g3
    · omega
/-- behind a maker of cells: what it was given at h is made, the rest stays -/
def Mk (L : List Nat) (M : Nat → va_E) (h : Nat) (w1 : List (Nat × va_E)) (L' : List Nat) (M' : Nat → va_E) : Prop := (∀ b, b ∈ L → b ≠ h → M' b = M b) ∧ (∀ b, b ∈ L → b ∈ L') ∧ FW L' M' w1 ∧ ∀ (k : Nat) (q : Nat × va_E), w1[k]? = some q → q.1 = h ∨ q.1 ∉ L
theorem Mk.join {L L' : List Nat} {M M' : Nat → va_E} {h : Nat} {fl w1 wr : List (Nat × va_E)} (X : Mk L M h w1 L' M') (F : FW L M fl) (kh : Nat) {e0 : va_E} (hk : fl[kh]? = some (h, e0)) (is : List Nat) (hn : va_nd is = true) (hs : is.map (fun i => fl[i]?) = wr.map some) (hd : ∀ i ∈ is, i ≠ kh) : FW L' M' (wr ++ w1) := by
  have R := F.sub is hn hs
  have hne : ∀ (k : Nat) (q : Nat × va_E), wr[k]? = some q → q.1 ≠ h := by
    intro k q hq e
    have h1 : (is.map (fun i => fl[i]?))[k]? = some (some q) := by rw [hs, List.getElem?_map, hq]; rfl
    rw [List.getElem?_map] at h1
    cases hi : is[k]? with
    | none => rw [hi] at h1; cases h1
    | some i =>
      rw [hi] at h1
      exact hd i (List.mem_of_getElem? hi) (F.2 i kh q (h, e0) (Option.some.inj h1) hk e)
  have key : ∀ (i : Nat) (x : Nat × va_E), (wr ++ w1)[i]? = some x → (i < wr.length ∧ wr[i]? = some x) ∨ (wr.length ≤ i ∧ w1[i - wr.length]? = some x) := by
    intro i x hx
    by_cases hi : i < wr.length
    · rw [List.getElem?_append_left hi] at hx; exact Or.inl ⟨hi, hx⟩
    · rw [List.getElem?_append_right (by omega)] at hx; exact Or.inr ⟨by omega, hx⟩
  refine ⟨fun i x hx => ?_, fun i j x y hx hy exy => ?_⟩
  · rcases key i x hx with ⟨-, h1⟩ | ⟨-, h1⟩
    · exact ⟨by rw [X.1 _ (R.1 i x h1).2 (hne i x h1)]; exact (R.1 i x h1).1, X.2.1 _ (R.1 i x h1).2⟩
    · exact X.2.2.1.1 _ x h1
  · rcases key i x hx with ⟨a1, h1⟩ | ⟨a1, h1⟩ <;> rcases key j y hy with ⟨b1, g1⟩ | ⟨b1, g1⟩
    · exact R.2 i j x y h1 g1 exy
    · rcases X.2.2.2 _ y g1 with z | z
      · exact absurd (exy.trans z) (hne i x h1)
      · exact absurd (exy ▸ (R.1 i x h1).2) z
    · rcases X.2.2.2 _ x h1 with z | z
      · exact absurd (exy.symm.trans z) (hne j y g1)
      · exact absurd (exy.symm ▸ (R.1 j y g1).2) z
    · have := X.2.2.1.2 _ _ x y h1 g1 exy; omega
def rmL (n mc ms : Nat) : Room := { frames := n, cells := mc, slots := ms, locals := 100 * n }
def strW : List (String × Nat × String × Nat) := [("ObligingPosts$Tape", 55, "heath", 0), ("ObligingPosts$Tape", 68, "inn", 1), ("ObligingPosts$Tape", 73, "post", 2), ("ObligingPosts$Tape", 78, "road", 3), ("ObligingPosts$Tape", 83, "arm", 4), ("ObligingPosts$Tape", 88, "walker", 5), ("ObligingPosts$Tape", 93, "hours", 6), ("ObligingPosts$Tape", 105, "law", 7), ("ObligingPosts$Tape", 109, "odds", 8), ("ObligingPosts$Tape", 120, "room", 9), ("ObligingPosts$Tape", 138, "in", 10), ("ObligingPosts$Tape", 140, "to", 11), ("ObligingPosts$Tape", 154, "at", 12), ("ObligingPostsModel", 194, "heath", 13), ("ObligingPostsModel", 196, "hours", 14), ("ObligingPostsModel", 201, "law", 15), ("ObligingPostsModel", 203, "odds", 16), ("ObligingPostsModel", 208, "to", 17), ("ObligingPostsModel", 210, "in", 18), ("ObligingPostsModel", 211, "at", 19), ("ObligingPostsModel", 212, "inn", 20), ("ObligingPostsModel", 214, "post", 21), ("ObligingPostsModel", 216, "road", 22), ("ObligingPostsModel", 218, "arm", 23), ("ObligingPostsModel", 220, "walker", 24), ("ObligingPostsModel", 225, "room", 25)]
def strB : List (List Int32) := [[104, 101, 97, 116, 104], [105, 110, 110], [112, 111, 115, 116], [114, 111, 97, 100], [97, 114, 109], [119, 97, 108, 107, 101, 114], [104, 111, 117, 114, 115], [108, 97, 119], [111, 100, 100, 115], [114, 111, 111, 109], [105, 110], [116, 111], [97, 116], [104, 101, 97, 116, 104], [104, 111, 117, 114, 115], [108, 97, 119], [111, 100, 100, 115], [116, 111], [105, 110], [97, 116], [105, 110, 110], [112, 111, 115, 116], [114, 111, 97, 100], [97, 114, 109], [119, 97, 108, 107, 101, 114], [114, 111, 111, 109]]
def facL : List Int32 := [1, 1, 2, 6, 24, 120, 720, 5040]
def SCH (G : va_G) (A : Nat → Prop) (U : State) (H : Heap) : Prop := (∀ i : Nat, i < 26 → va_O "java/lang/String" (G.2 1000 i) A U H ∧ va_OF "java/lang/String" "coder" "B" (.int 0) (G.2 1000 i) A U H ∧ va_OF "java/lang/String" "value" "[B" (.ref (G.2 1001 i)) (G.2 1000 i) A U H ∧ va_T .byte (G.2 1001 i) (strB.getD i []).length (fun j => .int ((strB.getD i []).getD j 0)) A U H) ∧ (∀ r ∈ strW, vk_R r.1 r.2.1 r.2.2.1 (G.2 1000 r.2.2.2) U) ∧ va_Z "ObligingPosts" "FACTORIALS" "[I" (.ref (G.2 1002 0)) A U H ∧ va_T .int (G.2 1002 0) 8 (fun j => .int (facL.getD j 0)) A U H ∧ va_Z "java/lang/String" "COMPACT_STRINGS" "Z" (.int 1) A U H ∧ va_Zq "jdk/internal/util/Preconditions" "SIOOBE_FORMATTER" "Ljava/util/function/BiFunction;" A U H
theorem SCH.warm {G : va_G} {A B : Nat → Prop} {s U : State} {H1 : Heap} (h : SCH G A s s.heap) (hW : s.WarmedH U.vm) (hq : ∀ a : Nat, a < s.heap.size → ¬ A a → H1[a]? = s.heap[a]?) (hAB : ∀ q, B q → A q) : SCH G B U H1 :=
  ⟨fun i hi => ⟨((va_O.moved hW.alike (h.1 i hi).1).kept hq).narrow hAB, ((va_OF.moved hW.alike (h.1 i hi).2.1).kept hq).narrow hAB, ((va_OF.moved hW.alike (h.1 i hi).2.2.1).kept hq).narrow hAB, ((va_T.moved hW.alike (h.1 i hi).2.2.2).kept hq).narrow hAB⟩, fun r hr => (h.2.1 r hr).warm hW, ((va_Z.moved hW.alike h.2.2.1).kept hq).narrow hAB, ((va_T.moved hW.alike h.2.2.2.1).kept hq).narrow hAB, ((va_Z.moved hW.alike h.2.2.2.2.1).kept hq).narrow hAB, ((va_Zq.moved hW.alike h.2.2.2.2.2).kept hq).narrow hAB⟩
theorem SCH.same {G : va_G} {A : Nat → Prop} {u U : State} {H : Heap} (e : u.vm = U.vm) (h : SCH G A u H) : SCH G A U H :=
  have al : u.vm.Alike U.vm := e ▸ Vm.Alike.refl u.vm
  ⟨fun i hi => ⟨va_O.moved al (h.1 i hi).1, va_OF.moved al (h.1 i hi).2.1, va_OF.moved al (h.1 i hi).2.2.1, va_T.moved al (h.1 i hi).2.2.2⟩, fun r hr => (h.2.1 r hr).same e.symm, va_Z.moved al h.2.2.1, va_T.moved al h.2.2.2.1, va_Z.moved al h.2.2.2.2.1, va_Zq.moved al h.2.2.2.2.2⟩
def Cx (p : Program) (s : State) (m : MethodId) (args : Array Value) (meth : Method) (c : Code) (own : String) (cc : ByteArray) (nL : Nat) (G : va_G) (cy : Nat → ClassId) (A : Nat → Prop) : Prop :=
  p.tables.exec = Jvm.exec ∧ c.code = cc ∧ c.maxLocals = nL ∧ s.vm.findClass own = some m.cls ∧ (∀ w ∈ tblG, w.before args s = true) ∧ NW s ∧ va_K G vwCl (tyL cy) s ∧ (∀ q, s.heap.size ≤ q → A q) ∧ meth.locks = false ∧ SCH G A s s.heap
def Go (p : Program) (l : Launch) (e : Env) (R : Room) (s : State) (m : MethodId) (args : Array Value) (below : List Frame) (meth : Method) (c : Code) (nL : Nat) (G : va_G) (A : Nat → Prop) (cells slots : Nat) (Q : State → Prop) (L : List Nat) (M : Nat → va_E) (pc : Nat) (lv : List (Nat × Value)) (st : List Value) : Prop :=
  ∀ (H : Heap) (locs : List Loc) (ls : Array Slot), va_P G vwCl (va_pl L M) H → va_D A (va_pl L M) → va_S A s.heap H locs → lv_has ls nL lv → W p l e R s m args below meth c H locs cells slots Q (F0 m pc ls st)
theorem pl_at {L : List Nat} {M : Nat → va_E} {a : Nat} {x : va_E} (hL : a ∈ L) (hM : M a = x) : ∃ k : Nat, (va_pl L M)[k]? = some (a, M a) ∧ (va_pl L M)[k]? = some (a, x) := by
  obtain ⟨k, hk⟩ := va_pl_get (X := []) (f := M) hL
  exact ⟨k, hk, by rw [← hM]; exact hk⟩
theorem pl_set {A : Nat → Prop} {L : List Nat} {M : Nat → va_E} {a k : Nat} {x : va_E} (hD : va_D A (va_pl L M)) (hL : a ∈ L) (hk : (va_pl L M)[k]? = some (a, M a)) : (va_pl L M).set k (a, x) = va_pl L (va_up M a x) := va_pl_set (X := []) hD hL hk
theorem pl_free {A : Nat → Prop} {L : List Nat} {M : Nat → va_E} {H0 H : Heap} {locs : List Loc} (hD : va_D A (va_pl L M)) (hS : va_S A H0 H locs) (hA : ∀ q, H0.size ≤ q → A q) : ∀ q, va_A (va_pl L M) H.size q → A q := by
  intro q h
  rcases h with ⟨k, x, h⟩ | h
  · exact hD.2 k _ h
  · exact hA q (Nat.le_trans hS.1 h)
theorem va_up_eta {M : Nat → va_E} {a : Nat} {x : va_E} (h : M a = x) : va_up M a x = M := by
  funext b
  by_cases hb : b = a
  · rw [hb, va_up_self, h]
  · rw [va_up_ne _ _ hb]

section GOROWS
variable {p : Program} {l : Launch} {e : Env} {s : State} {m : MethodId} {args : Array Value} {below : List Frame} {meth : Method} {c : Code} {own : String} {cc : ByteArray} {nL : Nat} {G : va_G} {cy : Nat → ClassId} {A : Nat → Prop} {R : Room} {n mc ms cells slots : Nat} {Q : State → Prop} {L : List Nat} {M : Nat → va_E} {pc : Nat} {lv : List (Nat × Value)} {st : List Value}
theorem g_iconst (C : Cx p s m args meth c own cc nL G cy A) {k0 : Int} {v : Int32} (hd : decode cc pc = .ok (.iconst k0, 1)) (hv : Int32.ofInt k0 = v) (k : Go p l e R s m args below meth c nL G A cells slots Q L M (pc + 1) lv (.int v :: st)) : Go p l e R s m args below meth c nL G A cells slots Q L M pc lv (st) := fun H locs ls hP hD hS hl => lv_iconst C.1 C.2.1 hd hv (k H locs ls hP hD hS hl)
theorem g_bipush (C : Cx p s m args meth c own cc nL G cy A) {k0 : Int} {v : Int32} (hd : decode cc pc = .ok (.bipush k0, 2)) (hv : (Int8.ofInt k0).toInt32 = v) (k : Go p l e R s m args below meth c nL G A cells slots Q L M (pc + 2) lv (.int v :: st)) : Go p l e R s m args below meth c nL G A cells slots Q L M pc lv (st) := fun H locs ls hP hD hS hl => lv_bipush C.1 C.2.1 hd hv (k H locs ls hP hD hS hl)
theorem g_sipush (C : Cx p s m args meth c own cc nL G cy A) {k0 : Int} {v : Int32} (hd : decode cc pc = .ok (.sipush k0, 3)) (hv : (Int16.ofInt k0).toInt32 = v) (k : Go p l e R s m args below meth c nL G A cells slots Q L M (pc + 3) lv (.int v :: st)) : Go p l e R s m args below meth c nL G A cells slots Q L M pc lv (st) := fun H locs ls hP hD hS hl => lv_sipush C.1 C.2.1 hd hv (k H locs ls hP hD hS hl)
theorem g_lconst (C : Cx p s m args meth c own cc nL G cy A) {k0 : Fin 2} {v : Int64} (hd : decode cc pc = .ok (.lconst k0, 1)) (hv : Int64.ofNat (k0 : Nat) = v) (k : Go p l e R s m args below meth c nL G A cells slots Q L M (pc + 1) lv (.long v :: st)) : Go p l e R s m args below meth c nL G A cells slots Q L M pc lv (st) := fun H locs ls hP hD hS hl => lv_lconst C.1 C.2.1 hd hv (k H locs ls hP hD hS hl)
theorem g_iload_n (C : Cx p s m args meth c own cc nL G cy A) {k0 : Fin 4} {i j : Nat} {x : Int32} (hd : decode cc pc = .ok (.iload_n k0, 1)) (hi : (k0 : Nat) = i) (hj : lv[j]? = some (i, .int x)) (k : Go p l e R s m args below meth c nL G A cells slots Q L M (pc + 1) lv (.int x :: st)) : Go p l e R s m args below meth c nL G A cells slots Q L M pc lv st := fun H locs ls hP hD hS hl => lv_iload_n C.1 C.2.1 hd hi (lv_at hl j hj) (k H locs ls hP hD hS hl)
theorem g_iload (C : Cx p s m args meth c own cc nL G cy A) {i j : Nat} {x : Int32} (hd : decode cc pc = .ok (.iload i, 2)) (hj : lv[j]? = some (i, .int x)) (k : Go p l e R s m args below meth c nL G A cells slots Q L M (pc + 2) lv (.int x :: st)) : Go p l e R s m args below meth c nL G A cells slots Q L M pc lv st := fun H locs ls hP hD hS hl => lv_iload C.1 C.2.1 hd (lv_at hl j hj) (k H locs ls hP hD hS hl)
theorem g_istore_n (C : Cx p s m args meth c own cc nL G cy A) {k0 : Fin 4} {i : Nat} {x : Int32} {lv2 : List (Nat × Value)} (hd : decode cc pc = .ok (.istore_n k0, 1)) (hi : (k0 : Nat) = i) (hn : i < nL) (h2 : (i, Value.int x) :: lv.filter (fun q => !(q.1 == i) && !(q.1 + 1 == i && q.2.category == 2)) = lv2) (k : Go p l e R s m args below meth c nL G A cells slots Q L M (pc + 1) lv2 st) : Go p l e R s m args below meth c nL G A cells slots Q L M pc lv (.int x :: st) := fun H locs ls hP hD hS hl => lv_istore_n C.1 C.2.1 hd hi hl hn h2 (fun ls2 hl2 => k H locs ls2 hP hD hS hl2)
theorem g_istore (C : Cx p s m args meth c own cc nL G cy A) {i : Nat} {x : Int32} {lv2 : List (Nat × Value)} (hd : decode cc pc = .ok (.istore i, 2)) (hn : i < nL) (h2 : (i, Value.int x) :: lv.filter (fun q => !(q.1 == i) && !(q.1 + 1 == i && q.2.category == 2)) = lv2) (k : Go p l e R s m args below meth c nL G A cells slots Q L M (pc + 2) lv2 st) : Go p l e R s m args below meth c nL G A cells slots Q L M pc lv (.int x :: st) := fun H locs ls hP hD hS hl => lv_istore C.1 C.2.1 hd hl hn h2 (fun ls2 hl2 => k H locs ls2 hP hD hS hl2)
theorem g_lload_n (C : Cx p s m args meth c own cc nL G cy A) {k0 : Fin 4} {i j : Nat} {x : Int64} (hd : decode cc pc = .ok (.lload_n k0, 1)) (hi : (k0 : Nat) = i) (hj : lv[j]? = some (i, .long x)) (k : Go p l e R s m args below meth c nL G A cells slots Q L M (pc + 1) lv (.long x :: st)) : Go p l e R s m args below meth c nL G A cells slots Q L M pc lv st := fun H locs ls hP hD hS hl => lv_lload_n C.1 C.2.1 hd hi (lv_at hl j hj) (k H locs ls hP hD hS hl)
theorem g_lload (C : Cx p s m args meth c own cc nL G cy A) {i j : Nat} {x : Int64} (hd : decode cc pc = .ok (.lload i, 2)) (hj : lv[j]? = some (i, .long x)) (k : Go p l e R s m args below meth c nL G A cells slots Q L M (pc + 2) lv (.long x :: st)) : Go p l e R s m args below meth c nL G A cells slots Q L M pc lv st := fun H locs ls hP hD hS hl => lv_lload C.1 C.2.1 hd (lv_at hl j hj) (k H locs ls hP hD hS hl)
theorem g_lstore_n (C : Cx p s m args meth c own cc nL G cy A) {k0 : Fin 4} {i : Nat} {x : Int64} {lv2 : List (Nat × Value)} (hd : decode cc pc = .ok (.lstore_n k0, 1)) (hi : (k0 : Nat) = i) (hn : i + 1 < nL) (h2 : (i, Value.long x) :: lv.filter (fun q => !(q.1 == i) && (!(q.1 == i + 1) && !(q.1 + 1 == i && q.2.category == 2))) = lv2) (k : Go p l e R s m args below meth c nL G A cells slots Q L M (pc + 1) lv2 st) : Go p l e R s m args below meth c nL G A cells slots Q L M pc lv (.long x :: st) := fun H locs ls hP hD hS hl => lv_lstore_n C.1 C.2.1 hd hi hl hn h2 (fun ls2 hl2 => k H locs ls2 hP hD hS hl2)
theorem g_lstore (C : Cx p s m args meth c own cc nL G cy A) {i : Nat} {x : Int64} {lv2 : List (Nat × Value)} (hd : decode cc pc = .ok (.lstore i, 2)) (hn : i + 1 < nL) (h2 : (i, Value.long x) :: lv.filter (fun q => !(q.1 == i) && (!(q.1 == i + 1) && !(q.1 + 1 == i && q.2.category == 2))) = lv2) (k : Go p l e R s m args below meth c nL G A cells slots Q L M (pc + 2) lv2 st) : Go p l e R s m args below meth c nL G A cells slots Q L M pc lv (.long x :: st) := fun H locs ls hP hD hS hl => lv_lstore C.1 C.2.1 hd hl hn h2 (fun ls2 hl2 => k H locs ls2 hP hD hS hl2)
theorem g_aload_n (C : Cx p s m args meth c own cc nL G cy A) {k0 : Fin 4} {i j : Nat} {x : Nat} (hd : decode cc pc = .ok (.aload_n k0, 1)) (hi : (k0 : Nat) = i) (hj : lv[j]? = some (i, .ref x)) (k : Go p l e R s m args below meth c nL G A cells slots Q L M (pc + 1) lv (.ref x :: st)) : Go p l e R s m args below meth c nL G A cells slots Q L M pc lv st := fun H locs ls hP hD hS hl => lv_aload_n C.1 C.2.1 hd hi (lv_at hl j hj) (k H locs ls hP hD hS hl)
theorem g_aload (C : Cx p s m args meth c own cc nL G cy A) {i j : Nat} {x : Nat} (hd : decode cc pc = .ok (.aload i, 2)) (hj : lv[j]? = some (i, .ref x)) (k : Go p l e R s m args below meth c nL G A cells slots Q L M (pc + 2) lv (.ref x :: st)) : Go p l e R s m args below meth c nL G A cells slots Q L M pc lv st := fun H locs ls hP hD hS hl => lv_aload C.1 C.2.1 hd (lv_at hl j hj) (k H locs ls hP hD hS hl)
theorem g_astore_n (C : Cx p s m args meth c own cc nL G cy A) {k0 : Fin 4} {i : Nat} {x : Nat} {lv2 : List (Nat × Value)} (hd : decode cc pc = .ok (.astore_n k0, 1)) (hi : (k0 : Nat) = i) (hn : i < nL) (h2 : (i, Value.ref x) :: lv.filter (fun q => !(q.1 == i) && !(q.1 + 1 == i && q.2.category == 2)) = lv2) (k : Go p l e R s m args below meth c nL G A cells slots Q L M (pc + 1) lv2 st) : Go p l e R s m args below meth c nL G A cells slots Q L M pc lv (.ref x :: st) := fun H locs ls hP hD hS hl => lv_astore_n C.1 C.2.1 hd hi hl hn h2 (fun ls2 hl2 => k H locs ls2 hP hD hS hl2)
theorem g_astore (C : Cx p s m args meth c own cc nL G cy A) {i : Nat} {x : Nat} {lv2 : List (Nat × Value)} (hd : decode cc pc = .ok (.astore i, 2)) (hn : i < nL) (h2 : (i, Value.ref x) :: lv.filter (fun q => !(q.1 == i) && !(q.1 + 1 == i && q.2.category == 2)) = lv2) (k : Go p l e R s m args below meth c nL G A cells slots Q L M (pc + 2) lv2 st) : Go p l e R s m args below meth c nL G A cells slots Q L M pc lv (.ref x :: st) := fun H locs ls hP hD hS hl => lv_astore C.1 C.2.1 hd hl hn h2 (fun ls2 hl2 => k H locs ls2 hP hD hS hl2)
theorem g_iinc (C : Cx p s m args meth c own cc nL G cy A) {i j : Nat} {k0 : Int} {x v : Int32} {lv2 : List (Nat × Value)} (hd : decode cc pc = .ok (.iinc i k0, 3)) (hj : lv[j]? = some (i, .int x)) (hv : x + Int32.ofInt k0 = v) (hn : i < nL) (h2 : (i, Value.int v) :: lv.filter (fun q => !(q.1 == i) && !(q.1 + 1 == i && q.2.category == 2)) = lv2) (k : Go p l e R s m args below meth c nL G A cells slots Q L M (pc + 3) lv2 st) : Go p l e R s m args below meth c nL G A cells slots Q L M pc lv st := fun H locs ls hP hD hS hl => lv_iinc C.1 C.2.1 hd hl hj hv hn h2 (fun ls2 hl2 => k H locs ls2 hP hD hS hl2)
theorem g_iadd (C : Cx p s m args meth c own cc nL G cy A) {x y : Int32} (hd : decode cc pc = .ok (.iadd, 1)) (k : Go p l e R s m args below meth c nL G A cells slots Q L M (pc + 1) lv (.int (x + y) :: st)) : Go p l e R s m args below meth c nL G A cells slots Q L M pc lv (.int y :: .int x :: st) := fun H locs ls hP hD hS hl => lv_iadd C.1 C.2.1 hd (k H locs ls hP hD hS hl)
theorem g_isub (C : Cx p s m args meth c own cc nL G cy A) {x y : Int32} (hd : decode cc pc = .ok (.isub, 1)) (k : Go p l e R s m args below meth c nL G A cells slots Q L M (pc + 1) lv (.int (x - y) :: st)) : Go p l e R s m args below meth c nL G A cells slots Q L M pc lv (.int y :: .int x :: st) := fun H locs ls hP hD hS hl => lv_isub C.1 C.2.1 hd (k H locs ls hP hD hS hl)
theorem g_imul (C : Cx p s m args meth c own cc nL G cy A) {x y : Int32} (hd : decode cc pc = .ok (.imul, 1)) (k : Go p l e R s m args below meth c nL G A cells slots Q L M (pc + 1) lv (.int (x * y) :: st)) : Go p l e R s m args below meth c nL G A cells slots Q L M pc lv (.int y :: .int x :: st) := fun H locs ls hP hD hS hl => lv_imul C.1 C.2.1 hd (k H locs ls hP hD hS hl)
theorem g_iand (C : Cx p s m args meth c own cc nL G cy A) {x y : Int32} (hd : decode cc pc = .ok (.iand, 1)) (k : Go p l e R s m args below meth c nL G A cells slots Q L M (pc + 1) lv (.int (x &&& y) :: st)) : Go p l e R s m args below meth c nL G A cells slots Q L M pc lv (.int y :: .int x :: st) := fun H locs ls hP hD hS hl => lv_iand C.1 C.2.1 hd (k H locs ls hP hD hS hl)
theorem g_ior (C : Cx p s m args meth c own cc nL G cy A) {x y : Int32} (hd : decode cc pc = .ok (.ior, 1)) (k : Go p l e R s m args below meth c nL G A cells slots Q L M (pc + 1) lv (.int (x ||| y) :: st)) : Go p l e R s m args below meth c nL G A cells slots Q L M pc lv (.int y :: .int x :: st) := fun H locs ls hP hD hS hl => lv_ior C.1 C.2.1 hd (k H locs ls hP hD hS hl)
theorem g_ladd (C : Cx p s m args meth c own cc nL G cy A) {x y : Int64} (hd : decode cc pc = .ok (.ladd, 1)) (k : Go p l e R s m args below meth c nL G A cells slots Q L M (pc + 1) lv (.long (x + y) :: st)) : Go p l e R s m args below meth c nL G A cells slots Q L M pc lv (.long y :: .long x :: st) := fun H locs ls hP hD hS hl => lv_ladd C.1 C.2.1 hd (k H locs ls hP hD hS hl)
theorem g_lsub (C : Cx p s m args meth c own cc nL G cy A) {x y : Int64} (hd : decode cc pc = .ok (.lsub, 1)) (k : Go p l e R s m args below meth c nL G A cells slots Q L M (pc + 1) lv (.long (x - y) :: st)) : Go p l e R s m args below meth c nL G A cells slots Q L M pc lv (.long y :: .long x :: st) := fun H locs ls hP hD hS hl => lv_lsub C.1 C.2.1 hd (k H locs ls hP hD hS hl)
theorem g_lmul (C : Cx p s m args meth c own cc nL G cy A) {x y : Int64} (hd : decode cc pc = .ok (.lmul, 1)) (k : Go p l e R s m args below meth c nL G A cells slots Q L M (pc + 1) lv (.long (x * y) :: st)) : Go p l e R s m args below meth c nL G A cells slots Q L M pc lv (.long y :: .long x :: st) := fun H locs ls hP hD hS hl => lv_lmul C.1 C.2.1 hd (k H locs ls hP hD hS hl)
theorem g_land (C : Cx p s m args meth c own cc nL G cy A) {x y : Int64} (hd : decode cc pc = .ok (.land, 1)) (k : Go p l e R s m args below meth c nL G A cells slots Q L M (pc + 1) lv (.long (x &&& y) :: st)) : Go p l e R s m args below meth c nL G A cells slots Q L M pc lv (.long y :: .long x :: st) := fun H locs ls hP hD hS hl => lv_land C.1 C.2.1 hd (k H locs ls hP hD hS hl)
theorem g_lor (C : Cx p s m args meth c own cc nL G cy A) {x y : Int64} (hd : decode cc pc = .ok (.lor, 1)) (k : Go p l e R s m args below meth c nL G A cells slots Q L M (pc + 1) lv (.long (x ||| y) :: st)) : Go p l e R s m args below meth c nL G A cells slots Q L M pc lv (.long y :: .long x :: st) := fun H locs ls hP hD hS hl => lv_lor C.1 C.2.1 hd (k H locs ls hP hD hS hl)
theorem g_ishr (C : Cx p s m args meth c own cc nL G cy A) {x y : Int32} (hd : decode cc pc = .ok (.ishr, 1)) (k : Go p l e R s m args below meth c nL G A cells slots Q L M (pc + 1) lv (.int (x >>> (y &&& 31)) :: st)) : Go p l e R s m args below meth c nL G A cells slots Q L M pc lv (.int y :: .int x :: st) := fun H locs ls hP hD hS hl => lv_ishr C.1 C.2.1 hd (k H locs ls hP hD hS hl)
theorem g_ishl (C : Cx p s m args meth c own cc nL G cy A) {x y : Int32} (hd : decode cc pc = .ok (.ishl, 1)) (k : Go p l e R s m args below meth c nL G A cells slots Q L M (pc + 1) lv (.int (x <<< (y &&& 31)) :: st)) : Go p l e R s m args below meth c nL G A cells slots Q L M pc lv (.int y :: .int x :: st) := fun H locs ls hP hD hS hl => lv_ishl C.1 C.2.1 hd (k H locs ls hP hD hS hl)
theorem g_idiv (C : Cx p s m args meth c own cc nL G cy A) {x y : Int32} (hd : decode cc pc = .ok (.idiv, 1)) (hne : ¬ y = 0) (k : Go p l e R s m args below meth c nL G A cells slots Q L M (pc + 1) lv (.int (x / y) :: st)) : Go p l e R s m args below meth c nL G A cells slots Q L M pc lv (.int y :: .int x :: st) := fun H locs ls hP hD hS hl => lv_idiv C.1 C.2.1 hd hne (k H locs ls hP hD hS hl)
theorem g_irem (C : Cx p s m args meth c own cc nL G cy A) {x y : Int32} (hd : decode cc pc = .ok (.irem, 1)) (hne : ¬ y = 0) (k : Go p l e R s m args below meth c nL G A cells slots Q L M (pc + 1) lv (.int (x - x / y * y) :: st)) : Go p l e R s m args below meth c nL G A cells slots Q L M pc lv (.int y :: .int x :: st) := fun H locs ls hP hD hS hl => lv_irem C.1 C.2.1 hd hne (k H locs ls hP hD hS hl)
theorem g_i2l (C : Cx p s m args meth c own cc nL G cy A) {x : Int32} {v : Int64} (hd : decode cc pc = .ok (.i2l, 1)) (hv : x.toInt64 = v) (k : Go p l e R s m args below meth c nL G A cells slots Q L M (pc + 1) lv (.long v :: st)) : Go p l e R s m args below meth c nL G A cells slots Q L M pc lv (.int x :: st) := fun H locs ls hP hD hS hl => lv_i2l C.1 C.2.1 hd hv (k H locs ls hP hD hS hl)
theorem g_l2i (C : Cx p s m args meth c own cc nL G cy A) {x : Int64} {v : Int32} (hd : decode cc pc = .ok (.l2i, 1)) (hv : x.toInt32 = v) (k : Go p l e R s m args below meth c nL G A cells slots Q L M (pc + 1) lv (.int v :: st)) : Go p l e R s m args below meth c nL G A cells slots Q L M pc lv (.long x :: st) := fun H locs ls hP hD hS hl => lv_l2i C.1 C.2.1 hd hv (k H locs ls hP hD hS hl)
theorem g_i2b (C : Cx p s m args meth c own cc nL G cy A) {x : Int32} {v : Int32} (hd : decode cc pc = .ok (.i2b, 1)) (hv : x.toInt8.toInt32 = v) (k : Go p l e R s m args below meth c nL G A cells slots Q L M (pc + 1) lv (.int v :: st)) : Go p l e R s m args below meth c nL G A cells slots Q L M pc lv (.int x :: st) := fun H locs ls hP hD hS hl => lv_i2b C.1 C.2.1 hd hv (k H locs ls hP hD hS hl)
theorem g_lcmp (C : Cx p s m args meth c own cc nL G cy A) {x y : Int64} (hd : decode cc pc = .ok (.lcmp, 1)) (k : Go p l e R s m args below meth c nL G A cells slots Q L M (pc + 1) lv (.int (lg_cmp x y) :: st)) : Go p l e R s m args below meth c nL G A cells slots Q L M pc lv (.long y :: .long x :: st) := fun H locs ls hP hD hS hl => W.lcmp C.1 C.2.1 hd (k H locs ls hP hD hS hl)
theorem g_lshl (C : Cx p s m args meth c own cc nL G cy A) {x v : Int64} {y : Int32} (hd : decode cc pc = .ok (.lshl, 1)) (hv : x <<< (y.toInt64 &&& 63) = v) (k : Go p l e R s m args below meth c nL G A cells slots Q L M (pc + 1) lv (.long v :: st)) : Go p l e R s m args below meth c nL G A cells slots Q L M pc lv (.int y :: .long x :: st) := fun H locs ls hP hD hS hl => lv_lshl C.1 C.2.1 hd hv (k H locs ls hP hD hS hl)
theorem g_dup (C : Cx p s m args meth c own cc nL G cy A) {va : Value} (hd : decode cc pc = .ok (.dup, 1)) (hva : va.category = 1) (k : Go p l e R s m args below meth c nL G A cells slots Q L M (pc + 1) lv (va :: va :: st)) : Go p l e R s m args below meth c nL G A cells slots Q L M pc lv (va :: st) := fun H locs ls hP hD hS hl => lv_dup C.1 C.2.1 hd hva (k H locs ls hP hD hS hl)
theorem g_pop (C : Cx p s m args meth c own cc nL G cy A) {va : Value} (hd : decode cc pc = .ok (.pop, 1)) (hva : va.category = 1) (k : Go p l e R s m args below meth c nL G A cells slots Q L M (pc + 1) lv (st)) : Go p l e R s m args below meth c nL G A cells slots Q L M pc lv (va :: st) := fun H locs ls hP hD hS hl => lv_pop C.1 C.2.1 hd hva (k H locs ls hP hD hS hl)
theorem g_dup_x1 (C : Cx p s m args meth c own cc nL G cy A) {va vb : Value} (hd : decode cc pc = .ok (.dup_x1, 1)) (hva : va.category = 1) (hvb : vb.category = 1) (k : Go p l e R s m args below meth c nL G A cells slots Q L M (pc + 1) lv (va :: vb :: va :: st)) : Go p l e R s m args below meth c nL G A cells slots Q L M pc lv (va :: vb :: st) := fun H locs ls hP hD hS hl => lv_dup_x1 C.1 C.2.1 hd hva hvb (k H locs ls hP hD hS hl)
theorem g_dup2 (C : Cx p s m args meth c own cc nL G cy A) {va vb : Value} (hd : decode cc pc = .ok (.dup2, 1)) (hva : va.category = 1) (hvb : vb.category = 1) (k : Go p l e R s m args below meth c nL G A cells slots Q L M (pc + 1) lv (va :: vb :: va :: vb :: st)) : Go p l e R s m args below meth c nL G A cells slots Q L M pc lv (va :: vb :: st) := fun H locs ls hP hD hS hl => lv_dup2_11 C.1 C.2.1 hd hva hvb (k H locs ls hP hD hS hl)
theorem g_null (C : Cx p s m args meth c own cc nL G cy A) (hd : decode cc pc = .ok (.aconst_null, 1)) (k : Go p l e R s m args below meth c nL G A cells slots Q L M (pc + 1) lv (.null :: st)) : Go p l e R s m args below meth c nL G A cells slots Q L M pc lv (st) := fun H locs ls hP hD hS hl => lv_null C.1 C.2.1 hd (k H locs ls hP hD hS hl)
theorem g_if_eq (C : Cx p s m args meth c own cc nL G cy A) {x : Int32} {off : Int} {tgt : Nat} (hd : decode cc pc = .ok (.ifCond .eq off, 3)) (ht : (pc : Int) + off = (tgt : Int)) (kt : x = 0 → Go p l e R s m args below meth c nL G A cells slots Q L M tgt lv st) (kf : ¬ x = 0 → Go p l e R s m args below meth c nL G A cells slots Q L M (pc + 3) lv st) : Go p l e R s m args below meth c nL G A cells slots Q L M pc lv (.int x :: st) := fun H locs ls hP hD hS hl => lv_if_eq C.1 C.2.1 hd ht (fun q => kt q H locs ls hP hD hS hl) (fun q => kf q H locs ls hP hD hS hl)
theorem g_icmp_eq (C : Cx p s m args meth c own cc nL G cy A) {x y : Int32} {off : Int} {tgt : Nat} (hd : decode cc pc = .ok (.if_icmp .eq off, 3)) (ht : (pc : Int) + off = (tgt : Int)) (kt : x = y → Go p l e R s m args below meth c nL G A cells slots Q L M tgt lv st) (kf : ¬ x = y → Go p l e R s m args below meth c nL G A cells slots Q L M (pc + 3) lv st) : Go p l e R s m args below meth c nL G A cells slots Q L M pc lv (.int y :: .int x :: st) := fun H locs ls hP hD hS hl => lv_icmp_eq C.1 C.2.1 hd ht (fun q => kt q H locs ls hP hD hS hl) (fun q => kf q H locs ls hP hD hS hl)
theorem g_if_ne (C : Cx p s m args meth c own cc nL G cy A) {x : Int32} {off : Int} {tgt : Nat} (hd : decode cc pc = .ok (.ifCond .ne off, 3)) (ht : (pc : Int) + off = (tgt : Int)) (kt : ¬ x = 0 → Go p l e R s m args below meth c nL G A cells slots Q L M tgt lv st) (kf : x = 0 → Go p l e R s m args below meth c nL G A cells slots Q L M (pc + 3) lv st) : Go p l e R s m args below meth c nL G A cells slots Q L M pc lv (.int x :: st) := fun H locs ls hP hD hS hl => lv_if_ne C.1 C.2.1 hd ht (fun q => kt q H locs ls hP hD hS hl) (fun q => kf q H locs ls hP hD hS hl)
theorem g_icmp_ne (C : Cx p s m args meth c own cc nL G cy A) {x y : Int32} {off : Int} {tgt : Nat} (hd : decode cc pc = .ok (.if_icmp .ne off, 3)) (ht : (pc : Int) + off = (tgt : Int)) (kt : ¬ x = y → Go p l e R s m args below meth c nL G A cells slots Q L M tgt lv st) (kf : x = y → Go p l e R s m args below meth c nL G A cells slots Q L M (pc + 3) lv st) : Go p l e R s m args below meth c nL G A cells slots Q L M pc lv (.int y :: .int x :: st) := fun H locs ls hP hD hS hl => lv_icmp_ne C.1 C.2.1 hd ht (fun q => kt q H locs ls hP hD hS hl) (fun q => kf q H locs ls hP hD hS hl)
theorem g_if_lt (C : Cx p s m args meth c own cc nL G cy A) {x : Int32} {off : Int} {tgt : Nat} (hd : decode cc pc = .ok (.ifCond .lt off, 3)) (ht : (pc : Int) + off = (tgt : Int)) (kt : x < 0 → Go p l e R s m args below meth c nL G A cells slots Q L M tgt lv st) (kf : ¬ x < 0 → Go p l e R s m args below meth c nL G A cells slots Q L M (pc + 3) lv st) : Go p l e R s m args below meth c nL G A cells slots Q L M pc lv (.int x :: st) := fun H locs ls hP hD hS hl => lv_if_lt C.1 C.2.1 hd ht (fun q => kt q H locs ls hP hD hS hl) (fun q => kf q H locs ls hP hD hS hl)
theorem g_icmp_lt (C : Cx p s m args meth c own cc nL G cy A) {x y : Int32} {off : Int} {tgt : Nat} (hd : decode cc pc = .ok (.if_icmp .lt off, 3)) (ht : (pc : Int) + off = (tgt : Int)) (kt : x < y → Go p l e R s m args below meth c nL G A cells slots Q L M tgt lv st) (kf : ¬ x < y → Go p l e R s m args below meth c nL G A cells slots Q L M (pc + 3) lv st) : Go p l e R s m args below meth c nL G A cells slots Q L M pc lv (.int y :: .int x :: st) := fun H locs ls hP hD hS hl => lv_icmp_lt C.1 C.2.1 hd ht (fun q => kt q H locs ls hP hD hS hl) (fun q => kf q H locs ls hP hD hS hl)
theorem g_if_ge (C : Cx p s m args meth c own cc nL G cy A) {x : Int32} {off : Int} {tgt : Nat} (hd : decode cc pc = .ok (.ifCond .ge off, 3)) (ht : (pc : Int) + off = (tgt : Int)) (kt : 0 ≤ x → Go p l e R s m args below meth c nL G A cells slots Q L M tgt lv st) (kf : ¬ 0 ≤ x → Go p l e R s m args below meth c nL G A cells slots Q L M (pc + 3) lv st) : Go p l e R s m args below meth c nL G A cells slots Q L M pc lv (.int x :: st) := fun H locs ls hP hD hS hl => lv_if_ge C.1 C.2.1 hd ht (fun q => kt q H locs ls hP hD hS hl) (fun q => kf q H locs ls hP hD hS hl)
theorem g_icmp_ge (C : Cx p s m args meth c own cc nL G cy A) {x y : Int32} {off : Int} {tgt : Nat} (hd : decode cc pc = .ok (.if_icmp .ge off, 3)) (ht : (pc : Int) + off = (tgt : Int)) (kt : y ≤ x → Go p l e R s m args below meth c nL G A cells slots Q L M tgt lv st) (kf : ¬ y ≤ x → Go p l e R s m args below meth c nL G A cells slots Q L M (pc + 3) lv st) : Go p l e R s m args below meth c nL G A cells slots Q L M pc lv (.int y :: .int x :: st) := fun H locs ls hP hD hS hl => lv_icmp_ge C.1 C.2.1 hd ht (fun q => kt q H locs ls hP hD hS hl) (fun q => kf q H locs ls hP hD hS hl)
theorem g_if_gt (C : Cx p s m args meth c own cc nL G cy A) {x : Int32} {off : Int} {tgt : Nat} (hd : decode cc pc = .ok (.ifCond .gt off, 3)) (ht : (pc : Int) + off = (tgt : Int)) (kt : 0 < x → Go p l e R s m args below meth c nL G A cells slots Q L M tgt lv st) (kf : ¬ 0 < x → Go p l e R s m args below meth c nL G A cells slots Q L M (pc + 3) lv st) : Go p l e R s m args below meth c nL G A cells slots Q L M pc lv (.int x :: st) := fun H locs ls hP hD hS hl => lv_if_gt C.1 C.2.1 hd ht (fun q => kt q H locs ls hP hD hS hl) (fun q => kf q H locs ls hP hD hS hl)
theorem g_icmp_gt (C : Cx p s m args meth c own cc nL G cy A) {x y : Int32} {off : Int} {tgt : Nat} (hd : decode cc pc = .ok (.if_icmp .gt off, 3)) (ht : (pc : Int) + off = (tgt : Int)) (kt : y < x → Go p l e R s m args below meth c nL G A cells slots Q L M tgt lv st) (kf : ¬ y < x → Go p l e R s m args below meth c nL G A cells slots Q L M (pc + 3) lv st) : Go p l e R s m args below meth c nL G A cells slots Q L M pc lv (.int y :: .int x :: st) := fun H locs ls hP hD hS hl => lv_icmp_gt C.1 C.2.1 hd ht (fun q => kt q H locs ls hP hD hS hl) (fun q => kf q H locs ls hP hD hS hl)
theorem g_if_le (C : Cx p s m args meth c own cc nL G cy A) {x : Int32} {off : Int} {tgt : Nat} (hd : decode cc pc = .ok (.ifCond .le off, 3)) (ht : (pc : Int) + off = (tgt : Int)) (kt : x ≤ 0 → Go p l e R s m args below meth c nL G A cells slots Q L M tgt lv st) (kf : ¬ x ≤ 0 → Go p l e R s m args below meth c nL G A cells slots Q L M (pc + 3) lv st) : Go p l e R s m args below meth c nL G A cells slots Q L M pc lv (.int x :: st) := fun H locs ls hP hD hS hl => lv_if_le C.1 C.2.1 hd ht (fun q => kt q H locs ls hP hD hS hl) (fun q => kf q H locs ls hP hD hS hl)
theorem g_icmp_le (C : Cx p s m args meth c own cc nL G cy A) {x y : Int32} {off : Int} {tgt : Nat} (hd : decode cc pc = .ok (.if_icmp .le off, 3)) (ht : (pc : Int) + off = (tgt : Int)) (kt : x ≤ y → Go p l e R s m args below meth c nL G A cells slots Q L M tgt lv st) (kf : ¬ x ≤ y → Go p l e R s m args below meth c nL G A cells slots Q L M (pc + 3) lv st) : Go p l e R s m args below meth c nL G A cells slots Q L M pc lv (.int y :: .int x :: st) := fun H locs ls hP hD hS hl => lv_icmp_le C.1 C.2.1 hd ht (fun q => kt q H locs ls hP hD hS hl) (fun q => kf q H locs ls hP hD hS hl)
theorem g_goto (C : Cx p s m args meth c own cc nL G cy A) {off : Int} {tgt : Nat} (hd : decode cc pc = .ok (.goto off, 3)) (ht : (pc : Int) + off = (tgt : Int)) (k : Go p l e R s m args below meth c nL G A cells slots Q L M tgt lv st) : Go p l e R s m args below meth c nL G A cells slots Q L M pc lv st := fun H locs ls hP hD hS hl => lv_goto C.1 C.2.1 hd ht (k H locs ls hP hD hS hl)
theorem g_ifnonnull (C : Cx p s m args meth c own cc nL G cy A) {x : Nat} {off : Int} {tgt : Nat} (hd : decode cc pc = .ok (.ifnonnull off, 3)) (ht : (pc : Int) + off = (tgt : Int)) (k : Go p l e R s m args below meth c nL G A cells slots Q L M tgt lv st) : Go p l e R s m args below meth c nL G A cells slots Q L M pc lv (.ref x :: st) := fun H locs ls hP hD hS hl => lv_ifnonnull C.1 C.2.1 hd ht (k H locs ls hP hD hS hl)
theorem g_ifnull (C : Cx p s m args meth c own cc nL G cy A) {x : Nat} {off : Int} (hd : decode cc pc = .ok (.ifnull off, 3)) (k : Go p l e R s m args below meth c nL G A cells slots Q L M (pc + 3) lv st) : Go p l e R s m args below meth c nL G A cells slots Q L M pc lv (.ref x :: st) := fun H locs ls hP hD hS hl => lv_ifnull C.1 C.2.1 hd (k H locs ls hP hD hS hl)
theorem g_ifnullN (C : Cx p s m args meth c own cc nL G cy A) {off : Int} {tgt : Nat} (hd : decode cc pc = .ok (.ifnull off, 3)) (ht : (pc : Int) + off = (tgt : Int)) (k : Go p l e R s m args below meth c nL G A cells slots Q L M tgt lv st) : Go p l e R s m args below meth c nL G A cells slots Q L M pc lv (.null :: st) := fun H locs ls hP hD hS hl => lv_ifnullN C.1 C.2.1 hd ht (k H locs ls hP hD hS hl)
theorem g_ifnonnullN (C : Cx p s m args meth c own cc nL G cy A) {off : Int} (hd : decode cc pc = .ok (.ifnonnull off, 3)) (k : Go p l e R s m args below meth c nL G A cells slots Q L M (pc + 3) lv st) : Go p l e R s m args below meth c nL G A cells slots Q L M pc lv (.null :: st) := fun H locs ls hP hD hS hl => lv_ifnonnullN C.1 C.2.1 hd (k H locs ls hP hD hS hl)
theorem g_tableOut (C : Cx p s m args meth c own cc nL G cy A) {dflt lo hi : Int} {offs : Array Int} {len : Nat} {x : Int32} {tgt : Nat} (hd : decode cc pc = .ok (.tableswitch dflt lo hi offs, len)) (h : x.toInt < lo ∨ hi < x.toInt) (ht : (pc : Int) + dflt = (tgt : Int)) (k : Go p l e R s m args below meth c nL G A cells slots Q L M tgt lv st) : Go p l e R s m args below meth c nL G A cells slots Q L M pc lv (.int x :: st) := fun H locs ls hP hD hS hl => lv_tableOut C.1 C.2.1 hd h ht (k H locs ls hP hD hS hl)
theorem g_tableIn (C : Cx p s m args meth c own cc nL G cy A) {dflt lo hi : Int} {offs : Array Int} {len : Nat} {x : Int32} {off : Int} {tgt : Nat} (hd : decode cc pc = .ok (.tableswitch dflt lo hi offs, len)) (h1 : ¬ x.toInt < lo) (h2 : ¬ hi < x.toInt) (ho : offs[(x.toInt - lo).toNat]? = some off) (ht : (pc : Int) + off = (tgt : Int)) (k : Go p l e R s m args below meth c nL G A cells slots Q L M tgt lv st) : Go p l e R s m args below meth c nL G A cells slots Q L M pc lv (.int x :: st) := fun H locs ls hP hD hS hl => lv_tableIn C.1 C.2.1 hd h1 h2 ho ht (k H locs ls hP hD hS hl)
theorem g_ldc (C : Cx p s m args meth c own cc nL G cy A) {idx : Nat} {v : Int32} (hw : Cond.constant own idx v ∈ tblG) (hd : decode cc pc = .ok (.ldc idx, 2)) (k : Go p l e R s m args below meth c nL G A cells slots Q L M (pc + 2) lv (.int v :: st)) : Go p l e R s m args below meth c nL G A cells slots Q L M pc lv st := fun H locs ls hP hD hS hl => lv_ldc C.1 C.2.1 C.2.2.2.1 (C.2.2.2.2.1 _ hw) hd (k H locs ls hP hD hS hl)
theorem g_ldcw (C : Cx p s m args meth c own cc nL G cy A) {idx : Nat} {v : Int32} (hw : Cond.constant own idx v ∈ tblG) (hd : decode cc pc = .ok (.ldc_w idx, 3)) (k : Go p l e R s m args below meth c nL G A cells slots Q L M (pc + 3) lv (.int v :: st)) : Go p l e R s m args below meth c nL G A cells slots Q L M pc lv st := fun H locs ls hP hD hS hl => lv_ldcw C.1 C.2.1 C.2.2.2.1 (C.2.2.2.2.1 _ hw) hd (k H locs ls hP hD hS hl)
theorem g_ldc2 (C : Cx p s m args meth c own cc nL G cy A) {idx : Nat} {v : Int64} (hw : Cond.constantLong own idx v ∈ tblG) (hd : decode cc pc = .ok (.ldc2_w idx, 3)) (k : Go p l e R s m args below meth c nL G A cells slots Q L M (pc + 3) lv (.long v :: st)) : Go p l e R s m args below meth c nL G A cells slots Q L M pc lv st := fun H locs ls hP hD hS hl => lv_ldc2 C.1 C.2.1 C.2.2.2.1 (C.2.2.2.2.1 _ hw) hd (k H locs ls hP hD hS hl)
theorem g_widen {k1 k2 : Nat} (h1 : cells ≤ k1) (h2 : slots ≤ k2) (k : Go p l e R s m args below meth c nL G A k1 k2 Q L M pc lv st) : Go p l e R s m args below meth c nL G A cells slots Q L M pc lv st := fun H locs ls hP hD hS hl => W.widen h1 h2 (k H locs ls hP hD hS hl)
/-- a class of the worlds: its fields, its words -/
def CLk (ci : Nat) (K : String) (T : u_T) (N : Nat) (ty0 : Nat → FieldType) : Prop := vwCl[ci]? = some (K, T, N) ∧ (∀ w ∈ u_ws K T N, w ∈ tblG) ∧ (∀ k, k < N → parseFieldDescriptor (T k).2.2.1 = some (ty0 k)) ∧ ∀ a, a < N → ∀ b, b < N → a ≠ b → (T a).2.1 ≠ (T b).2.1
def FLk (own : String) (idx ci k : Nat) (ty : FieldType) (fin : Bool) : Prop := ∃ (K : String) (T : u_T) (N : Nat) (ty0 : Nat → FieldType), CLk ci K T N ty0 ∧ k < N ∧ (T k).1 = K ∧ ty0 k = ty ∧ (T k).2.2.2 = fin ∧ (Cond.fieldLink own idx K (T k).2.1 (T k).2.2.1 ∈ tblG ∨ ∃ host, Cond.fieldLinkNest own idx K (T k).2.1 (T k).2.2.1 host ∈ nsW)
theorem g_get (C : Cx p s m args meth c own cc nL G cy A) {a idx ci kf : Nat} {ty : FieldType} {fin : Bool} {fs : List Value} {v : Value} (f : FLk own idx ci kf ty fin) (hd : decode cc pc = .ok (.getfield idx, 3)) (hL : a ∈ L) (hM : M a = .inr (ci, fs)) (hv : fs[kf]? = some v) (k : Go p l e R s m args below meth c nL G A cells slots Q L M (pc + 3) lv (v :: st)) : Go p l e R s m args below meth c nL G A cells slots Q L M pc lv (.ref a :: st) := by
  intro H locs ls hP hD hS hl
  obtain ⟨K, T, N, ty0, ⟨hc, hin, hty, hnm⟩, hk, hT, -, -, hw⟩ := f
  obtain ⟨q0, -, hq⟩ := pl_at hL hM
  rcases hw with hw | ⟨host, hw⟩
  · exact va_get C.1 C.2.1 C.2.2.2.2.1 hin C.2.2.2.1 C.2.2.2.2.2.2.1 hP q0 hq hc kf hk (C.2.2.2.2.1 _ hw) (fun x hx => by rw [hT] at hx; exact hx) hv hd (k H locs ls hP hD hS hl)
  · exact va_getN C.1 C.2.1 C.2.2.2.2.1 hin C.2.2.2.1 C.2.2.2.2.2.2.1 hP q0 hq hc kf hk (va_Nw.use rfl (C.2.2.2.2.2.1.1 _ hw)) (fun x hx => by rw [hT] at hx; exact hx) hv hd (k H locs ls hP hD hS hl)
theorem g_put (C : Cx p s m args meth c own cc nL G cy A) {a idx ci kf : Nat} {ty : FieldType} {fs : List Value} {v : Value} (f : FLk own idx ci kf ty false) (hd : decode cc pc = .ok (.putfield idx, 3)) (hL : a ∈ L) (hM : M a = .inr (ci, fs)) (hn : narrow ty v = v) (hfit : fits ty v = true) (hlen : kf < fs.length) (k : Go p l e R s m args below meth c nL G A cells slots Q L (va_up M a (.inr (ci, fs.set kf v))) (pc + 3) lv st) : Go p l e R s m args below meth c nL G A cells slots Q L M pc lv (v :: .ref a :: st) := by
  intro H locs ls hP hD hS hl
  obtain ⟨K, T, N, ty0, ⟨hc, hin, hty, hnm⟩, hk, hT, ht0, hfin, hw⟩ := f
  obtain ⟨q0, hq1, hq⟩ := pl_at hL hM
  have hdt : parseFieldDescriptor (T kf).2.2.1 = some ty := by rw [hty kf hk, ht0]
  rcases hw with hw | ⟨host, hw⟩
  · refine va_put C.1 C.2.1 C.2.2.2.2.1 hin ty0 hty hnm C.2.2.2.1 C.2.2.2.2.2.2.1 hP hD hS q0 hq hc kf hk (C.2.2.2.2.1 _ hw) (fun x hx => by rw [hT] at hx; exact hx) hfin hdt hn hfit hlen hd (fun H1 locs1 hP1 hD1 hS1 => ?_)
    rw [pl_set hD hL hq1] at hP1 hD1
    exact k H1 locs1 ls hP1 hD1 hS1 hl
  · refine va_putN C.1 C.2.1 C.2.2.2.2.1 hin ty0 hty hnm C.2.2.2.1 C.2.2.2.2.2.2.1 hP hD hS q0 hq hc kf hk (va_Nw.use rfl (C.2.2.2.2.2.1.1 _ hw)) (fun x hx => by rw [hT] at hx; exact hx) hfin hdt hn hfit hlen hd (fun H1 locs1 hP1 hD1 hS1 => ?_)
    rw [pl_set hD hL hq1] at hP1 hD1
    exact k H1 locs1 ls hP1 hD1 hS1 hl
theorem g_putS (C : Cx p s m args meth c own cc nL G cy A) {a idx ci kf : Nat} {ty : FieldType} {fs : List Value} {v : Value} (f : FLk own idx ci kf ty false) (hd : decode cc pc = .ok (.putfield idx, 3)) (hL : a ∈ L) (hM : M a = .inr (ci, fs)) (hn : narrow ty v = v) (hfit : fits ty v = true) (hlen : kf < fs.length) (hsame : fs.set kf v = fs) (k : Go p l e R s m args below meth c nL G A cells slots Q L M (pc + 3) lv st) : Go p l e R s m args below meth c nL G A cells slots Q L M pc lv (v :: .ref a :: st) := by
  refine g_put C f hd hL hM hn hfit hlen ?_
  rw [hsame, va_up_eta hM]
  exact k
theorem g_putF (C : Cx p s m args meth c own cc nL G cy A) {a idx ci kf : Nat} {ty : FieldType} {fs : List Value} {v : Value} (f : FLk own idx ci kf ty true) (hini : meth.name = "<init>") (hK : ∀ K T N, vwCl[ci]? = some (K, T, N) → K = own) (hnest : ∀ host T N, vwCl[ci]? = some (own, T, N) → Cond.fieldLinkNest own idx own (T kf).2.1 (T kf).2.2.1 host ∉ nsW) (hd : decode cc pc = .ok (.putfield idx, 3)) (hL : a ∈ L) (hM : M a = .inr (ci, fs)) (hn : narrow ty v = v) (hfit : fits ty v = true) (hlen : kf < fs.length) (k : Go p l e R s m args below meth c nL G A cells slots Q L (va_up M a (.inr (ci, fs.set kf v))) (pc + 3) lv st) : Go p l e R s m args below meth c nL G A cells slots Q L M pc lv (v :: .ref a :: st) := by
  intro H locs ls hP hD hS hl
  obtain ⟨K, T, N, ty0, ⟨hc, hin, hty, hnm⟩, hk, hT, ht0, hfin, hw⟩ := f
  obtain ⟨q0, hq1, hq⟩ := pl_at hL hM
  have hdt : parseFieldDescriptor (T kf).2.2.1 = some ty := by rw [hty kf hk, ht0]
  have hKo : K = own := hK K T N hc
  subst hKo
  rcases hw with hw | ⟨host, hw⟩
  · refine va_putF C.1 C.2.1 C.2.2.2.2.1 hin ty0 hty hnm C.2.2.2.1 C.2.2.2.2.2.2.1 hP hD hS q0 hq hc kf hk (C.2.2.2.2.1 _ hw) (fun x hx => by rw [hT] at hx; exact hx) hfin hini hT hdt hn hfit hlen hd (fun H1 locs1 hP1 hD1 hS1 => ?_)
    rw [pl_set hD hL hq1] at hP1 hD1
    exact k H1 locs1 ls hP1 hD1 hS1 hl
  · exact absurd hw (hnest host T N hc)
theorem g_iald (C : Cx p s m args meth c own cc nL G cy A) {a N : Nat} {f : Nat → Int32} {i : Int32} {v : Int32} (hd : decode cc pc = .ok (.iaload, 1)) (hL : a ∈ L) (hM : M a = .inl (cy 1, N, .inl f)) (hin : vp_in i N) (hv : f i.toNatClampNeg = v) (k : Go p l e R s m args below meth c nL G A cells slots Q L M (pc + 1) lv (.int v :: st)) : Go p l e R s m args below meth c nL G A cells slots Q L M pc lv (.int i :: .ref a :: st) := by
  intro H locs ls hP hD hS hl
  obtain ⟨q0, -, hq⟩ := pl_at hL hM
  subst hv
  exact va_iald C.1 C.2.1 C.2.2.2.2.2.2.1 hP q0 1 hq rfl hin hd (k H locs ls hP hD hS hl)
theorem g_bald (C : Cx p s m args meth c own cc nL G cy A) {a N : Nat} {f : Nat → Int32} {i : Int32} {v : Int32} (hd : decode cc pc = .ok (.baload, 1)) (hL : a ∈ L) (hM : M a = .inl (cy 0, N, .inl f)) (hin : vp_in i N) (hv : f i.toNatClampNeg = v) (k : Go p l e R s m args below meth c nL G A cells slots Q L M (pc + 1) lv (.int v :: st)) : Go p l e R s m args below meth c nL G A cells slots Q L M pc lv (.int i :: .ref a :: st) := by
  intro H locs ls hP hD hS hl
  obtain ⟨q0, -, hq⟩ := pl_at hL hM
  subst hv
  exact va_bald C.1 C.2.1 C.2.2.2.2.2.2.1 hP q0 0 hq rfl hin hd (k H locs ls hP hD hS hl)
theorem g_zald (C : Cx p s m args meth c own cc nL G cy A) {a N : Nat} {f : Nat → Int32} {i : Int32} {v : Int32} (hd : decode cc pc = .ok (.baload, 1)) (hL : a ∈ L) (hM : M a = .inl (cy 3, N, .inl f)) (hin : vp_in i N) (hv : f i.toNatClampNeg = v) (k : Go p l e R s m args below meth c nL G A cells slots Q L M (pc + 1) lv (.int v :: st)) : Go p l e R s m args below meth c nL G A cells slots Q L M pc lv (.int i :: .ref a :: st) := by
  intro H locs ls hP hD hS hl
  obtain ⟨q0, -, hq⟩ := pl_at hL hM
  subst hv
  exact va_zald C.1 C.2.1 C.2.2.2.2.2.2.1 hP q0 3 hq rfl hin hd (k H locs ls hP hD hS hl)
theorem g_lald (C : Cx p s m args meth c own cc nL G cy A) {a N : Nat} {f : Nat → Int64} {i : Int32} {v : Int64} (hd : decode cc pc = .ok (.laload, 1)) (hL : a ∈ L) (hM : M a = .inl (cy 2, N, .inr (.inl f))) (hin : vp_in i N) (hv : f i.toNatClampNeg = v) (k : Go p l e R s m args below meth c nL G A cells slots Q L M (pc + 1) lv (.long v :: st)) : Go p l e R s m args below meth c nL G A cells slots Q L M pc lv (.int i :: .ref a :: st) := by
  intro H locs ls hP hD hS hl
  obtain ⟨q0, -, hq⟩ := pl_at hL hM
  subst hv
  exact va_lald C.1 C.2.1 C.2.2.2.2.2.2.1 hP q0 2 hq rfl hin hd (k H locs ls hP hD hS hl)
theorem g_iast (C : Cx p s m args meth c own cc nL G cy A) {a N : Nat} {f : Nat → Int32} {i : Int32} {x : Int32} (hd : decode cc pc = .ok (.iastore, 1)) (hL : a ∈ L) (hM : M a = .inl (cy 1, N, .inl (f))) (hin : vp_in i N) (k : Go p l e R s m args below meth c nL G A cells slots Q L (va_up M a (.inl (cy 1, N, .inl (upd f i.toNatClampNeg x)))) (pc + 1) lv st) : Go p l e R s m args below meth c nL G A cells slots Q L M pc lv (.int x :: .int i :: .ref a :: st) := by
  intro H locs ls hP hD hS hl
  obtain ⟨q0, hq1, hq⟩ := pl_at hL hM
  refine va_iast C.1 C.2.1 C.2.2.2.2.2.2.1 hP hD hS q0 1 hq rfl hin hd (fun H1 locs1 hP1 hD1 hS1 => ?_)
  rw [pl_set hD hL hq1] at hP1 hD1
  exact k H1 locs1 ls hP1 hD1 hS1 hl
theorem g_bast (C : Cx p s m args meth c own cc nL G cy A) {a N : Nat} {f : Nat → Int32} {i : Int32} {x : Int32} (hd : decode cc pc = .ok (.bastore, 1)) (hL : a ∈ L) (hM : M a = .inl (cy 0, N, .inl (f))) (hin : vp_in i N) (k : Go p l e R s m args below meth c nL G A cells slots Q L (va_up M a (.inl (cy 0, N, .inl (upd f i.toNatClampNeg (vp_nar .byte x))))) (pc + 1) lv st) : Go p l e R s m args below meth c nL G A cells slots Q L M pc lv (.int x :: .int i :: .ref a :: st) := by
  intro H locs ls hP hD hS hl
  obtain ⟨q0, hq1, hq⟩ := pl_at hL hM
  refine va_bast C.1 C.2.1 C.2.2.2.2.2.2.1 hP hD hS q0 0 hq rfl hin hd (fun H1 locs1 hP1 hD1 hS1 => ?_)
  rw [pl_set hD hL hq1] at hP1 hD1
  exact k H1 locs1 ls hP1 hD1 hS1 hl
theorem g_zast (C : Cx p s m args meth c own cc nL G cy A) {a N : Nat} {f : Nat → Int32} {i : Int32} {x : Int32} (hd : decode cc pc = .ok (.bastore, 1)) (hL : a ∈ L) (hM : M a = .inl (cy 3, N, .inl (f))) (hin : vp_in i N) (k : Go p l e R s m args below meth c nL G A cells slots Q L (va_up M a (.inl (cy 3, N, .inl (upd f i.toNatClampNeg (vp_nar .boolean x))))) (pc + 1) lv st) : Go p l e R s m args below meth c nL G A cells slots Q L M pc lv (.int x :: .int i :: .ref a :: st) := by
  intro H locs ls hP hD hS hl
  obtain ⟨q0, hq1, hq⟩ := pl_at hL hM
  refine va_zast C.1 C.2.1 C.2.2.2.2.2.2.1 hP hD hS q0 3 hq rfl hin hd (fun H1 locs1 hP1 hD1 hS1 => ?_)
  rw [pl_set hD hL hq1] at hP1 hD1
  exact k H1 locs1 ls hP1 hD1 hS1 hl
theorem g_last (C : Cx p s m args meth c own cc nL G cy A) {a N : Nat} {f : Nat → Int64} {i : Int32} {x : Int64} (hd : decode cc pc = .ok (.lastore, 1)) (hL : a ∈ L) (hM : M a = .inl (cy 2, N, .inr (.inl (f)))) (hin : vp_in i N) (k : Go p l e R s m args below meth c nL G A cells slots Q L (va_up M a (.inl (cy 2, N, .inr (.inl (vp_updL f i.toNatClampNeg x))))) (pc + 1) lv st) : Go p l e R s m args below meth c nL G A cells slots Q L M pc lv (.long x :: .int i :: .ref a :: st) := by
  intro H locs ls hP hD hS hl
  obtain ⟨q0, hq1, hq⟩ := pl_at hL hM
  refine va_last C.1 C.2.1 C.2.2.2.2.2.2.1 hP hD hS q0 2 hq rfl hin hd (fun H1 locs1 hP1 hD1 hS1 => ?_)
  rw [pl_set hD hL hq1] at hP1 hD1
  exact k H1 locs1 ls hP1 hD1 hS1 hl
theorem g_alen (C : Cx p s m args meth c own cc nL G cy A) {a t0 : Nat} {x : vp_A} {ty : FieldType} {cA : ClassId} {v : Int32} (ht : (tyL cy)[t0]? = some (cA, ty)) (hd : decode cc pc = .ok (.arraylength, 1)) (hL : a ∈ L) (hM : M a = .inl (cA, x)) (hv : Int32.ofNat x.1 = v) (k : Go p l e R s m args below meth c nL G A cells slots Q L M (pc + 1) lv (.int v :: st)) : Go p l e R s m args below meth c nL G A cells slots Q L M pc lv (.ref a :: st) := by
  intro H locs ls hP hD hS hl
  obtain ⟨q0, -, hq⟩ := pl_at hL hM
  exact va_alen C.1 C.2.1 C.2.2.2.2.2.2.1 hP q0 t0 hq ht hv hd (k H locs ls hP hD hS hl)
theorem g_aldq (C : Cx p s m args meth c own cc nL G cy A) {a N t0 : Nat} {cA : ClassId} {K : String} {f : Nat → Option Nat} {i : Int32} {v : Value} (ht : (tyL cy)[t0]? = some (cA, .object K)) (hd : decode cc pc = .ok (.aaload, 1)) (hL : a ∈ L) (hM : M a = .inl (cA, N, .inr (.inr (.inr (.inr f))))) (hin : vp_in i N) (hv : va_rf (f i.toNatClampNeg) = v) (k : Go p l e R s m args below meth c nL G A cells slots Q L M (pc + 1) lv (v :: st)) : Go p l e R s m args below meth c nL G A cells slots Q L M pc lv (.int i :: .ref a :: st) := by
  intro H locs ls hP hD hS hl
  obtain ⟨q0, -, hq⟩ := pl_at hL hM
  subst hv
  exact va_aldq C.1 C.2.1 C.2.2.2.2.2.2.1 hP q0 t0 hq ht hin hd (k H locs ls hP hD hS hl)
theorem g_astq (C : Cx p s m args meth c own cc nL G cy A) {a N t0 ci v : Nat} {cA : ClassId} {r : vw_C} {vs : List Value} {f : Nat → Option Nat} {i : Int32} (ht : (tyL cy)[t0]? = some (cA, .object r.1)) (hc : vwCl[ci]? = some r) (hd : decode cc pc = .ok (.aastore, 1)) (hL : a ∈ L) (hM : M a = .inl (cA, N, .inr (.inr (.inr (.inr f))))) (hvL : v ∈ L) (hvM : M v = .inr (ci, vs)) (hin : vp_in i N) (k : Go p l e R s m args below meth c nL G A cells slots Q L (va_up M a (.inl (cA, N, .inr (.inr (.inr (.inr (va_up f i.toNatClampNeg (some v)))))))) (pc + 1) lv st) : Go p l e R s m args below meth c nL G A cells slots Q L M pc lv (.ref v :: .int i :: .ref a :: st) := by
  intro H locs ls hP hD hS hl
  obtain ⟨q0, hq1, hq⟩ := pl_at hL hM
  obtain ⟨q2, -, hq3⟩ := pl_at hvL hvM
  refine va_astq C.1 C.2.1 C.2.2.2.2.2.2.1 hP hD hS q0 t0 q2 ci hq ht hq3 hc hin hd (fun H1 locs1 hP1 hD1 hS1 => ?_)
  rw [pl_set hD hL hq1] at hP1 hD1
  exact k H1 locs1 ls hP1 hD1 hS1 hl
theorem pl_push {A : Nat → Prop} {L : List Nat} {M : Nat → va_E} {q : Nat} {x : va_E} (hD : va_D A (va_pl L M ++ [(q, x)])) : q ∉ L ∧ va_pl L M ++ [(q, x)] = va_pl (L ++ [q]) (va_up M q x) := by
  have h : q ∉ L := va_pl_fresh2 (X := []) hD
  exact ⟨h, va_pl_push h⟩
theorem g_new (C : Cx p s m args meth c own cc nL G cy A) {ci idx N : Nat} {K : String} {T : u_T} {ty0 : Nat → FieldType} {fs : List Value} (f : CLk ci K T N ty0) (h1 : Cond.classLink own idx K ∈ tblG) (h2 : Cond.instantiable K N ∈ tblG) (h3 : Cond.initialized K ∈ tblG) (hfs : ∀ j, j < N → defaultValue (ty0 j) = vp_V fs j) (hcells : cells + 1 ≤ R.cells) (hslots : slots + N ≤ R.slots) (hd : decode cc pc = .ok (.new idx, 3)) (k : ∀ q : Nat, q ∉ L → Go p l e R s m args below meth c nL G A (cells + 1) (slots + N) Q (L ++ [q]) (va_up M q (.inr (ci, fs))) (pc + 3) lv (.ref q :: st)) : Go p l e R s m args below meth c nL G A cells slots Q L M pc lv st := by
  intro H locs ls hP hD hS hl
  refine va_new C.1 C.2.1 C.2.2.2.2.1 f.2.1 ty0 f.2.2.1 C.2.2.2.1 (C.2.2.2.2.1 _ h1) (C.2.2.2.2.1 _ h2) (C.2.2.2.2.1 _ h3) C.2.2.2.2.2.2.1 hP hD hS C.2.2.2.2.2.2.2.1 f.1 hfs hcells hslots hd (fun q H1 hP1 hD1 hS1 => ?_)
  obtain ⟨hq, e⟩ := pl_push hD1
  rw [e] at hP1 hD1
  exact k q hq H1 locs ls hP1 hD1 hS1 hl
theorem ra_uni {U : State} {c1 c2 : ClassId} {ty : FieldType} (h1 : va_RA U c1 ty) (h2 : va_RA U c2 ty) : c1 = c2 := by
  cases ty with
  | object K =>
    obtain ⟨_, _, -, -, -, h1⟩ := h1
    obtain ⟨_, _, -, -, -, h2⟩ := h2
    exact Option.some.inj (h1.symm.trans h2)
  | _ => exact Option.some.inj (Eq.trans (Eq.symm h1) h2)
theorem ty_last {G : va_G} {cy : Nat → ClassId} {U : State} {cA c0 : ClassId} {ty : FieldType} {t0 : Nat} (hK : va_K G vwCl (tyL cy ++ [(cA, ty)]) U) (ht : (tyL cy)[t0]? = some (c0, ty)) : cA = c0 := by
  have h1 := (hK.2 6 (cA, ty) rfl).2
  have h2 := (hK.2 t0 (c0, ty) (by rw [List.getElem?_append_left (List.getElem?_eq_some_iff.mp ht).1]; exact ht)).2
  exact ra_uni h1 h2
theorem g_newa (C : Cx p s m args meth c own cc nL G cy A) {atype : ArrayType} {ty : FieldType} {t0 N : Nat} {cA : ClassId} {nI0 : Int32} {a0 : vp_A} (ht : (tyL cy)[t0]? = some (cA, ty)) (hw : Cond.arrayClass ty ∈ tblG) (hty : newarray.typeOf atype = ty) (ha : ∀ x : ClassId, vp_cell x a0 = arrV x N (fun _ => defaultValue ty)) (hn : ¬ nI0 < 0) (hN : nI0.toNatClampNeg = N) (hbytes : N * componentBytes ty ≤ 536870912) (hcells : cells + 1 ≤ R.cells) (hslots : slots + N ≤ R.slots) (hd : decode cc pc = .ok (.newarray atype, 2)) (k : ∀ q : Nat, q ∉ L → Go p l e R s m args below meth c nL G A (cells + 1) (slots + N) Q (L ++ [q]) (va_up M q (.inl (cA, a0))) (pc + 2) lv (.ref q :: st)) : Go p l e R s m args below meth c nL G A cells slots Q L M pc lv (.int nI0 :: st) := by
  intro H locs ls hP hD hS hl
  refine va_newa C.1 C.2.1 (by rw [hty]; exact C.2.2.2.2.1 _ hw) hty C.2.2.2.2.2.2.1 hP hD hS C.2.2.2.2.2.2.2.1 ha hn hN hbytes hcells hslots hd (fun q cB H1 hK1 hP1 hD1 hS1 => ?_)
  have e0 := ty_last hK1 ht
  subst e0
  obtain ⟨hq, e⟩ := pl_push hD1
  rw [e] at hP1 hD1
  exact k q hq H1 locs ls hP1 hD1 hS1 hl
theorem g_newq (C : Cx p s m args meth c own cc nL G cy A) {idx t0 N : Nat} {K : String} {cA : ClassId} {nI0 : Int32} (ht : (tyL cy)[t0]? = some (cA, .object K)) (hw : Cond.classLink own idx K ∈ tblG) (hover : va_AO K s) (hn : ¬ nI0 < 0) (hN : nI0.toNatClampNeg = N) (hbytes : N * 4 ≤ 536870912) (hcells : cells + 1 ≤ R.cells) (hslots : slots + N ≤ R.slots) (hd : decode cc pc = .ok (.anewarray idx, 3)) (k : ∀ q : Nat, q ∉ L → Go p l e R s m args below meth c nL G A (cells + 1) (slots + N) Q (L ++ [q]) (va_up M q (.inl (cA, N, .inr (.inr (.inr (.inr (fun _ => none))))))) (pc + 3) lv (.ref q :: st)) : Go p l e R s m args below meth c nL G A cells slots Q L M pc lv (.int nI0 :: st) := by
  intro H locs ls hP hD hS hl
  refine va_newq C.1 C.2.1 C.2.2.2.1 (C.2.2.2.2.1 _ hw) hover C.2.2.2.2.2.2.1 hP hD hS C.2.2.2.2.2.2.2.1 hn hN hbytes hcells hslots hd (fun q cB H1 hK1 hP1 hD1 hS1 => ?_)
  have e0 := ty_last hK1 ht
  subst e0
  obtain ⟨hq, e⟩ := pl_push hD1
  rw [e] at hP1 hD1
  exact k q hq H1 locs ls hP1 hD1 hS1 hl
theorem g_objInit (C : Cx p s m args meth c own cc nL G cy A) {idx a : Nat} (h1 : Cond.methodLink own idx objectInit ∈ tblG) (h2 : Cond.instanceMethod objectInit ∈ tblG) (h3 : Cond.code objectInit ⟨#[0xb1]⟩ 1 none ∈ tblG) (hd : decode cc pc = .ok (.invokespecial idx, 3)) (hn1 : 1 ≤ R.frames) (hlo : 20 ≤ R.locals) (hc0 : (st.map fun v => v.category).sum ≤ 8) (k : Go p l e R s m args below meth c nL G A cells slots Q L M (pc + 3) lv st) : Go p l e R s m args below meth c nL G A cells slots Q L M pc lv (.ref a :: st) := by
  intro H locs ls hP hD hS hl
  refine W.objInit C.1 C.2.1 C.2.2.2.1 (C.2.2.2.2.1 _ h1) (C.2.2.2.2.1 _ h2) (C.2.2.2.2.1 _ h3) rfl (by rw [C.2.2.1]; exact hl.1) rfl hd hn1 ?_ ?_
  · have h := lv_room (m := m) (pc := pc) (ls := ls) (rest := st) hc0
    have h2 : 2 * (F0 m pc ls (.ref a :: st)).monitorRoom = 2 * (F0 m pc ls st).monitorRoom := rfl
    omega
  · exact k H locs ls hP hD hS hl
theorem g_copyi (C : Cx p s m args meth c own cc nL G cy A) {idx t0 a0 a1 N0 N1 : Nat} {cA : ClassId} {ty : FieldType} {f g : Nat → Int32} {sp dp nn : Int32} (ht : (tyL cy)[t0]? = some (cA, ty)) (hprim : refKind ty = false) (h1 : Cond.methodLink own idx arraycopyName ∈ tblG) (h2 : Cond.native arraycopyName ∈ tblG) (h3 : Cond.static arraycopyName ∈ tblG) (h4 : Cond.initialized "java/lang/System" ∈ tblG) (hL0 : a0 ∈ L) (hM0 : M a0 = .inl (cA, N0, .inl f)) (hL1 : a1 ∈ L) (hM1 : M a1 = .inl (cA, N1, .inl g)) (c1 : ¬ sp < 0) (c2 : ¬ dp < 0) (c3 : ¬ nn < 0) (c4 : sp.toNatClampNeg + nn.toNatClampNeg ≤ N0) (c5 : dp.toNatClampNeg + nn.toNatClampNeg ≤ N1) (hfit : ∀ i, i < nn.toNatClampNeg → fits ty (.int (f (sp.toNatClampNeg + i))) = true) (hn1 : 1 ≤ R.frames) (hlo : (st.map fun v => v.category).sum + (nativeFrameWords "java/lang/System" "arraycopy" 5 + 11) ≤ R.locals) (hd : decode cc pc = .ok (.invokestatic idx, 3)) (k : Go p l e R s m args below meth c nL G A cells slots Q L (va_up M a1 (.inl (cA, N1, .inl (va_cpy f g sp.toNatClampNeg dp.toNatClampNeg nn.toNatClampNeg)))) (pc + 3) lv st) : Go p l e R s m args below meth c nL G A cells slots Q L M pc lv (.int nn :: .int dp :: .ref a1 :: .int sp :: .ref a0 :: st) := by
  intro H locs ls hP hD hS hl
  obtain ⟨q0, -, hq0⟩ := pl_at hL0 hM0
  obtain ⟨q1, hq1, hq2⟩ := pl_at hL1 hM1
  refine va_copyi C.1 C.2.1 (by rw [C.2.2.1]; exact hl.1.symm) C.2.2.2.1 (C.2.2.2.2.1 _ h1) (C.2.2.2.2.1 _ h2) (C.2.2.2.2.1 _ h3) (C.2.2.2.2.1 _ h4) C.2.2.2.2.2.2.1 hP hD hS q0 q1 t0 t0 hq0 hq2 ht ht hprim c1 c2 c3 c4 c5 hfit hn1 hlo hd (fun H1 locs1 hP1 hD1 hS1 => ?_)
  rw [pl_set hD hL1 hq1] at hP1 hD1
  exact k H1 locs1 ls hP1 hD1 hS1 hl
def WPre (G : va_G) (cy : Nat → ClassId) (L : List Nat) (M : Nat → va_E) (sz : Nat) (U : State) : Prop := U.heap.size = sz ∧ va_P G vwCl (va_pl L M) U.heap ∧ va_K G vwCl (tyL cy) U ∧ va_D (fun _ => True) (va_pl L M) ∧ NW U ∧ SCH G (va_A (va_pl L M) sz) U U.heap
def PoB (G : va_G) (A : Nat → Prop) (u : List Nat × (Nat → va_E)) (t : State) : Prop := va_P G vwCl (va_pl u.1 u.2) t.heap ∧ va_D A (va_pl u.1 u.2)
def QI (G : va_G) (A : Nat → Prop) (post : Int32 → List Nat → (Nat → va_E) → Prop) : Array Value → State → Outcome → State → Prop := va_Qi (fun r u => post r u.1 u.2) (PoB G A) A
def MI (l : Launch) (G : va_G) (cy : Nat → ClassId) (y : MethodName) (cc : ByteArray) (mL : Nat) (ret : Option FieldType) (n mc ms : Nat) (av : List Value) (L : List Nat) (M : Nat → va_E) (post : Int32 → List Nat → (Nat → va_E) → Prop) : Prop := ∀ sz : Nat, Met l y (.code y cc mL ret :: tblG) (rmL n mc ms) (va_Pc av (WPre G cy L M sz)) (QI G (va_A (va_pl L M) sz) post) mc ms (va_A (va_pl L M) sz)
theorem MI.of {l : Launch} {G : va_G} {cy : Nat → ClassId} {y : MethodName} {cc : ByteArray} {mL : Nat} {ret : Option FieldType} {n mc ms : Nat} {av : List Value} {L : List Nat} {M : Nat → va_E} {post : Int32 → List Nat → (Nat → va_E) → Prop} {own : String} (ho : y.cls = own) (hpl : plainName y.cls = true) (hlen : (lg_sl av).length ≤ mL) (body : ∀ (p : Program) (e : Env) (s : State) (m : MethodId) (below : List Frame) (meth : Method) (c : Code) (A : Nat → Prop), Cx p s m av.toArray meth c own cc mL G cy A → meth.sig.returnType = ret → meth.name = y.name → Go p l e (rmL n mc ms) s m av.toArray below meth c mL G A 0 0 (MQ below (QI G A post) av.toArray s mc ms A) L M 0 (lv_args 0 av) []) : MI l G cy y cc mL ret n mc ms av L M post := by
  intro sz
  subst ho
  refine Met.ofW (cc := cc) (maxL := mL) (ret := ret) hpl rfl ?_
  intro p e s m args below meth c s₁ B hml hv
  obtain ⟨rfl, hsz, hP, hK, hD0, hN, hSC⟩ := hv
  have hts := atoms_spec (ws := .code y cc mL ret :: tblG) B.pre
  subst hsz
  have hC : Cx p s m av.toArray meth c y.cls cc mL G cy (va_A (va_pl L M) s.heap.size) := ⟨B.exec, B.bytes, hml, findClass_of_methodNamed B.named, fun w hw => hts w (List.mem_cons_of_mem _ hw), hN, hK, fun q h => Or.inr h, B.notSynchronized, hSC⟩
  rw [lg_entry_eq]
  exact body p e s m below meth c _ hC B.returns (name_of_methodNamed B.named B.method).1 s.heap [] _ hP hD0.self va_S.rf (lv_entry av hlen)
def QJ (G : va_G) (A : Nat → Prop) (post : Int64 → List Nat → (Nat → va_E) → Prop) : Array Value → State → Outcome → State → Prop := va_Ql (fun r u => post r u.1 u.2) (PoB G A) A
def MJ (l : Launch) (G : va_G) (cy : Nat → ClassId) (y : MethodName) (cc : ByteArray) (mL : Nat) (ret : Option FieldType) (n mc ms : Nat) (av : List Value) (L : List Nat) (M : Nat → va_E) (post : Int64 → List Nat → (Nat → va_E) → Prop) : Prop := ∀ sz : Nat, Met l y (.code y cc mL ret :: tblG) (rmL n mc ms) (va_Pc av (WPre G cy L M sz)) (QJ G (va_A (va_pl L M) sz) post) mc ms (va_A (va_pl L M) sz)
theorem MJ.of {l : Launch} {G : va_G} {cy : Nat → ClassId} {y : MethodName} {cc : ByteArray} {mL : Nat} {ret : Option FieldType} {n mc ms : Nat} {av : List Value} {L : List Nat} {M : Nat → va_E} {post : Int64 → List Nat → (Nat → va_E) → Prop} {own : String} (ho : y.cls = own) (hpl : plainName y.cls = true) (hlen : (lg_sl av).length ≤ mL) (body : ∀ (p : Program) (e : Env) (s : State) (m : MethodId) (below : List Frame) (meth : Method) (c : Code) (A : Nat → Prop), Cx p s m av.toArray meth c own cc mL G cy A → meth.sig.returnType = ret → meth.name = y.name → Go p l e (rmL n mc ms) s m av.toArray below meth c mL G A 0 0 (MQ below (QJ G A post) av.toArray s mc ms A) L M 0 (lv_args 0 av) []) : MJ l G cy y cc mL ret n mc ms av L M post := by
  intro sz
  subst ho
  refine Met.ofW (cc := cc) (maxL := mL) (ret := ret) hpl rfl ?_
  intro p e s m args below meth c s₁ B hml hv
  obtain ⟨rfl, hsz, hP, hK, hD0, hN, hSC⟩ := hv
  have hts := atoms_spec (ws := .code y cc mL ret :: tblG) B.pre
  subst hsz
  have hC : Cx p s m av.toArray meth c y.cls cc mL G cy (va_A (va_pl L M) s.heap.size) := ⟨B.exec, B.bytes, hml, findClass_of_methodNamed B.named, fun w hw => hts w (List.mem_cons_of_mem _ hw), hN, hK, fun q h => Or.inr h, B.notSynchronized, hSC⟩
  rw [lg_entry_eq]
  exact body p e s m below meth c _ hC B.returns (name_of_methodNamed B.named B.method).1 s.heap [] _ hP hD0.self va_S.rf (lv_entry av hlen)
def QV (G : va_G) (A : Nat → Prop) (post : List Nat → (Nat → va_E) → Prop) : Array Value → State → Outcome → State → Prop := va_Qv (fun u => post u.1 u.2) (PoB G A) A
def MV (l : Launch) (G : va_G) (cy : Nat → ClassId) (y : MethodName) (cc : ByteArray) (mL : Nat) (ret : Option FieldType) (n mc ms : Nat) (av : List Value) (L : List Nat) (M : Nat → va_E) (post : List Nat → (Nat → va_E) → Prop) : Prop := ∀ sz : Nat, Met l y (.code y cc mL ret :: tblG) (rmL n mc ms) (va_Pc av (WPre G cy L M sz)) (QV G (va_A (va_pl L M) sz) post) mc ms (va_A (va_pl L M) sz)
theorem MV.of {l : Launch} {G : va_G} {cy : Nat → ClassId} {y : MethodName} {cc : ByteArray} {mL : Nat} {ret : Option FieldType} {n mc ms : Nat} {av : List Value} {L : List Nat} {M : Nat → va_E} {post : List Nat → (Nat → va_E) → Prop} {own : String} (ho : y.cls = own) (hpl : plainName y.cls = true) (hlen : (lg_sl av).length ≤ mL) (body : ∀ (p : Program) (e : Env) (s : State) (m : MethodId) (below : List Frame) (meth : Method) (c : Code) (A : Nat → Prop), Cx p s m av.toArray meth c own cc mL G cy A → meth.sig.returnType = ret → meth.name = y.name → Go p l e (rmL n mc ms) s m av.toArray below meth c mL G A 0 0 (MQ below (QV G A post) av.toArray s mc ms A) L M 0 (lv_args 0 av) []) : MV l G cy y cc mL ret n mc ms av L M post := by
  intro sz
  subst ho
  refine Met.ofW (cc := cc) (maxL := mL) (ret := ret) hpl rfl ?_
  intro p e s m args below meth c s₁ B hml hv
  obtain ⟨rfl, hsz, hP, hK, hD0, hN, hSC⟩ := hv
  have hts := atoms_spec (ws := .code y cc mL ret :: tblG) B.pre
  subst hsz
  have hC : Cx p s m av.toArray meth c y.cls cc mL G cy (va_A (va_pl L M) s.heap.size) := ⟨B.exec, B.bytes, hml, findClass_of_methodNamed B.named, fun w hw => hts w (List.mem_cons_of_mem _ hw), hN, hK, fun q h => Or.inr h, B.notSynchronized, hSC⟩
  rw [lg_entry_eq]
  exact body p e s m below meth c _ hC B.returns (name_of_methodNamed B.named B.method).1 s.heap [] _ hP hD0.self va_S.rf (lv_entry av hlen)
theorem g_iret (C : Cx p s m args meth c own cc nL G cy A) {v : Int32} {post : Int32 → List Nat → (Nat → va_E) → Prop} (hr : meth.sig.returnType = some .int) (hd : decode cc pc = .ok (.ireturn, 1)) (h1 : cells ≤ mc) (h2 : slots ≤ ms) (hp : post v L M) : Go p l e R s m args below meth c nL G A cells slots (MQ below (QI G A post) args s mc ms A) L M pc lv [.int v] := fun H locs ls hP hD hS hl => W.widen h1 h2 (W.iret (v := v) C.1 C.2.1 hr (fun t ht hW => ⟨⟨v, (L, M), rfl, hp, by rw [ht]; exact hP, hD⟩, hS.F ht⟩) hS.2.2 hd C.2.2.2.2.2.2.2.2.1)
theorem g_zret (C : Cx p s m args meth c own cc nL G cy A) {v : Int32} {ty : FieldType} {post : Int32 → List Nat → (Nat → va_E) → Prop} (hr : meth.sig.returnType = some ty) (hn : narrow ty (.int v) = .int v) (hd : decode cc pc = .ok (.ireturn, 1)) (h1 : cells ≤ mc) (h2 : slots ≤ ms) (hp : post v L M) : Go p l e R s m args below meth c nL G A cells slots (MQ below (QI G A post) args s mc ms A) L M pc lv [.int v] := fun H locs ls hP hD hS hl => W.widen h1 h2 (W.zret (v := v) C.1 C.2.1 hr hn (fun t ht hW => ⟨⟨v, (L, M), rfl, hp, by rw [ht]; exact hP, hD⟩, hS.F ht⟩) hS.2.2 hd C.2.2.2.2.2.2.2.2.1)
theorem g_lret (C : Cx p s m args meth c own cc nL G cy A) {v : Int64} {post : Int64 → List Nat → (Nat → va_E) → Prop} (hr : meth.sig.returnType = some .long) (hd : decode cc pc = .ok (.lreturn, 1)) (h1 : cells ≤ mc) (h2 : slots ≤ ms) (hp : post v L M) : Go p l e R s m args below meth c nL G A cells slots (MQ below (QJ G A post) args s mc ms A) L M pc lv [.long v] := fun H locs ls hP hD hS hl => W.widen h1 h2 (W.lret (v := v) C.1 C.2.1 hr (fun t ht hW => ⟨⟨v, (L, M), rfl, hp, by rw [ht]; exact hP, hD⟩, hS.F ht⟩) hS.2.2 hd C.2.2.2.2.2.2.2.2.1)
theorem g_vret (C : Cx p s m args meth c own cc nL G cy A) {post : List Nat → (Nat → va_E) → Prop} (hr : meth.sig.returnType = none) (hd : decode cc pc = .ok (.return_, 1)) (h1 : cells ≤ mc) (h2 : slots ≤ ms) (hp : post L M) : Go p l e R s m args below meth c nL G A cells slots (MQ below (QV G A post) args s mc ms A) L M pc lv [] := fun H locs ls hP hD hS hl => W.widen h1 h2 (W.vret C.1 C.2.1 hr (fun t ht hW => ⟨⟨(L, M), rfl, hp, by rw [ht]; exact hP, hD⟩, hS.F ht⟩) hS.2.2 hd C.2.2.2.2.2.2.2.2.1)
theorem wp_blind {G : va_G} {cy : Nat → ClassId} {L : List Nat} {M : Nat → va_E} {sz : Nat} {av : List Value} : FrameBlind (va_Pc av (WPre G cy L M sz)) := fun a U g mk q => ⟨q.1, q.2.1, q.2.2.1, va_K.moved (u := U) (U := U.calling g mk a) (Vm.Alike.refl U.vm) q.2.2.2.1, q.2.2.2.2.1, NW.same (u := U) (U := U.calling g mk a) rfl q.2.2.2.2.2.1, SCH.same (u := U) (U := U.calling g mk a) rfl q.2.2.2.2.2.2⟩
theorem wp_pre {G : va_G} {cy : Nat → ClassId} {L : List Nat} {M : Nat → va_E} {s : State} {H : Heap} {locs : List Loc} {A : Nat → Prop} {av : List Value} (hP : va_P G vwCl (va_pl L M) H) (hD : va_D A (va_pl L M)) (hK : va_K G vwCl (tyL cy) s) (hN : NW s) (hSC : SCH G A s s.heap) (hS : va_S A s.heap H locs) (hA : ∀ q, s.heap.size ≤ q → A q) : ∀ U : State, U.heap = H → s.WarmedH U.vm → va_Pc av (WPre G cy L M H.size) av.toArray U := fun U hU hW => ⟨rfl, by rw [hU], by rw [hU]; exact hP, va_K.moved hW.alike hK, hD.weaken (fun _ _ _ _ => trivial), hN.warm hW, by rw [hU]; exact hSC.warm hW hS.2.1 (pl_free hD hS hA)⟩
def Plain (y : MethodName) (nP : Nat) : Prop := y.cls ≠ "java/lang/invoke/MethodHandle" ∧ y.cls ≠ "java/lang/invoke/VarHandle" ∧ (parseMethodDescriptor y.desc).map (fun d => d.parameters.length) = some nP
def LkV (own : String) (idx ci : Nat) (y : MethodName) (cc : ByteArray) (mL : Nat) (ret : Option FieldType) (nP : Nat) : Prop := (∃ T N, vwCl[ci]? = some (y.cls, T, N)) ∧ Cond.methodLink own idx y ∈ tblG ∧ Cond.instanceMethod y ∈ tblG ∧ Cond.selects y.cls y y ∈ tblG ∧ Cond.initialized y.cls ∈ tblG ∧ Cond.code y cc mL ret ∈ tblG ∧ Plain y nP
def LkS (own : String) (idx : Nat) (y : MethodName) (cc : ByteArray) (mL : Nat) (ret : Option FieldType) (nP : Nat) : Prop := Cond.methodLink own idx y ∈ tblG ∧ Cond.static y ∈ tblG ∧ Cond.initialized y.cls ∈ tblG ∧ Cond.code y cc mL ret ∈ tblG ∧ Plain y nP
def LkI (own : String) (idx : Nat) (y : MethodName) (cc : ByteArray) (mL : Nat) (nP : Nat) : Prop := (Cond.methodLink own idx y ∈ tblG ∨ ∃ host, Cond.methodLinkNest own idx y host ∈ nsW) ∧ y.name = "<init>" ∧ Cond.instanceMethod y ∈ tblG ∧ Cond.initialized y.cls ∈ tblG ∧ Cond.code y cc mL none ∈ tblG ∧ Plain y nP
theorem g_callVI (C : Cx p s m args meth c own cc nL G cy A) {y : MethodName} {c2 : ByteArray} {mL2 n2 mc2 ms2 nP idx ci : Nat} {rt : Option FieldType} {As : List Value} {st0 : List Value} {post : Int32 → List Nat → (Nat → va_E) → Prop} {b : Nat} {fs : List Value} (hM : MI l G cy y c2 mL2 rt n2 mc2 ms2 (.ref b :: As) L M post) (lk : LkV own idx ci y c2 mL2 rt nP) (hbL : b ∈ L) (hbM : M b = .inr (ci, fs)) (hn : As.length = nP) (hst : st0 = As.reverse ++ .ref b :: st) (hd : decode cc pc = .ok (.invokevirtual idx, 3)) (hcat : (st.map fun v => v.category).sum ≤ 8) (hR : n2 + 1 ≤ R.frames ∧ 8 + (mL2 + 11) + 100 * n2 ≤ R.locals) (hf : cells + mc2 ≤ R.cells ∧ slots + ms2 ≤ R.slots) (k : ∀ (r : Int32) (L2 : List Nat) (M2 : Nat → va_E), post r L2 M2 → Go p l e R s m args below meth c nL G A (cells + mc2) (slots + ms2) Q L2 M2 (pc + 3) lv (.int r :: st)) : Go p l e R s m args below meth c nL G A cells slots Q L M pc lv st0 := by
  intro H locs ls hP hD hS hl
  subst hst
  obtain ⟨⟨T, N, hc⟩, w1, w2, w3, w4, w5, hpl⟩ := lk
  obtain ⟨q0, -, hq⟩ := pl_at hbL hbM
  refine va_calli (va_runV (As := As) (rest := st) (Ts := tblG) ⟨C.1, C.2.1, C.2.2.1, C.2.2.2.1, C.2.2.2.2.1⟩ (hM H.size) ⟨callB_of nP C.2.2.2.2.1 (gCode w5) rfl rfl rfl (C.2.2.2.2.1 _ w4) (C.2.2.2.2.1 _ w1) hpl hR, C.2.2.2.2.1 _ w2, C.2.2.2.2.1 _ w3⟩ ⟨wp_blind, va_recv C.2.2.2.2.2.2.1 hP hc hq, wp_pre hP hD C.2.2.2.2.2.2.1 C.2.2.2.2.2.1 C.2.2.2.2.2.2.2.2.2 hS C.2.2.2.2.2.2.2.1⟩ rfl hn hl.1 rfl (lv_room hcat) hd hf) hS (fun q _ h => pl_free hD hS C.2.2.2.2.2.2.2.1 q h) (pl_free hD hS C.2.2.2.2.2.2.2.1) (fun r u t H1 locs1 ht hvm hw hB hz hk hS1 => ?_)
  obtain ⟨hB1, hB2⟩ := hB
  rw [ht] at hB1
  exact k r u.1 u.2 hw H1 locs1 ls hB1 (hB2.weaken (fun _ _ _ h => pl_free hD hS C.2.2.2.2.2.2.2.1 _ h)) hS1 hl
theorem g_callSI (C : Cx p s m args meth c own cc nL G cy A) {y : MethodName} {c2 : ByteArray} {mL2 n2 mc2 ms2 nP idx : Nat} {rt : Option FieldType} {As : List Value} {st0 : List Value} {post : Int32 → List Nat → (Nat → va_E) → Prop} (hM : MI l G cy y c2 mL2 rt n2 mc2 ms2 As L M post) (lk : LkS own idx y c2 mL2 rt nP) (hn : As.length = nP) (hst : st0 = As.reverse ++ st) (hd : decode cc pc = .ok (.invokestatic idx, 3)) (hcat : (st.map fun v => v.category).sum ≤ 8) (hR : n2 + 1 ≤ R.frames ∧ 8 + (mL2 + 11) + 100 * n2 ≤ R.locals) (hf : cells + mc2 ≤ R.cells ∧ slots + ms2 ≤ R.slots) (k : ∀ (r : Int32) (L2 : List Nat) (M2 : Nat → va_E), post r L2 M2 → Go p l e R s m args below meth c nL G A (cells + mc2) (slots + ms2) Q L2 M2 (pc + 3) lv (.int r :: st)) : Go p l e R s m args below meth c nL G A cells slots Q L M pc lv st0 := by
  intro H locs ls hP hD hS hl
  subst hst
  obtain ⟨w1, w2, w4, w5, hpl⟩ := lk
  refine va_calli (va_runS (As := As) (rest := st) (Ts := tblG) ⟨C.1, C.2.1, C.2.2.1, C.2.2.2.1, C.2.2.2.2.1⟩ (hM H.size) ⟨callB_of nP C.2.2.2.2.1 (gCode w5) rfl rfl rfl (C.2.2.2.2.1 _ w4) (C.2.2.2.2.1 _ w1) hpl hR, C.2.2.2.2.1 _ w2⟩ ⟨wp_blind, wp_pre hP hD C.2.2.2.2.2.2.1 C.2.2.2.2.2.1 C.2.2.2.2.2.2.2.2.2 hS C.2.2.2.2.2.2.2.1⟩ rfl hn hl.1 rfl (lv_room hcat) hd hf) hS (fun q _ h => pl_free hD hS C.2.2.2.2.2.2.2.1 q h) (pl_free hD hS C.2.2.2.2.2.2.2.1) (fun r u t H1 locs1 ht hvm hw hB hz hk hS1 => ?_)
  obtain ⟨hB1, hB2⟩ := hB
  rw [ht] at hB1
  exact k r u.1 u.2 hw H1 locs1 ls hB1 (hB2.weaken (fun _ _ _ h => pl_free hD hS C.2.2.2.2.2.2.2.1 _ h)) hS1 hl
theorem g_callVJ (C : Cx p s m args meth c own cc nL G cy A) {y : MethodName} {c2 : ByteArray} {mL2 n2 mc2 ms2 nP idx ci : Nat} {rt : Option FieldType} {As : List Value} {st0 : List Value} {post : Int64 → List Nat → (Nat → va_E) → Prop} {b : Nat} {fs : List Value} (hM : MJ l G cy y c2 mL2 rt n2 mc2 ms2 (.ref b :: As) L M post) (lk : LkV own idx ci y c2 mL2 rt nP) (hbL : b ∈ L) (hbM : M b = .inr (ci, fs)) (hn : As.length = nP) (hst : st0 = As.reverse ++ .ref b :: st) (hd : decode cc pc = .ok (.invokevirtual idx, 3)) (hcat : (st.map fun v => v.category).sum ≤ 8) (hR : n2 + 1 ≤ R.frames ∧ 8 + (mL2 + 11) + 100 * n2 ≤ R.locals) (hf : cells + mc2 ≤ R.cells ∧ slots + ms2 ≤ R.slots) (k : ∀ (r : Int64) (L2 : List Nat) (M2 : Nat → va_E), post r L2 M2 → Go p l e R s m args below meth c nL G A (cells + mc2) (slots + ms2) Q L2 M2 (pc + 3) lv (.long r :: st)) : Go p l e R s m args below meth c nL G A cells slots Q L M pc lv st0 := by
  intro H locs ls hP hD hS hl
  subst hst
  obtain ⟨⟨T, N, hc⟩, w1, w2, w3, w4, w5, hpl⟩ := lk
  obtain ⟨q0, -, hq⟩ := pl_at hbL hbM
  refine va_calll (va_runV (As := As) (rest := st) (Ts := tblG) ⟨C.1, C.2.1, C.2.2.1, C.2.2.2.1, C.2.2.2.2.1⟩ (hM H.size) ⟨callB_of nP C.2.2.2.2.1 (gCode w5) rfl rfl rfl (C.2.2.2.2.1 _ w4) (C.2.2.2.2.1 _ w1) hpl hR, C.2.2.2.2.1 _ w2, C.2.2.2.2.1 _ w3⟩ ⟨wp_blind, va_recv C.2.2.2.2.2.2.1 hP hc hq, wp_pre hP hD C.2.2.2.2.2.2.1 C.2.2.2.2.2.1 C.2.2.2.2.2.2.2.2.2 hS C.2.2.2.2.2.2.2.1⟩ rfl hn hl.1 rfl (lv_room hcat) hd hf) hS (fun q _ h => pl_free hD hS C.2.2.2.2.2.2.2.1 q h) (pl_free hD hS C.2.2.2.2.2.2.2.1) (fun r u t H1 locs1 ht hvm hw hB hz hk hS1 => ?_)
  obtain ⟨hB1, hB2⟩ := hB
  rw [ht] at hB1
  exact k r u.1 u.2 hw H1 locs1 ls hB1 (hB2.weaken (fun _ _ _ h => pl_free hD hS C.2.2.2.2.2.2.2.1 _ h)) hS1 hl
theorem g_callSJ (C : Cx p s m args meth c own cc nL G cy A) {y : MethodName} {c2 : ByteArray} {mL2 n2 mc2 ms2 nP idx : Nat} {rt : Option FieldType} {As : List Value} {st0 : List Value} {post : Int64 → List Nat → (Nat → va_E) → Prop} (hM : MJ l G cy y c2 mL2 rt n2 mc2 ms2 As L M post) (lk : LkS own idx y c2 mL2 rt nP) (hn : As.length = nP) (hst : st0 = As.reverse ++ st) (hd : decode cc pc = .ok (.invokestatic idx, 3)) (hcat : (st.map fun v => v.category).sum ≤ 8) (hR : n2 + 1 ≤ R.frames ∧ 8 + (mL2 + 11) + 100 * n2 ≤ R.locals) (hf : cells + mc2 ≤ R.cells ∧ slots + ms2 ≤ R.slots) (k : ∀ (r : Int64) (L2 : List Nat) (M2 : Nat → va_E), post r L2 M2 → Go p l e R s m args below meth c nL G A (cells + mc2) (slots + ms2) Q L2 M2 (pc + 3) lv (.long r :: st)) : Go p l e R s m args below meth c nL G A cells slots Q L M pc lv st0 := by
  intro H locs ls hP hD hS hl
  subst hst
  obtain ⟨w1, w2, w4, w5, hpl⟩ := lk
  refine va_calll (va_runS (As := As) (rest := st) (Ts := tblG) ⟨C.1, C.2.1, C.2.2.1, C.2.2.2.1, C.2.2.2.2.1⟩ (hM H.size) ⟨callB_of nP C.2.2.2.2.1 (gCode w5) rfl rfl rfl (C.2.2.2.2.1 _ w4) (C.2.2.2.2.1 _ w1) hpl hR, C.2.2.2.2.1 _ w2⟩ ⟨wp_blind, wp_pre hP hD C.2.2.2.2.2.2.1 C.2.2.2.2.2.1 C.2.2.2.2.2.2.2.2.2 hS C.2.2.2.2.2.2.2.1⟩ rfl hn hl.1 rfl (lv_room hcat) hd hf) hS (fun q _ h => pl_free hD hS C.2.2.2.2.2.2.2.1 q h) (pl_free hD hS C.2.2.2.2.2.2.2.1) (fun r u t H1 locs1 ht hvm hw hB hz hk hS1 => ?_)
  obtain ⟨hB1, hB2⟩ := hB
  rw [ht] at hB1
  exact k r u.1 u.2 hw H1 locs1 ls hB1 (hB2.weaken (fun _ _ _ h => pl_free hD hS C.2.2.2.2.2.2.2.1 _ h)) hS1 hl
theorem g_callVV (C : Cx p s m args meth c own cc nL G cy A) {y : MethodName} {c2 : ByteArray} {mL2 n2 mc2 ms2 nP idx ci : Nat} {rt : Option FieldType} {As : List Value} {st0 : List Value} {post : List Nat → (Nat → va_E) → Prop} {b : Nat} {fs : List Value} (hM : MV l G cy y c2 mL2 rt n2 mc2 ms2 (.ref b :: As) L M post) (lk : LkV own idx ci y c2 mL2 rt nP) (hbL : b ∈ L) (hbM : M b = .inr (ci, fs)) (hn : As.length = nP) (hst : st0 = As.reverse ++ .ref b :: st) (hd : decode cc pc = .ok (.invokevirtual idx, 3)) (hcat : (st.map fun v => v.category).sum ≤ 8) (hR : n2 + 1 ≤ R.frames ∧ 8 + (mL2 + 11) + 100 * n2 ≤ R.locals) (hf : cells + mc2 ≤ R.cells ∧ slots + ms2 ≤ R.slots) (k : ∀ (L2 : List Nat) (M2 : Nat → va_E), post L2 M2 → Go p l e R s m args below meth c nL G A (cells + mc2) (slots + ms2) Q L2 M2 (pc + 3) lv (st)) : Go p l e R s m args below meth c nL G A cells slots Q L M pc lv st0 := by
  intro H locs ls hP hD hS hl
  subst hst
  obtain ⟨⟨T, N, hc⟩, w1, w2, w3, w4, w5, hpl⟩ := lk
  obtain ⟨q0, -, hq⟩ := pl_at hbL hbM
  refine va_callv (va_runV (As := As) (rest := st) (Ts := tblG) ⟨C.1, C.2.1, C.2.2.1, C.2.2.2.1, C.2.2.2.2.1⟩ (hM H.size) ⟨callB_of nP C.2.2.2.2.1 (gCode w5) rfl rfl rfl (C.2.2.2.2.1 _ w4) (C.2.2.2.2.1 _ w1) hpl hR, C.2.2.2.2.1 _ w2, C.2.2.2.2.1 _ w3⟩ ⟨wp_blind, va_recv C.2.2.2.2.2.2.1 hP hc hq, wp_pre hP hD C.2.2.2.2.2.2.1 C.2.2.2.2.2.1 C.2.2.2.2.2.2.2.2.2 hS C.2.2.2.2.2.2.2.1⟩ rfl hn hl.1 rfl (lv_room hcat) hd hf) hS (fun q _ h => pl_free hD hS C.2.2.2.2.2.2.2.1 q h) (pl_free hD hS C.2.2.2.2.2.2.2.1) (fun u t H1 locs1 ht hvm hw hB hz hk hS1 => ?_)
  obtain ⟨hB1, hB2⟩ := hB
  rw [ht] at hB1
  exact k u.1 u.2 hw H1 locs1 ls hB1 (hB2.weaken (fun _ _ _ h => pl_free hD hS C.2.2.2.2.2.2.2.1 _ h)) hS1 hl
theorem g_callSV (C : Cx p s m args meth c own cc nL G cy A) {y : MethodName} {c2 : ByteArray} {mL2 n2 mc2 ms2 nP idx : Nat} {rt : Option FieldType} {As : List Value} {st0 : List Value} {post : List Nat → (Nat → va_E) → Prop} (hM : MV l G cy y c2 mL2 rt n2 mc2 ms2 As L M post) (lk : LkS own idx y c2 mL2 rt nP) (hn : As.length = nP) (hst : st0 = As.reverse ++ st) (hd : decode cc pc = .ok (.invokestatic idx, 3)) (hcat : (st.map fun v => v.category).sum ≤ 8) (hR : n2 + 1 ≤ R.frames ∧ 8 + (mL2 + 11) + 100 * n2 ≤ R.locals) (hf : cells + mc2 ≤ R.cells ∧ slots + ms2 ≤ R.slots) (k : ∀ (L2 : List Nat) (M2 : Nat → va_E), post L2 M2 → Go p l e R s m args below meth c nL G A (cells + mc2) (slots + ms2) Q L2 M2 (pc + 3) lv (st)) : Go p l e R s m args below meth c nL G A cells slots Q L M pc lv st0 := by
  intro H locs ls hP hD hS hl
  subst hst
  obtain ⟨w1, w2, w4, w5, hpl⟩ := lk
  refine va_callv (va_runS (As := As) (rest := st) (Ts := tblG) ⟨C.1, C.2.1, C.2.2.1, C.2.2.2.1, C.2.2.2.2.1⟩ (hM H.size) ⟨callB_of nP C.2.2.2.2.1 (gCode w5) rfl rfl rfl (C.2.2.2.2.1 _ w4) (C.2.2.2.2.1 _ w1) hpl hR, C.2.2.2.2.1 _ w2⟩ ⟨wp_blind, wp_pre hP hD C.2.2.2.2.2.2.1 C.2.2.2.2.2.1 C.2.2.2.2.2.2.2.2.2 hS C.2.2.2.2.2.2.2.1⟩ rfl hn hl.1 rfl (lv_room hcat) hd hf) hS (fun q _ h => pl_free hD hS C.2.2.2.2.2.2.2.1 q h) (pl_free hD hS C.2.2.2.2.2.2.2.1) (fun u t H1 locs1 ht hvm hw hB hz hk hS1 => ?_)
  obtain ⟨hB1, hB2⟩ := hB
  rw [ht] at hB1
  exact k u.1 u.2 hw H1 locs1 ls hB1 (hB2.weaken (fun _ _ _ h => pl_free hD hS C.2.2.2.2.2.2.2.1 _ h)) hS1 hl
theorem g_callI (C : Cx p s m args meth c own cc nL G cy A) {y : MethodName} {c2 : ByteArray} {mL2 n2 mc2 ms2 nP idx : Nat} {As : List Value} {st0 : List Value} {post : List Nat → (Nat → va_E) → Prop} {b : Nat} (hM : MV l G cy y c2 mL2 none n2 mc2 ms2 (.ref b :: As) L M post) (lk : LkI own idx y c2 mL2 nP) (hn : As.length = nP) (hst : st0 = As.reverse ++ .ref b :: st) (hd : decode cc pc = .ok (.invokespecial idx, 3)) (hcat : (st.map fun v => v.category).sum ≤ 8) (hR : n2 + 1 ≤ R.frames ∧ 8 + (mL2 + 11) + 100 * n2 ≤ R.locals) (hf : cells + mc2 ≤ R.cells ∧ slots + ms2 ≤ R.slots) (k : ∀ (L2 : List Nat) (M2 : Nat → va_E), post L2 M2 → Go p l e R s m args below meth c nL G A (cells + mc2) (slots + ms2) Q L2 M2 (pc + 3) lv (st)) : Go p l e R s m args below meth c nL G A cells slots Q L M pc lv st0 := by
  intro H locs ls hP hD hS hl
  subst hst
  obtain ⟨w1, w2, w3, w4, w5, hpl⟩ := lk
  rcases w1 with w1 | ⟨host, w1⟩
  · refine va_callv (va_runI (As := As) (rest := st) (Ts := tblG) ⟨C.1, C.2.1, C.2.2.1, C.2.2.2.1, C.2.2.2.2.1⟩ (hM H.size) ⟨callB_of nP C.2.2.2.2.1 (gCode w5) rfl rfl rfl (C.2.2.2.2.1 _ w4) (C.2.2.2.2.1 _ w1) hpl hR, w2, C.2.2.2.2.1 _ w3⟩ ⟨wp_blind, wp_pre hP hD C.2.2.2.2.2.2.1 C.2.2.2.2.2.1 C.2.2.2.2.2.2.2.2.2 hS C.2.2.2.2.2.2.2.1⟩ rfl hn hl.1 rfl (lv_room hcat) hd hf) hS (fun q _ h => pl_free hD hS C.2.2.2.2.2.2.2.1 q h) (pl_free hD hS C.2.2.2.2.2.2.2.1) (fun u t H1 locs1 ht hvm hw hB hz hk hS1 => ?_)
    obtain ⟨hB1, hB2⟩ := hB
    rw [ht] at hB1
    exact k u.1 u.2 hw H1 locs1 ls hB1 (hB2.weaken (fun _ _ _ h => pl_free hD hS C.2.2.2.2.2.2.2.1 _ h)) hS1 hl
  · refine va_callv (va_runIN (As := As) (rest := st) (Ts := tblG) ⟨C.1, C.2.1, C.2.2.1, C.2.2.2.1, C.2.2.2.2.1⟩ (hM H.size) ⟨va_cnB nP C.2.2.2.2.1 (gCode w5) rfl rfl rfl (C.2.2.2.2.2.1.1 _ w1) (C.2.2.2.2.1 _ w4) hpl hR, w2, C.2.2.2.2.1 _ w3⟩ ⟨wp_blind, wp_pre hP hD C.2.2.2.2.2.2.1 C.2.2.2.2.2.1 C.2.2.2.2.2.2.2.2.2 hS C.2.2.2.2.2.2.2.1⟩ rfl hn hl.1 rfl (lv_room hcat) hd hf) hS (fun q _ h => pl_free hD hS C.2.2.2.2.2.2.2.1 q h) (pl_free hD hS C.2.2.2.2.2.2.2.1) (fun u t H1 locs1 ht hvm hw hB hz hk hS1 => ?_)
    obtain ⟨hB1, hB2⟩ := hB
    rw [ht] at hB1
    exact k u.1 u.2 hw H1 locs1 ls hB1 (hB2.weaken (fun _ _ _ h => pl_free hD hS C.2.2.2.2.2.2.2.1 _ h)) hS1 hl
end GOROWS
