theorem FW.cons {L : List Nat} {M : Nat → va_E} {fl : List (Nat × va_E)} (F : FW L M fl) {q : Nat} (hq : q ∉ L) (e : va_E) : FW (L ++ [q]) (va_up M q e) ((q, e) :: fl) := by
  have hne : ∀ (i : Nat) (x : Nat × va_E), fl[i]? = some x → x.1 ≠ q := fun i x hx z => hq (z ▸ (F.1 i x hx).2)
  refine ⟨fun i x hx => ?_, fun i j x y hx hy exy => ?_⟩
  · cases i with
    | zero => cases hx; exact ⟨va_up_self _ _ _, List.mem_append_right _ (List.mem_singleton.mpr rfl)⟩
    | succ i => exact ⟨by rw [va_up_ne _ _ (hne i x hx)]; exact (F.1 i x hx).1, List.mem_append_left _ (F.1 i x hx).2⟩
  · cases i with
    | zero =>
      cases j with
      | zero => rfl
      | succ j => cases hx; exact absurd exy.symm (hne j y hy)
    | succ i =>
      cases j with
      | zero => cases hy; exact absurd exy (hne i x hx)
      | succ j => rw [F.2 i j x y hx hy exy]
theorem FW.swap {L : List Nat} {M : Nat → va_E} {x y : List (Nat × va_E)} (F : FW L M (x ++ y)) : FW L M (y ++ x) := by
  have ha : ∀ (i : Nat) (q : Nat × va_E), (y ++ x)[i]? = some q → ∃ j, (x ++ y)[j]? = some q ∧ ((i < y.length ∧ j = x.length + i) ∨ (y.length ≤ i ∧ j = i - y.length ∧ j < x.length)) := by
    intro i q hq
    by_cases hi : i < y.length
    · rw [List.getElem?_append_left hi] at hq
      exact ⟨x.length + i, by rw [List.getElem?_append_right (Nat.le_add_right _ _), Nat.add_sub_cancel_left]; exact hq, Or.inl ⟨hi, rfl⟩⟩
    · rw [List.getElem?_append_right (by omega)] at hq
      have hl := (List.getElem?_eq_some_iff.mp hq).1
      exact ⟨i - y.length, by rw [List.getElem?_append_left hl]; exact hq, Or.inr ⟨by omega, rfl, hl⟩⟩
  refine ⟨fun i q hq => ?_, fun i j p q hi hj e => ?_⟩
  · obtain ⟨j, hj, -⟩ := ha i q hq
    exact F.1 j q hj
  · obtain ⟨i2, hi2, ci⟩ := ha i p hi
    obtain ⟨j2, hj2, cj⟩ := ha j q hj
    have := F.2 i2 j2 p q hi2 hj2 e
    omega
theorem upd0 (k : Nat) : upd (fun _ => (0 : Int32)) k 0 = fun _ => 0 := by
  funext j; unfold upd; split <;> rfl
theorem updL0 (k : Nat) : vp_updL (fun _ => (0 : Int64)) k 0 = fun _ => 0 := by
  funext j; unfold vp_updL; split <;> rfl
theorem cpy0 (a b n : Nat) : va_cpy (fun _ => (0 : Int32)) (fun _ => 0) a b n = fun _ => 0 := by
  funext j; unfold va_cpy; split <;> rfl
theorem set_same {α : Type} {l : List α} {k : Nat} {x : α} (h : l[k]? = some x) : l.set k x = l := by
  apply List.ext_getElem?
  intro i
  by_cases hi : i = k
  · subst hi
    rw [List.getElem?_set_self (List.getElem?_eq_some_iff.mp h).1, h]
  · rw [List.getElem?_set_ne (fun z => hi z.symm)]
section WROWS
variable {p : Program} {l : Launch} {e : Env} {s : State} {m : MethodId} {args : Array Value} {below : List Frame} {meth : Method} {c : Code} {own : String} {cc : ByteArray} {nL : Nat} {G : va_G} {cy : Nat → ClassId} {A : Nat → Prop} {R : Room} {n mc ms cells slots : Nat} {Q : State → Prop} {L : List Nat} {M : Nat → va_E} {pc : Nat} {lv : List (Nat × Value)} {st : List Value} {fl fl2 : List (Nat × va_E)}
theorem h_get (C : Cx p s m args meth c own cc nL G cy A) (F : FW L M fl) (k0 : Nat) {a idx ci kf : Nat} {ty : FieldType} {fin : Bool} {fs : List Value} {v : Value} (hk : fl[k0]? = some (a, .inr (ci, fs))) (f : FLk own idx ci kf ty fin) (hd : decode cc pc = .ok (.getfield idx, 3)) (hv : fs[kf]? = some v) (k : Go p l e R s m args below meth c nL G A cells slots Q L M (pc + 3) lv (v :: st)) : Go p l e R s m args below meth c nL G A cells slots Q L M pc lv (.ref a :: st) := g_get C f hd (F.mem k0 hk) (F.at k0 hk) hv k
theorem h_put (C : Cx p s m args meth c own cc nL G cy A) (F : FW L M fl) (k0 : Nat) {a idx ci kf : Nat} {ty : FieldType} {fs : List Value} {v : Value} (hk : fl[k0]? = some (a, .inr (ci, fs))) (f : FLk own idx ci kf ty false) (hd : decode cc pc = .ok (.putfield idx, 3)) (hn : narrow ty v = v) (hfit : fits ty v = true) (hlen : kf < fs.length) (h2 : fl.set k0 (a, .inr (ci, fs.set kf v)) = fl2) (k : ∀ M : Nat → va_E, FW L M fl2 → Go p l e R s m args below meth c nL G A cells slots Q L M (pc + 3) lv st) : Go p l e R s m args below meth c nL G A cells slots Q L M pc lv (v :: .ref a :: st) := g_put C f hd (F.mem k0 hk) (F.at k0 hk) hn hfit hlen (k _ (h2 ▸ F.set k0 hk _))
theorem h_putF (C : Cx p s m args meth c own cc nL G cy A) (F : FW L M fl) (k0 : Nat) {a idx ci kf : Nat} {ty : FieldType} {fs : List Value} {v : Value} (hk : fl[k0]? = some (a, .inr (ci, fs))) (f : FLk own idx ci kf ty true) (hini : meth.name = "<init>") (hK : ∀ K T N, vwCl[ci]? = some (K, T, N) → K = own) (hnest : ∀ host T N, vwCl[ci]? = some (own, T, N) → Cond.fieldLinkNest own idx own (T kf).2.1 (T kf).2.2.1 host ∉ nsW) (hd : decode cc pc = .ok (.putfield idx, 3)) (hn : narrow ty v = v) (hfit : fits ty v = true) (hlen : kf < fs.length) (h2 : fl.set k0 (a, .inr (ci, fs.set kf v)) = fl2) (k : ∀ M : Nat → va_E, FW L M fl2 → Go p l e R s m args below meth c nL G A cells slots Q L M (pc + 3) lv st) : Go p l e R s m args below meth c nL G A cells slots Q L M pc lv (v :: .ref a :: st) := g_putF C f hini hK hnest hd (F.mem k0 hk) (F.at k0 hk) hn hfit hlen (k _ (h2 ▸ F.set k0 hk _))
theorem h_iald (C : Cx p s m args meth c own cc nL G cy A) (F : FW L M fl) (k0 : Nat) {a N : Nat} {f : Nat → Int32} {i : Int32} {v : Int32} (hk : fl[k0]? = some (a, .inl (cy 1, N, .inl f))) (hd : decode cc pc = .ok (.iaload, 1)) (hin : vp_in i N) (hv : f i.toNatClampNeg = v) (k : Go p l e R s m args below meth c nL G A cells slots Q L M (pc + 1) lv (.int v :: st)) : Go p l e R s m args below meth c nL G A cells slots Q L M pc lv (.int i :: .ref a :: st) := g_iald C hd (F.mem k0 hk) (F.at k0 hk) hin hv k
theorem h_bald (C : Cx p s m args meth c own cc nL G cy A) (F : FW L M fl) (k0 : Nat) {a N : Nat} {f : Nat → Int32} {i : Int32} {v : Int32} (hk : fl[k0]? = some (a, .inl (cy 0, N, .inl f))) (hd : decode cc pc = .ok (.baload, 1)) (hin : vp_in i N) (hv : f i.toNatClampNeg = v) (k : Go p l e R s m args below meth c nL G A cells slots Q L M (pc + 1) lv (.int v :: st)) : Go p l e R s m args below meth c nL G A cells slots Q L M pc lv (.int i :: .ref a :: st) := g_bald C hd (F.mem k0 hk) (F.at k0 hk) hin hv k
theorem h_zald (C : Cx p s m args meth c own cc nL G cy A) (F : FW L M fl) (k0 : Nat) {a N : Nat} {f : Nat → Int32} {i : Int32} {v : Int32} (hk : fl[k0]? = some (a, .inl (cy 3, N, .inl f))) (hd : decode cc pc = .ok (.baload, 1)) (hin : vp_in i N) (hv : f i.toNatClampNeg = v) (k : Go p l e R s m args below meth c nL G A cells slots Q L M (pc + 1) lv (.int v :: st)) : Go p l e R s m args below meth c nL G A cells slots Q L M pc lv (.int i :: .ref a :: st) := g_zald C hd (F.mem k0 hk) (F.at k0 hk) hin hv k
theorem h_lald (C : Cx p s m args meth c own cc nL G cy A) (F : FW L M fl) (k0 : Nat) {a N : Nat} {f : Nat → Int64} {i : Int32} {v : Int64} (hk : fl[k0]? = some (a, .inl (cy 2, N, .inr (.inl f)))) (hd : decode cc pc = .ok (.laload, 1)) (hin : vp_in i N) (hv : f i.toNatClampNeg = v) (k : Go p l e R s m args below meth c nL G A cells slots Q L M (pc + 1) lv (.long v :: st)) : Go p l e R s m args below meth c nL G A cells slots Q L M pc lv (.int i :: .ref a :: st) := g_lald C hd (F.mem k0 hk) (F.at k0 hk) hin hv k
theorem h_iast (C : Cx p s m args meth c own cc nL G cy A) (F : FW L M fl) (k0 : Nat) {a N : Nat} {f g : Nat → Int32} {i : Int32} {x : Int32} (hk : fl[k0]? = some (a, .inl (cy 1, N, .inl (f)))) (hd : decode cc pc = .ok (.iastore, 1)) (hin : vp_in i N) (hg : upd f i.toNatClampNeg x = g) (h2 : fl.set k0 (a, .inl (cy 1, N, .inl (g))) = fl2) (k : ∀ M : Nat → va_E, FW L M fl2 → Go p l e R s m args below meth c nL G A cells slots Q L M (pc + 1) lv st) : Go p l e R s m args below meth c nL G A cells slots Q L M pc lv (.int x :: .int i :: .ref a :: st) := g_iast C hd (F.mem k0 hk) (F.at k0 hk) hin (k _ (h2 ▸ hg ▸ F.set k0 hk _))
theorem h_bast (C : Cx p s m args meth c own cc nL G cy A) (F : FW L M fl) (k0 : Nat) {a N : Nat} {f g : Nat → Int32} {i : Int32} {x : Int32} (hk : fl[k0]? = some (a, .inl (cy 0, N, .inl (f)))) (hd : decode cc pc = .ok (.bastore, 1)) (hin : vp_in i N) (hg : upd f i.toNatClampNeg (vp_nar .byte x) = g) (h2 : fl.set k0 (a, .inl (cy 0, N, .inl (g))) = fl2) (k : ∀ M : Nat → va_E, FW L M fl2 → Go p l e R s m args below meth c nL G A cells slots Q L M (pc + 1) lv st) : Go p l e R s m args below meth c nL G A cells slots Q L M pc lv (.int x :: .int i :: .ref a :: st) := g_bast C hd (F.mem k0 hk) (F.at k0 hk) hin (k _ (h2 ▸ hg ▸ F.set k0 hk _))
theorem h_zast (C : Cx p s m args meth c own cc nL G cy A) (F : FW L M fl) (k0 : Nat) {a N : Nat} {f g : Nat → Int32} {i : Int32} {x : Int32} (hk : fl[k0]? = some (a, .inl (cy 3, N, .inl (f)))) (hd : decode cc pc = .ok (.bastore, 1)) (hin : vp_in i N) (hg : upd f i.toNatClampNeg (vp_nar .boolean x) = g) (h2 : fl.set k0 (a, .inl (cy 3, N, .inl (g))) = fl2) (k : ∀ M : Nat → va_E, FW L M fl2 → Go p l e R s m args below meth c nL G A cells slots Q L M (pc + 1) lv st) : Go p l e R s m args below meth c nL G A cells slots Q L M pc lv (.int x :: .int i :: .ref a :: st) := g_zast C hd (F.mem k0 hk) (F.at k0 hk) hin (k _ (h2 ▸ hg ▸ F.set k0 hk _))
theorem h_last (C : Cx p s m args meth c own cc nL G cy A) (F : FW L M fl) (k0 : Nat) {a N : Nat} {f g : Nat → Int64} {i : Int32} {x : Int64} (hk : fl[k0]? = some (a, .inl (cy 2, N, .inr (.inl (f))))) (hd : decode cc pc = .ok (.lastore, 1)) (hin : vp_in i N) (hg : vp_updL f i.toNatClampNeg x = g) (h2 : fl.set k0 (a, .inl (cy 2, N, .inr (.inl (g)))) = fl2) (k : ∀ M : Nat → va_E, FW L M fl2 → Go p l e R s m args below meth c nL G A cells slots Q L M (pc + 1) lv st) : Go p l e R s m args below meth c nL G A cells slots Q L M pc lv (.long x :: .int i :: .ref a :: st) := g_last C hd (F.mem k0 hk) (F.at k0 hk) hin (k _ (h2 ▸ hg ▸ F.set k0 hk _))
theorem h_alen (C : Cx p s m args meth c own cc nL G cy A) (F : FW L M fl) (k0 : Nat) {a t0 : Nat} {x : vp_A} {ty : FieldType} {cA : ClassId} {v : Int32} (hk : fl[k0]? = some (a, .inl (cA, x))) (ht : (tyL cy)[t0]? = some (cA, ty)) (hd : decode cc pc = .ok (.arraylength, 1)) (hv : Int32.ofNat x.1 = v) (k : Go p l e R s m args below meth c nL G A cells slots Q L M (pc + 1) lv (.int v :: st)) : Go p l e R s m args below meth c nL G A cells slots Q L M pc lv (.ref a :: st) := g_alen C ht hd (F.mem k0 hk) (F.at k0 hk) hv k
theorem h_aldq (C : Cx p s m args meth c own cc nL G cy A) (F : FW L M fl) (k0 : Nat) {a N t0 : Nat} {cA : ClassId} {K : String} {f : Nat → Option Nat} {i : Int32} {v : Value} (hk : fl[k0]? = some (a, .inl (cA, N, .inr (.inr (.inr (.inr f)))))) (ht : (tyL cy)[t0]? = some (cA, .object K)) (hd : decode cc pc = .ok (.aaload, 1)) (hin : vp_in i N) (hv : va_rf (f i.toNatClampNeg) = v) (k : Go p l e R s m args below meth c nL G A cells slots Q L M (pc + 1) lv (v :: st)) : Go p l e R s m args below meth c nL G A cells slots Q L M pc lv (.int i :: .ref a :: st) := g_aldq C ht hd (F.mem k0 hk) (F.at k0 hk) hin hv k
theorem h_astq (C : Cx p s m args meth c own cc nL G cy A) (F : FW L M fl) (k0 k1 : Nat) {a N t0 ci v : Nat} {cA : ClassId} {r : vw_C} {vs : List Value} {f : Nat → Option Nat} {i : Int32} (hk : fl[k0]? = some (a, .inl (cA, N, .inr (.inr (.inr (.inr f)))))) (hk1 : fl[k1]? = some (v, .inr (ci, vs))) (ht : (tyL cy)[t0]? = some (cA, .object r.1)) (hc : vwCl[ci]? = some r) (hd : decode cc pc = .ok (.aastore, 1)) (hin : vp_in i N) (h2 : fl.set k0 (a, .inl (cA, N, .inr (.inr (.inr (.inr (va_up f i.toNatClampNeg (some v))))))) = fl2) (k : ∀ M : Nat → va_E, FW L M fl2 → Go p l e R s m args below meth c nL G A cells slots Q L M (pc + 1) lv st) : Go p l e R s m args below meth c nL G A cells slots Q L M pc lv (.ref v :: .int i :: .ref a :: st) := g_astq C ht hc hd (F.mem k0 hk) (F.at k0 hk) (F.mem k1 hk1) (F.at k1 hk1) hin (k _ (h2 ▸ F.set k0 hk _))
theorem h_new (C : Cx p s m args meth c own cc nL G cy A) (F : FW L M fl) {ci idx N : Nat} {K : String} {T : u_T} {ty0 : Nat → FieldType} {fs : List Value} (f : CLk ci K T N ty0) (h1 : Cond.classLink own idx K ∈ tblG) (h2 : Cond.instantiable K N ∈ tblG) (h3 : Cond.initialized K ∈ tblG) (hfs : ∀ j, j < N → defaultValue (ty0 j) = vp_V fs j) (hcells : cells + 1 ≤ R.cells) (hslots : slots + N ≤ R.slots) (hd : decode cc pc = .ok (.new idx, 3)) (k : ∀ (q : Nat) (L : List Nat) (M : Nat → va_E), FW L M ((q, .inr (ci, fs)) :: fl) → Go p l e R s m args below meth c nL G A (cells + 1) (slots + N) Q L M (pc + 3) lv (.ref q :: st)) : Go p l e R s m args below meth c nL G A cells slots Q L M pc lv st := g_new C f h1 h2 h3 hfs hcells hslots hd (fun q hq => k q _ _ (F.cons hq _))
theorem h_newa (C : Cx p s m args meth c own cc nL G cy A) (F : FW L M fl) {atype : ArrayType} {ty : FieldType} {t0 N : Nat} {cA : ClassId} {nI0 : Int32} {a0 : vp_A} (ht : (tyL cy)[t0]? = some (cA, ty)) (hw : Cond.arrayClass ty ∈ tblG) (hty : newarray.typeOf atype = ty) (ha : ∀ x : ClassId, vp_cell x a0 = arrV x N (fun _ => defaultValue ty)) (hn : ¬ nI0 < 0) (hN : nI0.toNatClampNeg = N) (hbytes : N * componentBytes ty ≤ 536870912) (hcells : cells + 1 ≤ R.cells) (hslots : slots + N ≤ R.slots) (hd : decode cc pc = .ok (.newarray atype, 2)) (k : ∀ (q : Nat) (L : List Nat) (M : Nat → va_E), FW L M ((q, .inl (cA, a0)) :: fl) → Go p l e R s m args below meth c nL G A (cells + 1) (slots + N) Q L M (pc + 2) lv (.ref q :: st)) : Go p l e R s m args below meth c nL G A cells slots Q L M pc lv (.int nI0 :: st) := g_newa C ht hw hty ha hn hN hbytes hcells hslots hd (fun q hq => k q _ _ (F.cons hq _))
theorem h_newq (C : Cx p s m args meth c own cc nL G cy A) (F : FW L M fl) {idx t0 N : Nat} {K : String} {cA : ClassId} {nI0 : Int32} (ht : (tyL cy)[t0]? = some (cA, .object K)) (hw : Cond.classLink own idx K ∈ tblG) (hover : va_AO K s) (hn : ¬ nI0 < 0) (hN : nI0.toNatClampNeg = N) (hbytes : N * 4 ≤ 536870912) (hcells : cells + 1 ≤ R.cells) (hslots : slots + N ≤ R.slots) (hd : decode cc pc = .ok (.anewarray idx, 3)) (k : ∀ (q : Nat) (L : List Nat) (M : Nat → va_E), FW L M ((q, .inl (cA, N, .inr (.inr (.inr (.inr (fun _ => none)))))) :: fl) → Go p l e R s m args below meth c nL G A (cells + 1) (slots + N) Q L M (pc + 3) lv (.ref q :: st)) : Go p l e R s m args below meth c nL G A cells slots Q L M pc lv (.int nI0 :: st) := g_newq C ht hw hover hn hN hbytes hcells hslots hd (fun q hq => k q _ _ (F.cons hq _))
theorem h_copyi (C : Cx p s m args meth c own cc nL G cy A) (F : FW L M fl) (k0 k1 : Nat) {idx t0 a0 a1 N0 N1 : Nat} {cA : ClassId} {ty : FieldType} {f g g2 : Nat → Int32} {sp dp nn : Int32} (hk0 : fl[k0]? = some (a0, .inl (cA, N0, .inl f))) (hk1 : fl[k1]? = some (a1, .inl (cA, N1, .inl g))) (ht : (tyL cy)[t0]? = some (cA, ty)) (hprim : refKind ty = false) (h1 : Cond.methodLink own idx arraycopyName ∈ tblG) (h2 : Cond.native arraycopyName ∈ tblG) (h3 : Cond.static arraycopyName ∈ tblG) (h4 : Cond.initialized "java/lang/System" ∈ tblG) (c1 : ¬ sp < 0) (c2 : ¬ dp < 0) (c3 : ¬ nn < 0) (c4 : sp.toNatClampNeg + nn.toNatClampNeg ≤ N0) (c5 : dp.toNatClampNeg + nn.toNatClampNeg ≤ N1) (hfit : ∀ i, i < nn.toNatClampNeg → fits ty (.int (f (sp.toNatClampNeg + i))) = true) (hn1 : 1 ≤ R.frames) (hlo : (st.map fun v => v.category).sum + (nativeFrameWords "java/lang/System" "arraycopy" 5 + 11) ≤ R.locals) (hd : decode cc pc = .ok (.invokestatic idx, 3)) (hg : va_cpy f g sp.toNatClampNeg dp.toNatClampNeg nn.toNatClampNeg = g2) (h5 : fl.set k1 (a1, .inl (cA, N1, .inl g2)) = fl2) (k : ∀ M : Nat → va_E, FW L M fl2 → Go p l e R s m args below meth c nL G A cells slots Q L M (pc + 3) lv st) : Go p l e R s m args below meth c nL G A cells slots Q L M pc lv (.int nn :: .int dp :: .ref a1 :: .int sp :: .ref a0 :: st) := g_copyi C ht hprim h1 h2 h3 h4 (F.mem k0 hk0) (F.at k0 hk0) (F.mem k1 hk1) (F.at k1 hk1) c1 c2 c3 c4 c5 hfit hn1 hlo hd (k _ (h5 ▸ hg ▸ F.set k1 hk1 _))
theorem in_none {r : Int32} {v : Int64} (h : (r = 1 ∧ (0 : Int64) ≤ v ∧ v ≤ -1) ∨ (r = 0 ∧ ¬ ((0 : Int64) ≤ v ∧ v ≤ -1))) : r = 0 := by
  rcases h with ⟨-, h1, h2⟩ | ⟨h, -⟩
  · exact absurd (Int64.le_trans h1 h2) (by decide)
  · exact h
theorem Go.top {u v : Value} (h : u = v) (k : Go p l e R s m args below meth c nL G A cells slots Q L M pc lv (v :: st)) : Go p l e R s m args below meth c nL G A cells slots Q L M pc lv (u :: st) := h ▸ k
theorem nest_no {own : String} {idx : Nat} (h : nsW.all (fun w => match w with
  | .fieldLinkNest a i _ _ _ _ => !(a == own && i == idx)
  | _ => true) = true) (b nm d host : String) : Cond.fieldLinkNest own idx b nm d host ∉ nsW := fun hm => by
  have := List.all_eq_true.mp h _ hm
  simp at this
theorem g_lv (ks : List Nat) {lv2 : List (Nat × Value)} (h : lv_pick lv ks = lv2) (k : Go p l e R s m args below meth c nL G A cells slots Q L M pc lv2 st) : Go p l e R s m args below meth c nL G A cells slots Q L M pc lv st := fun H locs ls hP hD hS hl => k H locs ls hP hD hS (lv_sub hl ks h)
theorem g_loop (N : Nat) {lvf : Nat → List (Nat × Value)} (step : ∀ (i : Nat) (M : Nat → va_E), FW L M fl → i < N → (∀ M : Nat → va_E, FW L M fl → Go p l e R s m args below meth c nL G A cells slots Q L M pc (lvf (i + 1)) st) → Go p l e R s m args below meth c nL G A cells slots Q L M pc (lvf i) st) (fin : ∀ M : Nat → va_E, FW L M fl → Go p l e R s m args below meth c nL G A cells slots Q L M pc (lvf N) st) (F : FW L M fl) : Go p l e R s m args below meth c nL G A cells slots Q L M pc (lvf 0) st := by
  have key : ∀ (k i : Nat) (M : Nat → va_E), FW L M fl → i ≤ N → N - i < k → Go p l e R s m args below meth c nL G A cells slots Q L M pc (lvf i) st := by
    intro k
    induction k with
    | zero => intro i M F h1 h2; omega
    | succ k ih =>
      intro i M F h1 h2
      by_cases hi : i < N
      · exact step i M F hi (fun M F => ih (i + 1) M F (by omega) (by omega))
      · have e1 : i = N := by omega
        subst e1
        exact fin M F
  exact key (N + 1) 0 M F (Nat.zero_le N) (by omega)
theorem h_iastX (C : Cx p s m args meth c own cc nL G cy A) (F : FW L M fl) (k0 : Nat) {a N : Nat} {f : Nat → Int32} {i : Int32} {x : Int32} {flf : (Nat → Int32) → List (Nat × va_E)} (hk : fl[k0]? = some (a, .inl (cy 1, N, .inl f))) (hd : decode cc pc = .ok (.iastore, 1)) (hin : vp_in i N) (h2 : ∀ g, fl.set k0 (a, .inl (cy 1, N, .inl g)) = flf g) (k : ∀ (M : Nat → va_E) (g : Nat → Int32), FW L M (flf g) → Go p l e R s m args below meth c nL G A cells slots Q L M (pc + 1) lv st) : Go p l e R s m args below meth c nL G A cells slots Q L M pc lv (.int x :: .int i :: .ref a :: st) := g_iast C hd (F.mem k0 hk) (F.at k0 hk) hin (k _ _ (h2 _ ▸ F.set k0 hk _))
theorem h_bastX (C : Cx p s m args meth c own cc nL G cy A) (F : FW L M fl) (k0 : Nat) {a N : Nat} {f : Nat → Int32} {i : Int32} {x : Int32} {flf : (Nat → Int32) → List (Nat × va_E)} (hk : fl[k0]? = some (a, .inl (cy 0, N, .inl f))) (hd : decode cc pc = .ok (.bastore, 1)) (hin : vp_in i N) (h2 : ∀ g, fl.set k0 (a, .inl (cy 0, N, .inl g)) = flf g) (k : ∀ (M : Nat → va_E) (g : Nat → Int32), FW L M (flf g) → Go p l e R s m args below meth c nL G A cells slots Q L M (pc + 1) lv st) : Go p l e R s m args below meth c nL G A cells slots Q L M pc lv (.int x :: .int i :: .ref a :: st) := g_bast C hd (F.mem k0 hk) (F.at k0 hk) hin (k _ _ (h2 _ ▸ F.set k0 hk _))
theorem h_zastX (C : Cx p s m args meth c own cc nL G cy A) (F : FW L M fl) (k0 : Nat) {a N : Nat} {f : Nat → Int32} {i : Int32} {x : Int32} {flf : (Nat → Int32) → List (Nat × va_E)} (hk : fl[k0]? = some (a, .inl (cy 3, N, .inl f))) (hd : decode cc pc = .ok (.bastore, 1)) (hin : vp_in i N) (h2 : ∀ g, fl.set k0 (a, .inl (cy 3, N, .inl g)) = flf g) (k : ∀ (M : Nat → va_E) (g : Nat → Int32), FW L M (flf g) → Go p l e R s m args below meth c nL G A cells slots Q L M (pc + 1) lv st) : Go p l e R s m args below meth c nL G A cells slots Q L M pc lv (.int x :: .int i :: .ref a :: st) := g_zast C hd (F.mem k0 hk) (F.at k0 hk) hin (k _ _ (h2 _ ▸ F.set k0 hk _))
theorem FW.selR {L : List Nat} {M : Nat → va_E} {x x2 fr : List (Nat × va_E)} (F : FW L M (x ++ fr)) (is : List Nat) (hn : va_nd is = true) (hs : is.map (fun i => x[i]?) = x2.map some) : FW L M (x2 ++ fr) := by
  have X := F.left.sub is hn hs
  have Y := F.right
  have at2 : ∀ (k : Nat) (q : Nat × va_E), x2[k]? = some q → ∃ i, i < x.length ∧ x[i]? = some q := by
    intro k q hk
    have h1 : (is.map (fun i => x[i]?))[k]? = some (some q) := by rw [hs, List.getElem?_map, hk]; rfl
    rw [List.getElem?_map] at h1
    cases hi : is[k]? with
    | none => rw [hi] at h1; cases h1
    | some i => rw [hi] at h1; exact ⟨i, (List.getElem?_eq_some_iff.mp (Option.some.inj h1)).1, Option.some.inj h1⟩
  have cross : ∀ (i j : Nat) (p q : Nat × va_E), x2[i]? = some p → fr[j]? = some q → p.1 ≠ q.1 := by
    intro i j p q hi hj e
    obtain ⟨k, hk, hx⟩ := at2 i p hi
    have := F.2 k (x.length + j) p q (by rw [List.getElem?_append_left hk]; exact hx) (by rw [List.getElem?_append_right (Nat.le_add_right _ _), Nat.add_sub_cancel_left]; exact hj) e
    omega
  have key : ∀ (i : Nat) (z : Nat × va_E), (x2 ++ fr)[i]? = some z → (i < x2.length ∧ x2[i]? = some z) ∨ (x2.length ≤ i ∧ fr[i - x2.length]? = some z) := by
    intro i z hz
    by_cases hi : i < x2.length
    · rw [List.getElem?_append_left hi] at hz; exact Or.inl ⟨hi, hz⟩
    · rw [List.getElem?_append_right (by omega)] at hz; exact Or.inr ⟨by omega, hz⟩
  refine ⟨fun i z hz => ?_, fun i j p q hi hj e => ?_⟩
  · rcases key i z hz with ⟨-, h⟩ | ⟨-, h⟩
    · exact X.1 i z h
    · exact Y.1 _ z h
  · rcases key i p hi with ⟨a1, h1⟩ | ⟨a1, h1⟩ <;> rcases key j q hj with ⟨b1, g1⟩ | ⟨b1, g1⟩
    · exact X.2 i j p q h1 g1 e
    · exact absurd e (cross i _ p q h1 g1)
    · exact absurd e.symm (cross j _ q p g1 h1)
    · have := Y.2 _ _ p q h1 g1 e; omega
theorem g_aload_nN (C : Cx p s m args meth c own cc nL G cy A) {k0 : Fin 4} {i j : Nat} (hd : decode cc pc = .ok (.aload_n k0, 1)) (hi : (k0 : Nat) = i) (hj : lv[j]? = some (i, .null)) (k : Go p l e R s m args below meth c nL G A cells slots Q L M (pc + 1) lv (.null :: st)) : Go p l e R s m args below meth c nL G A cells slots Q L M pc lv st := fun H locs ls hP hD hS hl => lv_aload_nN C.1 C.2.1 hd hi (lv_at hl j hj) (k H locs ls hP hD hS hl)
theorem g_aloadN (C : Cx p s m args meth c own cc nL G cy A) {i j : Nat} (hd : decode cc pc = .ok (.aload i, 2)) (hj : lv[j]? = some (i, .null)) (k : Go p l e R s m args below meth c nL G A cells slots Q L M (pc + 2) lv (.null :: st)) : Go p l e R s m args below meth c nL G A cells slots Q L M pc lv st := fun H locs ls hP hD hS hl => lv_aloadN C.1 C.2.1 hd (lv_at hl j hj) (k H locs ls hP hD hS hl)
theorem g_astoreN (C : Cx p s m args meth c own cc nL G cy A) {i : Nat} {lv2 : List (Nat × Value)} (hd : decode cc pc = .ok (.astore i, 2)) (hn : i < nL) (h2 : (i, Value.null) :: lv.filter (fun q => !(q.1 == i) && !(q.1 + 1 == i && q.2.category == 2)) = lv2) (k : Go p l e R s m args below meth c nL G A cells slots Q L M (pc + 2) lv2 st) : Go p l e R s m args below meth c nL G A cells slots Q L M pc lv (.null :: st) := fun H locs ls hP hD hS hl => lv_astoreN C.1 C.2.1 hd hl hn h2 (fun ls2 hl2 => k H locs ls2 hP hD hS hl2)
theorem sc3 (x : Int32) : x < 0 ∨ 3 ≤ x ∨ x = 0 ∨ x = 1 ∨ x = 2 := by
  by_cases h1 : x < 0
  · exact Or.inl h1
  by_cases h2 : 3 ≤ x
  · exact Or.inr (Or.inl h2)
  have a1 : ¬ x.toInt < (0 : Int32).toInt := fun z => h1 (Int32.lt_iff_toInt_lt.mpr z)
  have a2 : ¬ (3 : Int32).toInt ≤ x.toInt := fun z => h2 (Int32.le_iff_toInt_le.mpr z)
  have k0 : (0 : Int32).toInt = 0 := by decide
  have k1 : (3 : Int32).toInt = 3 := by decide
  have : x.toInt = 0 ∨ x.toInt = 1 ∨ x.toInt = 2 := by omega
  rcases this with h | h | h
  · exact Or.inr (Or.inr (Or.inl (Int32.toInt_inj.mp (by rw [h]; decide))))
  · exact Or.inr (Or.inr (Or.inr (Or.inl (Int32.toInt_inj.mp (by rw [h]; decide)))))
  · exact Or.inr (Or.inr (Or.inr (Or.inr ((Int32.toInt_inj.mp (by rw [h]; decide))))))
theorem sc4 (x : Int32) : x < 0 ∨ 4 ≤ x ∨ x = 0 ∨ x = 1 ∨ x = 2 ∨ x = 3 := by
  by_cases h1 : x < 0
  · exact Or.inl h1
  by_cases h2 : 4 ≤ x
  · exact Or.inr (Or.inl h2)
  have a1 : ¬ x.toInt < (0 : Int32).toInt := fun z => h1 (Int32.lt_iff_toInt_lt.mpr z)
  have a2 : ¬ (4 : Int32).toInt ≤ x.toInt := fun z => h2 (Int32.le_iff_toInt_le.mpr z)
  have k0 : (0 : Int32).toInt = 0 := by decide
  have k1 : (4 : Int32).toInt = 4 := by decide
  have : x.toInt = 0 ∨ x.toInt = 1 ∨ x.toInt = 2 ∨ x.toInt = 3 := by omega
  rcases this with h | h | h | h
  · exact Or.inr (Or.inr (Or.inl (Int32.toInt_inj.mp (by rw [h]; decide))))
  · exact Or.inr (Or.inr (Or.inr (Or.inl (Int32.toInt_inj.mp (by rw [h]; decide)))))
  · exact Or.inr (Or.inr (Or.inr (Or.inr (Or.inl (Int32.toInt_inj.mp (by rw [h]; decide))))))
  · exact Or.inr (Or.inr (Or.inr (Or.inr (Or.inr ((Int32.toInt_inj.mp (by rw [h]; decide)))))))
theorem sc12 (x : Int32) : x < 0 ∨ 12 ≤ x ∨ x = 0 ∨ x = 1 ∨ x = 2 ∨ x = 3 ∨ x = 4 ∨ x = 5 ∨ x = 6 ∨ x = 7 ∨ x = 8 ∨ x = 9 ∨ x = 10 ∨ x = 11 := by
  by_cases h1 : x < 0
  · exact Or.inl h1
  by_cases h2 : 12 ≤ x
  · exact Or.inr (Or.inl h2)
  have a1 : ¬ x.toInt < (0 : Int32).toInt := fun z => h1 (Int32.lt_iff_toInt_lt.mpr z)
  have a2 : ¬ (12 : Int32).toInt ≤ x.toInt := fun z => h2 (Int32.le_iff_toInt_le.mpr z)
  have k0 : (0 : Int32).toInt = 0 := by decide
  have k1 : (12 : Int32).toInt = 12 := by decide
  have : x.toInt = 0 ∨ x.toInt = 1 ∨ x.toInt = 2 ∨ x.toInt = 3 ∨ x.toInt = 4 ∨ x.toInt = 5 ∨ x.toInt = 6 ∨ x.toInt = 7 ∨ x.toInt = 8 ∨ x.toInt = 9 ∨ x.toInt = 10 ∨ x.toInt = 11 := by omega
  rcases this with h | h | h | h | h | h | h | h | h | h | h | h
  · exact Or.inr (Or.inr (Or.inl (Int32.toInt_inj.mp (by rw [h]; decide))))
  · exact Or.inr (Or.inr (Or.inr (Or.inl (Int32.toInt_inj.mp (by rw [h]; decide)))))
  · exact Or.inr (Or.inr (Or.inr (Or.inr (Or.inl (Int32.toInt_inj.mp (by rw [h]; decide))))))
  · exact Or.inr (Or.inr (Or.inr (Or.inr (Or.inr (Or.inl (Int32.toInt_inj.mp (by rw [h]; decide)))))))
  · exact Or.inr (Or.inr (Or.inr (Or.inr (Or.inr (Or.inr (Or.inl (Int32.toInt_inj.mp (by rw [h]; decide))))))))
  · exact Or.inr (Or.inr (Or.inr (Or.inr (Or.inr (Or.inr (Or.inr (Or.inl (Int32.toInt_inj.mp (by rw [h]; decide)))))))))
  · exact Or.inr (Or.inr (Or.inr (Or.inr (Or.inr (Or.inr (Or.inr (Or.inr (Or.inl (Int32.toInt_inj.mp (by rw [h]; decide))))))))))
  · exact Or.inr (Or.inr (Or.inr (Or.inr (Or.inr (Or.inr (Or.inr (Or.inr (Or.inr (Or.inl (Int32.toInt_inj.mp (by rw [h]; decide)))))))))))
  · exact Or.inr (Or.inr (Or.inr (Or.inr (Or.inr (Or.inr (Or.inr (Or.inr (Or.inr (Or.inr (Or.inl (Int32.toInt_inj.mp (by rw [h]; decide))))))))))))
  · exact Or.inr (Or.inr (Or.inr (Or.inr (Or.inr (Or.inr (Or.inr (Or.inr (Or.inr (Or.inr (Or.inr (Or.inl (Int32.toInt_inj.mp (by rw [h]; decide)))))))))))))
  · exact Or.inr (Or.inr (Or.inr (Or.inr (Or.inr (Or.inr (Or.inr (Or.inr (Or.inr (Or.inr (Or.inr (Or.inr (Or.inl (Int32.toInt_inj.mp (by rw [h]; decide))))))))))))))
  · exact Or.inr (Or.inr (Or.inr (Or.inr (Or.inr (Or.inr (Or.inr (Or.inr (Or.inr (Or.inr (Or.inr (Or.inr (Or.inr ((Int32.toInt_inj.mp (by rw [h]; decide)))))))))))))))
theorem sc1 (x : Int32) : x < 0 ∨ 1 ≤ x ∨ x = 0 := by
  by_cases h1 : x < 0
  · exact Or.inl h1
  by_cases h2 : 1 ≤ x
  · exact Or.inr (Or.inl h2)
  have a1 : ¬ x.toInt < (0 : Int32).toInt := fun z => h1 (Int32.lt_iff_toInt_lt.mpr z)
  have a2 : ¬ (1 : Int32).toInt ≤ x.toInt := fun z => h2 (Int32.le_iff_toInt_le.mpr z)
  have k0 : (0 : Int32).toInt = 0 := by decide
  have k1 : (1 : Int32).toInt = 1 := by decide
  exact Or.inr (Or.inr (Int32.toInt_inj.mp (by omega)))
def sp_end (n : Int32) : Int32 := if n.toInt = 0 then 0 else -1
def sp_fault (n : Int32) : Int32 := if n.toInt = 0 then 0 else -1
def sp_count (n : Int32) : Int32 := if 0 ≤ n.toInt ∧ n.toInt < 12 then 0 else -1
def sp_image (n : Int32) : Int32 := if 0 ≤ n.toInt ∧ n.toInt < 3 then 0 else -2
def sp_back (n : Int32) : Int32 := if 0 ≤ n.toInt ∧ n.toInt < 3 then -6 else -2
def sp_row (s w n : Int32) : Int32 := if 0 ≤ s.toInt ∧ s.toInt < 4 ∧ 0 ≤ w.toInt ∧ w.toInt ≤ 3 ∧ n.toInt ≤ 60 then (if n.toInt < 0 then -3 else 0) else -2
def sp_write (s : Int32) : Int32 := if 0 ≤ s.toInt ∧ s.toInt < 4 then -6 else -2
def sp_paste (s t : Int32) : Int32 := if 0 ≤ s.toInt ∧ s.toInt < 4 ∧ 0 ≤ t.toInt ∧ t.toInt < 4 then -6 else -2
end WROWS
