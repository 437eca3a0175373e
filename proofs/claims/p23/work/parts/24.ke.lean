/-! contracts of methods that make cells: what the world becomes is told by a predicate; X: whether arrays of courts may be made -/
def kPreX (X : Bool) (D : va_G) (ty : kTy) (sz : Nat) (ws : va_W) : State → Prop := fun U => kPre D ty sz ws U ∧ (X = true → va_AO RX1 U)
abbrev kQve (D : va_G) (sz : Nat) (ws : va_W) (Rp : va_W → Prop) : Array Value → State → Outcome → State → Prop := va_Qv (S := va_W) (fun w => Rp w) (fun w t => va_P D vwCl w t.heap ∧ va_D (va_A ws sz) w) (va_A ws sz)
abbrev kQie (D : va_G) (sz : Nat) (ws : va_W) (Rp : Int32 → va_W → Prop) : Array Value → State → Outcome → State → Prop := va_Qi (S := va_W) (fun r w => Rp r w) (fun w t => va_P D vwCl w t.heap ∧ va_D (va_A ws sz) w) (va_A ws sz)
def KVe (l : Launch) (D : va_G) (ty : kTy) (X : Bool) (y : MethodName) (wm : List Cond) (rm : Room) (av : List Value) (ws : va_W) (mc ms : Nat) (Rp : va_W → Prop) : Prop :=
  ∀ sz : Nat, Met l y wm rm (va_Pc av (kPreX X D ty sz ws)) (kQve D sz ws Rp) mc ms (va_A ws sz)
def KIe (l : Launch) (D : va_G) (ty : kTy) (y : MethodName) (wm : List Cond) (rm : Room) (av : List Value) (ws : va_W) (mc ms : Nat) (Rp : Int32 → va_W → Prop) : Prop :=
  ∀ sz : Nat, Met l y wm rm (va_Pc av (kPreX false D ty sz ws)) (kQie D sz ws Rp) mc ms (va_A ws sz)
theorem KVe.of {l : Launch} {D : va_G} {ty : kTy} {X : Bool} {y : MethodName} {wm : List Cond} {rm : Room} {av : List Value} {ws : va_W} {mc ms : Nat} {Rp : va_W → Prop} {cc : ByteArray} {maxL : Nat} {w0 : List Cond} {own : String}
    (hy : plainName y.cls = true) (hw : wm = Cond.code y cc maxL none :: w0) (ho : y.cls = own) (hlen : (lg_sl av).length ≤ maxL)
    (body : ∀ (p : Program) (e : Env) (s : State) (m : MethodId) (below : List Frame) (meth : Method) (c : Code) (A : Nat → Prop) (Q : State → Prop) (ls : Array Slot),
      p.tables.exec = Jvm.exec → c.code = cc → c.maxLocals = maxL → s.vm.findClass own = some m.cls → (∀ w ∈ wm, w.before av.toArray s = true) → kE D ty s → (X = true → va_AO RX1 s) → meth.name = y.name → (∀ q : Nat, s.heap.size ≤ q → A q) →
      va_P D vwCl ws s.heap → va_D A ws → va_S A s.heap s.heap [] → lv_has ls maxL (lv_args 0 av) →
      (∀ (H : Heap) (locs : List Loc) (pc : Nat) (ls : Array Slot) (ws9 : va_W), va_P D vwCl ws9 H → va_D A ws9 → va_S A s.heap H locs → decode cc pc = .ok (.return_, 1) → Rp ws9 →
        W p l e rm s m av.toArray below meth c H locs mc ms Q (F0 m pc ls [])) →
      W p l e rm s m av.toArray below meth c s.heap [] 0 0 Q (F0 m 0 ls [])) : KVe l D ty X y wm rm av ws mc ms Rp := by
  intro sz
  refine Met.ofW (cc := cc) (maxL := maxL) (ret := none) hy hw ?_
  intro p e s m args below meth c s₁ B hml hv
  obtain ⟨rfl, hpre, hX⟩ := hv
  have hown : s.vm.findClass own = some m.cls := ho ▸ findClass_of_methodNamed B.named
  obtain ⟨A, hAe, hA, hP, hK, hD, hS⟩ := k_setup hpre
  have hl := lv_entry av (n := maxL) hlen
  rw [lg_entry_eq]
  generalize (lg_sl av ++ List.replicate (maxL - (lg_sl av).length) Slot.unset).toArray = ls at hl ⊢
  refine body p e s m below meth c A _ ls B.exec B.bytes hml hown (atoms_spec B.pre) hK hX (name_of_methodNamed B.named B.method).1 hA hP hD hS hl ?_
  intro H locs pc ls ws9 hP9 hD9 hS9 hdg hr
  have hlocks := B.notSynchronized
  refine W.vret B.exec B.bytes B.returns (fun t ht hW => ⟨⟨ws9, rfl, hr, by rw [ht]; exact hP9, by rw [hAe]; exact hD9⟩, by rw [hAe]; exact hS9.F ht⟩) (by rw [hAe]; exact hS9.2.2) hdg
theorem KIe.of {l : Launch} {D : va_G} {ty : kTy} {y : MethodName} {wm : List Cond} {rm : Room} {av : List Value} {ws : va_W} {mc ms : Nat} {Rp : Int32 → va_W → Prop} {cc : ByteArray} {maxL : Nat} {rt : FieldType} {w0 : List Cond} {own : String}
    (hy : plainName y.cls = true) (hw : wm = Cond.code y cc maxL (some rt) :: w0) (ho : y.cls = own) (hlen : (lg_sl av).length ≤ maxL)
    (body : ∀ (p : Program) (e : Env) (s : State) (m : MethodId) (below : List Frame) (meth : Method) (c : Code) (A : Nat → Prop) (Q : State → Prop) (ls : Array Slot),
      p.tables.exec = Jvm.exec → c.code = cc → c.maxLocals = maxL → s.vm.findClass own = some m.cls → (∀ w ∈ wm, w.before av.toArray s = true) → kE D ty s → (∀ q : Nat, s.heap.size ≤ q → A q) →
      va_P D vwCl ws s.heap → va_D A ws → va_S A s.heap s.heap [] → lv_has ls maxL (lv_args 0 av) →
      (∀ (H : Heap) (locs : List Loc) (pc : Nat) (ls : Array Slot) (v : Int32) (ws9 : va_W), va_P D vwCl ws9 H → va_D A ws9 → va_S A s.heap H locs → decode cc pc = .ok (.ireturn, 1) → narrow rt (.int v) = .int v → Rp v ws9 →
        W p l e rm s m av.toArray below meth c H locs mc ms Q (F0 m pc ls [.int v])) →
      W p l e rm s m av.toArray below meth c s.heap [] 0 0 Q (F0 m 0 ls [])) : KIe l D ty y wm rm av ws mc ms Rp := by
  intro sz
  refine Met.ofW (cc := cc) (maxL := maxL) (ret := some rt) hy hw ?_
  intro p e s m args below meth c s₁ B hml hv
  obtain ⟨rfl, hpre, -⟩ := hv
  have hown : s.vm.findClass own = some m.cls := ho ▸ findClass_of_methodNamed B.named
  obtain ⟨A, hAe, hA, hP, hK, hD, hS⟩ := k_setup hpre
  have hl := lv_entry av (n := maxL) hlen
  rw [lg_entry_eq]
  generalize (lg_sl av ++ List.replicate (maxL - (lg_sl av).length) Slot.unset).toArray = ls at hl ⊢
  refine body p e s m below meth c A _ ls B.exec B.bytes hml hown (atoms_spec B.pre) hK hA hP hD hS hl ?_
  intro H locs pc ls v ws9 hP9 hD9 hS9 hdg hn hr
  have hlocks := B.notSynchronized
  refine W.zret B.exec B.bytes B.returns hn (fun t ht hW => ⟨⟨v, ws9, rfl, hr, by rw [ht]; exact hP9, by rw [hAe]; exact hD9⟩, by rw [hAe]; exact hS9.F ht⟩) (by rw [hAe]; exact hS9.2.2) hdg
theorem kPreX_blind {X : Bool} {D : va_G} {ty : kTy} {sz : Nat} {av : List Value} {ws : va_W} : FrameBlind (va_Pc av (kPreX X D ty sz ws)) := by
  intro a U g mk q
  obtain ⟨q0, q1, q2⟩ := q
  obtain ⟨r0, r1⟩ := kPre_blind (D := D) (ty := ty) (sz := sz) (av := av) (ws := ws) a U g mk ⟨q0, q1⟩
  exact ⟨r0, r1, fun h => va_AO.moved (u := U) (U := U.calling g mk a) (Vm.Alike.refl U.vm) (q2 h)⟩
theorem kPreSX {X : Bool} {D : va_G} {ty : kTy} {A : Nat → Prop} {As : List Value} {ws : va_W} {s : State} {H : Heap} (hK : kE D ty s) (hX : X = true → va_AO RX1 s) (hP : va_P D vwCl ws H) (hD : va_D A ws) : PreS s H (va_Pc As (kPreX X D ty H.size ws)) As :=
  ⟨kPreX_blind, fun U hU hW => ⟨rfl, ⟨by rw [hU], by rw [hU]; exact hP, hK.warm hW, hD.weaken (fun _ _ _ _ => trivial)⟩, fun h => va_AO.moved hW.alike (hX h)⟩⟩
theorem kPreVX {X : Bool} {D : va_G} {ty : kTy} {A : Nat → Prop} {As : List Value} {ws : va_W} {s : State} {H : Heap} {b q0 ci : Nat} {q : vw_C} {fs : List Value} (hK : kE D ty s) (hX : X = true → va_AO RX1 s) (hP : va_P D vwCl ws H) (hD : va_D A ws) (hc : vwCl[ci]? = some q) (he : ws[q0]? = some (b, .inr (ci, fs))) : PreV s H q.1 b (va_Pc (.ref b :: As) (kPreX X D ty H.size ws)) As :=
  ⟨kPreX_blind, va_recv hK.1 hP hc he, fun U hU hW => ⟨rfl, ⟨by rw [hU], by rw [hU]; exact hP, hK.warm hW, hD.weaken (fun _ _ _ _ => trivial)⟩, fun h => va_AO.moved hW.alike (hX h)⟩⟩
theorem k_noX {s : State} : false = true → va_AO RX1 s := fun h => by cases h
section KECALL
variable {p : Program} {l : Launch} {e : Env} {R : Room} {s : State} {m : MethodId} {args : Array Value} {below : List Frame} {meth : Method} {c : Code} {H : Heap} {locs : List Loc} {cells slots mc ms : Nat} {Q : State → Prop}
variable {pc : Nat} {ls : Array Slot} {rest st0 : List Value} {a : Array Value} {A0 : Nat → Prop} {H0 : Heap} {D : va_G} {ws wc wr : va_W}
theorem k_ve {Rp : va_W → Prop} (hr : va_Run p l e R s m args below meth c H locs cells slots mc ms (F0 m pc ls st0) rest (kQve D H.size wc Rp a) (va_A wc H.size)) (hP : va_P D vwCl ws H) (hD : va_D A0 ws) (hS : va_S A0 H0 H locs) (hA : ∀ q, H0.size ≤ q → A0 q) (isC isR : List Nat) (hC : isC.map (fun i => ws[i]?) = wc.map some) (hR : isR.map (fun i => ws[i]?) = wr.map some) (hn : va_nd isR = true) (hdis : ∀ i ∈ isR, i ∉ isC)
    (kk : ∀ (H1 : Heap) (locs1 : List Loc) (w1 : va_W), Rp w1 → va_P D vwCl (wr ++ w1) H1 → va_D A0 (wr ++ w1) → va_S A0 H0 H1 locs1 → W p l e R s m args below meth c H1 locs1 (cells + mc) (slots + ms) Q (F0 m (pc + 3) ls rest)) : W p l e R s m args below meth c H locs cells slots Q (F0 m pc ls st0) := by
  have hF := va_free hD hS hA isC hC
  refine va_callv hr hS (fun q _ h => hF q h) hF (fun u t H1 locs1 ht hvm hw hB hz hk hS1 => ?_)
  obtain ⟨hP1, hD1⟩ := hB
  rw [ht] at hP1
  obtain ⟨g1, g2⟩ := va_join hP hD isC isR hC hR hn hdis hk hF hP1 hD1
  exact kk H1 locs1 u hw g1 g2 hS1
end KECALL
theorem k_sameI {s : State} {cA I : ClassId} (h1 : va_RA s cA .int) (h2 : va_RA s I .int) : cA = I := Option.some.inj (Eq.trans (Eq.symm h1) h2)
theorem k_sameC {s : State} {cA I : ClassId} (h1 : va_RA s cA .char) (h2 : va_RA s I .char) : cA = I := Option.some.inj (Eq.trans (Eq.symm h1) h2)
theorem k_sameQ {s : State} {cA I : ClassId} {C : String} (h1 : va_RA s cA (.object C)) (h2 : va_RA s I (.object C)) : cA = I := by
  obtain ⟨_, _, _, _, _, e1⟩ := h1
  obtain ⟨_, _, _, _, _, e2⟩ := h2
  exact Option.some.inj (e1.symm.trans e2)
/-! two arrays of numbers that agree where they are are one cell -/
theorem k_arrV_eq {c : ClassId} {n : Nat} {f g : Nat → Value} (h : ∀ i, i < n → f i = g i) : arrV c n f = arrV c n g := by
  unfold arrV
  congr 1
  refine Array.ext (by simp) (fun i h1 h2 => ?_)
  simp at h1
  simpa using h i h1
theorem k_cell_eq {c : ClassId} {n : Nat} {f g : Nat → Int32} (h : ∀ i, i < n → f i = g i) : vp_cell c (n, .inl f) = vp_cell c (n, .inl g) := by
  show arrV c n (fun j => .int (f j)) = arrV c n (fun j => .int (g j))
  exact k_arrV_eq (fun i hi => by rw [h i hi])
theorem k_reP {D : va_G} {ws : va_W} {H : Heap} (q0 : Nat) {a : Nat} {c : ClassId} {n : Nat} {f g : Nat → Int32} (hP : va_P D vwCl ws H) (hq : ws[q0]? = some (a, .inl (c, n, .inl f))) (h : ∀ i, i < n → f i = g i) : va_P D vwCl (ws.set q0 (a, .inl (c, n, .inl g))) H := by
  intro k q hk
  by_cases hkq : q0 = k
  · subst hkq
    have hlt : q0 < ws.length := (List.getElem?_eq_some_iff.mp hq).1
    rw [List.getElem?_set_self hlt] at hk
    cases hk
    have h1 := hP q0 _ hq
    show H[a]? = some (vp_cell c (n, .inl g))
    rw [← k_cell_eq h]
    exact h1
  · rw [List.getElem?_set_ne hkq] at hk
    exact hP k q hk
theorem k_cpy {f g : Nat → Int32} {n : Nat} : ∀ i, i < n → va_cpy f g 0 0 n i = f i := by
  intro i hi
  rw [va_cpy, if_pos (by omega), Nat.zero_add, Nat.sub_zero]
section KAROWS
variable {p : Program} {l : Launch} {e : Env} {R : Room} {s : State} {m : MethodId} {args : Array Value} {below : List Frame} {meth : Method} {c : Code} {H : Heap} {locs : List Loc} {cells slots : Nat} {Q : State → Prop}
variable {cc : ByteArray} {pc : Nat} {ls : Array Slot} {rest : List Value} {D : va_G} {A : Nat → Prop} {a : Nat} {tys : List (ClassId × FieldType)} {ws : va_W} {H0 : Heap}
theorem k_aald {i : Int32} {j n : Nat} {f : Nat → Option Nat} {v : Value} (hexec : p.tables.exec = Jvm.exec) (hb : c.code = cc) (hK : va_K D vwCl tys s) (hP : va_P D vwCl ws H) (q0 t0 : Nat) {cA : ClassId} {C : String} (ha : ws[q0]? = some (a, .inl (cA, n, .inr (.inr (.inr (.inr f)))))) (ht : tys[t0]? = some (cA, .object C)) (hi : i = nI j) (hj : j < n) (hn : n < 2 ^ 31) (hv : va_rf (f j) = v) (hdg : decode cc pc = .ok (.aaload, 1))
    (kk : W p l e R s m args below meth c H locs cells slots Q (F0 m (pc + 1) ls (v :: rest))) : W p l e R s m args below meth c H locs cells slots Q (F0 m pc ls (.int i :: .ref a :: rest)) :=
  va_aldq hexec hb hK hP q0 t0 ha ht (k_vpin hi hj hn) hdg (by rw [k_toNat hi hj hn, hv]; exact kk)
theorem k_aast {i : Int32} {j n v : Nat} {f : Nat → Option Nat} {r : vw_C} {vs : List Value} (hexec : p.tables.exec = Jvm.exec) (hb : c.code = cc) (hK : va_K D vwCl tys s) (hP : va_P D vwCl ws H) (hD : va_D A ws) (hS : va_S A H0 H locs) (q0 t0 qk ci : Nat) {cA : ClassId} (ha : ws[q0]? = some (a, .inl (cA, n, .inr (.inr (.inr (.inr f)))))) (ht : tys[t0]? = some (cA, .object r.1)) (hv : ws[qk]? = some (v, .inr (ci, vs))) (hc : vwCl[ci]? = some r) (hi : i = nI j) (hj : j < n) (hn : n < 2 ^ 31) (hdg : decode cc pc = .ok (.aastore, 1))
    (kk : ∀ (H1 : Heap) (locs1 : List Loc), va_P D vwCl (ws.set q0 (a, .inl (cA, n, .inr (.inr (.inr (.inr (va_up f j (some v)))))))) H1 → va_D A (ws.set q0 (a, .inl (cA, n, .inr (.inr (.inr (.inr (va_up f j (some v)))))))) → va_S A H0 H1 locs1 → W p l e R s m args below meth c H1 locs1 cells slots Q (F0 m (pc + 1) ls rest)) : W p l e R s m args below meth c H locs cells slots Q (F0 m pc ls (.ref v :: .int i :: .ref a :: rest)) :=
  va_astq hexec hb hK hP hD hS q0 t0 qk ci ha ht hv hc (k_vpin hi hj hn) hdg (by rw [k_toNat hi hj hn]; exact kk)
end KAROWS
theorem k_bn {x : Int32} (h : x = 0 ∨ x = 1) : narrow .boolean (.int x) = .int x := by
  rcases h with rfl | rfl <;> decide
theorem k_bf {x : Int32} (h : x = 0 ∨ x = 1) : fits .boolean (.int x) = true := by
  rcases h with rfl | rfl <;> decide
theorem k_max0 {r : Nat} (h : r < 2 ^ 31) : (if (0 : Int32) < nI r then nI r else 0) = nI r := by
  split
  · rfl
  · rename_i hn
    rcases Nat.eq_zero_or_pos r with e | e
    · rw [e]; rfl
    · exact absurd ((nI_ltI (a := 0) (b := r) (by omega) h).mpr e) hn
