/-! contracts of methods that make nothing: a world before, a world behind -/
abbrev kTy : Type := List (ClassId × FieldType)
/-- the calls of private members of nest mates: own class, place, method -/
def kNests : List (String × Nat × MethodName) := [(RX8, 9, yX1_init), (RX8, 18, yX3_init), (RX8, 25, yX6_init), (RX1, 11, yX2_init), (RX1, 20, yX4_init), (RX1, 27, yX0_init), (RX1, 75, yX8_isWithin), (RX3, 22, yX1_init), (RX4, 22, yX7_init), (RX4, 68, yX8_isWithin)]
/-- LateExcuses reads the text's own fields: place, name -/
def kNestF : List (Nat × String) := []
def kE (D : va_G) (ty : kTy) (U : State) : Prop := va_K D vwCl ty U ∧ (∀ q ∈ kNests, va_Nw (.methodLinkNest q.1 q.2.1 q.2.2 RX8) U) ∧ ∀ q ∈ kNestF, va_Nw (.fieldLinkNest RX8 q.1 RX6 q.2 "I" RX8) U
theorem kE.warm {D : va_G} {ty : kTy} {s U : State} (hW : s.WarmedH U.vm) (h : kE D ty s) : kE D ty U := ⟨va_K.moved hW.alike h.1, fun q hq => va_Nw.warmM hW (h.2.1 q hq), fun q hq => va_Nw.warmF hW (h.2.2 q hq)⟩
theorem kE.nest {D : va_G} {ty : kTy} {s : State} (h : kE D ty s) (i : Nat) {q : String × Nat × MethodName} (hi : kNests[i]? = some q) : va_Nw (.methodLinkNest q.1 q.2.1 q.2.2 RX8) s := h.2.1 q (List.mem_of_getElem? hi)
def kPre (D : va_G) (ty : kTy) (sz : Nat) (ws : va_W) : State → Prop := fun U => U.heap.size = sz ∧ va_P D vwCl ws U.heap ∧ kE D ty U ∧ va_D (fun _ => True) ws
abbrev kQi (D : va_G) (sz : Nat) (ws ws' : va_W) (r : Int32) : Array Value → State → Outcome → State → Prop := va_Qi (fun (q : Int32) (_ : Unit) => q = r) (fun _ t => va_P D vwCl ws' t.heap ∧ va_D (va_A ws sz) ws') (va_A ws sz)
abbrev kQv (D : va_G) (sz : Nat) (ws ws' : va_W) : Array Value → State → Outcome → State → Prop := va_Qv (fun (_ : Unit) => True) (fun _ t => va_P D vwCl ws' t.heap ∧ va_D (va_A ws sz) ws') (va_A ws sz)
abbrev kQr (D : va_G) (sz : Nat) (ws ws' : va_W) (a : Nat) : Array Value → State → Outcome → State → Prop := va_Qr (fun (_ : Unit) => True) (fun _ b t => b = a ∧ va_P D vwCl ws' t.heap ∧ va_D (va_A ws sz) ws') (va_A ws sz)
def KI (l : Launch) (D : va_G) (ty : kTy) (y : MethodName) (wm : List Cond) (rm : Room) (av : List Value) (ws ws' : va_W) (r : Int32) : Prop :=
  ∀ sz : Nat, Met l y wm rm (va_Pc av (kPre D ty sz ws)) (kQi D sz ws ws' r) 0 0 (va_A ws sz)
def KV (l : Launch) (D : va_G) (ty : kTy) (y : MethodName) (wm : List Cond) (rm : Room) (av : List Value) (ws ws' : va_W) : Prop :=
  ∀ sz : Nat, Met l y wm rm (va_Pc av (kPre D ty sz ws)) (kQv D sz ws ws') 0 0 (va_A ws sz)
def KR (l : Launch) (D : va_G) (ty : kTy) (y : MethodName) (wm : List Cond) (rm : Room) (av : List Value) (ws ws' : va_W) (a : Nat) : Prop :=
  ∀ sz : Nat, Met l y wm rm (va_Pc av (kPre D ty sz ws)) (kQr D sz ws ws' a) 0 0 (va_A ws sz)
theorem k_setup {D : va_G} {ty : kTy} {ws : va_W} {sz : Nat} {U : State} (h : kPre D ty sz ws U) : ∃ A : Nat → Prop, va_A ws sz = A ∧ (∀ q : Nat, U.heap.size ≤ q → A q) ∧ va_P D vwCl ws U.heap ∧ kE D ty U ∧ va_D A ws ∧ va_S A U.heap U.heap [] := by
  obtain ⟨hsz, hP, hK, hD0⟩ := h
  subst hsz
  exact ⟨_, rfl, fun q hq => Or.inr hq, hP, hK, hD0.self, va_S.rf⟩
theorem KI.of {l : Launch} {D : va_G} {ty : kTy} {y : MethodName} {wm : List Cond} {rm : Room} {av : List Value} {ws ws' : va_W} {r : Int32} {cc : ByteArray} {maxL : Nat} {rt : FieldType} {w0 : List Cond} {own : String}
    (hy : plainName y.cls = true) (hw : wm = Cond.code y cc maxL (some rt) :: w0) (ho : y.cls = own) (hlen : (lg_sl av).length ≤ maxL)
    (body : ∀ (p : Program) (e : Env) (s : State) (m : MethodId) (below : List Frame) (meth : Method) (c : Code) (A : Nat → Prop) (Q : State → Prop) (ls : Array Slot),
      p.tables.exec = Jvm.exec → c.code = cc → c.maxLocals = maxL → s.vm.findClass own = some m.cls → (∀ w ∈ wm, w.before av.toArray s = true) → kE D ty s → (∀ q : Nat, s.heap.size ≤ q → A q) →
      va_P D vwCl ws s.heap → va_D A ws → va_S A s.heap s.heap [] → lv_has ls maxL (lv_args 0 av) →
      (∀ (H : Heap) (locs : List Loc) (pc : Nat) (ls : Array Slot) (v : Int32) (ws9 : va_W), va_P D vwCl ws9 H → va_D A ws9 → va_S A s.heap H locs → decode cc pc = .ok (.ireturn, 1) → narrow rt (.int v) = .int v → ws9 = ws' → v = r →
        W p l e rm s m av.toArray below meth c H locs 0 0 Q (F0 m pc ls [.int v])) →
      W p l e rm s m av.toArray below meth c s.heap [] 0 0 Q (F0 m 0 ls [])) : KI l D ty y wm rm av ws ws' r := by
  intro sz
  refine Met.ofW (cc := cc) (maxL := maxL) (ret := some rt) hy hw ?_
  intro p e s m args below meth c s₁ B hml hv
  obtain ⟨rfl, hpre⟩ := hv
  have hown : s.vm.findClass own = some m.cls := ho ▸ findClass_of_methodNamed B.named
  obtain ⟨A, hAe, hA, hP, hK, hD, hS⟩ := k_setup hpre
  have hl := lv_entry av (n := maxL) hlen
  rw [lg_entry_eq]
  generalize (lg_sl av ++ List.replicate (maxL - (lg_sl av).length) Slot.unset).toArray = ls at hl ⊢
  refine body p e s m below meth c A _ ls B.exec B.bytes hml hown (atoms_spec B.pre) hK hA hP hD hS hl ?_
  intro H locs pc ls v ws9 hP9 hD9 hS9 hdg hn e1 e2
  subst e1; subst e2
  have hlocks := B.notSynchronized
  refine W.zret B.exec B.bytes B.returns hn (fun t ht hW => ⟨⟨v, (), rfl, rfl, by rw [ht]; exact hP9, by rw [hAe]; exact hD9⟩, by rw [hAe]; exact hS9.F ht⟩) (by rw [hAe]; exact hS9.2.2) hdg
theorem KV.of {l : Launch} {D : va_G} {ty : kTy} {y : MethodName} {wm : List Cond} {rm : Room} {av : List Value} {ws ws' : va_W} {cc : ByteArray} {maxL : Nat} {w0 : List Cond} {own : String}
    (hy : plainName y.cls = true) (hw : wm = Cond.code y cc maxL none :: w0) (ho : y.cls = own) (hlen : (lg_sl av).length ≤ maxL)
    (body : ∀ (p : Program) (e : Env) (s : State) (m : MethodId) (below : List Frame) (meth : Method) (c : Code) (A : Nat → Prop) (Q : State → Prop) (ls : Array Slot),
      p.tables.exec = Jvm.exec → c.code = cc → c.maxLocals = maxL → s.vm.findClass own = some m.cls → (∀ w ∈ wm, w.before av.toArray s = true) → kE D ty s → (∀ q : Nat, s.heap.size ≤ q → A q) →
      va_P D vwCl ws s.heap → va_D A ws → va_S A s.heap s.heap [] → lv_has ls maxL (lv_args 0 av) →
      (∀ (H : Heap) (locs : List Loc) (pc : Nat) (ls : Array Slot) (ws9 : va_W), va_P D vwCl ws9 H → va_D A ws9 → va_S A s.heap H locs → decode cc pc = .ok (.return_, 1) → ws9 = ws' →
        W p l e rm s m av.toArray below meth c H locs 0 0 Q (F0 m pc ls [])) →
      W p l e rm s m av.toArray below meth c s.heap [] 0 0 Q (F0 m 0 ls [])) : KV l D ty y wm rm av ws ws' := by
  intro sz
  refine Met.ofW (cc := cc) (maxL := maxL) (ret := none) hy hw ?_
  intro p e s m args below meth c s₁ B hml hv
  obtain ⟨rfl, hpre⟩ := hv
  have hown : s.vm.findClass own = some m.cls := ho ▸ findClass_of_methodNamed B.named
  obtain ⟨A, hAe, hA, hP, hK, hD, hS⟩ := k_setup hpre
  have hl := lv_entry av (n := maxL) hlen
  rw [lg_entry_eq]
  generalize (lg_sl av ++ List.replicate (maxL - (lg_sl av).length) Slot.unset).toArray = ls at hl ⊢
  refine body p e s m below meth c A _ ls B.exec B.bytes hml hown (atoms_spec B.pre) hK hA hP hD hS hl ?_
  intro H locs pc ls ws9 hP9 hD9 hS9 hdg e1
  subst e1
  have hlocks := B.notSynchronized
  refine W.vret B.exec B.bytes B.returns (fun t ht hW => ⟨⟨(), rfl, trivial, by rw [ht]; exact hP9, by rw [hAe]; exact hD9⟩, by rw [hAe]; exact hS9.F ht⟩) (by rw [hAe]; exact hS9.2.2) hdg
theorem KR.of {l : Launch} {D : va_G} {ty : kTy} {y : MethodName} {wm : List Cond} {rm : Room} {av : List Value} {ws ws' : va_W} {a : Nat} {cc : ByteArray} {maxL : Nat} {rt : FieldType} {w0 : List Cond} {own : String}
    (hy : plainName y.cls = true) (hw : wm = Cond.code y cc maxL (some rt) :: w0) (ho : y.cls = own) (hlen : (lg_sl av).length ≤ maxL) (hrt : (∃ n, rt = .object n) ∨ ∃ t, rt = .array t)
    (body : ∀ (p : Program) (e : Env) (s : State) (m : MethodId) (below : List Frame) (meth : Method) (c : Code) (A : Nat → Prop) (Q : State → Prop) (ls : Array Slot),
      p.tables.exec = Jvm.exec → c.code = cc → c.maxLocals = maxL → s.vm.findClass own = some m.cls → (∀ w ∈ wm, w.before av.toArray s = true) → kE D ty s → (∀ q : Nat, s.heap.size ≤ q → A q) →
      va_P D vwCl ws s.heap → va_D A ws → va_S A s.heap s.heap [] → lv_has ls maxL (lv_args 0 av) →
      (∀ (H : Heap) (locs : List Loc) (pc : Nat) (ls : Array Slot) (b : Nat) (ws9 : va_W), va_P D vwCl ws9 H → va_D A ws9 → va_S A s.heap H locs → decode cc pc = .ok (.areturn, 1) → ws9 = ws' → b = a →
        W p l e rm s m av.toArray below meth c H locs 0 0 Q (F0 m pc ls [.ref b])) →
      W p l e rm s m av.toArray below meth c s.heap [] 0 0 Q (F0 m 0 ls [])) : KR l D ty y wm rm av ws ws' a := by
  intro sz
  refine Met.ofW (cc := cc) (maxL := maxL) (ret := some rt) hy hw ?_
  intro p e s m args below meth c s₁ B hml hv
  obtain ⟨rfl, hpre⟩ := hv
  have hown : s.vm.findClass own = some m.cls := ho ▸ findClass_of_methodNamed B.named
  obtain ⟨A, hAe, hA, hP, hK, hD, hS⟩ := k_setup hpre
  have hl := lv_entry av (n := maxL) hlen
  rw [lg_entry_eq]
  generalize (lg_sl av ++ List.replicate (maxL - (lg_sl av).length) Slot.unset).toArray = ls at hl ⊢
  refine body p e s m below meth c A _ ls B.exec B.bytes hml hown (atoms_spec B.pre) hK hA hP hD hS hl ?_
  intro H locs pc ls b ws9 hP9 hD9 hS9 hdg e1 e2
  subst e1; subst e2
  have hlocks := B.notSynchronized
  refine W.aret B.exec B.bytes B.returns hrt (Or.inr ⟨_, rfl⟩) (fun t ht hW => ⟨⟨(), b, rfl, trivial, rfl, by rw [ht]; exact hP9, by rw [hAe]; exact hD9⟩, by rw [hAe]; exact hS9.F ht⟩) (by rw [hAe]; exact hS9.2.2) hdg
/-! the start of a call -/
theorem kPre_blind {D : va_G} {ty : kTy} {sz : Nat} {av : List Value} {ws : va_W} : FrameBlind (va_Pc av (kPre D ty sz ws)) := by
  intro a U g mk q
  obtain ⟨q0, q1, qP, qK, qD⟩ := q
  exact ⟨q0, q1, qP, ⟨va_K.moved (u := U) (U := U.calling g mk a) (Vm.Alike.refl U.vm) qK.1, fun w hw => va_Nw.same (u := U) (U := U.calling g mk a) rfl rfl (qK.2.1 w hw), fun w hw => va_Nw.same (u := U) (U := U.calling g mk a) rfl rfl (qK.2.2 w hw)⟩, qD⟩
theorem kPreS {D : va_G} {ty : kTy} {A : Nat → Prop} {As : List Value} {ws : va_W} {s : State} {H : Heap} (hK : kE D ty s) (hP : va_P D vwCl ws H) (hD : va_D A ws) : PreS s H (va_Pc As (kPre D ty H.size ws)) As :=
  ⟨kPre_blind, fun U hU hW => ⟨rfl, by rw [hU], by rw [hU]; exact hP, hK.warm hW, hD.weaken (fun _ _ _ _ => trivial)⟩⟩
theorem kPreV {D : va_G} {ty : kTy} {A : Nat → Prop} {As : List Value} {ws : va_W} {s : State} {H : Heap} {b q0 ci : Nat} {q : vw_C} {fs : List Value} (hK : kE D ty s) (hP : va_P D vwCl ws H) (hD : va_D A ws) (hc : vwCl[ci]? = some q) (he : ws[q0]? = some (b, .inr (ci, fs))) : PreV s H q.1 b (va_Pc (.ref b :: As) (kPre D ty H.size ws)) As :=
  ⟨kPre_blind, va_recv hK.1 hP hc he, fun U hU hW => ⟨rfl, by rw [hU], by rw [hU]; exact hP, hK.warm hW, hD.weaken (fun _ _ _ _ => trivial)⟩⟩
theorem k_fm {α β : Type} {f : α → Option β} : ∀ {is : List α} {w : List β}, is.map f = w.map some → is.filterMap f = w
  | [], [], _ => rfl
  | [], _ :: _, h => by simp at h
  | _ :: _, [], h => by simp at h
  | i :: is, b :: w, h => by
    simp only [List.map_cons, List.cons.injEq] at h
    rw [List.filterMap_cons, h.1, k_fm h.2]
/-- the whole world behind a call of a part of it: by places -/
theorem k_back {A0 : Nat → Prop} {D : va_G} {ws wc wr w1 ws' : va_W} {H H1 : Heap} (hP : va_P D vwCl ws H) (hD : va_D A0 ws) (hF : ∀ q, va_A wc H.size q → A0 q) (isC isR isP : List Nat) (hC : isC.map (fun i => ws[i]?) = wc.map some) (hR : isR.map (fun i => ws[i]?) = wr.map some) (hn : va_nd isR = true) (hdis : ∀ i ∈ isR, i ∉ isC)
    (hp : isP.map (fun i => (wr ++ w1)[i]?) = ws'.map some) (hpn : va_nd isP = true)
    (hk : ∀ q : Nat, q < H.size → ¬ va_A wc H.size q → H1[q]? = H[q]?) (hP1 : va_P D vwCl w1 H1) (hD1 : va_D (va_A wc H.size) w1) : va_P D vwCl ws' H1 ∧ va_D A0 ws' := by
  obtain ⟨h1, h2⟩ := va_join hP hD isC isR hC hR hn hdis hk hF hP1 hD1
  exact ⟨h1.sub isP (k_fm hp), h2.sub isP hpn hp⟩
section KCALL
variable {p : Program} {l : Launch} {e : Env} {R : Room} {s : State} {m : MethodId} {args : Array Value} {below : List Frame} {meth : Method} {c : Code} {H : Heap} {locs : List Loc} {cells slots : Nat} {Q : State → Prop}
variable {pc : Nat} {ls : Array Slot} {rest st0 : List Value} {a : Array Value} {A0 : Nat → Prop} {H0 : Heap} {D : va_G} {ws wc wc' wr ws' : va_W}
/-- int answer, a part of the world -/
theorem k_i {r : Int32} (hr : va_Run p l e R s m args below meth c H locs cells slots 0 0 (F0 m pc ls st0) rest (kQi D H.size wc wc' r a) (va_A wc H.size)) (hP : va_P D vwCl ws H) (hD : va_D A0 ws) (hS : va_S A0 H0 H locs) (hA : ∀ q, H0.size ≤ q → A0 q) (isC isR isP : List Nat) (hC : isC.map (fun i => ws[i]?) = wc.map some) (hR : isR.map (fun i => ws[i]?) = wr.map some) (hn : va_nd isR = true) (hdis : ∀ i ∈ isR, i ∉ isC)
    (hp : isP.map (fun i => (wr ++ wc')[i]?) = ws'.map some) (hpn : va_nd isP = true)
    (kk : ∀ (H1 : Heap) (locs1 : List Loc), va_P D vwCl ws' H1 → va_D A0 ws' → va_S A0 H0 H1 locs1 → W p l e R s m args below meth c H1 locs1 cells slots Q (F0 m (pc + 3) ls (.int r :: rest))) : W p l e R s m args below meth c H locs cells slots Q (F0 m pc ls st0) := by
  have hF := va_free hD hS hA isC hC
  refine va_calli hr hS (fun q _ h => hF q h) hF (fun r' u t H1 locs1 ht hvm hw hB hz hk hS1 => ?_)
  obtain ⟨hP1, hD1⟩ := hB
  rw [ht] at hP1
  obtain ⟨g1, g2⟩ := k_back hP hD hF isC isR isP hC hR hn hdis hp hpn hk hP1 hD1
  rw [hw]
  exact kk H1 locs1 g1 g2 hS1
theorem k_v (hr : va_Run p l e R s m args below meth c H locs cells slots 0 0 (F0 m pc ls st0) rest (kQv D H.size wc wc' a) (va_A wc H.size)) (hP : va_P D vwCl ws H) (hD : va_D A0 ws) (hS : va_S A0 H0 H locs) (hA : ∀ q, H0.size ≤ q → A0 q) (isC isR isP : List Nat) (hC : isC.map (fun i => ws[i]?) = wc.map some) (hR : isR.map (fun i => ws[i]?) = wr.map some) (hn : va_nd isR = true) (hdis : ∀ i ∈ isR, i ∉ isC)
    (hp : isP.map (fun i => (wr ++ wc')[i]?) = ws'.map some) (hpn : va_nd isP = true)
    (kk : ∀ (H1 : Heap) (locs1 : List Loc), va_P D vwCl ws' H1 → va_D A0 ws' → va_S A0 H0 H1 locs1 → W p l e R s m args below meth c H1 locs1 cells slots Q (F0 m (pc + 3) ls rest)) : W p l e R s m args below meth c H locs cells slots Q (F0 m pc ls st0) := by
  have hF := va_free hD hS hA isC hC
  refine va_callv hr hS (fun q _ h => hF q h) hF (fun u t H1 locs1 ht hvm hw hB hz hk hS1 => ?_)
  obtain ⟨hP1, hD1⟩ := hB
  rw [ht] at hP1
  obtain ⟨g1, g2⟩ := k_back hP hD hF isC isR isP hC hR hn hdis hp hpn hk hP1 hD1
  exact kk H1 locs1 g1 g2 hS1
theorem k_r {ra : Nat} (hr : va_Run p l e R s m args below meth c H locs cells slots 0 0 (F0 m pc ls st0) rest (kQr D H.size wc wc' ra a) (va_A wc H.size)) (hP : va_P D vwCl ws H) (hD : va_D A0 ws) (hS : va_S A0 H0 H locs) (hA : ∀ q, H0.size ≤ q → A0 q) (isC isR isP : List Nat) (hC : isC.map (fun i => ws[i]?) = wc.map some) (hR : isR.map (fun i => ws[i]?) = wr.map some) (hn : va_nd isR = true) (hdis : ∀ i ∈ isR, i ∉ isC)
    (hp : isP.map (fun i => (wr ++ wc')[i]?) = ws'.map some) (hpn : va_nd isP = true)
    (kk : ∀ (H1 : Heap) (locs1 : List Loc), va_P D vwCl ws' H1 → va_D A0 ws' → va_S A0 H0 H1 locs1 → W p l e R s m args below meth c H1 locs1 cells slots Q (F0 m (pc + 3) ls (.ref ra :: rest))) : W p l e R s m args below meth c H locs cells slots Q (F0 m pc ls st0) := by
  have hF := va_free hD hS hA isC hC
  refine va_callr hr hS (fun q _ h => hF q h) hF (fun u r' t H1 locs1 ht hvm hw hB hz hk hS1 => ?_)
  obtain ⟨he, hP1, hD1⟩ := hB
  rw [ht] at hP1
  obtain ⟨g1, g2⟩ := k_back hP hD hF isC isR isP hC hR hn hdis hp hpn hk hP1 hD1
  rw [he]
  exact kk H1 locs1 g1 g2 hS1
theorem k_fullF (hD : va_D A0 ws) (hS : va_S A0 H0 H locs) (hA : ∀ q, H0.size ≤ q → A0 q) : ∀ q, va_A ws H.size q → A0 q := by
  intro q h
  rcases h with ⟨k, e, h⟩ | h
  · exact hD.2 k _ h
  · exact hA q (Nat.le_trans hS.1 h)
theorem k_fullD (hD : va_D A0 ws) (hS : va_S A0 H0 H locs) (hA : ∀ q, H0.size ≤ q → A0 q) (hD1 : va_D (va_A ws H.size) ws') : va_D A0 ws' := hD1.weaken (fun _ q _ h => k_fullF hD hS hA q.1 h)
/-- int answer, the whole world -/
theorem k_iF {r : Int32} (hr : va_Run p l e R s m args below meth c H locs cells slots 0 0 (F0 m pc ls st0) rest (kQi D H.size ws ws' r a) (va_A ws H.size)) (hD : va_D A0 ws) (hS : va_S A0 H0 H locs) (hA : ∀ q, H0.size ≤ q → A0 q)
    (kk : ∀ (H1 : Heap) (locs1 : List Loc), va_P D vwCl ws' H1 → va_D A0 ws' → va_S A0 H0 H1 locs1 → W p l e R s m args below meth c H1 locs1 cells slots Q (F0 m (pc + 3) ls (.int r :: rest))) : W p l e R s m args below meth c H locs cells slots Q (F0 m pc ls st0) := by
  have hF := k_fullF hD hS hA
  refine va_calli hr hS (fun q _ h => hF q h) hF (fun r' u t H1 locs1 ht hvm hw hB hz hk hS1 => ?_)
  obtain ⟨hP1, hD1⟩ := hB
  rw [ht] at hP1
  rw [hw]
  exact kk H1 locs1 hP1 (k_fullD hD hS hA hD1) hS1
theorem k_vF (hr : va_Run p l e R s m args below meth c H locs cells slots 0 0 (F0 m pc ls st0) rest (kQv D H.size ws ws' a) (va_A ws H.size)) (hD : va_D A0 ws) (hS : va_S A0 H0 H locs) (hA : ∀ q, H0.size ≤ q → A0 q)
    (kk : ∀ (H1 : Heap) (locs1 : List Loc), va_P D vwCl ws' H1 → va_D A0 ws' → va_S A0 H0 H1 locs1 → W p l e R s m args below meth c H1 locs1 cells slots Q (F0 m (pc + 3) ls rest)) : W p l e R s m args below meth c H locs cells slots Q (F0 m pc ls st0) := by
  have hF := k_fullF hD hS hA
  refine va_callv hr hS (fun q _ h => hF q h) hF (fun u t H1 locs1 ht hvm hw hB hz hk hS1 => ?_)
  obtain ⟨hP1, hD1⟩ := hB
  rw [ht] at hP1
  exact kk H1 locs1 hP1 (k_fullD hD hS hA hD1) hS1
/-- int answer of a method that has no world -/
theorem k_i0 {r : Int32} (hr : va_Run p l e R s m args below meth c H locs cells slots 0 0 (F0 m pc ls st0) rest (kQi D H.size [] [] r a) (va_A [] H.size)) (hP : va_P D vwCl ws H) (hS : va_S A0 H0 H locs) (hA : ∀ q, H0.size ≤ q → A0 q)
    (kk : ∀ (H1 : Heap) (locs1 : List Loc), va_P D vwCl ws H1 → va_S A0 H0 H1 locs1 → W p l e R s m args below meth c H1 locs1 cells slots Q (F0 m (pc + 3) ls (.int r :: rest))) : W p l e R s m args below meth c H locs cells slots Q (F0 m pc ls st0) := by
  have hF : ∀ q, va_A [] H.size q → A0 q := by
    intro q h
    rcases h with ⟨k, e, h⟩ | h
    · simp at h
    · exact hA q (Nat.le_trans hS.1 h)
  refine va_calli hr hS (fun q _ h => hF q h) hF (fun r' u t H1 locs1 ht hvm hw hB hz hk hS1 => ?_)
  rw [hw]
  refine kk H1 locs1 (hP.kept (fun k q hq => hk q.1 (hP k q hq).lt ?_)) hS1
  intro h
  rcases h with ⟨k2, e, h⟩ | h
  · simp at h
  · exact absurd (hP k q hq).lt (Nat.not_lt.mpr h)
end KCALL
