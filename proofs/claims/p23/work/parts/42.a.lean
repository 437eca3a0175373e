/-! contracts of the law's own methods: what a method that answers a long says; calls from a method of the law on the object, over its whole world -/
abbrev kQl (D : va_G) (sz : Nat) (ws ws' : va_W) (r : Int64) : Array Value → State → Outcome → State → Prop := va_Ql (fun (q : Int64) (_ : Unit) => q = r) (fun _ t => va_P D vwCl ws' t.heap ∧ va_D (va_A ws sz) ws') (va_A ws sz)
def KL (l : Launch) (D : va_G) (ty : kTy) (y : MethodName) (wm : List Cond) (rm : Room) (av : List Value) (ws ws' : va_W) (r : Int64) : Prop :=
  ∀ sz : Nat, Met l y wm rm (va_Pc av (kPre D ty sz ws)) (kQl D sz ws ws' r) 0 0 (va_A ws sz)
theorem KL.of {l : Launch} {D : va_G} {ty : kTy} {y : MethodName} {wm : List Cond} {rm : Room} {av : List Value} {ws ws' : va_W} {r : Int64} {cc : ByteArray} {maxL : Nat} {w0 : List Cond} {own : String}
    (hy : plainName y.cls = true) (hw : wm = Cond.code y cc maxL (some .long) :: w0) (ho : y.cls = own) (hlen : (lg_sl av).length ≤ maxL)
    (body : ∀ (p : Program) (e : Env) (s : State) (m : MethodId) (below : List Frame) (meth : Method) (c : Code) (A : Nat → Prop) (Q : State → Prop) (ls : Array Slot),
      p.tables.exec = Jvm.exec → c.code = cc → c.maxLocals = maxL → s.vm.findClass own = some m.cls → (∀ w ∈ wm, w.before av.toArray s = true) → kE D ty s → (∀ q : Nat, s.heap.size ≤ q → A q) →
      va_P D vwCl ws s.heap → va_D A ws → va_S A s.heap s.heap [] → lv_has ls maxL (lv_args 0 av) →
      (∀ (H : Heap) (locs : List Loc) (pc : Nat) (ls : Array Slot) (v : Int64) (ws9 : va_W), va_P D vwCl ws9 H → va_D A ws9 → va_S A s.heap H locs → decode cc pc = .ok (.lreturn, 1) → ws9 = ws' → v = r →
        W p l e rm s m av.toArray below meth c H locs 0 0 Q (F0 m pc ls [.long v])) →
      W p l e rm s m av.toArray below meth c s.heap [] 0 0 Q (F0 m 0 ls [])) : KL l D ty y wm rm av ws ws' r := by
  intro sz
  refine Met.ofW (cc := cc) (maxL := maxL) (ret := some .long) hy hw ?_
  intro p e s m args below meth c s₁ B hml hv
  obtain ⟨rfl, hpre⟩ := hv
  have hown : s.vm.findClass own = some m.cls := ho ▸ findClass_of_methodNamed B.named
  obtain ⟨A, hAe, hA, hP, hK, hD, hS⟩ := k_setup hpre
  have hl := lv_entry av (n := maxL) hlen
  rw [lg_entry_eq]
  generalize (lg_sl av ++ List.replicate (maxL - (lg_sl av).length) Slot.unset).toArray = ls at hl ⊢
  refine body p e s m below meth c A _ ls B.exec B.bytes hml hown (atoms_spec B.pre) hK hA hP hD hS hl ?_
  intro H locs pc ls v ws9 hP9 hD9 hS9 hdg e1 e2
  subst e1; subst e2
  have hlocks := B.notSynchronized
  refine W.lret B.exec B.bytes B.returns (fun t ht hW => ⟨⟨v, (), rfl, rfl, by rw [ht]; exact hP9, by rw [hAe]; exact hD9⟩, by rw [hAe]; exact hS9.F ht⟩) (by rw [hAe]; exact hS9.2.2) hdg
theorem uX_0 (I C Q : ClassId) (y0 : Nat) (x : LV) : ∃ fs, (uX I C Q y0 x)[0]? = some (y0, .inr (8, fs)) := ⟨_, rfl⟩
section LCALL
variable {p : Program} {l : Launch} {e : Env} {R : Room} {s : State} {m : MethodId} {args : Array Value} {below : List Frame} {meth : Method} {c : Code} {H : Heap} {locs : List Loc} {cells slots mc ms : Nat} {Q : State → Prop}
variable {pc nL : Nat} {ls : Array Slot} {rest st0 as : List Value} {a : Array Value} {A0 : Nat → Prop} {H0 : Heap} {D : va_G} {ty : kTy} {ws ws' : va_W} {cc : ByteArray} {Ts : List Cond} {y8 : MethodName} {wm8 : List Cond} {i8 n maxL y0 : Nat} {bytes : ByteArray} {ret : Option FieldType} {fs : List Value}
theorem k_lF {r : Int64} (hr : va_Run p l e R s m args below meth c H locs cells slots 0 0 (F0 m pc ls st0) rest (kQl D H.size ws ws' r a) (va_A ws H.size)) (hD : va_D A0 ws) (hS : va_S A0 H0 H locs) (hA : ∀ q, H0.size ≤ q → A0 q)
    (kk : ∀ (H1 : Heap) (locs1 : List Loc), va_P D vwCl ws' H1 → va_D A0 ws' → va_S A0 H0 H1 locs1 → W p l e R s m args below meth c H1 locs1 cells slots Q (F0 m (pc + 3) ls (.long r :: rest))) : W p l e R s m args below meth c H locs cells slots Q (F0 m pc ls st0) := by
  have hF := k_fullF hD hS hA
  refine va_calll hr hS (fun q _ h => hF q h) hF (fun r' u t H1 locs1 ht hvm hw hB hz hk hS1 => ?_)
  obtain ⟨hP1, hD1⟩ := hB
  rw [ht] at hP1
  rw [hw]
  exact kk H1 locs1 hP1 (k_fullD hD hS hA hD1) hS1
theorem k_ieF {Rp : Int32 → va_W → Prop} (hr : va_Run p l e R s m args below meth c H locs cells slots mc ms (F0 m pc ls st0) rest (kQie D H.size ws Rp a) (va_A ws H.size)) (hD : va_D A0 ws) (hS : va_S A0 H0 H locs) (hA : ∀ q, H0.size ≤ q → A0 q)
    (kk : ∀ (H1 : Heap) (locs1 : List Loc) (r : Int32) (w1 : va_W), Rp r w1 → va_P D vwCl w1 H1 → va_D A0 w1 → va_S A0 H0 H1 locs1 → W p l e R s m args below meth c H1 locs1 (cells + mc) (slots + ms) Q (F0 m (pc + 3) ls (.int r :: rest))) : W p l e R s m args below meth c H locs cells slots Q (F0 m pc ls st0) := by
  have hF := k_fullF hD hS hA
  refine va_calli hr hS (fun q _ h => hF q h) hF (fun r u t H1 locs1 ht hvm hw hB hz hk hS1 => ?_)
  obtain ⟨hP1, hD1⟩ := hB
  rw [ht] at hP1
  exact kk H1 locs1 r u hw hP1 (k_fullD hD hS hA hD1) hS1
/-- a question to the object -/
theorem L_rd {r : Int32} (hF : CallFix p m c cc nL s args Ts RL) (hE : kE D ty s) (hA : ∀ q, H0.size ≤ q → A0 q) (hP : va_P D vwCl ws H) (hD : va_D A0 ws) (hS : va_S A0 H0 H locs) (h0 : ws[0]? = some (y0, .inr (8, fs))) (hl : ls.size = nL)
    (K : KI l D ty y8 wm8 rm9 (.ref y0 :: as) ws ws r) (hcw : CallW R s args RL RX8 i8 y8 bytes maxL ret wm8 rm9 0 0 n) (hn : as.length = n) (hst : st0 = as.reverse ++ (.ref y0 :: rest)) (hroom : (rest.map fun v => v.category).sum ≤ 8) (hdg : decode cc pc = .ok (.invokevirtual i8, 3)) (hcs : cells ≤ R.cells ∧ slots ≤ R.slots)
    (kk : ∀ (H1 : Heap) (locs1 : List Loc), va_P D vwCl ws H1 → va_D A0 ws → va_S A0 H0 H1 locs1 → W p l e R s m args below meth c H1 locs1 cells slots Q (F0 m (pc + 3) ls (.int r :: rest))) : W p l e R s m args below meth c H locs cells slots Q (F0 m pc ls st0) :=
  k_iF (va_runV (As := as) (rest := rest) hF (K _) hcw (kPreV hE hP hD (ci := 8) (q0 := 0) rfl h0) rfl hn hl hst (lv_room hroom) hdg hcs) hD hS hA kk
/-- a call on the object that may change it -/
theorem L_ch {Rp : Int32 → va_W → Prop} {rmx : Room} (hF : CallFix p m c cc nL s args Ts RL) (hE : kE D ty s) (hA : ∀ q, H0.size ≤ q → A0 q) (hP : va_P D vwCl ws H) (hD : va_D A0 ws) (hS : va_S A0 H0 H locs) (h0 : ws[0]? = some (y0, .inr (8, fs))) (hl : ls.size = nL)
    (K : KIe l D ty y8 wm8 rmx (.ref y0 :: as) ws mc ms Rp) (hcw : CallW R s args RL RX8 i8 y8 bytes maxL ret wm8 rmx mc ms n) (hn : as.length = n) (hst : st0 = as.reverse ++ (.ref y0 :: rest)) (hroom : (rest.map fun v => v.category).sum ≤ 8) (hdg : decode cc pc = .ok (.invokevirtual i8, 3)) (hcs : cells + mc ≤ R.cells ∧ slots + ms ≤ R.slots)
    (kk : ∀ (H1 : Heap) (locs1 : List Loc) (r : Int32) (w1 : va_W), Rp r w1 → va_P D vwCl w1 H1 → va_D A0 w1 → va_S A0 H0 H1 locs1 → W p l e R s m args below meth c H1 locs1 (cells + mc) (slots + ms) Q (F0 m (pc + 3) ls (.int r :: rest))) : W p l e R s m args below meth c H locs cells slots Q (F0 m pc ls st0) :=
  k_ieF (va_runV (As := as) (rest := rest) hF (K _) hcw (kPreVX hE k_noX hP hD (ci := 8) (q0 := 0) rfl h0) rfl hn hl hst (lv_room hroom) hdg hcs) hD hS hA kk
end LCALL
/-- 31 times and one more, over f's values -/
def q_f (f : Nat → Int32) : Nat → Nat → Int64 → Int64
  | 0, _, a => a
  | n + 1, k, a => q_f f n (k + 1) (31 * a + (f k).toInt64)
