def R_law : String := "LateExcusesLaw"
def lw_P (b : Addr) (xs : List Int32) (args : Array Value) (s : State) : Prop := args = #[.ref b] ∧ s.IntsAt b xs ∧ xs.length ≤ 260 ∧ (Jvm.Cond.and given_1 narrow_1).before args s = true
/-- what a walk over the start with the record d0 says of its end, said of the start itself -/
theorem lw_closed {s t : State} {o : Outcome} {d0 : Drawn} {L : List Loc} {k n : Nat} (hd0 : s.drawn.sameBut d0 lw_cs) (hv : ∃ v, o = .returned v) (hW : (s.setDrawn d0).WarmedH t.vm) (hs : (s.setDrawn d0).sameButNew ({ t with vm := s.vm } : State) L k n) : State.butDraws s t lw_cs (fun t1 => Framed s o t1 L k n) := by
  have h2 : t.drawn = d0 := congrArg State.drawn hs.1
  refine ⟨⟨hv, hW, State.sameButNew.setDrawn hs s.drawn⟩, ?_, by decide⟩
  rw [h2]
  exact hd0
def lw_Q (_ : Array Value) (s : State) (o : Outcome) (t : State) : Prop := o = .returned (some (.int 1)) ∧ State.butDraws s t lw_cs (fun t1 => Framed s o t1 [] 600000 7302250)
def lw_Z (below : List Frame) (a : Array Value) (s : State) : State → Prop := fun t => ∃ o, t.status = .running ∧ Ended t below o ∧ lw_Q a s o t
/-- the law's own end, with 1 on the stack, nothing written that was there before, its room as the claim has it; d0: the record of draws at this point (at the entry s.drawn: begin with 'refine W.base ?_' and 'have hd0 := Drawn.sameBut.refl s.drawn lw_cs') -/
theorem lw_ret {p : Program} {l : Launch} {e : Env} {s : State} {m : MethodId} {below : List Frame} {meth : Method} {c : Code} {b : Nat} {d0 : Drawn} (hd0 : s.drawn.sameBut d0 lw_cs) (hx : p.tables.exec = Jvm.exec) (hb : c.code = code) (hr : meth.sig.returnType = ret) (hlocks : meth.locks = false) {pc : Nat} {H : Heap} {ls : Array Slot} (hdg : decode code pc = .ok (.ireturn, 1)) : W p l e room_1 (s.setDrawn d0) m #[Value.ref b] below meth c H [] 600000 7302250 (lw_Z below #[Value.ref b] s) (F0 m pc ls [.int 1]) := by
  intro T hT X
  obtain ⟨fs, hret, hrun, hended, hW, hframe⟩ := X.leave (v := some (.int 1)) (hlocks := hlocks) (fun h => by rw [hr] at h; cases h)
  have hmeth' : T.vm.method? m = some meth := X.method'
  refine ⟨T.setFrames fs, ?_, .returned (some (.int 1)), hrun, hended, rfl, lw_closed hd0 ⟨_, rfl⟩ hW hframe⟩
  jvm_step X.here [X.here.top, hx, hb, hdg, hmeth', hr, ret, narrow_b1]
  (try refine ⟨rfl, ?_⟩); (try refine ⟨rfl, ?_⟩)
  first | (intro acts; rw [hret _ acts rfl rfl rfl]) | rw [hret _ _ rfl rfl rfl]
  exact Steps.refl _
/-- what holds at the law's entry: the machine, the code, the tables' words (any of lw_tbl by 'hts w (by decide +kernel)'), the script of L ints xs at the cell b, what the Statement gives of the start (any of its parts by flat_of_before) -/
def lw_At (p : Program) (s : State) (m : MethodId) (meth : Method) (c : Code) (b L : Nat) (xs : Nat → Int32) : Prop :=
  p.tables.exec = Jvm.exec ∧ c.code = code ∧ meth.sig.returnType = ret ∧ c.maxLocals = 18 ∧ s.vm.findClass R_law = some m.cls ∧ (∀ w ∈ lw_tbl, w.before #[Value.ref b] s = true) ∧ va_X b L xs s s.heap ∧ b < s.heap.size ∧ meth.locks = false ∧ (Jvm.Cond.and given_1 narrow_1).before #[Value.ref b] s = true
set_option maxHeartbeats 4000000 in
set_option maxRecDepth 100000 in
/-- from the entry, for every script, the law comes to its end with true -/
theorem whole_start {p : Program} {e : Env} {s : State} {m : MethodId} {below : List Frame} {meth : Method} {c : Code} (l : Launch) (hflags : l.flags = flags0) {b L : Nat} {xs : Nat → Int32} (hL : L ≤ 260) (C0 : lw_At p s m meth c b L xs) : W p l e room_1 s m #[Value.ref b] below meth c s.heap [] 0 0 (lw_Z below #[Value.ref b] s) (entryFrame m ([Value.ref b] : List Value).toArray 18) := by
  obtain ⟨hx, hb, hr, hml, hown0, hts, hX, hbl, hlocks, hgv⟩ := id C0
  have hb : c.code = cL_law := hb
  have hown : s.vm.findClass RL = some m.cls := hown0
  obtain ⟨D, I, C, Q9, hE, hAO⟩ := law_kE hts
  have htw : ∀ w ∈ wsL_law, w.before #[Value.ref b] s = true := fun w h => hts w (wsL_law_in w h)
  have F : lwF p s m c b L xs D I C Q9 := ⟨hx, hb, hml, hown, htw, hX, hbl, hE⟩
  have hF : CallFix p m c cL_law 18 s #[Value.ref b] wsL_law RL := ⟨hx, hb, hml, hown, htw⟩
  have hA : ∀ q : Nat, s.heap.size ≤ q → lA s q := fun _ h => h
  have hS : va_S (lA s) s.heap s.heap [] := va_S.rf
  have hP : va_P D vwCl [] s.heap := fun k q h => by simp at h
  have hD : va_D (lA s) [] := ⟨fun i j p q h => by simp at h, fun k q h => by simp at h⟩
  have kx : ∀ (H : Heap) (locs : List Loc) (ls : Array Slot) (cells slots : Nat), cells ≤ 600000 → slots ≤ 7302250 → va_S (lA s) s.heap H locs → W p l e room_1 s m #[Value.ref b] below meth c H locs cells slots (lw_Z below #[Value.ref b] s) (F0 m 341 ls []) := fun H locs ls cells slots h1 h2 hS => by
    refine lv_iconst (v := 1) hx hb dL_law_341 (by decide) ?_
    refine va_forget (fun q hq => hS.2.2 q hq) ?_
    refine W.widen h1 h2 ?_
    exact W.base (lw_ret (Drawn.sameBut.refl s.drawn lw_cs) hx hb hr hlocks dL_law_342)
  have hl := lv_entry ([.ref b]) (n := 18) (Nat.le_of_ble_eq_true rfl)
  rw [lg_entry_eq]
  generalize (lg_sl ([.ref b]) ++ List.replicate (18 - (lg_sl ([.ref b])).length) Slot.unset).toArray = ls at hl ⊢
  have hl : lv_has ls 18 [(0, .ref b)] := hl
  refine va_new (ci := 8) (fs := [.null, .null, .null]) (C := RX8) (T := TX8) (N := 3) hx hb hts inX8 tyX8 tyX8_ok hown (hts (.classLink RL 14 RX8) (List.mem_of_getElem? (l := lw_tbl) (i := 24) (by decide +kernel))) (hts (.instantiable RX8 3) (List.mem_of_getElem? (l := lw_tbl) (i := 25) (by decide +kernel))) (hts (.initialized RX8) (List.mem_of_getElem? (l := lw_tbl) (i := 13) (by decide +kernel))) hE.1 hP hD hS hA rfl (fun j hj => by rcases (show j = 0 ∨ j = 1 ∨ j = 2 by omega) with rfl | rfl | rfl <;> rfl) (Nat.le_of_ble_eq_true rfl) (Nat.le_of_ble_eq_true rfl) dL_law_0 (fun y0 H hP hD hS => ?_)
  have hP : va_P D vwCl [(y0, .inr (8, [.null, .null, .null]))] H := hP
  have hD : va_D (lA s) [(y0, .inr (8, [.null, .null, .null]))] := hD
  refine lv_dup hx hb dL_law_3 rfl ?_
  refine k_ve (wc := [(y0, .inr (8, [.null, .null, .null]))]) (wr := []) (va_runI (As := []) (rest := [.ref y0]) hF (c_X8_init l D I C Q9 y0 _) (cwI 0 htw gL_law_X8_init rfl rfl rfl (hts (.initialized RX8) (List.mem_of_getElem? (l := lw_tbl) (i := 13) (by decide +kernel))) (hts (.methodLink RL 79 yX8_init) (List.mem_of_getElem? (l := lw_tbl) (i := 26) (by decide +kernel))) (hts (.instanceMethod yX8_init) (List.mem_of_getElem? (l := lw_tbl) (i := 27) (by decide +kernel))) rfl (by decide +kernel) ⟨Nat.le_of_ble_eq_true rfl, Nat.le_of_ble_eq_true rfl⟩) (kPreSX hE (fun _ => hAO) hP hD) rfl rfl hl.1 rfl (lv_room (Nat.le_of_ble_eq_true rfl)) dL_law_4 ⟨Nat.le_of_ble_eq_true rfl, Nat.le_of_ble_eq_true rfl⟩) hP hD hS hA [0] [] rfl rfl (by decide) (by decide) (fun H locs w9 hw9 hP hD hS => ?_)
  obtain ⟨c0, e0, e1, e2, p0, p1, p2, w0, w1, w2, g0, g1, g2, x0, x1, h0, h1, rfl⟩ := hw9
  have hP : va_P D vwCl (wL I C Q9 y0 c0 e0 e1 e2 p0 p1 p2 w0 w1 w2 g0 g1 g2 x0 x1 h0 h1 (fun _ => 0) 0 (fun _ => 0) 0 (fun _ => 0) 0 0 0 (fun _ => 0) 10 5 10 (-1) (-1) 0 (fun _ => 0) 0 0 0 0 0 0 0 0 0 0 0 0 (fun _ => none)) H := hP
  have hD : va_D (lA s) (wL I C Q9 y0 c0 e0 e1 e2 p0 p1 p2 w0 w1 w2 g0 g1 g2 x0 x1 h0 h1 (fun _ => 0) 0 (fun _ => 0) 0 (fun _ => 0) 0 0 0 (fun _ => 0) 10 5 10 (-1) (-1) 0 (fun _ => 0) 0 0 0 0 0 0 0 0 0 0 0 0 (fun _ => none)) := hD
  refine lv_astore_n (lv' := [(1, .ref y0), (0, .ref b)]) hx hb dL_law_7 rfl hl (by decide) rfl (fun ls hl => ?_)
  obtain ⟨xx, hxx, hG⟩ : ∃ xx : LV, uX I C Q9 y0 xx = (wL I C Q9 y0 c0 e0 e1 e2 p0 p1 p2 w0 w1 w2 g0 g1 g2 x0 x1 h0 h1 (fun _ => 0) 0 (fun _ => 0) 0 (fun _ => 0) 0 0 0 (fun _ => 0) 10 5 10 (-1) (-1) 0 (fun _ => 0) 0 0 0 0 0 0 0 0 0 0 0 0 (fun _ => none)) ∧ uG xx := ⟨((fun i => match i with | 0 => c0 | 1 => e0 | 2 => e1 | 3 => e2 | 4 => p0 | 5 => p1 | 6 => p2 | 7 => w0 | 8 => w1 | 9 => w2 | 10 => g0 | 11 => g1 | 12 => g2 | 13 => x0 | 14 => x1 | 15 => h0 | _ => h1), (S0, 10, 5, 10, 0), ((fun _ => 0), 0, (0, 0, 0, 0, 0, 0, 0), 0, 0), 0, 0, (fun _ => none)), rfl, uG_0 _⟩
  rw [← hxx] at hP hD
  have hLd : L / 3 ≤ L := Nat.div_le_self _ _
  refine lv_aload_n hx hb dL_law_8 rfl (lv_at hl 1 rfl) ?_
  refine va_slen hx hb hX hbl (Nat.not_le.mpr hbl) hS dL_law_9 ?_
  refine lv_iconst (v := nI 3) hx hb dL_law_10 (by decide) ?_
  refine k_idiv (v := nI (L / 3)) hx hb dL_law_11 (k_divN (by omega) (by omega) (by omega)) ?_
  refine lv_bipush (v := nI 40) hx hb dL_law_12 (by decide) ?_
  have go : ∀ (T : Nat), T ≤ 40 → 3 * T ≤ L → ∀ (ls : Array Slot), lv_has ls 18 [(1, .ref y0), (0, .ref b)] → W p l e room_1 s m #[Value.ref b] below meth c H locs 20 1300 (lw_Z below #[Value.ref b] s) (F0 m 26 ls [.int (nI T)]) := fun T hT40 hT ls hl => by
    refine lv_istore_n (lv' := [(2, .int (nI T)), (1, .ref y0), (0, .ref b)]) hx hb dL_law_26 rfl hl (by decide) rfl (fun ls hl => ?_)
    refine lv_iconst (v := nI 0) hx hb dL_law_27 (by decide) ?_
    refine lv_istore_n (lv' := [(3, .int (nI 0)), (2, .int (nI T)), (1, .ref y0), (0, .ref b)]) hx hb dL_law_28 rfl hl (by decide) rfl (fun ls hl => ?_)
    exact law_loop F hL hT kx T 0 xx H locs ls 20 1300 (by omega) (by omega) (by omega) hG hP hD hS hl
  refine lv_icmp_ge (tgt := 24) hx hb dL_law_14 (by decide) (fun c_14 => ?_) (fun c_14 => ?_)
  · refine lv_bipush (v := nI 40) hx hb dL_law_24 (by decide) ?_
    have h40 := (nI_leI (a := 40) (b := L / 3) (by omega) (by omega)).mp c_14
    exact W.widen (Nat.le_of_ble_eq_true rfl) (Nat.le_of_ble_eq_true rfl) (go 40 (by omega) (by omega) ls hl)
  · refine lv_aload_n hx hb dL_law_17 rfl (lv_at hl 1 rfl) ?_
    refine va_slen hx hb hX hbl (Nat.not_le.mpr hbl) hS dL_law_18 ?_
    refine lv_iconst (v := nI 3) hx hb dL_law_19 (by decide) ?_
    refine k_idiv (v := nI (L / 3)) hx hb dL_law_20 (k_divN (by omega) (by omega) (by omega)) ?_
    refine lv_goto (tgt := 26) hx hb dL_law_21 (by decide) ?_
    have h40 : ¬ 40 ≤ L / 3 := fun h => c_14 ((nI_leI (a := 40) (b := L / 3) (by omega) (by omega)).mpr h)
    exact W.widen (Nat.le_of_ble_eq_true rfl) (Nat.le_of_ble_eq_true rfl) (go (L / 3) (by omega) (by omega) ls hl)
