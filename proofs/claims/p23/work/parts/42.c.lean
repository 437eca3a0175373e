/-! static calls from a method of the law; up and cell -/
section LSTAT
variable {p : Program} {l : Launch} {e : Env} {R : Room} {s : State} {m : MethodId} {args : Array Value} {below : List Frame} {meth : Method} {c : Code} {H : Heap} {locs : List Loc} {cells slots mc ms : Nat} {Q : State → Prop}
variable {pc nL : Nat} {ls : Array Slot} {rest st0 as : List Value} {A0 : Nat → Prop} {H0 : Heap} {D : va_G} {ty : kTy} {ws ws' : va_W} {cc : ByteArray} {Ts : List Cond} {y8 : MethodName} {wm8 : List Cond} {i8 n maxL : Nat} {bytes : ByteArray} {ret : Option FieldType} {rmx : Room}
theorem L_sc {Rp : Int32 → va_W → Prop} (hF : CallFix p m c cc nL s args Ts RL) (hE : kE D ty s) (hA : ∀ q, H0.size ≤ q → A0 q) (hP : va_P D vwCl ws H) (hD : va_D A0 ws) (hS : va_S A0 H0 H locs) (hl : ls.size = nL)
    (K : KIe l D ty y8 wm8 rmx as ws mc ms Rp) (hcw : CallB R s args RL i8 y8 bytes maxL ret wm8 rmx mc ms n ∧ (Cond.static y8).before args s = true) (hn : as.length = n) (hst : st0 = as.reverse ++ rest) (hroom : (rest.map fun v => v.category).sum ≤ 8) (hdg : decode cc pc = .ok (.invokestatic i8, 3)) (hcs : cells + mc ≤ R.cells ∧ slots + ms ≤ R.slots)
    (kk : ∀ (H1 : Heap) (locs1 : List Loc) (r : Int32) (w1 : va_W), Rp r w1 → va_P D vwCl w1 H1 → va_D A0 w1 → va_S A0 H0 H1 locs1 → W p l e R s m args below meth c H1 locs1 (cells + mc) (slots + ms) Q (F0 m (pc + 3) ls (.int r :: rest))) : W p l e R s m args below meth c H locs cells slots Q (F0 m pc ls st0) :=
  k_ieF (va_runS (As := as) (rest := rest) hF (K _) hcw (kPreSX hE k_noX hP hD) rfl hn hl hst (lv_room hroom) hdg hcs) hD hS hA kk
theorem L_si {r : Int32} (hF : CallFix p m c cc nL s args Ts RL) (hE : kE D ty s) (hA : ∀ q, H0.size ≤ q → A0 q) (hP : va_P D vwCl ws H) (hD : va_D A0 ws) (hS : va_S A0 H0 H locs) (hl : ls.size = nL)
    (K : KI l D ty y8 wm8 rmx as ws ws r) (hcw : CallB R s args RL i8 y8 bytes maxL ret wm8 rmx 0 0 n ∧ (Cond.static y8).before args s = true) (hn : as.length = n) (hst : st0 = as.reverse ++ rest) (hroom : (rest.map fun v => v.category).sum ≤ 8) (hdg : decode cc pc = .ok (.invokestatic i8, 3)) (hcs : cells ≤ R.cells ∧ slots ≤ R.slots)
    (kk : ∀ (H1 : Heap) (locs1 : List Loc), va_P D vwCl ws H1 → va_D A0 ws → va_S A0 H0 H1 locs1 → W p l e R s m args below meth c H1 locs1 cells slots Q (F0 m (pc + 3) ls (.int r :: rest))) : W p l e R s m args below meth c H locs cells slots Q (F0 m pc ls st0) :=
  k_iF (va_runS (As := as) (rest := rest) hF (K _) hcw (kPreS hE hP hD) rfl hn hl hst (lv_room hroom) hdg hcs) hD hS hA kk
theorem L_sl {r : Int64} (hF : CallFix p m c cc nL s args Ts RL) (hE : kE D ty s) (hA : ∀ q, H0.size ≤ q → A0 q) (hP : va_P D vwCl ws H) (hD : va_D A0 ws) (hS : va_S A0 H0 H locs) (hl : ls.size = nL)
    (K : KL l D ty y8 wm8 rmx as ws ws r) (hcw : CallB R s args RL i8 y8 bytes maxL ret wm8 rmx 0 0 n ∧ (Cond.static y8).before args s = true) (hn : as.length = n) (hst : st0 = as.reverse ++ rest) (hroom : (rest.map fun v => v.category).sum ≤ 8) (hdg : decode cc pc = .ok (.invokestatic i8, 3)) (hcs : cells ≤ R.cells ∧ slots ≤ R.slots)
    (kk : ∀ (H1 : Heap) (locs1 : List Loc), va_P D vwCl ws H1 → va_D A0 ws → va_S A0 H0 H1 locs1 → W p l e R s m args below meth c H1 locs1 cells slots Q (F0 m (pc + 3) ls (.long r :: rest))) : W p l e R s m args below meth c H locs cells slots Q (F0 m pc ls st0) :=
  k_lF (va_runS (As := as) (rest := rest) hF (K _) hcw (kPreS hE hP hD) rfl hn hl hst (lv_room hroom) hdg hcs) hD hS hA kk
/-- of a method that has no world -/
theorem L_s0 {r : Int32} (hF : CallFix p m c cc nL s args Ts RL) (hE : kE D ty s) (hA : ∀ q, H0.size ≤ q → A0 q) (hP : va_P D vwCl ws H) (hS : va_S A0 H0 H locs) (hl : ls.size = nL)
    (K : KI l D ty y8 wm8 rmx as [] [] r) (hcw : CallB R s args RL i8 y8 bytes maxL ret wm8 rmx 0 0 n ∧ (Cond.static y8).before args s = true) (hn : as.length = n) (hst : st0 = as.reverse ++ rest) (hroom : (rest.map fun v => v.category).sum ≤ 8) (hdg : decode cc pc = .ok (.invokestatic i8, 3)) (hcs : cells ≤ R.cells ∧ slots ≤ R.slots)
    (kk : ∀ (H1 : Heap) (locs1 : List Loc), va_P D vwCl ws H1 → va_S A0 H0 H1 locs1 → W p l e R s m args below meth c H1 locs1 cells slots Q (F0 m (pc + 3) ls (.int r :: rest))) : W p l e R s m args below meth c H locs cells slots Q (F0 m pc ls st0) :=
  k_i0 (va_runS (As := as) (rest := rest) hF (K _) hcw (kPreS hE k_P0 (k_D0 (A := A0))) rfl hn hl hst (lv_room hroom) hdg hcs) hP hS hA kk
end LSTAT
/-- up -/
def u_p (x : Int32) (m : Nat) : Nat := x.toBitVec.toNat % 2 ^ 31 % m
theorem u_p_lt (x : Int32) {m : Nat} (h : 0 < m) : u_p x m < m := Nat.mod_lt _ h
set_option maxHeartbeats 4000000 in
set_option maxRecDepth 100000 in
theorem c_L_up (l : Launch) (D : va_G) (ty : kTy) (x : Int32) (mo : Nat) (h0 : 0 < mo) (h1 : mo < 2 ^ 31) : KI l D ty yL_up wsL_up rm0 [.int x, .int (nI mo)] [] [] (nI (u_p x mo)) := by
  refine KI.of (cc := cL_up) (maxL := 2) (rt := .int) (own := RL) (by decide) rfl rfl (Nat.le_of_ble_eq_true rfl) ?_
  intro p e s m below meth c A Q0 ls hx hb hml hown hts hE hA hP hD hS hl hend
  have hl : lv_has ls 2 [(0, .int x), (1, .int (nI mo))] := hl
  have hm : x &&& 2147483647 = nI (x.toBitVec.toNat % 2 ^ 31) := pk_and x 31 (by decide)
  have hlt : x.toBitVec.toNat % 2 ^ 31 < 2 ^ 31 := Nat.mod_lt _ (by decide)
  refine lv_iload_n hx hb dL_up_0 rfl (lv_at hl 0 rfl) ?_
  refine lv_ldc hx hb hown (hts (.constant RL 8 (2147483647)) (List.mem_of_getElem? (i := 1) rfl)) dL_up_1 ?_
  refine lv_iand hx hb dL_up_3 ?_
  refine k_top (y := nI (x.toBitVec.toNat % 2 ^ 31)) hm ?_
  refine lv_iload_n hx hb dL_up_4 rfl (lv_at hl 1 rfl) ?_
  refine k_irem (v := nI (u_p x mo)) hx hb dL_up_5 (k_remN hlt h0 h1) ?_
  exact hend _ _ _ _ _ _ hP hD hS dL_up_6 rfl rfl rfl
/-- cell, where there is one: the script stands outside of what may be written -/
def kPreC (b L : Nat) (xs : Nat → Int32) (sz : Nat) : State → Prop := fun U => U.heap.size = sz ∧ va_X b L xs U U.heap ∧ b < sz
theorem kPreC_blind {b L : Nat} {xs : Nat → Int32} {sz : Nat} {av : List Value} : FrameBlind (va_Pc av (kPreC b L xs sz)) := by
  intro a U g mk q
  obtain ⟨q0, q1, q2, q3⟩ := q
  exact ⟨q0, q1, va_X.moved (u := U) (U := U.calling g mk a) (Vm.Alike.refl U.vm) q2, q3⟩
theorem kPreCS {b L : Nat} {xs : Nat → Int32} {As : List Value} {s : State} {H : Heap} (hX : va_X b L xs s H) (hb : b < H.size) : PreS s H (va_Pc As (kPreC b L xs H.size)) As :=
  ⟨kPreC_blind, fun U hU hW => ⟨rfl, by rw [hU], by rw [hU]; exact va_X.moved hW.alike hX, hb⟩⟩
set_option maxHeartbeats 4000000 in
set_option maxRecDepth 100000 in
theorem c_L_cell (l : Launch) (D : va_G) (b L : Nat) (xs : Nat → Int32) (k : Nat) (hk : k < L) (hL : L ≤ 3072) : ∀ sz : Nat, Met l yL_cell wsL_cell rm0 (va_Pc [.ref b, .int (nI k)] (kPreC b L xs sz)) (kQi D sz [] [] (xs k)) 0 0 (va_A [] sz) := by
  intro sz
  refine Met.ofW (cc := cL_cell) (maxL := 2) (ret := some .int) (by decide) rfl ?_
  intro p e s m args below meth c s₁ B hml hv
  obtain ⟨rfl, hsz, hX, hbs⟩ := hv
  have hnA : ¬ va_A [] sz b := by
    rintro (⟨k, e, h⟩ | h)
    · simp at h
    · omega
  have hbl : b < s.heap.size := by omega
  have hS : va_S (va_A [] sz) s.heap s.heap [] := va_S.rf
  have hx := B.exec
  have hb := B.bytes
  have hl := lv_entry [.ref b, .int (nI k)] (n := 2) (Nat.le_of_ble_eq_true rfl)
  rw [lg_entry_eq]
  generalize (lg_sl [.ref b, .int (nI k)] ++ List.replicate (2 - (lg_sl [.ref b, .int (nI k)]).length) Slot.unset).toArray = ls at hl ⊢
  have hl : lv_has ls 2 [(0, .ref b), (1, .int (nI k))] := hl
  refine lv_iload_n hx hb dL_cell_0 rfl (lv_at hl 1 rfl) ?_
  refine lv_aload_n hx hb dL_cell_1 rfl (lv_at hl 0 rfl) ?_
  refine va_slen hx hb hX hbl hnA hS dL_cell_2 ?_
  refine lv_icmp_ge (tgt := 12) hx hb dL_cell_3 (by decide) (fun c_3 => ?_) (fun c_3 => ?_)
  · exact absurd ((nI_leI (a := L) (b := k) (by omega) (by omega)).mp c_3) (by omega)
  · refine lv_aload_n hx hb dL_cell_6 rfl (lv_at hl 0 rfl) ?_
    refine lv_iload_n hx hb dL_cell_7 rfl (lv_at hl 1 rfl) ?_
    refine va_sld hx hb hX hbl hnA hS (k_vpin (j := k) rfl hk (by omega)) dL_cell_8 ?_
    rw [k_toNat (j := k) rfl hk (by omega)]
    refine lv_goto (tgt := 18) hx hb dL_cell_9 (by decide) ?_
    have hlocks := B.notSynchronized
    exact W.zret B.exec B.bytes B.returns rfl (fun t ht hW => ⟨⟨_, (), rfl, rfl, k_P0, k_D0⟩, hS.F ht⟩) hS.2.2 dL_cell_18
