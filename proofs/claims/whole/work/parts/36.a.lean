/-! the law's own rows: a script's int, the call on the class, the call on the reference -/
def lA (s : State) : Nat → Prop := fun q => s.heap.size ≤ q
/-- what holds all through the law -/
def lwF (p : Program) (s : State) (m : MethodId) (c : Code) (b L : Nat) (xs : Nat → Int32) (D : va_G) (I C Q9 : ClassId) : Prop := p.tables.exec = Jvm.exec ∧ c.code = cL_law ∧ c.maxLocals = 4 ∧ s.vm.findClass RL = some m.cls ∧ (∀ w ∈ wsL_law, w.before #[Value.ref b] s = true) ∧ va_X b L xs s s.heap ∧ b < s.heap.size ∧ kE D (tyL I C Q9) s
/-- both sides stand in the heap and hang together -/
def uI (D : va_G) (I C Q9 : ClassId) (y0 a0 : Nat) (A : Nat → Prop) (H : Heap) : Prop := ∃ (mm : MV) (x : LV), uR mm x ∧ va_P D vwCl (uX I C Q9 y0 x ++ uM I a0 mm) H ∧ va_D A (uX I C Q9 y0 x ++ uM I a0 mm)
abbrev lvs (b y0 a0 : Nat) (i : Nat) : List (Nat × Value) := [(3, .int (nI i)), (2, .ref a0), (1, .ref y0), (0, .ref b)]
section LAW
variable {p : Program} {l : Launch} {e : Env} {s : State} {m : MethodId} {below : List Frame} {meth : Method} {c : Code} {b L : Nat} {xs : Nat → Int32} {Q : State → Prop}
variable {H : Heap} {locs : List Loc} {cells slots pc : Nat} {ls : Array Slot} {st st0 : List Value} {D : va_G} {I C Q9 : ClassId} {y0 a0 i j : Nat}
theorem law_ld {jI : Int} (F : lwF p s m c b L xs D I C Q9) (hL : L ≤ 3072) (hi : i + 6 ≤ L) (hS : va_S (lA s) s.heap H locs) (hl : lv_has ls 4 (lvs b y0 a0 i)) (j : Nat) (hj : j < 6) (d1 : decode cL_law pc = .ok (.aload_n 0, 1)) (d2 : decode cL_law (pc + 1) = .ok (.iload_n 3, 1)) (d3 : decode cL_law (pc + 2) = .ok (.iconst jI, 1)) (hjI : Int32.ofInt jI = nI j) (d4 : decode cL_law (pc + 3) = .ok (.iadd, 1)) (d5 : decode cL_law (pc + 4) = .ok (.iaload, 1))
    (kk : W p l e room_1 s m #[Value.ref b] below meth c H locs cells slots Q (F0 m (pc + 5) ls (.int (xs (i + j)) :: st))) : W p l e room_1 s m #[Value.ref b] below meth c H locs cells slots Q (F0 m pc ls st) := by
  obtain ⟨hx, hb, hml, hown, hts, hX, hbl, hE⟩ := F
  refine lv_aload_n hx hb d1 rfl (lv_at hl 3 rfl) ?_
  refine lv_iload_n hx hb d2 rfl (lv_at hl 0 rfl) ?_
  refine lv_iconst (v := nI j) hx hb d3 hjI ?_
  refine lv_iadd hx hb d4 ?_
  have hin : i + j < L := by omega
  refine va_sld hx hb hX hbl (Nat.not_le.mpr hbl) hS (k_vpin (nI_add i j) hin (by omega)) d5 ?_
  rw [k_toNat (nI_add i j) hin (by omega)]
  exact kk
theorem law_c8 {mm : MV} {x : LV} {y8 y9 : MethodName} {wm8 wm9 : List Cond} {i8 n maxL : Nat} {bytes : ByteArray} {ret : Option FieldType} {as : List Value} (F : lwF p s m c b L xs D I C Q9) (hS : va_S (lA s) s.heap H locs) (hl : ls.size = 4) (hP : va_P D vwCl (uX I C Q9 y0 x ++ uM I a0 mm) H) (hD : va_D (lA s) (uX I C Q9 y0 x ++ uM I a0 mm))
    (hp : uP l D I C Q9 y0 a0 y8 y9 wm8 wm9 as mm x) (hcw : CallW room_1 s #[Value.ref b] RL RX8 i8 y8 bytes maxL ret wm8 rm8 13 1166 n) (hn : as.length = n) (hdg : decode cL_law pc = .ok (.invokevirtual i8, 3)) (hst : st0 = as.reverse ++ [.ref y0]) (hcs : cells + 13 ≤ 600000 ∧ slots + 1166 ≤ 7302249)
    (kk : ∀ (H1 : Heap) (locs1 : List Loc) (r : Int32) (mm' : MV) (x' : LV), KI l D (tyL I C Q9) y9 wm9 rm9 (.ref a0 :: as) (uM I a0 mm) (uM I a0 mm') r → uR mm' x' → va_P D vwCl (uX I C Q9 y0 x' ++ uM I a0 mm) H1 → va_D (lA s) (uX I C Q9 y0 x' ++ uM I a0 mm) → va_S (lA s) s.heap H1 locs1 → W p l e room_1 s m #[Value.ref b] below meth c H1 locs1 (cells + 13) (slots + 1166) Q (F0 m (pc + 3) ls [.int r])) : W p l e room_1 s m #[Value.ref b] below meth c H locs cells slots Q (F0 m pc ls st0) := by
  obtain ⟨hx, hb, hml, hown, hts, hX, hbl, hE⟩ := F
  obtain ⟨r, mm', h9, h8⟩ := hp
  refine w_ie (va_runV (As := as) (rest := []) ⟨hx, hb, hml, hown, hts⟩ (h8 _) hcw (kPreVX hE k_noX (wP_l hP) (wD_l hD) (ci := 8) (q0 := 0) rfl rfl) rfl hn hl hst (lv_room (Nat.le_of_ble_eq_true rfl)) hdg hcs) hP hD hS (fun q h => h) (fun H1 locs1 r' w1 hw hP1 hD1 hS1 => ?_)
  obtain ⟨e1, x', e2, hR⟩ := hw
  subst e1
  rw [e2] at hP1 hD1
  exact kk H1 locs1 r' mm' x' h9 hR hP1 hD1 hS1
theorem law_c9 {mm mm' : MV} {x' : LV} {y9 : MethodName} {wm9 : List Cond} {i9 n maxL : Nat} {bytes : ByteArray} {ret : Option FieldType} {as : List Value} {r : Int32} (F : lwF p s m c b L xs D I C Q9) (hS : va_S (lA s) s.heap H locs) (hl : ls.size = 4) (hP : va_P D vwCl (uX I C Q9 y0 x' ++ uM I a0 mm) H) (hD : va_D (lA s) (uX I C Q9 y0 x' ++ uM I a0 mm))
    (h9 : KI l D (tyL I C Q9) y9 wm9 rm9 (.ref a0 :: as) (uM I a0 mm) (uM I a0 mm') r) (hR : uR mm' x') (hcw : CallW room_1 s #[Value.ref b] RL RX9 i9 y9 bytes maxL ret wm9 rm9 0 0 n) (hn : as.length = n) (hdg : decode cL_law pc = .ok (.invokevirtual i9, 3)) (hst : st0 = as.reverse ++ [.ref a0, .int r]) (hcs : cells ≤ 600000 ∧ slots ≤ 7302249)
    (kk : ∀ (H1 : Heap) (locs1 : List Loc), uI D I C Q9 y0 a0 (lA s) H1 → va_S (lA s) s.heap H1 locs1 → W p l e room_1 s m #[Value.ref b] below meth c H1 locs1 cells slots Q (F0 m (pc + 3) ls [.int r, .int r])) : W p l e room_1 s m #[Value.ref b] below meth c H locs cells slots Q (F0 m pc ls st0) := by
  obtain ⟨hx, hb, hml, hown, hts, hX, hbl, hE⟩ := F
  have hP := wP_perm List.perm_append_comm hP
  have hD := wD_perm List.perm_append_comm hD
  refine w_i (va_runV (As := as) (rest := [.int r]) ⟨hx, hb, hml, hown, hts⟩ (h9 _) hcw (kPreV hE (wP_l hP) (wD_l hD) (ci := 9) (q0 := 0) rfl rfl) rfl hn hl hst (lv_room (Nat.le_of_ble_eq_true rfl)) hdg hcs) hP hD hS (fun q h => h) (fun H1 locs1 hP1 hD1 hS1 => ?_)
  exact kk H1 locs1 ⟨mm', x', hR, wP_perm List.perm_append_comm hP1, wD_perm List.perm_append_comm hD1⟩ hS1
end LAW
