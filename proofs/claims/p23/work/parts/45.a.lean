/-! the law's loop -/
def lA (s : State) : Nat → Prop := fun q => s.heap.size ≤ q
def lwF (p : Program) (s : State) (m : MethodId) (c : Code) (b L : Nat) (xs : Nat → Int32) (D : va_G) (I C Q9 : ClassId) : Prop := p.tables.exec = Jvm.exec ∧ c.code = cL_law ∧ c.maxLocals = 18 ∧ s.vm.findClass RL = some m.cls ∧ (∀ w ∈ wsL_law, w.before #[Value.ref b] s = true) ∧ va_X b L xs s s.heap ∧ b < s.heap.size ∧ kE D (tyL I C Q9) s
theorem i_le_refl (a : Int32) : a ≤ a := by rw [Int32.le_iff_toInt_le]; exact Int.le_refl _
theorem f_nx_refl (v : CV) : f_nx v v := f_nx_rf rfl rfl
section LAW
variable {p : Program} {l : Launch} {e : Env} {s : State} {m : MethodId} {below : List Frame} {meth : Method} {c : Code} {b L : Nat} {xs : Nat → Int32} {Q : State → Prop}
variable {H : Heap} {locs : List Loc} {cells slots pc : Nat} {ls : Array Slot} {rest st0 : List Value} {D : va_G} {I C Q9 : ClassId} {y0 i j k T : Nat} {x x0 : LV} {x9 a9 b9 w9 got : Int32}
theorem law_cell {ws : va_W} (F : lwF p s m c b L xs D I C Q9) (hj : j < L) (hL : L ≤ 260) (hP : va_P D vwCl ws H) (hS : va_S (lA s) s.heap H locs) (hl : ls.size = 18) (hst : st0 = .int (nI j) :: .ref b :: rest) (hroom : (rest.map fun v => v.category).sum ≤ 8) (hdg : decode cL_law pc = .ok (.invokestatic 80, 3)) (hcs : cells ≤ room_1.cells ∧ slots ≤ room_1.slots)
    (kk : ∀ (H1 : Heap) (locs1 : List Loc), va_P D vwCl ws H1 → va_S (lA s) s.heap H1 locs1 → W p l e room_1 s m #[Value.ref b] below meth c H1 locs1 cells slots Q (F0 m (pc + 3) ls (.int (xs j) :: rest))) : W p l e room_1 s m #[Value.ref b] below meth c H locs cells slots Q (F0 m pc ls st0) := by
  obtain ⟨hx, hb, hml, hown, hts, hX, hbl, hE⟩ := F
  have hnA : ¬ lA s b := Nat.not_le.mpr hbl
  exact k_i0 (va_runS (As := [.ref b, .int (nI j)]) (rest := rest) ⟨hx, hb, hml, hown, hts⟩ (c_L_cell l D b L xs j hj (by omega) H.size) (va_cwS 2 hts gL_law_L_cell rfl rfl rfl (by decide +kernel) ⟨Nat.le_of_ble_eq_true rfl, Nat.le_of_ble_eq_true rfl⟩) (kPreCS (hX.kept (hS.2.1 b hbl hnA)) (Nat.lt_of_lt_of_le hbl hS.1)) rfl rfl hl hst (lv_room hroom) hdg hcs) hP hS (fun q h => h) kk
set_option maxHeartbeats 4000000 in
set_option maxRecDepth 100000 in
theorem law_300 (F : lwF p s m c b L xs D I C Q9) (hG : uG x) (hP : va_P D vwCl (uX I C Q9 y0 x) H) (hD : va_D (lA s) (uX I C Q9 y0 x)) (hS : va_S (lA s) s.heap H locs) (hl : lv_has ls 18 [(6, .int b9), (5, .int a9), (4, .int x9), (3, .int (nI k)), (2, .int (nI T)), (1, .ref y0), (0, .ref b)]) (hcs : cells + 13 ≤ 600000 ∧ slots + 1166 ≤ 7302250)
    (kk : ∀ (H1 : Heap) (locs1 : List Loc) (ls1 : Array Slot) (x3 : LV), uG x3 → va_P D vwCl (uX I C Q9 y0 x3) H1 → va_D (lA s) (uX I C Q9 y0 x3) → va_S (lA s) s.heap H1 locs1 → lv_has ls1 18 [(3, .int (nI k)), (2, .int (nI T)), (1, .ref y0), (0, .ref b)] → W p l e room_1 s m #[Value.ref b] below meth c H1 locs1 (cells + 13) (slots + 1166) Q (F0 m 335 ls1 [])) : W p l e room_1 s m #[Value.ref b] below meth c H locs cells slots Q (F0 m 300 ls []) := by
  obtain ⟨hx, hb, hml, hown, hts, hX, hbl, hE⟩ := id F
  have hF : CallFix p m c cL_law 18 s #[Value.ref b] wsL_law RL := ⟨hx, hb, hml, hown, hts⟩
  have hA : ∀ q : Nat, s.heap.size ≤ q → lA s q := fun _ h => h
  have hc0 : cells ≤ room_1.cells ∧ slots ≤ room_1.slots := by show cells ≤ 600000 ∧ slots ≤ 7302250; omega
  have hc1 : cells + 13 ≤ room_1.cells ∧ slots + 1166 ≤ room_1.slots := by show cells + 13 ≤ 600000 ∧ slots + 1166 ≤ 7302250; omega
  refine lv_aload_n hx hb dL_law_300 rfl (lv_at hl 5 rfl) ?_
  refine L_si (as := [.ref y0]) (rest := []) hF hE hA hP hD hS hl.1 (c_L_arePanes l D I C Q9 y0 hG) (va_cwS 1 hts gL_law_L_arePanes rfl rfl rfl (by decide +kernel) ⟨Nat.le_of_ble_eq_true rfl, Nat.le_of_ble_eq_true rfl⟩) rfl rfl (Nat.le_of_ble_eq_true rfl) dL_law_301 hc0 (fun H locs hP hD hS => ?_)
  refine lv_if_eq (tgt := 333) hx hb dL_law_304 (by decide) (fun c_304 => ?_) (fun c_304 => ?_)
  · exact absurd c_304 (by decide)
  · refine lv_aload_n hx hb dL_law_307 rfl (lv_at hl 5 rfl) ?_
    refine L_si (as := [.ref y0]) (rest := []) hF hE hA hP hD hS hl.1 (c_L_areEvents l D I C Q9 y0 hG) (va_cwS 1 hts gL_law_L_areEvents rfl rfl rfl (by decide +kernel) ⟨Nat.le_of_ble_eq_true rfl, Nat.le_of_ble_eq_true rfl⟩) rfl rfl (Nat.le_of_ble_eq_true rfl) dL_law_308 hc0 (fun H locs hP hD hS => ?_)
    refine lv_if_eq (tgt := 333) hx hb dL_law_311 (by decide) (fun c_311 => ?_) (fun c_311 => ?_)
    · exact absurd c_311 (by decide)
    · refine lv_iload hx hb dL_law_314 (lv_at hl 2 rfl) ?_
      refine lv_bipush (v := nI 96) hx hb dL_law_316 (by decide) ?_
      refine lv_iand hx hb dL_law_318 ?_
      refine lv_if_ne (tgt := 335) hx hb dL_law_319 (by decide) (fun c_319 => ?_) (fun c_319 => ?_)
      · exact W.widen (k := cells + 13) (n := slots + 1166) (Nat.le_add_right _ _) (Nat.le_add_right _ _) (kk H locs ls x hG hP hD hS (lv_sub hl [3, 4, 5, 6] rfl))
      · refine lv_aload_n hx hb dL_law_322 rfl (lv_at hl 5 rfl) ?_
        refine lv_iload hx hb dL_law_323 (lv_at hl 1 rfl) ?_
        refine lv_iload hx hb dL_law_325 (lv_at hl 0 rfl) ?_
        refine L_sc (as := [.ref y0, .int a9, .int b9]) (rest := []) hF hE hA hP hD hS hl.1 (c_L_isJudged l D I C Q9 y0 a9 b9 hG) (va_cwS 3 hts gL_law_L_isJudged rfl rfl rfl (by decide +kernel) ⟨Nat.le_of_ble_eq_true rfl, Nat.le_of_ble_eq_true rfl⟩) rfl rfl (Nat.le_of_ble_eq_true rfl) dL_law_327 hc1 (fun H locs r w1 hr hP hD hS => ?_)
        obtain ⟨hr1, x3, rfl, hG3, e3⟩ := hr
        rw [hr1]
        refine lv_if_ne (tgt := 335) hx hb dL_law_330 (by decide) (fun c_330 => ?_) (fun c_330 => ?_)
        · exact kk H locs ls x3 hG3 hP hD hS (lv_sub hl [3, 4, 5, 6] rfl)
        · exact absurd c_330 (by decide)
set_option maxHeartbeats 4000000 in
set_option maxRecDepth 100000 in
theorem law_263 (F : lwF p s m c b L xs D I C Q9) (hG0 : uG x0) (hG : uG x) (hn : f_nx x0.2.1 x.2.1) (hP : va_P D vwCl (uX I C Q9 y0 x) H) (hD : va_D (lA s) (uX I C Q9 y0 x)) (hS : va_S (lA s) s.heap H locs) (hl : lv_has ls 18 [(14, .long (q_case x0.2.1)), (13, .int (q_cnt x0.2.1 10)), (6, .int b9), (5, .int a9), (4, .int x9), (3, .int (nI k)), (2, .int (nI T)), (1, .ref y0), (0, .ref b)]) (hcs : cells + 13 ≤ 600000 ∧ slots + 1166 ≤ 7302250)
    (kk : ∀ (H1 : Heap) (locs1 : List Loc) (ls1 : Array Slot) (x3 : LV), uG x3 → va_P D vwCl (uX I C Q9 y0 x3) H1 → va_D (lA s) (uX I C Q9 y0 x3) → va_S (lA s) s.heap H1 locs1 → lv_has ls1 18 [(3, .int (nI k)), (2, .int (nI T)), (1, .ref y0), (0, .ref b)] → W p l e room_1 s m #[Value.ref b] below meth c H1 locs1 (cells + 13) (slots + 1166) Q (F0 m 335 ls1 [])) : W p l e room_1 s m #[Value.ref b] below meth c H locs cells slots Q (F0 m 263 ls []) := by
  obtain ⟨hx, hb, hml, hown, hts, hX, hbl, hE⟩ := id F
  have hF : CallFix p m c cL_law 18 s #[Value.ref b] wsL_law RL := ⟨hx, hb, hml, hown, hts⟩
  have hA : ∀ q : Nat, s.heap.size ≤ q → lA s q := fun _ h => h
  have hc0 : cells ≤ room_1.cells ∧ slots ≤ room_1.slots := by show cells ≤ 600000 ∧ slots ≤ 7302250; omega
  obtain ⟨hs0, hu0, -⟩ := uG_rows hG0
  obtain ⟨hs1, hu1, -⟩ := uG_rows hG
  obtain ⟨hcc, hcs9⟩ := x_cl_cc hs0 hs1 hn.1
  have hb0 : p_cc (aPn (cS x0.2.1)) (q_u x0.2.1) ≤ 2000 := by rw [p_cc_v hs0]; exact q_sum_b _ 2000
  have hb1 : p_cc (aPn (cS x.2.1)) (q_u x.2.1) ≤ 2000 := by rw [p_cc_v hs1]; exact q_sum_b _ 2000
  refine lv_aload_n hx hb dL_law_263 rfl (lv_at hl 7 rfl) ?_
  refine lv_bipush (v := nI 10) hx hb dL_law_264 (by decide) ?_
  refine L_rd (as := [.int (nI 10)]) (rest := []) hF hE hA hP hD hS (uX_0 I C Q9 y0 x).choose_spec hl.1 (rd_count l D I C Q9 y0 10 hG (by omega)) (cwV 1 hts gL_law_X8_count rfl rfl rfl (by decide +kernel) ⟨Nat.le_of_ble_eq_true rfl, Nat.le_of_ble_eq_true rfl⟩) rfl rfl (Nat.le_of_ble_eq_true rfl) dL_law_266 (by exact hc0) (fun H locs hP hD hS => ?_)
  refine lv_iload hx hb dL_law_269 (lv_at hl 1 rfl) ?_
  refine lv_icmp_lt (tgt := 298) hx hb dL_law_271 (by decide) (fun c_271 => ?_) (fun c_271 => ?_)
  · rw [q_cnt10, q_cnt10] at c_271
    have hcc : p_cc (aPn (cS x0.2.1)) (q_u x0.2.1) ≤ p_cc (aPn (cS x.2.1)) (q_u x.2.1) := hcc
    exact absurd ((nI_ltI (a := p_cc (aPn (cS x.2.1)) (q_u x.2.1)) (b := p_cc (aPn (cS x0.2.1)) (q_u x0.2.1)) (by omega) (by omega)).mp c_271) (by omega)
  · refine lv_aload_n hx hb dL_law_274 rfl (lv_at hl 7 rfl) ?_
    refine lv_bipush (v := nI 10) hx hb dL_law_275 (by decide) ?_
    refine L_rd (as := [.int (nI 10)]) (rest := []) hF hE hA hP hD hS (uX_0 I C Q9 y0 x).choose_spec hl.1 (rd_count l D I C Q9 y0 10 hG (by omega)) (cwV 1 hts gL_law_X8_count rfl rfl rfl (by decide +kernel) ⟨Nat.le_of_ble_eq_true rfl, Nat.le_of_ble_eq_true rfl⟩) rfl rfl (Nat.le_of_ble_eq_true rfl) dL_law_277 (by exact hc0) (fun H locs hP hD hS => ?_)
    refine lv_iload hx hb dL_law_280 (lv_at hl 1 rfl) ?_
    refine lv_icmp_ne (tgt := 300) hx hb dL_law_282 (by decide) (fun c_282 => ?_) (fun c_282 => ?_)
    · exact law_300 F hG hP hD hS (lv_sub hl [2, 3, 4, 5, 6, 7, 8] rfl) hcs kk
    · rw [q_cnt10, q_cnt10] at c_282
      have hce : p_cc (aPn (cS x0.2.1)) (q_u x0.2.1) = p_cc (aPn (cS x.2.1)) (q_u x.2.1) := ((nI_eq (a := p_cc (aPn (cS x.2.1)) (q_u x.2.1)) (b := p_cc (aPn (cS x0.2.1)) (q_u x0.2.1)) (by omega) (by omega)).mp c_282).symm
      have hq : q_case x.2.1 = q_case x0.2.1 := q_case_same hG0.1 hG.1 hn.1 hce
      refine lv_aload_n hx hb dL_law_285 rfl (lv_at hl 7 rfl) ?_
      refine lv_sipush (v := nI 1999) hx hb dL_law_286 (by decide) ?_
      refine L_sl (as := [.ref y0, .int (nI 1999)]) (rest := []) hF hE hA hP hD hS hl.1 (c_L_cases l D I C Q9 y0 hG) (va_cwS 2 hts gL_law_L_cases rfl rfl rfl (by decide +kernel) ⟨Nat.le_of_ble_eq_true rfl, Nat.le_of_ble_eq_true rfl⟩) rfl rfl (Nat.le_of_ble_eq_true rfl) dL_law_289 hc0 (fun H locs hP hD hS => ?_)
      refine lv_lload hx hb dL_law_292 (lv_at hl 0 rfl) ?_
      refine W.lcmp hx hb dL_law_294 ?_
      refine k_top (y := nI 0) (by rw [hq]; exact lg_cmp_0 _) ?_
      refine lv_if_eq (tgt := 300) hx hb dL_law_295 (by decide) (fun c_295 => ?_) (fun c_295 => ?_)
      · exact law_300 F hG hP hD hS (lv_sub hl [2, 3, 4, 5, 6, 7, 8] rfl) hcs kk
      · exact absurd rfl c_295
set_option maxHeartbeats 4000000 in
set_option maxRecDepth 100000 in
theorem law_211 (F : lwF p s m c b L xs D I C Q9) (hG0 : uG x0) (hG : uG x) (hn : f_nx x0.2.1 x.2.1) (hP : va_P D vwCl (uX I C Q9 y0 x) H) (hD : va_D (lA s) (uX I C Q9 y0 x)) (hS : va_S (lA s) s.heap H locs) (hl : lv_has ls 18 [(14, .long (q_case x0.2.1)), (13, .int (q_cnt x0.2.1 10)), (12, .int (q_cnt x0.2.1 11)), (11, .int (q_cnt x0.2.1 5)), (6, .int b9), (5, .int a9), (4, .int x9), (3, .int (nI k)), (2, .int (nI T)), (1, .ref y0), (0, .ref b)]) (hcs : cells + 13 ≤ 600000 ∧ slots + 1166 ≤ 7302250)
    (kk : ∀ (H1 : Heap) (locs1 : List Loc) (ls1 : Array Slot) (x3 : LV), uG x3 → va_P D vwCl (uX I C Q9 y0 x3) H1 → va_D (lA s) (uX I C Q9 y0 x3) → va_S (lA s) s.heap H1 locs1 → lv_has ls1 18 [(3, .int (nI k)), (2, .int (nI T)), (1, .ref y0), (0, .ref b)] → W p l e room_1 s m #[Value.ref b] below meth c H1 locs1 (cells + 13) (slots + 1166) Q (F0 m 335 ls1 [])) : W p l e room_1 s m #[Value.ref b] below meth c H locs cells slots Q (F0 m 211 ls []) := by
  obtain ⟨hx, hb, hml, hown, hts, hX, hbl, hE⟩ := id F
  have hF : CallFix p m c cL_law 18 s #[Value.ref b] wsL_law RL := ⟨hx, hb, hml, hown, hts⟩
  have hA : ∀ q : Nat, s.heap.size ≤ q → lA s q := fun _ h => h
  have hc0 : cells ≤ room_1.cells ∧ slots ≤ room_1.slots := by show cells ≤ 600000 ∧ slots ≤ 7302250; omega
  have hw := hn.2
  have e5 := q_cnt5 x.2.1
  have e50 := q_cnt5 x0.2.1
  have e11 := q_cnt11 x.2.1
  have e110 := q_cnt11 x0.2.1
  by_cases hlt : aWt (cS x.2.1) < aWt (cS x0.2.1)
  · obtain ⟨hm, hpos⟩ := hw.mp hlt
    refine lv_aload_n hx hb dL_law_211 rfl (lv_at hl 9 rfl) ?_
    refine lv_bipush (v := nI 11) hx hb dL_law_212 (by decide) ?_
    refine L_rd (as := [.int (nI 11)]) (rest := []) hF hE hA hP hD hS (uX_0 I C Q9 y0 x).choose_spec hl.1 (rd_count l D I C Q9 y0 11 hG (by omega)) (cwV 1 hts gL_law_X8_count rfl rfl rfl (by decide +kernel) ⟨Nat.le_of_ble_eq_true rfl, Nat.le_of_ble_eq_true rfl⟩) rfl rfl (Nat.le_of_ble_eq_true rfl) dL_law_214 (by exact hc0) (fun H locs hP hD hS => ?_)
    refine lv_iload hx hb dL_law_217 (lv_at hl 2 rfl) ?_
    refine lv_icmp_eq (tgt := 226) hx hb dL_law_219 (by decide) (fun c_219 => ?_) (fun c_219 => ?_)
    · exact absurd ((e11.symm.trans c_219).trans e110) hm
    · refine lv_iconst (v := nI 1) hx hb dL_law_222 (by decide) ?_
      refine lv_goto (tgt := 227) hx hb dL_law_223 (by decide) ?_
      refine lv_istore (lv' := [(17, .int (nI 1)), (14, .long (q_case x0.2.1)), (13, .int (q_cnt x0.2.1 10)), (12, .int (q_cnt x0.2.1 11)), (11, .int (q_cnt x0.2.1 5)), (6, .int b9), (5, .int a9), (4, .int x9), (3, .int (nI k)), (2, .int (nI T)), (1, .ref y0), (0, .ref b)]) hx hb dL_law_227 hl (by decide) rfl (fun ls hl => ?_)
      refine lv_aload_n hx hb dL_law_229 rfl (lv_at hl 10 rfl) ?_
      refine lv_iconst (v := nI 5) hx hb dL_law_230 (by decide) ?_
      refine L_rd (as := [.int (nI 5)]) (rest := []) hF hE hA hP hD hS (uX_0 I C Q9 y0 x).choose_spec hl.1 (rd_count l D I C Q9 y0 5 hG (by omega)) (cwV 1 hts gL_law_X8_count rfl rfl rfl (by decide +kernel) ⟨Nat.le_of_ble_eq_true rfl, Nat.le_of_ble_eq_true rfl⟩) rfl rfl (Nat.le_of_ble_eq_true rfl) dL_law_231 (by exact hc0) (fun H locs hP hD hS => ?_)
      refine lv_iload hx hb dL_law_234 (lv_at hl 4 rfl) ?_
      refine lv_icmp_ge (tgt := 243) hx hb dL_law_236 (by decide) (fun c_236 => ?_) (fun c_236 => ?_)
      · exact absurd (by rw [e5, e50]; exact hlt) (i_nlt c_236)
      · refine lv_iconst (v := nI 1) hx hb dL_law_239 (by decide) ?_
        refine lv_goto (tgt := 244) hx hb dL_law_240 (by decide) ?_
        refine lv_iload hx hb dL_law_244 (lv_at hl 0 rfl) ?_
        refine lv_if_eq (tgt := 259) hx hb dL_law_246 (by decide) (fun c_246 => ?_) (fun c_246 => ?_)
        · exact absurd c_246 (by decide)
        · refine lv_iload hx hb dL_law_249 (lv_at hl 4 rfl) ?_
          refine lv_iconst (v := (-1 : Int32)) hx hb dL_law_251 (by decide) ?_
          refine lv_icmp_le (tgt := 259) hx hb dL_law_252 (by decide) (fun c_252 => ?_) (fun c_252 => ?_)
          · exact absurd (by rw [e50]; exact hpos) (i_nlt c_252)
          · refine lv_iconst (v := nI 1) hx hb dL_law_255 (by decide) ?_
            refine lv_goto (tgt := 260) hx hb dL_law_256 (by decide) ?_
            refine lv_icmp_ne (tgt := 298) hx hb dL_law_260 (by decide) (fun c_260 => ?_) (fun c_260 => ?_)
            · exact absurd rfl c_260
            · exact law_263 F hG0 hG hn hP hD hS (lv_sub hl [1, 2, 5, 6, 7, 8, 9, 10, 11] rfl) hcs kk
  · by_cases hm : q_mv x.2.1 = q_mv x0.2.1
    · refine lv_aload_n hx hb dL_law_211 rfl (lv_at hl 9 rfl) ?_
      refine lv_bipush (v := nI 11) hx hb dL_law_212 (by decide) ?_
      refine L_rd (as := [.int (nI 11)]) (rest := []) hF hE hA hP hD hS (uX_0 I C Q9 y0 x).choose_spec hl.1 (rd_count l D I C Q9 y0 11 hG (by omega)) (cwV 1 hts gL_law_X8_count rfl rfl rfl (by decide +kernel) ⟨Nat.le_of_ble_eq_true rfl, Nat.le_of_ble_eq_true rfl⟩) rfl rfl (Nat.le_of_ble_eq_true rfl) dL_law_214 (by exact hc0) (fun H locs hP hD hS => ?_)
      refine lv_iload hx hb dL_law_217 (lv_at hl 2 rfl) ?_
      refine lv_icmp_eq (tgt := 226) hx hb dL_law_219 (by decide) (fun c_219 => ?_) (fun c_219 => ?_)
      · refine lv_iconst (v := nI 0) hx hb dL_law_226 (by decide) ?_
        refine lv_istore (lv' := [(17, .int (nI 0)), (14, .long (q_case x0.2.1)), (13, .int (q_cnt x0.2.1 10)), (12, .int (q_cnt x0.2.1 11)), (11, .int (q_cnt x0.2.1 5)), (6, .int b9), (5, .int a9), (4, .int x9), (3, .int (nI k)), (2, .int (nI T)), (1, .ref y0), (0, .ref b)]) hx hb dL_law_227 hl (by decide) rfl (fun ls hl => ?_)
        refine lv_aload_n hx hb dL_law_229 rfl (lv_at hl 10 rfl) ?_
        refine lv_iconst (v := nI 5) hx hb dL_law_230 (by decide) ?_
        refine L_rd (as := [.int (nI 5)]) (rest := []) hF hE hA hP hD hS (uX_0 I C Q9 y0 x).choose_spec hl.1 (rd_count l D I C Q9 y0 5 hG (by omega)) (cwV 1 hts gL_law_X8_count rfl rfl rfl (by decide +kernel) ⟨Nat.le_of_ble_eq_true rfl, Nat.le_of_ble_eq_true rfl⟩) rfl rfl (Nat.le_of_ble_eq_true rfl) dL_law_231 (by exact hc0) (fun H locs hP hD hS => ?_)
        refine lv_iload hx hb dL_law_234 (lv_at hl 4 rfl) ?_
        refine lv_icmp_ge (tgt := 243) hx hb dL_law_236 (by decide) (fun c_236 => ?_) (fun c_236 => ?_)
        · refine lv_iconst (v := nI 0) hx hb dL_law_243 (by decide) ?_
          refine lv_iload hx hb dL_law_244 (lv_at hl 0 rfl) ?_
          refine lv_if_eq (tgt := 259) hx hb dL_law_246 (by decide) (fun c_246 => ?_) (fun c_246 => ?_)
          · refine lv_iconst (v := nI 0) hx hb dL_law_259 (by decide) ?_
            refine lv_icmp_ne (tgt := 298) hx hb dL_law_260 (by decide) (fun c_260 => ?_) (fun c_260 => ?_)
            · exact absurd rfl c_260
            · exact law_263 F hG0 hG hn hP hD hS (lv_sub hl [1, 2, 5, 6, 7, 8, 9, 10, 11] rfl) hcs kk
          · exact absurd rfl c_246
        · exact absurd (by rw [e5, e50]; exact i_not_lt hlt) c_236
      · exact absurd ((e11.trans hm).trans e110.symm) c_219
    · have hpos : ¬ -1 < aWt (cS x0.2.1) := fun h => hlt (hw.mpr ⟨hm, h⟩)
      refine lv_aload_n hx hb dL_law_211 rfl (lv_at hl 9 rfl) ?_
      refine lv_bipush (v := nI 11) hx hb dL_law_212 (by decide) ?_
      refine L_rd (as := [.int (nI 11)]) (rest := []) hF hE hA hP hD hS (uX_0 I C Q9 y0 x).choose_spec hl.1 (rd_count l D I C Q9 y0 11 hG (by omega)) (cwV 1 hts gL_law_X8_count rfl rfl rfl (by decide +kernel) ⟨Nat.le_of_ble_eq_true rfl, Nat.le_of_ble_eq_true rfl⟩) rfl rfl (Nat.le_of_ble_eq_true rfl) dL_law_214 (by exact hc0) (fun H locs hP hD hS => ?_)
      refine lv_iload hx hb dL_law_217 (lv_at hl 2 rfl) ?_
      refine lv_icmp_eq (tgt := 226) hx hb dL_law_219 (by decide) (fun c_219 => ?_) (fun c_219 => ?_)
      · exact absurd ((e11.symm.trans c_219).trans e110) hm
      · refine lv_iconst (v := nI 1) hx hb dL_law_222 (by decide) ?_
        refine lv_goto (tgt := 227) hx hb dL_law_223 (by decide) ?_
        refine lv_istore (lv' := [(17, .int (nI 1)), (14, .long (q_case x0.2.1)), (13, .int (q_cnt x0.2.1 10)), (12, .int (q_cnt x0.2.1 11)), (11, .int (q_cnt x0.2.1 5)), (6, .int b9), (5, .int a9), (4, .int x9), (3, .int (nI k)), (2, .int (nI T)), (1, .ref y0), (0, .ref b)]) hx hb dL_law_227 hl (by decide) rfl (fun ls hl => ?_)
        refine lv_aload_n hx hb dL_law_229 rfl (lv_at hl 10 rfl) ?_
        refine lv_iconst (v := nI 5) hx hb dL_law_230 (by decide) ?_
        refine L_rd (as := [.int (nI 5)]) (rest := []) hF hE hA hP hD hS (uX_0 I C Q9 y0 x).choose_spec hl.1 (rd_count l D I C Q9 y0 5 hG (by omega)) (cwV 1 hts gL_law_X8_count rfl rfl rfl (by decide +kernel) ⟨Nat.le_of_ble_eq_true rfl, Nat.le_of_ble_eq_true rfl⟩) rfl rfl (Nat.le_of_ble_eq_true rfl) dL_law_231 (by exact hc0) (fun H locs hP hD hS => ?_)
        refine lv_iload hx hb dL_law_234 (lv_at hl 4 rfl) ?_
        refine lv_icmp_ge (tgt := 243) hx hb dL_law_236 (by decide) (fun c_236 => ?_) (fun c_236 => ?_)
        · refine lv_iconst (v := nI 0) hx hb dL_law_243 (by decide) ?_
          refine lv_iload hx hb dL_law_244 (lv_at hl 0 rfl) ?_
          refine lv_if_eq (tgt := 259) hx hb dL_law_246 (by decide) (fun c_246 => ?_) (fun c_246 => ?_)
          · exact absurd c_246 (by decide)
          · refine lv_iload hx hb dL_law_249 (lv_at hl 4 rfl) ?_
            refine lv_iconst (v := (-1 : Int32)) hx hb dL_law_251 (by decide) ?_
            refine lv_icmp_le (tgt := 259) hx hb dL_law_252 (by decide) (fun c_252 => ?_) (fun c_252 => ?_)
            · refine lv_iconst (v := nI 0) hx hb dL_law_259 (by decide) ?_
              refine lv_icmp_ne (tgt := 298) hx hb dL_law_260 (by decide) (fun c_260 => ?_) (fun c_260 => ?_)
              · exact absurd rfl c_260
              · exact law_263 F hG0 hG hn hP hD hS (lv_sub hl [1, 2, 5, 6, 7, 8, 9, 10, 11] rfl) hcs kk
            · exact absurd (by rw [e50]; exact i_not_lt hpos) c_252
        · exact absurd (by rw [e5, e50]; exact i_not_lt hlt) c_236
set_option maxHeartbeats 4000000 in
set_option maxRecDepth 100000 in
theorem law_184 {v' : CV} (F : lwF p s m c b L xs D I C Q9) (hG0 : uG x0) (hG : uG x) (hv : (f_turn x0.2.1 w9 a9 b9).2 = some v') (hst : u_st x0 (some v') x) (hn : f_nx x0.2.1 x.2.1) (hP : va_P D vwCl (uX I C Q9 y0 x) H) (hD : va_D (lA s) (uX I C Q9 y0 x)) (hS : va_S (lA s) s.heap H locs) (hl : lv_has ls 18 [(16, .int (f_turn x0.2.1 w9 a9 b9).1), (14, .long (q_case x0.2.1)), (13, .int (q_cnt x0.2.1 10)), (12, .int (q_cnt x0.2.1 11)), (11, .int (q_cnt x0.2.1 5)), (8, .long (q_view x0.2.1)), (7, .int w9), (6, .int b9), (5, .int a9), (4, .int x9), (3, .int (nI k)), (2, .int (nI T)), (1, .ref y0), (0, .ref b)]) (hcs : cells + 26 ≤ 600000 ∧ slots + 2332 ≤ 7302250)
    (kk : ∀ (H1 : Heap) (locs1 : List Loc) (ls1 : Array Slot) (x3 : LV), uG x3 → va_P D vwCl (uX I C Q9 y0 x3) H1 → va_D (lA s) (uX I C Q9 y0 x3) → va_S (lA s) s.heap H1 locs1 → lv_has ls1 18 [(3, .int (nI k)), (2, .int (nI T)), (1, .ref y0), (0, .ref b)] → W p l e room_1 s m #[Value.ref b] below meth c H1 locs1 (cells + 26) (slots + 2332) Q (F0 m 335 ls1 [])) : W p l e room_1 s m #[Value.ref b] below meth c H locs cells slots Q (F0 m 184 ls []) := by
  obtain ⟨hx, hb, hml, hown, hts, hX, hbl, hE⟩ := id F
  have hF : CallFix p m c cL_law 18 s #[Value.ref b] wsL_law RL := ⟨hx, hb, hml, hown, hts⟩
  have hA : ∀ q : Nat, s.heap.size ≤ q → lA s q := fun _ h => h
  have hc0 : cells ≤ room_1.cells ∧ slots ≤ room_1.slots := by show cells ≤ 600000 ∧ slots ≤ 7302250; omega
  have hc1 : cells + 13 ≤ room_1.cells ∧ slots + 1166 ≤ room_1.slots := by show cells + 13 ≤ 600000 ∧ slots + 1166 ≤ 7302250; omega
  refine lv_iload hx hb dL_law_184 (lv_at hl 9 rfl) ?_
  refine lv_bipush (v := nI 16) hx hb dL_law_186 (by decide) ?_
  refine lv_iand hx hb dL_law_188 ?_
  refine lv_if_ne (tgt := 211) hx hb dL_law_189 (by decide) (fun c_189 => ?_) (fun c_189 => ?_)
  · exact W.widen (k := cells + 13) (n := slots + 1166) (Nat.le_add_right _ _) (Nat.le_add_right _ _) (law_211 F hG0 hG hn hP hD hS (lv_sub hl [1, 2, 3, 4, 7, 8, 9, 10, 11, 12, 13] rfl) (by omega) (fun H1 locs1 ls1 x3 h1 h2 h3 h4 h5 => W.widen (by omega) (by omega) (kk H1 locs1 ls1 x3 h1 h2 h3 h4 h5)))
  · refine lv_aload_n hx hb dL_law_192 rfl (lv_at hl 12 rfl) ?_
    refine lv_iload hx hb dL_law_193 (lv_at hl 6 rfl) ?_
    refine lv_iload hx hb dL_law_195 (lv_at hl 8 rfl) ?_
    refine lv_iload hx hb dL_law_197 (lv_at hl 7 rfl) ?_
    refine lv_iload hx hb dL_law_199 (lv_at hl 0 rfl) ?_
    refine lv_lload hx hb dL_law_201 (lv_at hl 5 rfl) ?_
    refine L_sc (as := [.ref y0, .int w9, .int a9, .int b9, .int (f_turn x0.2.1 w9 a9 b9).1, .long (q_view x0.2.1)]) (rest := []) hF hE hA hP hD hS hl.1 (c_L_isUndone l D I C Q9 y0 w9 a9 b9 hG0 hG hv hst) (va_cwS 6 hts gL_law_L_isUndone rfl rfl rfl (by decide +kernel) ⟨Nat.le_of_ble_eq_true rfl, Nat.le_of_ble_eq_true rfl⟩) rfl rfl (Nat.le_of_ble_eq_true rfl) dL_law_203 hc1 (fun H locs r w1 hr hP hD hS => ?_)
    obtain ⟨hr1, x3, rfl, hG3, e3, -⟩ := hr
    rw [hr1]
    have hn3 : f_nx x0.2.1 x3.2.1 := by rw [e3]; exact hn
    refine lv_if_ne (tgt := 211) hx hb dL_law_206 (by decide) (fun c_206 => ?_) (fun c_206 => ?_)
    · exact law_211 F hG0 hG3 hn3 hP hD hS (lv_sub hl [1, 2, 3, 4, 7, 8, 9, 10, 11, 12, 13] rfl) (by omega) (fun H1 locs1 ls1 x3 h1 h2 h3 h4 h5 => W.widen (by omega) (by omega) (kk H1 locs1 ls1 x3 h1 h2 h3 h4 h5))
    · exact absurd c_206 (by decide)
set_option maxHeartbeats 4000000 in
set_option maxRecDepth 100000 in
theorem law_34 (F : lwF p s m c b L xs D I C Q9) (hL : L ≤ 260) (hk : 3 * k + 3 ≤ L) (hG : uG x0) (hP : va_P D vwCl (uX I C Q9 y0 x0) H) (hD : va_D (lA s) (uX I C Q9 y0 x0)) (hS : va_S (lA s) s.heap H locs) (hl : lv_has ls 18 [(3, .int (nI k)), (2, .int (nI T)), (1, .ref y0), (0, .ref b)]) (hcs : cells + 39 ≤ 600000 ∧ slots + 3498 ≤ 7302250)
    (kk : ∀ (H1 : Heap) (locs1 : List Loc) (ls1 : Array Slot) (x3 : LV), uG x3 → va_P D vwCl (uX I C Q9 y0 x3) H1 → va_D (lA s) (uX I C Q9 y0 x3) → va_S (lA s) s.heap H1 locs1 → lv_has ls1 18 [(3, .int (nI k)), (2, .int (nI T)), (1, .ref y0), (0, .ref b)] → W p l e room_1 s m #[Value.ref b] below meth c H1 locs1 (cells + 39) (slots + 3498) Q (F0 m 335 ls1 [])) : W p l e room_1 s m #[Value.ref b] below meth c H locs cells slots Q (F0 m 34 ls []) := by
  obtain ⟨hx, hb, hml, hown, hts, hX, hbl, hE⟩ := id F
  have hF : CallFix p m c cL_law 18 s #[Value.ref b] wsL_law RL := ⟨hx, hb, hml, hown, hts⟩
  have hA : ∀ q : Nat, s.heap.size ≤ q → lA s q := fun _ h => h
  have hc0 : cells ≤ room_1.cells ∧ slots ≤ room_1.slots := by show cells ≤ 600000 ∧ slots ≤ 7302250; omega
  have hc1 : cells + 13 ≤ room_1.cells ∧ slots + 1166 ≤ room_1.slots := by show cells + 13 ≤ 600000 ∧ slots + 1166 ≤ 7302250; omega
  refine lv_aload_n hx hb dL_law_34 rfl (lv_at hl 3 rfl) ?_
  refine lv_iconst (v := nI 3) hx hb dL_law_35 (by decide) ?_
  refine lv_iload_n hx hb dL_law_36 rfl (lv_at hl 0 rfl) ?_
  refine lv_imul hx hb dL_law_37 ?_
  refine k_top (y := nI (3 * k)) (k_mul 3 k) ?_
  refine law_cell (j := (3 * k)) (rest := []) F (by omega) hL hP hS hl.1 rfl (Nat.le_of_ble_eq_true rfl) dL_law_38 hc0 (fun H locs hP hS => ?_)
  refine lv_topi (fun x9 h9 => ?_)
  clear h9
  refine lv_istore (lv' := [(4, .int x9), (3, .int (nI k)), (2, .int (nI T)), (1, .ref y0), (0, .ref b)]) hx hb dL_law_41 hl (by decide) rfl (fun ls hl => ?_)
  refine lv_aload_n hx hb dL_law_43 rfl (lv_at hl 4 rfl) ?_
  refine lv_iconst (v := nI 3) hx hb dL_law_44 (by decide) ?_
  refine lv_iload_n hx hb dL_law_45 rfl (lv_at hl 1 rfl) ?_
  refine lv_imul hx hb dL_law_46 ?_
  refine k_top (y := nI (3 * k)) (k_mul 3 k) ?_
  refine lv_iconst (v := nI 1) hx hb dL_law_47 (by decide) ?_
  refine lv_iadd hx hb dL_law_48 ?_
  refine k_top (y := nI (3 * k + 1)) (nI_add (3 * k) 1) ?_
  refine law_cell (j := (3 * k + 1)) (rest := []) F (by omega) hL hP hS hl.1 rfl (Nat.le_of_ble_eq_true rfl) dL_law_49 hc0 (fun H locs hP hS => ?_)
  refine lv_topi (fun a9 h9 => ?_)
  clear h9
  refine lv_istore (lv' := [(5, .int a9), (4, .int x9), (3, .int (nI k)), (2, .int (nI T)), (1, .ref y0), (0, .ref b)]) hx hb dL_law_52 hl (by decide) rfl (fun ls hl => ?_)
  refine lv_aload_n hx hb dL_law_54 rfl (lv_at hl 5 rfl) ?_
  refine lv_iconst (v := nI 3) hx hb dL_law_55 (by decide) ?_
  refine lv_iload_n hx hb dL_law_56 rfl (lv_at hl 2 rfl) ?_
  refine lv_imul hx hb dL_law_57 ?_
  refine k_top (y := nI (3 * k)) (k_mul 3 k) ?_
  refine lv_iconst (v := nI 2) hx hb dL_law_58 (by decide) ?_
  refine lv_iadd hx hb dL_law_59 ?_
  refine k_top (y := nI (3 * k + 2)) (nI_add (3 * k) 2) ?_
  refine law_cell (j := (3 * k + 2)) (rest := []) F (by omega) hL hP hS hl.1 rfl (Nat.le_of_ble_eq_true rfl) dL_law_60 hc0 (fun H locs hP hS => ?_)
  refine lv_topi (fun b9 h9 => ?_)
  clear h9
  refine lv_istore (lv' := [(6, .int b9), (5, .int a9), (4, .int x9), (3, .int (nI k)), (2, .int (nI T)), (1, .ref y0), (0, .ref b)]) hx hb dL_law_63 hl (by decide) rfl (fun ls hl => ?_)
  refine lv_iload hx hb dL_law_65 (lv_at hl 2 rfl) ?_
  refine lv_bipush (v := nI 15) hx hb dL_law_67 (by decide) ?_
  refine lv_iand hx hb dL_law_69 ?_
  refine lv_topi (fun w9 h9 => ?_)
  clear h9
  refine lv_istore (lv' := [(7, .int w9), (6, .int b9), (5, .int a9), (4, .int x9), (3, .int (nI k)), (2, .int (nI T)), (1, .ref y0), (0, .ref b)]) hx hb dL_law_70 hl (by decide) rfl (fun ls hl => ?_)
  refine lv_aload_n hx hb dL_law_72 rfl (lv_at hl 6 rfl) ?_
  refine L_sl (as := [.ref y0]) (rest := []) hF hE hA hP hD hS hl.1 (c_L_view l D I C Q9 y0 hG) (va_cwS 1 hts gL_law_L_view rfl rfl rfl (by decide +kernel) ⟨Nat.le_of_ble_eq_true rfl, Nat.le_of_ble_eq_true rfl⟩) rfl rfl (Nat.le_of_ble_eq_true rfl) dL_law_73 (by exact hc0) (fun H locs hP hD hS => ?_)
  refine lv_lstore (lv' := [(8, .long (q_view x0.2.1)), (7, .int w9), (6, .int b9), (5, .int a9), (4, .int x9), (3, .int (nI k)), (2, .int (nI T)), (1, .ref y0), (0, .ref b)]) hx hb dL_law_76 hl (by decide) rfl (fun ls hl => ?_)
  refine lv_aload_n hx hb dL_law_78 rfl (lv_at hl 7 rfl) ?_
  refine lv_bipush (v := nI 12) hx hb dL_law_79 (by decide) ?_
  refine L_rd (as := [.int (nI 12)]) (rest := []) hF hE hA hP hD hS (uX_0 I C Q9 y0 x0).choose_spec hl.1 (rd_states l D I C Q9 y0 hG) (cwV 1 hts gL_law_X8_count rfl rfl rfl (by decide +kernel) ⟨Nat.le_of_ble_eq_true rfl, Nat.le_of_ble_eq_true rfl⟩) rfl rfl (Nat.le_of_ble_eq_true rfl) dL_law_81 (by exact hc0) (fun H locs hP hD hS => ?_)
  refine lv_istore (lv' := [(10, .int (nI x0.2.2.2.2.1)), (8, .long (q_view x0.2.1)), (7, .int w9), (6, .int b9), (5, .int a9), (4, .int x9), (3, .int (nI k)), (2, .int (nI T)), (1, .ref y0), (0, .ref b)]) hx hb dL_law_84 hl (by decide) rfl (fun ls hl => ?_)
  refine lv_aload_n hx hb dL_law_86 rfl (lv_at hl 8 rfl) ?_
  refine lv_iconst (v := nI 5) hx hb dL_law_87 (by decide) ?_
  refine L_rd (as := [.int (nI 5)]) (rest := []) hF hE hA hP hD hS (uX_0 I C Q9 y0 x0).choose_spec hl.1 (rd_count l D I C Q9 y0 5 hG (by omega)) (cwV 1 hts gL_law_X8_count rfl rfl rfl (by decide +kernel) ⟨Nat.le_of_ble_eq_true rfl, Nat.le_of_ble_eq_true rfl⟩) rfl rfl (Nat.le_of_ble_eq_true rfl) dL_law_88 (by exact hc0) (fun H locs hP hD hS => ?_)
  refine lv_istore (lv' := [(11, .int (q_cnt x0.2.1 5)), (10, .int (nI x0.2.2.2.2.1)), (8, .long (q_view x0.2.1)), (7, .int w9), (6, .int b9), (5, .int a9), (4, .int x9), (3, .int (nI k)), (2, .int (nI T)), (1, .ref y0), (0, .ref b)]) hx hb dL_law_91 hl (by decide) rfl (fun ls hl => ?_)
  refine lv_aload_n hx hb dL_law_93 rfl (lv_at hl 9 rfl) ?_
  refine lv_bipush (v := nI 11) hx hb dL_law_94 (by decide) ?_
  refine L_rd (as := [.int (nI 11)]) (rest := []) hF hE hA hP hD hS (uX_0 I C Q9 y0 x0).choose_spec hl.1 (rd_count l D I C Q9 y0 11 hG (by omega)) (cwV 1 hts gL_law_X8_count rfl rfl rfl (by decide +kernel) ⟨Nat.le_of_ble_eq_true rfl, Nat.le_of_ble_eq_true rfl⟩) rfl rfl (Nat.le_of_ble_eq_true rfl) dL_law_96 (by exact hc0) (fun H locs hP hD hS => ?_)
  refine lv_istore (lv' := [(12, .int (q_cnt x0.2.1 11)), (11, .int (q_cnt x0.2.1 5)), (10, .int (nI x0.2.2.2.2.1)), (8, .long (q_view x0.2.1)), (7, .int w9), (6, .int b9), (5, .int a9), (4, .int x9), (3, .int (nI k)), (2, .int (nI T)), (1, .ref y0), (0, .ref b)]) hx hb dL_law_99 hl (by decide) rfl (fun ls hl => ?_)
  refine lv_aload_n hx hb dL_law_101 rfl (lv_at hl 10 rfl) ?_
  refine lv_bipush (v := nI 10) hx hb dL_law_102 (by decide) ?_
  refine L_rd (as := [.int (nI 10)]) (rest := []) hF hE hA hP hD hS (uX_0 I C Q9 y0 x0).choose_spec hl.1 (rd_count l D I C Q9 y0 10 hG (by omega)) (cwV 1 hts gL_law_X8_count rfl rfl rfl (by decide +kernel) ⟨Nat.le_of_ble_eq_true rfl, Nat.le_of_ble_eq_true rfl⟩) rfl rfl (Nat.le_of_ble_eq_true rfl) dL_law_104 (by exact hc0) (fun H locs hP hD hS => ?_)
  refine lv_istore (lv' := [(13, .int (q_cnt x0.2.1 10)), (12, .int (q_cnt x0.2.1 11)), (11, .int (q_cnt x0.2.1 5)), (10, .int (nI x0.2.2.2.2.1)), (8, .long (q_view x0.2.1)), (7, .int w9), (6, .int b9), (5, .int a9), (4, .int x9), (3, .int (nI k)), (2, .int (nI T)), (1, .ref y0), (0, .ref b)]) hx hb dL_law_107 hl (by decide) rfl (fun ls hl => ?_)
  refine lv_aload_n hx hb dL_law_109 rfl (lv_at hl 11 rfl) ?_
  refine lv_sipush (v := nI 1999) hx hb dL_law_110 (by decide) ?_
  refine L_sl (as := [.ref y0, .int (nI 1999)]) (rest := []) hF hE hA hP hD hS hl.1 (c_L_cases l D I C Q9 y0 hG) (va_cwS 2 hts gL_law_L_cases rfl rfl rfl (by decide +kernel) ⟨Nat.le_of_ble_eq_true rfl, Nat.le_of_ble_eq_true rfl⟩) rfl rfl (Nat.le_of_ble_eq_true rfl) dL_law_113 hc0 (fun H locs hP hD hS => ?_)
  refine lv_lstore (lv' := [(14, .long (q_case x0.2.1)), (13, .int (q_cnt x0.2.1 10)), (12, .int (q_cnt x0.2.1 11)), (11, .int (q_cnt x0.2.1 5)), (10, .int (nI x0.2.2.2.2.1)), (8, .long (q_view x0.2.1)), (7, .int w9), (6, .int b9), (5, .int a9), (4, .int x9), (3, .int (nI k)), (2, .int (nI T)), (1, .ref y0), (0, .ref b)]) hx hb dL_law_116 hl (by decide) rfl (fun ls hl => ?_)
  refine lv_aload_n hx hb dL_law_118 rfl (lv_at hl 12 rfl) ?_
  refine lv_iload hx hb dL_law_119 (lv_at hl 6 rfl) ?_
  refine lv_iload hx hb dL_law_121 (lv_at hl 8 rfl) ?_
  refine lv_iload hx hb dL_law_123 (lv_at hl 7 rfl) ?_
  refine L_sc (as := [.ref y0, .int w9, .int a9, .int b9]) (rest := []) hF hE hA hP hD hS hl.1 (c_L_turn l D I C Q9 y0 w9 a9 b9 hG) (va_cwS 4 hts gL_law_L_turn rfl rfl rfl (by decide +kernel) ⟨Nat.le_of_ble_eq_true rfl, Nat.le_of_ble_eq_true rfl⟩) rfl rfl (Nat.le_of_ble_eq_true rfl) dL_law_125 hc1 (fun H locs r w1 hr hP hD hS => ?_)
  obtain ⟨hr1, x1, rfl, hst⟩ := hr
  rw [hr1]
  have hgood := f_turn_good hG.1 w9 a9 b9
  have hG1 : uG x1 := uG_st (R := f_turn x0.2.1 w9 a9 b9) hG hgood hst
  refine lv_istore (lv' := [(16, .int (f_turn x0.2.1 w9 a9 b9).1), (14, .long (q_case x0.2.1)), (13, .int (q_cnt x0.2.1 10)), (12, .int (q_cnt x0.2.1 11)), (11, .int (q_cnt x0.2.1 5)), (10, .int (nI x0.2.2.2.2.1)), (8, .long (q_view x0.2.1)), (7, .int w9), (6, .int b9), (5, .int a9), (4, .int x9), (3, .int (nI k)), (2, .int (nI T)), (1, .ref y0), (0, .ref b)]) hx hb dL_law_128 hl (by decide) rfl (fun ls hl => ?_)
  refine lv_iload hx hb dL_law_130 (lv_at hl 0 rfl) ?_
  refine lv_sipush (v := (-1000 : Int32)) hx hb dL_law_132 (by decide) ?_
  rcases hgood with ⟨hno, hlt⟩ | ⟨v', hso, hnl, hgv, hnx⟩
  · have hxx : x1 = x0 := by
      rcases hst with ⟨-, e⟩ | ⟨v2, e, -⟩
      · exact e
      · rw [hno] at e; cases e
    rw [hxx] at hP hD
    refine lv_icmp_ge (tgt := 161) hx hb dL_law_135 (by decide) (fun c_135 => ?_) (fun c_135 => ?_)
    · exact absurd hlt (i_nlt c_135)
    · refine lv_aload_n hx hb dL_law_138 rfl (lv_at hl 13 rfl) ?_
      refine L_sl (as := [.ref y0]) (rest := []) hF hE hA hP hD hS hl.1 (c_L_view l D I C Q9 y0 hG) (va_cwS 1 hts gL_law_L_view rfl rfl rfl (by decide +kernel) ⟨Nat.le_of_ble_eq_true rfl, Nat.le_of_ble_eq_true rfl⟩) rfl rfl (Nat.le_of_ble_eq_true rfl) dL_law_139 (by exact hc1) (fun H locs hP hD hS => ?_)
      refine lv_lload hx hb dL_law_142 (lv_at hl 6 rfl) ?_
      refine W.lcmp hx hb dL_law_144 ?_
      refine k_top (y := nI 0) (lg_cmp_0 _) ?_
      refine lv_if_ne (tgt := 159) hx hb dL_law_145 (by decide) (fun c_145 => ?_) (fun c_145 => ?_)
      · exact absurd rfl c_145
      · refine lv_aload_n hx hb dL_law_148 rfl (lv_at hl 13 rfl) ?_
        refine lv_bipush (v := nI 12) hx hb dL_law_149 (by decide) ?_
        refine L_rd (as := [.int (nI 12)]) (rest := []) hF hE hA hP hD hS (uX_0 I C Q9 y0 x0).choose_spec hl.1 (rd_states l D I C Q9 y0 hG) (cwV 1 hts gL_law_X8_count rfl rfl rfl (by decide +kernel) ⟨Nat.le_of_ble_eq_true rfl, Nat.le_of_ble_eq_true rfl⟩) rfl rfl (Nat.le_of_ble_eq_true rfl) dL_law_151 (by exact hc1) (fun H locs hP hD hS => ?_)
        refine lv_iload hx hb dL_law_154 (lv_at hl 5 rfl) ?_
        refine lv_icmp_eq (tgt := 211) hx hb dL_law_156 (by decide) (fun c_156 => ?_) (fun c_156 => ?_)
        · exact W.widen (k := cells + 13 + 13) (n := slots + 1166 + 1166) (Nat.le_add_right _ _) (Nat.le_add_right _ _) (law_211 F hG hG (f_nx_refl _) hP hD hS (lv_sub hl [1, 2, 3, 4, 8, 9, 10, 11, 12, 13, 14] rfl) (by omega) (fun H1 locs1 ls1 x3 h1 h2 h3 h4 h5 => W.widen (by omega) (by omega) (kk H1 locs1 ls1 x3 h1 h2 h3 h4 h5)))
        · exact absurd rfl c_156
  · rw [hso] at hst
    obtain ⟨e1, pa, ex⟩ := u_st_some hst
    have n1 : x1.2.2.2.2.1 = m_rns x0.2.2.2.2.1 := by rw [ex]
    have hn4 : x0.2.2.2.2.1 ≤ 4 := hG.2.1
    have hnx1 : f_nx x0.2.1 x1.2.1 := by rw [e1]; exact hnx
    refine lv_icmp_ge (tgt := 161) hx hb dL_law_135 (by decide) (fun c_135 => ?_) (fun c_135 => ?_)
    · refine lv_aload_n hx hb dL_law_161 rfl (lv_at hl 13 rfl) ?_
      refine lv_bipush (v := nI 12) hx hb dL_law_162 (by decide) ?_
      refine L_rd (as := [.int (nI 12)]) (rest := []) hF hE hA hP hD hS (uX_0 I C Q9 y0 x1).choose_spec hl.1 (rd_states l D I C Q9 y0 hG1) (cwV 1 hts gL_law_X8_count rfl rfl rfl (by decide +kernel) ⟨Nat.le_of_ble_eq_true rfl, Nat.le_of_ble_eq_true rfl⟩) rfl rfl (Nat.le_of_ble_eq_true rfl) dL_law_164 (by exact hc1) (fun H locs hP hD hS => ?_)
      refine lv_iload hx hb dL_law_167 (lv_at hl 5 rfl) ?_
      refine lv_iconst (v := nI 4) hx hb dL_law_169 (by decide) ?_
      refine lv_icmp_ge (tgt := 180) hx hb dL_law_170 (by decide) (fun c_170 => ?_) (fun c_170 => ?_)
      · have h4 : 4 ≤ x0.2.2.2.2.1 := (nI_leI (a := 4) (by omega) (by omega)).mp c_170
        have e4 : nI x1.2.2.2.2.1 = nI 4 := by rw [n1, m_rns, if_neg (by omega)]
        refine lv_iconst (v := nI 4) hx hb dL_law_180 (by decide) ?_
        refine lv_icmp_ne (tgt := 209) hx hb dL_law_181 (by decide) (fun c_181 => ?_) (fun c_181 => ?_)
        · exact absurd e4 c_181
        · exact law_184 F hG hG1 hso hst hnx1 hP hD hS (lv_sub hl [0, 1, 2, 3, 4, 6, 7, 8, 9, 10, 11, 12, 13, 14] rfl) (by omega) (fun H1 locs1 ls1 x3 h1 h2 h3 h4 h5 => W.widen (by omega) (by omega) (kk H1 locs1 ls1 x3 h1 h2 h3 h4 h5))
      · have h4 : x0.2.2.2.2.1 < 4 := Nat.lt_of_not_le (fun h => c_170 ((nI_leI (a := 4) (by omega) (by omega)).mpr h))
        have e4 : nI x1.2.2.2.2.1 = nI (x0.2.2.2.2.1 + 1) := by rw [n1, m_rns, if_pos h4]
        refine lv_iload hx hb dL_law_173 (lv_at hl 5 rfl) ?_
        refine lv_iconst (v := nI 1) hx hb dL_law_175 (by decide) ?_
        refine lv_iadd hx hb dL_law_176 ?_
        refine k_top (y := nI (x0.2.2.2.2.1 + 1)) (nI_add x0.2.2.2.2.1 1) ?_
        refine lv_goto (tgt := 181) hx hb dL_law_177 (by decide) ?_
        refine lv_icmp_ne (tgt := 209) hx hb dL_law_181 (by decide) (fun c_181 => ?_) (fun c_181 => ?_)
        · exact absurd e4 c_181
        · exact law_184 F hG hG1 hso hst hnx1 hP hD hS (lv_sub hl [0, 1, 2, 3, 4, 6, 7, 8, 9, 10, 11, 12, 13, 14] rfl) (by omega) (fun H1 locs1 ls1 x3 h1 h2 h3 h4 h5 => W.widen (by omega) (by omega) (kk H1 locs1 ls1 x3 h1 h2 h3 h4 h5))
    · exact absurd (i_not_lt hnl) c_135
set_option maxHeartbeats 4000000 in
set_option maxRecDepth 100000 in
/-- the law's loop, from its head -/
theorem law_loop (F : lwF p s m c b L xs D I C Q9) (hL : L ≤ 260) (hT : 3 * T ≤ L)
    (kx : ∀ (H : Heap) (locs : List Loc) (ls : Array Slot) (cells slots : Nat), cells ≤ 600000 → slots ≤ 7302250 → va_S (lA s) s.heap H locs → W p l e room_1 s m #[Value.ref b] below meth c H locs cells slots Q (F0 m 341 ls [])) :
    ∀ (n k : Nat) (x0 : LV) (H : Heap) (locs : List Loc) (ls : Array Slot) (cells slots : Nat), k + n = T → cells + 39 * n ≤ 600000 → slots + 3498 * n ≤ 7302250 → uG x0 → va_P D vwCl (uX I C Q9 y0 x0) H → va_D (lA s) (uX I C Q9 y0 x0) → va_S (lA s) s.heap H locs → lv_has ls 18 [(3, .int (nI k)), (2, .int (nI T)), (1, .ref y0), (0, .ref b)] → W p l e room_1 s m #[Value.ref b] below meth c H locs cells slots Q (F0 m 29 ls []) := by
  intro n
  induction n with
  | zero =>
    intro k x0 H locs ls cells slots hk hc hsl hG hP hD hS hl
    obtain ⟨hx, hb, hml, hown, hts, hX, hbl, hE⟩ := id F
    refine lv_iload_n hx hb dL_law_29 rfl (lv_at hl 0 rfl) ?_
    refine lv_iload_n hx hb dL_law_30 rfl (lv_at hl 1 rfl) ?_
    refine lv_icmp_ge (tgt := 341) hx hb dL_law_31 (by decide) (fun c_31 => ?_) (fun c_31 => ?_)
    · exact kx H locs ls cells slots (by omega) (by omega) hS
    · exact absurd ((nI_leI (a := T) (b := k) (by omega) (by omega)).mpr (by omega)) c_31
  | succ n ih =>
    intro k x0 H locs ls cells slots hk hc hsl hG hP hD hS hl
    obtain ⟨hx, hb, hml, hown, hts, hX, hbl, hE⟩ := id F
    refine lv_iload_n hx hb dL_law_29 rfl (lv_at hl 0 rfl) ?_
    refine lv_iload_n hx hb dL_law_30 rfl (lv_at hl 1 rfl) ?_
    refine lv_icmp_ge (tgt := 341) hx hb dL_law_31 (by decide) (fun c_31 => ?_) (fun c_31 => ?_)
    · exact absurd ((nI_leI (a := T) (b := k) (by omega) (by omega)).mp c_31) (by omega)
    · refine law_34 F hL (by omega) hG hP hD hS hl (by omega) (fun H locs ls x3 hG hP hD hS hl => ?_)
      refine lv_iinc (v := nI (k + 1)) (lv' := [(3, .int (nI (k + 1))), (2, .int (nI T)), (1, .ref y0), (0, .ref b)]) hx hb dL_law_335 hl (k := 0) rfl (nI_inc k) (by decide) rfl (fun ls hl => ?_)
      refine lv_goto (tgt := 29) hx hb dL_law_338 (by decide) ?_
      exact ih (k + 1) x3 H locs ls (cells + 39) (slots + 3498) (by omega) (by omega) (by omega) hG hP hD hS (lv_sub hl [0, 1, 2, 3] rfl)
end LAW
