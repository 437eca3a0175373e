set_option maxHeartbeats 400000 in
set_option maxRecDepth 100000 in
theorem c_X9_isIn (l : Launch) (D : va_G) (I C Q : ClassId) (v : Int32) (lo : Int32) (hi : Int32) : KI l D (tyL I C Q) yX9_isIn wsX9_isIn { frames := 0, cells := 0, slots := 0, locals := 0 } [.int v, .int lo, .int hi] [] [] (m_isIn v lo hi) := by
  refine KI.of (cc := cX9_isIn) (maxL := 3) (rt := .boolean) (own := RX9) (by decide) rfl rfl (Nat.le_of_ble_eq_true rfl) ?_
  intro p e s m below meth c A Q0 ls hx hb hml hown hts hE hA hP hD hS hl hend
  have hK := hE.1
  have hF : CallFix p m c cX9_isIn 3 s [.int v, .int lo, .int hi].toArray wsX9_isIn RX9 := ⟨hx, hb, hml, hown, hts⟩
  have hl : lv_has ls 3 [(0, .int v), (1, .int lo), (2, .int hi)] := hl
  refine lv_iload_n hx hb dX9_isIn_0 rfl (lv_at hl 0 rfl) ?_
  refine lv_iload_n hx hb dX9_isIn_1 rfl (lv_at hl 1 rfl) ?_
  refine lv_icmp_lt (tgt := 14) hx hb dX9_isIn_2 (by decide) (fun c_2 => ?_) (fun c_2 => ?_)
  · refine lv_iconst (v := 0) hx hb dX9_isIn_14 (by decide) ?_
    exact hend _ _ _ _ _ _ hP hD hS dX9_isIn_15 (by decide) rfl (by simp +decide only [m_isIn, c_2, if_true, if_false, not_true_eq_false, not_false_eq_true, and_self, and_true, true_and, and_false, false_and, kn01, kn10, kn02, kn20, kn12, kn21, eq_self])
  · refine lv_iload_n hx hb dX9_isIn_5 rfl (lv_at hl 0 rfl) ?_
    refine lv_iload_n hx hb dX9_isIn_6 rfl (lv_at hl 2 rfl) ?_
    refine lv_icmp_gt (tgt := 14) hx hb dX9_isIn_7 (by decide) (fun c_7 => ?_) (fun c_7 => ?_)
    · refine lv_iconst (v := 0) hx hb dX9_isIn_14 (by decide) ?_
      exact hend _ _ _ _ _ _ hP hD hS dX9_isIn_15 (by decide) rfl (by simp +decide only [m_isIn, c_2, c_7, if_true, if_false, not_true_eq_false, not_false_eq_true, and_self, and_true, true_and, and_false, false_and, kn01, kn10, kn02, kn20, kn12, kn21, eq_self])
    · refine lv_iconst (v := 1) hx hb dX9_isIn_10 (by decide) ?_
      refine lv_goto (tgt := 15) hx hb dX9_isIn_11 (by decide) ?_
      exact hend _ _ _ _ _ _ hP hD hS dX9_isIn_15 (by decide) rfl (by simp +decide only [m_isIn, c_2, c_7, if_true, if_false, not_true_eq_false, not_false_eq_true, and_self, and_true, true_and, and_false, false_and, kn01, kn10, kn02, kn20, kn12, kn21, eq_self])
set_option maxHeartbeats 400000 in
set_option maxRecDepth 100000 in
theorem c_X9_ofE (l : Launch) (D : va_G) (I C Q : ClassId) (a0 a1 a2 a3 a4 : Nat) (now : Nat → Int32) (kept : Nat → Int32) (st : Int32) (text : Nat → Int32) (len : Int32) (att : Int32) (num : Int32) (rd : Nat → Int32) (i : Nat) (w : Nat) (h1 : i < 64) (h2 : w < 6) : KI l D (tyL I C Q) yX9_ofE wsX9_ofE { frames := 0, cells := 0, slots := 0, locals := 0 } [.ref a0, .int (nI i), .int (nI w)] (wM I a0 a1 a2 a3 a4 now kept st text len att num rd) (wM I a0 a1 a2 a3 a4 now kept st text len att num rd) (now (12 + 6 * i + w)) := by
  refine KI.of (cc := cX9_ofE) (maxL := 3) (rt := .int) (own := RX9) (by decide) rfl rfl (Nat.le_of_ble_eq_true rfl) ?_
  intro p e s m below meth c A Q0 ls hx hb hml hown hts hE hA hP hD hS hl hend
  have hK := hE.1
  have hF : CallFix p m c cX9_ofE 3 s [.ref a0, .int (nI i), .int (nI w)].toArray wsX9_ofE RX9 := ⟨hx, hb, hml, hown, hts⟩
  have k0 := hts (.fieldLink RX9 7 "LateExcusesModel" "now" "[I") (List.mem_of_getElem? (i := 1) rfl)
  have u9 : ∀ w ∈ u_ws RX9 TX9 8, w ∈ wsX9_ofE := by decide +kernel
  have hl : lv_has ls 3 [(0, .ref a0), (1, .int (nI i)), (2, .int (nI w))] := hl
  refine lv_aload_n hx hb dX9_ofE_0 rfl (lv_at hl 0 rfl) ?_
  refine va_get (D := D) (ci := 9) (v := .ref a1) (C := RX9) (T := TX9) (N := 8) hx hb hts u9 hown hK hP 0 rfl rfl 0 (by decide) k0 (fun _ h9 => h9) rfl dX9_ofE_1 ?_
  refine lv_bipush (v := 12) hx hb dX9_ofE_4 (by decide) ?_
  refine lv_bipush (v := 6) hx hb dX9_ofE_6 (by decide) ?_
  refine lv_iload_n hx hb dX9_ofE_8 rfl (lv_at hl 1 rfl) ?_
  refine k_imul (v := nI (6 * i)) hx hb dX9_ofE_9 (k_mul 6 i) ?_
  refine k_iadd (v := nI (12 + 6 * i)) hx hb dX9_ofE_10 (nI_add 12 (6 * i)) ?_
  refine lv_iload_n hx hb dX9_ofE_11 rfl (lv_at hl 2 rfl) ?_
  refine k_iadd (v := nI (12 + 6 * i + w)) hx hb dX9_ofE_12 (nI_add (12 + 6 * i) w) ?_
  refine k_iald (j := 12 + 6 * i + w) (v := (now (12 + 6 * i + w))) hx hb hK hP 1 0 rfl rfl rfl (by omega) (by decide) rfl dX9_ofE_13 ?_
  exact hend _ _ _ _ _ _ hP hD hS dX9_ofE_14 rfl rfl rfl
set_option maxHeartbeats 400000 in
set_option maxRecDepth 100000 in
theorem c_X9_ofP (l : Launch) (D : va_G) (I C Q : ClassId) (a0 a1 a2 a3 a4 : Nat) (now : Nat → Int32) (kept : Nat → Int32) (st : Int32) (text : Nat → Int32) (len : Int32) (att : Int32) (num : Int32) (rd : Nat → Int32) (k : Nat) (w : Nat) (h1 : k < 64) (h2 : w < 8) : KI l D (tyL I C Q) yX9_ofP wsX9_ofP { frames := 0, cells := 0, slots := 0, locals := 0 } [.ref a0, .int (nI k), .int (nI w)] (wM I a0 a1 a2 a3 a4 now kept st text len att num rd) (wM I a0 a1 a2 a3 a4 now kept st text len att num rd) (now (396 + 8 * k + w)) := by
  refine KI.of (cc := cX9_ofP) (maxL := 3) (rt := .int) (own := RX9) (by decide) rfl rfl (Nat.le_of_ble_eq_true rfl) ?_
  intro p e s m below meth c A Q0 ls hx hb hml hown hts hE hA hP hD hS hl hend
  have hK := hE.1
  have hF : CallFix p m c cX9_ofP 3 s [.ref a0, .int (nI k), .int (nI w)].toArray wsX9_ofP RX9 := ⟨hx, hb, hml, hown, hts⟩
  have k0 := hts (.fieldLink RX9 7 "LateExcusesModel" "now" "[I") (List.mem_of_getElem? (i := 1) rfl)
  have u9 : ∀ w ∈ u_ws RX9 TX9 8, w ∈ wsX9_ofP := by decide +kernel
  have hl : lv_has ls 3 [(0, .ref a0), (1, .int (nI k)), (2, .int (nI w))] := hl
  refine lv_aload_n hx hb dX9_ofP_0 rfl (lv_at hl 0 rfl) ?_
  refine va_get (D := D) (ci := 9) (v := .ref a1) (C := RX9) (T := TX9) (N := 8) hx hb hts u9 hown hK hP 0 rfl rfl 0 (by decide) k0 (fun _ h9 => h9) rfl dX9_ofP_1 ?_
  refine lv_sipush (v := 396) hx hb dX9_ofP_4 (by decide) ?_
  refine lv_bipush (v := 8) hx hb dX9_ofP_7 (by decide) ?_
  refine lv_iload_n hx hb dX9_ofP_9 rfl (lv_at hl 1 rfl) ?_
  refine k_imul (v := nI (8 * k)) hx hb dX9_ofP_10 (k_mul 8 k) ?_
  refine k_iadd (v := nI (396 + 8 * k)) hx hb dX9_ofP_11 (nI_add 396 (8 * k)) ?_
  refine lv_iload_n hx hb dX9_ofP_12 rfl (lv_at hl 2 rfl) ?_
  refine k_iadd (v := nI (396 + 8 * k + w)) hx hb dX9_ofP_13 (nI_add (396 + 8 * k) w) ?_
  refine k_iald (j := 396 + 8 * k + w) (v := (now (396 + 8 * k + w))) hx hb hK hP 1 0 rfl rfl rfl (by omega) (by decide) rfl dX9_ofP_14 ?_
  exact hend _ _ _ _ _ _ hP hD hS dX9_ofP_15 rfl rfl rfl
set_option maxHeartbeats 400000 in
set_option maxRecDepth 100000 in
theorem c_X9_setsP (l : Launch) (D : va_G) (I C Q : ClassId) (a0 a1 a2 a3 a4 : Nat) (now : Nat → Int32) (kept : Nat → Int32) (st : Int32) (text : Nat → Int32) (len : Int32) (att : Int32) (num : Int32) (rd : Nat → Int32) (k : Nat) (w : Nat) (v : Int32) (h1 : k < 64) (h2 : w < 8) : KV l D (tyL I C Q) yX9_setsP wsX9_setsP { frames := 0, cells := 0, slots := 0, locals := 0 } [.ref a0, .int (nI k), .int (nI w), .int v] (wM I a0 a1 a2 a3 a4 now kept st text len att num rd) (wM I a0 a1 a2 a3 a4 (upd now (396 + 8 * k + w) v) kept st text len att num rd) := by
  refine KV.of (cc := cX9_setsP) (maxL := 4) (own := RX9) (by decide) rfl rfl (Nat.le_of_ble_eq_true rfl) ?_
  intro p e s m below meth c A Q0 ls hx hb hml hown hts hE hA hP hD hS hl hend
  have hK := hE.1
  have hF : CallFix p m c cX9_setsP 4 s [.ref a0, .int (nI k), .int (nI w), .int v].toArray wsX9_setsP RX9 := ⟨hx, hb, hml, hown, hts⟩
  have k0 := hts (.fieldLink RX9 7 "LateExcusesModel" "now" "[I") (List.mem_of_getElem? (i := 1) rfl)
  have u9 : ∀ w ∈ u_ws RX9 TX9 8, w ∈ wsX9_setsP := by decide +kernel
  have hl : lv_has ls 4 [(0, .ref a0), (1, .int (nI k)), (2, .int (nI w)), (3, .int v)] := hl
  refine lv_aload_n hx hb dX9_setsP_0 rfl (lv_at hl 0 rfl) ?_
  refine va_get (D := D) (ci := 9) (v := .ref a1) (C := RX9) (T := TX9) (N := 8) hx hb hts u9 hown hK hP 0 rfl rfl 0 (by decide) k0 (fun _ h9 => h9) rfl dX9_setsP_1 ?_
  refine lv_sipush (v := 396) hx hb dX9_setsP_4 (by decide) ?_
  refine lv_bipush (v := 8) hx hb dX9_setsP_7 (by decide) ?_
  refine lv_iload_n hx hb dX9_setsP_9 rfl (lv_at hl 1 rfl) ?_
  refine k_imul (v := nI (8 * k)) hx hb dX9_setsP_10 (k_mul 8 k) ?_
  refine k_iadd (v := nI (396 + 8 * k)) hx hb dX9_setsP_11 (nI_add 396 (8 * k)) ?_
  refine lv_iload_n hx hb dX9_setsP_12 rfl (lv_at hl 2 rfl) ?_
  refine k_iadd (v := nI (396 + 8 * k + w)) hx hb dX9_setsP_13 (nI_add (396 + 8 * k) w) ?_
  refine lv_iload_n hx hb dX9_setsP_14 rfl (lv_at hl 3 rfl) ?_
  refine k_iast (j := 396 + 8 * k + w) hx hb hK hP hD hS 1 0 rfl rfl rfl (by omega) (by decide) dX9_setsP_15 (fun H locs hP hD hS => ?_)
  have hP : va_P D vwCl (wM I a0 a1 a2 a3 a4 (upd now (396 + 8 * k + w) v) kept st text len att num rd) H := hP
  have hD : va_D A (wM I a0 a1 a2 a3 a4 (upd now (396 + 8 * k + w) v) kept st text len att num rd) := hD
  exact hend _ _ _ _ _ hP hD hS dX9_setsP_16 rfl
set_option maxHeartbeats 400000 in
set_option maxRecDepth 100000 in
theorem c_X9_paneAt (l : Launch) (D : va_G) (I C Q : ClassId) (a0 a1 a2 a3 a4 : Nat) (now : Nat → Int32) (kept : Nat → Int32) (st : Int32) (text : Nat → Int32) (len : Int32) (att : Int32) (num : Int32) (rd : Nat → Int32) (sz : Nat) (t : Int32) (hsz : now 6 = nI sz) (hs0 : 0 < sz) (hs1 : sz ≤ 100) : KI l D (tyL I C Q) yX9_paneAt wsX9_paneAt { frames := 0, cells := 0, slots := 0, locals := 0 } [.ref a0, .int t] (wM I a0 a1 a2 a3 a4 now kept st text len att num rd) (wM I a0 a1 a2 a3 a4 now kept st text len att num rd) (t / nI sz) := by
  refine KI.of (cc := cX9_paneAt) (maxL := 2) (rt := .int) (own := RX9) (by decide) rfl rfl (Nat.le_of_ble_eq_true rfl) ?_
  intro p e s m below meth c A Q0 ls hx hb hml hown hts hE hA hP hD hS hl hend
  have hK := hE.1
  have hF : CallFix p m c cX9_paneAt 2 s [.ref a0, .int t].toArray wsX9_paneAt RX9 := ⟨hx, hb, hml, hown, hts⟩
  have k0 := hts (.fieldLink RX9 7 "LateExcusesModel" "now" "[I") (List.mem_of_getElem? (i := 1) rfl)
  have u9 : ∀ w ∈ u_ws RX9 TX9 8, w ∈ wsX9_paneAt := by decide +kernel
  have hl : lv_has ls 2 [(0, .ref a0), (1, .int t)] := hl
  refine lv_iload_n hx hb dX9_paneAt_0 rfl (lv_at hl 1 rfl) ?_
  refine lv_aload_n hx hb dX9_paneAt_1 rfl (lv_at hl 0 rfl) ?_
  refine va_get (D := D) (ci := 9) (v := .ref a1) (C := RX9) (T := TX9) (N := 8) hx hb hts u9 hown hK hP 0 rfl rfl 0 (by decide) k0 (fun _ h9 => h9) rfl dX9_paneAt_2 ?_
  refine lv_bipush (v := 6) hx hb dX9_paneAt_5 (by decide) ?_
  refine k_iald (j := 6) (v := (nI sz)) hx hb hK hP 1 0 rfl rfl rfl (by decide) (by decide) hsz dX9_paneAt_7 ?_
  refine lv_idiv hx hb dX9_paneAt_8 (nI_ne0 hs0 (by omega)) ?_
  exact hend _ _ _ _ _ _ hP hD hS dX9_paneAt_9 rfl rfl rfl
set_option maxHeartbeats 400000 in
set_option maxRecDepth 100000 in
theorem c_X9_paneAtN (l : Launch) (D : va_G) (I C Q : ClassId) (a0 a1 a2 a3 a4 : Nat) (now : Nat → Int32) (kept : Nat → Int32) (st : Int32) (text : Nat → Int32) (len : Int32) (att : Int32) (num : Int32) (rd : Nat → Int32) (sz : Nat) (t : Nat) (hsz : now 6 = nI sz) (hs0 : 0 < sz) (hs1 : sz ≤ 100) (ht : t < 2000) : KI l D (tyL I C Q) yX9_paneAt wsX9_paneAt { frames := 0, cells := 0, slots := 0, locals := 0 } [.ref a0, .int (nI t)] (wM I a0 a1 a2 a3 a4 now kept st text len att num rd) (wM I a0 a1 a2 a3 a4 now kept st text len att num rd) (nI (t / sz)) := by
  refine KI.of (cc := cX9_paneAt) (maxL := 2) (rt := .int) (own := RX9) (by decide) rfl rfl (Nat.le_of_ble_eq_true rfl) ?_
  intro p e s m below meth c A Q0 ls hx hb hml hown hts hE hA hP hD hS hl hend
  have hK := hE.1
  have hF : CallFix p m c cX9_paneAt 2 s [.ref a0, .int (nI t)].toArray wsX9_paneAt RX9 := ⟨hx, hb, hml, hown, hts⟩
  have k0 := hts (.fieldLink RX9 7 "LateExcusesModel" "now" "[I") (List.mem_of_getElem? (i := 1) rfl)
  have u9 : ∀ w ∈ u_ws RX9 TX9 8, w ∈ wsX9_paneAt := by decide +kernel
  have hl : lv_has ls 2 [(0, .ref a0), (1, .int (nI t))] := hl
  refine lv_iload_n hx hb dX9_paneAt_0 rfl (lv_at hl 1 rfl) ?_
  refine lv_aload_n hx hb dX9_paneAt_1 rfl (lv_at hl 0 rfl) ?_
  refine va_get (D := D) (ci := 9) (v := .ref a1) (C := RX9) (T := TX9) (N := 8) hx hb hts u9 hown hK hP 0 rfl rfl 0 (by decide) k0 (fun _ h9 => h9) rfl dX9_paneAt_2 ?_
  refine lv_bipush (v := 6) hx hb dX9_paneAt_5 (by decide) ?_
  refine k_iald (j := 6) (v := (nI sz)) hx hb hK hP 1 0 rfl rfl rfl (by decide) (by decide) hsz dX9_paneAt_7 ?_
  refine k_idiv (v := nI (t / sz)) hx hb dX9_paneAt_8 (k_divN (by omega) hs0 (by omega)) ?_
  exact hend _ _ _ _ _ _ hP hD hS dX9_paneAt_9 rfl rfl rfl
set_option maxHeartbeats 400000 in
set_option maxRecDepth 100000 in
theorem c_X9_endOf (l : Launch) (D : va_G) (I C Q : ClassId) (a0 a1 a2 a3 a4 : Nat) (now : Nat → Int32) (kept : Nat → Int32) (st : Int32) (text : Nat → Int32) (len : Int32) (att : Int32) (num : Int32) (rd : Nat → Int32) (sz : Nat) (q : Int32) (hsz : now 6 = nI sz) (hs0 : 0 < sz) (hs1 : sz ≤ 100) : KI l D (tyL I C Q) yX9_endOf wsX9_endOf { frames := 0, cells := 0, slots := 0, locals := 0 } [.ref a0, .int q] (wM I a0 a1 a2 a3 a4 now kept st text len att num rd) (wM I a0 a1 a2 a3 a4 now kept st text len att num rd) ((q + 1) * nI sz) := by
  refine KI.of (cc := cX9_endOf) (maxL := 2) (rt := .int) (own := RX9) (by decide) rfl rfl (Nat.le_of_ble_eq_true rfl) ?_
  intro p e s m below meth c A Q0 ls hx hb hml hown hts hE hA hP hD hS hl hend
  have hK := hE.1
  have hF : CallFix p m c cX9_endOf 2 s [.ref a0, .int q].toArray wsX9_endOf RX9 := ⟨hx, hb, hml, hown, hts⟩
  have k0 := hts (.fieldLink RX9 7 "LateExcusesModel" "now" "[I") (List.mem_of_getElem? (i := 1) rfl)
  have u9 : ∀ w ∈ u_ws RX9 TX9 8, w ∈ wsX9_endOf := by decide +kernel
  have hl : lv_has ls 2 [(0, .ref a0), (1, .int q)] := hl
  refine lv_iload_n hx hb dX9_endOf_0 rfl (lv_at hl 1 rfl) ?_
  refine lv_iconst (v := 1) hx hb dX9_endOf_1 (by decide) ?_
  refine lv_iadd hx hb dX9_endOf_2 ?_
  refine lv_aload_n hx hb dX9_endOf_3 rfl (lv_at hl 0 rfl) ?_
  refine va_get (D := D) (ci := 9) (v := .ref a1) (C := RX9) (T := TX9) (N := 8) hx hb hts u9 hown hK hP 0 rfl rfl 0 (by decide) k0 (fun _ h9 => h9) rfl dX9_endOf_4 ?_
  refine lv_bipush (v := 6) hx hb dX9_endOf_7 (by decide) ?_
  refine k_iald (j := 6) (v := (nI sz)) hx hb hK hP 1 0 rfl rfl rfl (by decide) (by decide) hsz dX9_endOf_9 ?_
  refine lv_imul hx hb dX9_endOf_10 ?_
  exact hend _ _ _ _ _ _ hP hD hS dX9_endOf_11 rfl rfl rfl
set_option maxHeartbeats 400000 in
set_option maxRecDepth 100000 in
theorem c_X9_endOfN (l : Launch) (D : va_G) (I C Q : ClassId) (a0 a1 a2 a3 a4 : Nat) (now : Nat → Int32) (kept : Nat → Int32) (st : Int32) (text : Nat → Int32) (len : Int32) (att : Int32) (num : Int32) (rd : Nat → Int32) (sz : Nat) (pp : Nat) (hsz : now 6 = nI sz) (hs0 : 0 < sz) (hs1 : sz ≤ 100) : KI l D (tyL I C Q) yX9_endOf wsX9_endOf { frames := 0, cells := 0, slots := 0, locals := 0 } [.ref a0, .int (nI pp)] (wM I a0 a1 a2 a3 a4 now kept st text len att num rd) (wM I a0 a1 a2 a3 a4 now kept st text len att num rd) (nI ((pp + 1) * sz)) := by
  refine KI.of (cc := cX9_endOf) (maxL := 2) (rt := .int) (own := RX9) (by decide) rfl rfl (Nat.le_of_ble_eq_true rfl) ?_
  intro p e s m below meth c A Q0 ls hx hb hml hown hts hE hA hP hD hS hl hend
  have hK := hE.1
  have hF : CallFix p m c cX9_endOf 2 s [.ref a0, .int (nI pp)].toArray wsX9_endOf RX9 := ⟨hx, hb, hml, hown, hts⟩
  have k0 := hts (.fieldLink RX9 7 "LateExcusesModel" "now" "[I") (List.mem_of_getElem? (i := 1) rfl)
  have u9 : ∀ w ∈ u_ws RX9 TX9 8, w ∈ wsX9_endOf := by decide +kernel
  have hl : lv_has ls 2 [(0, .ref a0), (1, .int (nI pp))] := hl
  refine lv_iload_n hx hb dX9_endOf_0 rfl (lv_at hl 1 rfl) ?_
  refine lv_iconst (v := 1) hx hb dX9_endOf_1 (by decide) ?_
  refine k_iadd (v := nI (pp + 1)) hx hb dX9_endOf_2 (nI_add pp 1) ?_
  refine lv_aload_n hx hb dX9_endOf_3 rfl (lv_at hl 0 rfl) ?_
  refine va_get (D := D) (ci := 9) (v := .ref a1) (C := RX9) (T := TX9) (N := 8) hx hb hts u9 hown hK hP 0 rfl rfl 0 (by decide) k0 (fun _ h9 => h9) rfl dX9_endOf_4 ?_
  refine lv_bipush (v := 6) hx hb dX9_endOf_7 (by decide) ?_
  refine k_iald (j := 6) (v := (nI sz)) hx hb hK hP 1 0 rfl rfl rfl (by decide) (by decide) hsz dX9_endOf_9 ?_
  refine k_imul (v := nI ((pp + 1) * sz)) hx hb dX9_endOf_10 (k_mul (pp + 1) sz) ?_
  exact hend _ _ _ _ _ _ hP hD hS dX9_endOf_11 rfl rfl rfl
