set_option maxHeartbeats 400000 in
set_option maxRecDepth 100000 in
theorem c_X9_judgeB (l : Launch) (D : va_G) (I C Q : ClassId) (a0 a1 a2 a3 a4 : Nat) (now : Nat → Int32) (kept : Nat → Int32) (st : Int32) (text : Nat → Int32) (len : Int32) (att : Int32) (num : Int32) (rd : Nat → Int32) (t : Int32) (key : Int32) (x : Int32) (hbad : m_isEv 0 t key 0 x = 0) : KI l D (tyL I C Q) yX9_judge wsX9_judge { frames := 2, cells := 0, slots := 0, locals := 46 } [.ref a0, .int t, .int key, .int x] (wM I a0 a1 a2 a3 a4 now kept st text len att num rd) (wM I a0 a1 a2 a3 a4 now kept st text len att num rd) (-1000001) := by
  refine KI.of (cc := cX9_judge) (maxL := 4) (rt := .int) (own := RX9) (by decide) rfl rfl (Nat.le_of_ble_eq_true rfl) ?_
  intro p e s m below meth c A Q0 ls hx hb hml hown hts hE hA hP hD hS hl hend
  have hK := hE.1
  have hF : CallFix p m c cX9_judge 4 s [.ref a0, .int t, .int key, .int x].toArray wsX9_judge RX9 := ⟨hx, hb, hml, hown, hts⟩
  have k0 := hts (.constant RX9 31 (-1000001)) (List.mem_of_getElem? (i := 1) rfl)
  have hl : lv_has ls 4 [(0, .ref a0), (1, .int t), (2, .int key), (3, .int x)] := hl
  refine lv_iconst (v := 0) hx hb dX9_judge_0 (by decide) ?_
  refine lv_iload_n hx hb dX9_judge_1 rfl (lv_at hl 1 rfl) ?_
  refine lv_iload_n hx hb dX9_judge_2 rfl (lv_at hl 2 rfl) ?_
  refine lv_iconst (v := 0) hx hb dX9_judge_3 (by decide) ?_
  refine lv_iload_n hx hb dX9_judge_4 rfl (lv_at hl 3 rfl) ?_
  refine k_i0 (va_runS (As := [.int 0, .int t, .int key, .int 0, .int x]) (rest := []) hF (c_X9_isEvent l D I C Q 0 t key 0 x _) (va_cwS 5 hts gX9_judge_X9_isEvent rfl rfl rfl (by decide +kernel) ⟨Nat.le_of_ble_eq_true rfl, Nat.le_of_ble_eq_true rfl⟩) (kPreS hE k_P0 (k_D0 (A := A))) rfl rfl hl.1 rfl (lv_room (Nat.le_of_ble_eq_true rfl)) dX9_judge_5 ⟨Nat.zero_le _, Nat.zero_le _⟩) hP hS hA (fun H locs hP hS => ?_)
  refine lv_if_eq (tgt := 21) hx hb dX9_judge_8 (by decide) (fun c_8 => ?_) (fun c_8 => ?_)
  · refine lv_ldc (v := (-1000001)) hx hb hown k0 dX9_judge_21 ?_
    exact hend _ _ _ _ _ _ hP hD hS dX9_judge_23 rfl rfl rfl
  · exact absurd hbad c_8
set_option maxHeartbeats 400000 in
set_option maxRecDepth 100000 in
theorem c_X9_judgeO (l : Launch) (D : va_G) (I C Q : ClassId) (a0 a1 a2 a3 a4 : Nat) (now : Nat → Int32) (kept : Nat → Int32) (st : Int32) (text : Nat → Int32) (len : Int32) (att : Int32) (num : Int32) (rd : Nat → Int32) (np : Nat) (sz : Nat) (t : Nat) (key : Int32) (x : Nat) (hnp : now 10 = nI np) (hn64 : np ≤ 64) (hsz : now 6 = nI sz) (hs0 : 0 < sz) (hs1 : sz ≤ 100) (ht : t < 2000) (hx3 : x ≤ 3) (hok : ¬ m_isEv 0 (nI t) key 0 (nI x) = 0) : KI l D (tyL I C Q) yX9_judge wsX9_judge { frames := 5, cells := 0, slots := 0, locals := 111 } [.ref a0, .int (nI t), .int key, .int (nI x)] (wM I a0 a1 a2 a3 a4 now kept st text len att num rd) (wM I a0 a1 a2 a3 a4 now kept st text len att num rd) (m_judge now t key x np sz) := by
  refine KI.of (cc := cX9_judge) (maxL := 4) (rt := .int) (own := RX9) (by decide) rfl rfl (Nat.le_of_ble_eq_true rfl) ?_
  intro p e s m below meth c A Q0 ls hx hb hml hown hts hE hA hP hD hS hl hend
  have hK := hE.1
  have hF : CallFix p m c cX9_judge 4 s [.ref a0, .int (nI t), .int key, .int (nI x)].toArray wsX9_judge RX9 := ⟨hx, hb, hml, hown, hts⟩
  have hl : lv_has ls 4 [(0, .ref a0), (1, .int (nI t)), (2, .int key), (3, .int (nI x))] := hl
  refine lv_iconst (v := 0) hx hb dX9_judge_0 (by decide) ?_
  refine lv_iload_n hx hb dX9_judge_1 rfl (lv_at hl 1 rfl) ?_
  refine lv_iload_n hx hb dX9_judge_2 rfl (lv_at hl 2 rfl) ?_
  refine lv_iconst (v := 0) hx hb dX9_judge_3 (by decide) ?_
  refine lv_iload_n hx hb dX9_judge_4 rfl (lv_at hl 3 rfl) ?_
  refine k_i0 (va_runS (As := [.int 0, .int (nI t), .int key, .int 0, .int (nI x)]) (rest := []) hF (c_X9_isEvent l D I C Q 0 (nI t) key 0 (nI x) _) (va_cwS 5 hts gX9_judge_X9_isEvent rfl rfl rfl (by decide +kernel) ⟨Nat.le_of_ble_eq_true rfl, Nat.le_of_ble_eq_true rfl⟩) (kPreS hE k_P0 (k_D0 (A := A))) rfl rfl hl.1 rfl (lv_room (Nat.le_of_ble_eq_true rfl)) dX9_judge_5 ⟨Nat.zero_le _, Nat.zero_le _⟩) hP hS hA (fun H locs hP hS => ?_)
  refine lv_if_eq (tgt := 21) hx hb dX9_judge_8 (by decide) (fun c_8 => ?_) (fun c_8 => ?_)
  · exact absurd c_8 hok
  · refine lv_aload_n hx hb dX9_judge_11 rfl (lv_at hl 0 rfl) ?_
    refine lv_iload_n hx hb dX9_judge_12 rfl (lv_at hl 1 rfl) ?_
    refine lv_iload_n hx hb dX9_judge_13 rfl (lv_at hl 2 rfl) ?_
    refine lv_iload_n hx hb dX9_judge_14 rfl (lv_at hl 3 rfl) ?_
    refine k_iF (va_runV (As := [.int (nI t), .int key, .int (nI x)]) (rest := []) hF (c_X9_judgeOf l D I C Q a0 a1 a2 a3 a4 now kept st text len att num rd np sz t key x hnp hn64 hsz hs0 hs1 ht hx3 _) (cwV 3 hts gX9_judge_X9_judgeOf rfl rfl rfl (by decide +kernel) ⟨Nat.le_of_ble_eq_true rfl, Nat.le_of_ble_eq_true rfl⟩) (kPreV hE hP hD (ci := 9) (q0 := 0) rfl rfl) rfl rfl hl.1 rfl (lv_room (Nat.le_of_ble_eq_true rfl)) dX9_judge_15 ⟨Nat.zero_le _, Nat.zero_le _⟩) hD hS hA (fun H locs hP hD hS => ?_)
    refine lv_goto (tgt := 23) hx hb dX9_judge_18 (by decide) ?_
    exact hend _ _ _ _ _ _ hP hD hS dX9_judge_23 rfl rfl rfl
set_option maxHeartbeats 400000 in
set_option maxRecDepth 100000 in
theorem c_X9_latenessB (l : Launch) (D : va_G) (I C Q : ClassId) (a0 a1 a2 a3 a4 : Nat) (now : Nat → Int32) (kept : Nat → Int32) (st : Int32) (text : Nat → Int32) (len : Int32) (att : Int32) (num : Int32) (rd : Nat → Int32) (t : Int32) (hbad : m_isIn t 0 1999 = 0) : KI l D (tyL I C Q) yX9_lateness wsX9_lateness { frames := 1, cells := 0, slots := 0, locals := 22 } [.ref a0, .int t] (wM I a0 a1 a2 a3 a4 now kept st text len att num rd) (wM I a0 a1 a2 a3 a4 now kept st text len att num rd) (-1000001) := by
  refine KI.of (cc := cX9_lateness) (maxL := 3) (rt := .int) (own := RX9) (by decide) rfl rfl (Nat.le_of_ble_eq_true rfl) ?_
  intro p e s m below meth c A Q0 ls hx hb hml hown hts hE hA hP hD hS hl hend
  have hK := hE.1
  have hF : CallFix p m c cX9_lateness 3 s [.ref a0, .int t].toArray wsX9_lateness RX9 := ⟨hx, hb, hml, hown, hts⟩
  have k0 := hts (.constant RX9 31 (-1000001)) (List.mem_of_getElem? (i := 1) rfl)
  have hl : lv_has ls 3 [(0, .ref a0), (1, .int t)] := hl
  refine lv_iload_n hx hb dX9_lateness_0 rfl (lv_at hl 1 rfl) ?_
  refine lv_iconst (v := 0) hx hb dX9_lateness_1 (by decide) ?_
  refine lv_sipush (v := 1999) hx hb dX9_lateness_2 (by decide) ?_
  refine k_i0 (va_runS (As := [.int t, .int 0, .int 1999]) (rest := []) hF (c_X9_isIn l D I C Q t 0 1999 _) (va_cwS 3 hts gX9_lateness_X9_isIn rfl rfl rfl (by decide +kernel) ⟨Nat.le_of_ble_eq_true rfl, Nat.le_of_ble_eq_true rfl⟩) (kPreS hE k_P0 (k_D0 (A := A))) rfl rfl hl.1 rfl (lv_room (Nat.le_of_ble_eq_true rfl)) dX9_lateness_5 ⟨Nat.zero_le _, Nat.zero_le _⟩) hP hS hA (fun H locs hP hS => ?_)
  refine lv_if_ne (tgt := 14) hx hb dX9_lateness_8 (by decide) (fun c_8 => ?_) (fun c_8 => ?_)
  · exact absurd hbad c_8
  · refine lv_ldc (v := (-1000001)) hx hb hown k0 dX9_lateness_11 ?_
    exact hend _ _ _ _ _ _ hP hD hS dX9_lateness_13 rfl rfl rfl
set_option maxHeartbeats 400000 in
set_option maxRecDepth 100000 in
theorem c_X9_latenessO (l : Launch) (D : va_G) (I C Q : ClassId) (a0 a1 a2 a3 a4 : Nat) (now : Nat → Int32) (kept : Nat → Int32) (st : Int32) (text : Nat → Int32) (len : Int32) (att : Int32) (num : Int32) (rd : Nat → Int32) (np : Nat) (sz : Nat) (t : Nat) (hnp : now 10 = nI np) (hn64 : np ≤ 64) (hsz : now 6 = nI sz) (hs0 : 0 < sz) (hs1 : sz ≤ 100) (ht : t < 2000) (hok : ¬ m_isIn (nI t) 0 1999 = 0) : KI l D (tyL I C Q) yX9_lateness wsX9_lateness { frames := 4, cells := 0, slots := 0, locals := 87 } [.ref a0, .int (nI t)] (wM I a0 a1 a2 a3 a4 now kept st text len att num rd) (wM I a0 a1 a2 a3 a4 now kept st text len att num rd) (m_lness now t np sz) := by
  have htz : t / sz ≤ t := Nat.div_le_self _ _
  refine KI.of (cc := cX9_lateness) (maxL := 3) (rt := .int) (own := RX9) (by decide) rfl rfl (Nat.le_of_ble_eq_true rfl) ?_
  intro p e s m below meth c A Q0 ls hx hb hml hown hts hE hA hP hD hS hl hend
  have hK := hE.1
  have hF : CallFix p m c cX9_lateness 3 s [.ref a0, .int (nI t)].toArray wsX9_lateness RX9 := ⟨hx, hb, hml, hown, hts⟩
  have k0 := hts (.constant RX9 119 (-1000004)) (List.mem_of_getElem? (i := 3) rfl)
  have k1 := hts (.fieldLink RX9 7 "LateExcusesModel" "now" "[I") (List.mem_of_getElem? (i := 2) rfl)
  have u9 : ∀ w ∈ u_ws RX9 TX9 8, w ∈ wsX9_lateness := by decide +kernel
  have hl : lv_has ls 3 [(0, .ref a0), (1, .int (nI t))] := hl
  refine lv_iload_n hx hb dX9_lateness_0 rfl (lv_at hl 1 rfl) ?_
  refine lv_iconst (v := 0) hx hb dX9_lateness_1 (by decide) ?_
  refine lv_sipush (v := 1999) hx hb dX9_lateness_2 (by decide) ?_
  refine k_i0 (va_runS (As := [.int (nI t), .int 0, .int 1999]) (rest := []) hF (c_X9_isIn l D I C Q (nI t) 0 1999 _) (va_cwS 3 hts gX9_lateness_X9_isIn rfl rfl rfl (by decide +kernel) ⟨Nat.le_of_ble_eq_true rfl, Nat.le_of_ble_eq_true rfl⟩) (kPreS hE k_P0 (k_D0 (A := A))) rfl rfl hl.1 rfl (lv_room (Nat.le_of_ble_eq_true rfl)) dX9_lateness_5 ⟨Nat.zero_le _, Nat.zero_le _⟩) hP hS hA (fun H locs hP hS => ?_)
  refine lv_if_ne (tgt := 14) hx hb dX9_lateness_8 (by decide) (fun c_8 => ?_) (fun c_8 => ?_)
  · refine lv_aload_n hx hb dX9_lateness_14 rfl (lv_at hl 0 rfl) ?_
    refine lv_iload_n hx hb dX9_lateness_15 rfl (lv_at hl 1 rfl) ?_
    refine k_iF (va_runV (As := [.int (nI t)]) (rest := []) hF (c_X9_paneAtN l D I C Q a0 a1 a2 a3 a4 now kept st text len att num rd sz t hsz hs0 hs1 ht _) (cwV 1 hts gX9_lateness_X9_paneAt rfl rfl rfl (by decide +kernel) ⟨Nat.le_of_ble_eq_true rfl, Nat.le_of_ble_eq_true rfl⟩) (kPreV hE hP hD (ci := 9) (q0 := 0) rfl rfl) rfl rfl hl.1 rfl (lv_room (Nat.le_of_ble_eq_true rfl)) dX9_lateness_16 ⟨Nat.zero_le _, Nat.zero_le _⟩) hD hS hA (fun H locs hP hD hS => ?_)
    refine lv_istore_n (lv' := [(2, .int (nI (t / sz))), (0, .ref a0), (1, .int (nI t))]) hx hb dX9_lateness_19 rfl hl (by decide) rfl (fun ls hl => ?_)
    refine lv_aload_n hx hb dX9_lateness_20 rfl (lv_at hl 1 rfl) ?_
    refine lv_iload_n hx hb dX9_lateness_21 rfl (lv_at hl 0 rfl) ?_
    refine k_iF (va_runV (As := [.int (nI (t / sz))]) (rest := []) hF (c_X9_isShut l D I C Q a0 a1 a2 a3 a4 now kept st text len att num rd np sz (t / sz) hnp hn64 hsz hs0 hs1 _) (cwV 1 hts gX9_lateness_X9_isShut rfl rfl rfl (by decide +kernel) ⟨Nat.le_of_ble_eq_true rfl, Nat.le_of_ble_eq_true rfl⟩) (kPreV hE hP hD (ci := 9) (q0 := 0) rfl rfl) rfl rfl hl.1 rfl (lv_room (Nat.le_of_ble_eq_true rfl)) dX9_lateness_22 ⟨Nat.zero_le _, Nat.zero_le _⟩) hD hS hA (fun H locs hP hD hS => ?_)
    refine lv_if_eq (tgt := 45) hx hb dX9_lateness_25 (by decide) (fun c_25 => ?_) (fun c_25 => ?_)
    · refine lv_ldc (v := (-1000004)) hx hb hown k0 dX9_lateness_45 ?_
      exact hend _ _ _ _ _ _ hP hD hS dX9_lateness_47 rfl rfl (by simp +decide only [m_lness, c_25, if_true, if_false, not_true_eq_false, not_false_eq_true, and_self, and_true, true_and, and_false, false_and, kn01, kn10, kn02, kn20, kn12, kn21, eq_self])
    · refine lv_aload_n hx hb dX9_lateness_28 rfl (lv_at hl 1 rfl) ?_
      refine va_get (D := D) (ci := 9) (v := .ref a1) (C := RX9) (T := TX9) (N := 8) hx hb hts u9 hown hK hP 0 rfl rfl 0 (by decide) k1 (fun _ h9 => h9) rfl dX9_lateness_29 ?_
      refine lv_iconst (v := 0) hx hb dX9_lateness_32 (by decide) ?_
      refine k_iald (j := 0) (v := (now 0)) hx hb hK hP 1 0 rfl rfl rfl (by decide) (by decide) rfl dX9_lateness_33 ?_
      refine lv_aload_n hx hb dX9_lateness_34 rfl (lv_at hl 1 rfl) ?_
      refine lv_iload_n hx hb dX9_lateness_35 rfl (lv_at hl 0 rfl) ?_
      refine k_iF (va_runV (As := [.int (nI (t / sz))]) (rest := [.int (now 0)]) hF (c_X9_endOfN l D I C Q a0 a1 a2 a3 a4 now kept st text len att num rd sz (t / sz) hsz hs0 hs1 _) (cwV 1 hts gX9_lateness_X9_endOf rfl rfl rfl (by decide +kernel) ⟨Nat.le_of_ble_eq_true rfl, Nat.le_of_ble_eq_true rfl⟩) (kPreV hE hP hD (ci := 9) (q0 := 0) rfl rfl) rfl rfl hl.1 rfl (lv_room (Nat.le_of_ble_eq_true rfl)) dX9_lateness_36 ⟨Nat.zero_le _, Nat.zero_le _⟩) hD hS hA (fun H locs hP hD hS => ?_)
      refine lv_isub hx hb dX9_lateness_39 ?_
      refine lv_iconst (v := 1) hx hb dX9_lateness_40 (by decide) ?_
      refine lv_iadd hx hb dX9_lateness_41 ?_
      refine lv_goto (tgt := 47) hx hb dX9_lateness_42 (by decide) ?_
      exact hend _ _ _ _ _ _ hP hD hS dX9_lateness_47 rfl rfl (by simp +decide only [m_lness, c_25, if_true, if_false, not_true_eq_false, not_false_eq_true, and_self, and_true, true_and, and_false, false_and, kn01, kn10, kn02, kn20, kn12, kn21, eq_self])
  · exact absurd c_8 hok
set_option maxHeartbeats 400000 in
set_option maxRecDepth 100000 in
theorem c_X9_latestExcusedB (l : Launch) (D : va_G) (I C Q : ClassId) (a0 a1 a2 a3 a4 : Nat) (now : Nat → Int32) (kept : Nat → Int32) (st : Int32) (text : Nat → Int32) (len : Int32) (att : Int32) (num : Int32) (rd : Nat → Int32) (key : Int32) (x : Int32) (hbad : m_isIn key 0 5 = 0 ∨ m_isIn x 1 3 = 0) : KI l D (tyL I C Q) yX9_latestExcused wsX9_latestExcused { frames := 1, cells := 0, slots := 0, locals := 22 } [.ref a0, .int key, .int x] (wM I a0 a1 a2 a3 a4 now kept st text len att num rd) (wM I a0 a1 a2 a3 a4 now kept st text len att num rd) (-1000001) := by
  refine KI.of (cc := cX9_latestExcused) (maxL := 4) (rt := .int) (own := RX9) (by decide) rfl rfl (Nat.le_of_ble_eq_true rfl) ?_
  intro p e s m below meth c A Q0 ls hx hb hml hown hts hE hA hP hD hS hl hend
  have hK := hE.1
  have hF : CallFix p m c cX9_latestExcused 4 s [.ref a0, .int key, .int x].toArray wsX9_latestExcused RX9 := ⟨hx, hb, hml, hown, hts⟩
  have k0 := hts (.constant RX9 31 (-1000001)) (List.mem_of_getElem? (i := 1) rfl)
  have hl : lv_has ls 4 [(0, .ref a0), (1, .int key), (2, .int x)] := hl
  refine lv_iload_n hx hb dX9_latestExcused_0 rfl (lv_at hl 1 rfl) ?_
  refine lv_iconst (v := 0) hx hb dX9_latestExcused_1 (by decide) ?_
  refine lv_iconst (v := 5) hx hb dX9_latestExcused_2 (by decide) ?_
  refine k_i0 (va_runS (As := [.int key, .int 0, .int 5]) (rest := []) hF (c_X9_isIn l D I C Q key 0 5 _) (va_cwS 3 hts gX9_latestExcused_X9_isIn rfl rfl rfl (by decide +kernel) ⟨Nat.le_of_ble_eq_true rfl, Nat.le_of_ble_eq_true rfl⟩) (kPreS hE k_P0 (k_D0 (A := A))) rfl rfl hl.1 rfl (lv_room (Nat.le_of_ble_eq_true rfl)) dX9_latestExcused_3 ⟨Nat.zero_le _, Nat.zero_le _⟩) hP hS hA (fun H locs hP hS => ?_)
  refine lv_if_eq (tgt := 18) hx hb dX9_latestExcused_6 (by decide) (fun c_6 => ?_) (fun c_6 => ?_)
  · refine lv_ldc (v := (-1000001)) hx hb hown k0 dX9_latestExcused_18 ?_
    exact hend _ _ _ _ _ _ hP hD hS dX9_latestExcused_20 rfl rfl rfl
  · refine lv_iload_n hx hb dX9_latestExcused_9 rfl (lv_at hl 2 rfl) ?_
    refine lv_iconst (v := 1) hx hb dX9_latestExcused_10 (by decide) ?_
    refine lv_iconst (v := 3) hx hb dX9_latestExcused_11 (by decide) ?_
    refine k_i0 (va_runS (As := [.int x, .int 1, .int 3]) (rest := []) hF (c_X9_isIn l D I C Q x 1 3 _) (va_cwS 3 hts gX9_latestExcused_X9_isIn rfl rfl rfl (by decide +kernel) ⟨Nat.le_of_ble_eq_true rfl, Nat.le_of_ble_eq_true rfl⟩) (kPreS hE k_P0 (k_D0 (A := A))) rfl rfl hl.1 rfl (lv_room (Nat.le_of_ble_eq_true rfl)) dX9_latestExcused_12 ⟨Nat.zero_le _, Nat.zero_le _⟩) hP hS hA (fun H locs hP hS => ?_)
    refine lv_if_ne (tgt := 21) hx hb dX9_latestExcused_15 (by decide) (fun c_15 => ?_) (fun c_15 => ?_)
    · exact (hbad.elim c_6 c_15).elim
    · refine lv_ldc (v := (-1000001)) hx hb hown k0 dX9_latestExcused_18 ?_
      exact hend _ _ _ _ _ _ hP hD hS dX9_latestExcused_20 rfl rfl rfl
set_option maxHeartbeats 400000 in
set_option maxRecDepth 100000 in
theorem c_X9_latestExcusedO (l : Launch) (D : va_G) (I C Q : ClassId) (a0 a1 a2 a3 a4 : Nat) (now : Nat → Int32) (kept : Nat → Int32) (st : Int32) (text : Nat → Int32) (len : Int32) (att : Int32) (num : Int32) (rd : Nat → Int32) (np : Nat) (sz : Nat) (key : Int32) (x : Int32) (hnp : now 10 = nI np) (hn64 : np ≤ 64) (hsz : now 6 = nI sz) (hs0 : 0 < sz) (hs1 : sz ≤ 100) (hok : ¬ m_isIn key 0 5 = 0) (hok2 : ¬ m_isIn x 1 3 = 0) : KI l D (tyL I C Q) yX9_latestExcused wsX9_latestExcused { frames := 4, cells := 0, slots := 0, locals := 87 } [.ref a0, .int key, .int x] (wM I a0 a1 a2 a3 a4 now kept st text len att num rd) (wM I a0 a1 a2 a3 a4 now kept st text len att num rd) (m_leL now key x np sz 2000) := by
  refine KI.of (cc := cX9_latestExcused) (maxL := 4) (rt := .int) (own := RX9) (by decide) rfl rfl (Nat.le_of_ble_eq_true rfl) ?_
  intro p e s m below meth c A Q0 ls hx hb hml hown hts hE hA hP hD hS hl hend
  have hK := hE.1
  have hF : CallFix p m c cX9_latestExcused 4 s [.ref a0, .int key, .int x].toArray wsX9_latestExcused RX9 := ⟨hx, hb, hml, hown, hts⟩
  have k0 := hts (.constant RX9 119 (-1000004)) (List.mem_of_getElem? (i := 2) rfl)
  have hl : lv_has ls 4 [(0, .ref a0), (1, .int key), (2, .int x)] := hl
  refine lv_iload_n hx hb dX9_latestExcused_0 rfl (lv_at hl 1 rfl) ?_
  refine lv_iconst (v := 0) hx hb dX9_latestExcused_1 (by decide) ?_
  refine lv_iconst (v := 5) hx hb dX9_latestExcused_2 (by decide) ?_
  refine k_i0 (va_runS (As := [.int key, .int 0, .int 5]) (rest := []) hF (c_X9_isIn l D I C Q key 0 5 _) (va_cwS 3 hts gX9_latestExcused_X9_isIn rfl rfl rfl (by decide +kernel) ⟨Nat.le_of_ble_eq_true rfl, Nat.le_of_ble_eq_true rfl⟩) (kPreS hE k_P0 (k_D0 (A := A))) rfl rfl hl.1 rfl (lv_room (Nat.le_of_ble_eq_true rfl)) dX9_latestExcused_3 ⟨Nat.zero_le _, Nat.zero_le _⟩) hP hS hA (fun H locs hP hS => ?_)
  refine lv_if_eq (tgt := 18) hx hb dX9_latestExcused_6 (by decide) (fun c_6 => ?_) (fun c_6 => ?_)
  · exact absurd c_6 hok
  · refine lv_iload_n hx hb dX9_latestExcused_9 rfl (lv_at hl 2 rfl) ?_
    refine lv_iconst (v := 1) hx hb dX9_latestExcused_10 (by decide) ?_
    refine lv_iconst (v := 3) hx hb dX9_latestExcused_11 (by decide) ?_
    refine k_i0 (va_runS (As := [.int x, .int 1, .int 3]) (rest := []) hF (c_X9_isIn l D I C Q x 1 3 _) (va_cwS 3 hts gX9_latestExcused_X9_isIn rfl rfl rfl (by decide +kernel) ⟨Nat.le_of_ble_eq_true rfl, Nat.le_of_ble_eq_true rfl⟩) (kPreS hE k_P0 (k_D0 (A := A))) rfl rfl hl.1 rfl (lv_room (Nat.le_of_ble_eq_true rfl)) dX9_latestExcused_12 ⟨Nat.zero_le _, Nat.zero_le _⟩) hP hS hA (fun H locs hP hS => ?_)
    refine lv_if_ne (tgt := 21) hx hb dX9_latestExcused_15 (by decide) (fun c_15 => ?_) (fun c_15 => ?_)
    · refine lv_sipush (v := 1999) hx hb dX9_latestExcused_21 (by decide) ?_
      refine lv_istore_n (lv' := [(3, .int 1999), (0, .ref a0), (1, .int key), (2, .int x)]) hx hb dX9_latestExcused_24 rfl hl (by decide) rfl (fun ls hl => ?_)
      have loop25 : ∀ (n : Nat), (n ≤ 2000) → ∀ (H : Heap) (locs : List Loc) (ls : Array Slot), va_P D vwCl (wM I a0 a1 a2 a3 a4 now kept st text len att num rd) H → va_D A (wM I a0 a1 a2 a3 a4 now kept st text len att num rd) → va_S A s.heap H locs → lv_has ls 4 [(0, .ref a0), (1, .int key), (2, .int x), (3, .int (nI n - 1))] → (m_leL now key x np sz n = m_leL now key x np sz 2000) → W p l e ({ frames := 4, cells := 0, slots := 0, locals := 87 } : Room) s m [.ref a0, .int key, .int x].toArray below meth c H locs 0 0 Q0 (F0 m 25 ls []) := by
        intro n
        induction n with
        | zero =>
          intro hn2 H locs ls hP hD hS hl hr
          have hl : lv_has ls 4 [(0, .ref a0), (1, .int key), (2, .int x), (3, .int (-1))] := by rw [show nI 0 - 1 = -1 from by decide] at hl; exact hl
          refine lv_iload_n hx hb dX9_latestExcused_25 rfl (lv_at hl 3 rfl) ?_
          refine lv_if_lt (tgt := 59) hx hb dX9_latestExcused_26 (by decide) (fun c_26 => ?_) (fun c_26 => ?_)
          · refine lv_ldc (v := (-1000004)) hx hb hown k0 dX9_latestExcused_59 ?_
            exact hend _ _ _ _ _ _ hP hD hS dX9_latestExcused_61 rfl rfl (by rw [← hr]; simp +decide only [m_leL, if_true, if_false, not_true_eq_false, not_false_eq_true, and_self, and_true, true_and, and_false, false_and, kn01, kn10, kn02, kn20, kn12, kn21, eq_self])
          · exact (c_26 (by decide)).elim
        | succ n ih =>
          intro hn2 H locs ls hP hD hS hl hr
          have hl : lv_has ls 4 [(0, .ref a0), (1, .int key), (2, .int x), (3, .int (nI n))] := by rw [nI_pred] at hl; exact hl
          have hnz : n / sz ≤ n := Nat.div_le_self _ _
          refine lv_iload_n hx hb dX9_latestExcused_25 rfl (lv_at hl 3 rfl) ?_
          refine lv_if_lt (tgt := 59) hx hb dX9_latestExcused_26 (by decide) (fun c_26 => ?_) (fun c_26 => ?_)
          · exact absurd c_26 (nI_pos (by omega))
          · refine lv_aload_n hx hb dX9_latestExcused_29 rfl (lv_at hl 0 rfl) ?_
            refine lv_aload_n hx hb dX9_latestExcused_30 rfl (lv_at hl 0 rfl) ?_
            refine lv_iload_n hx hb dX9_latestExcused_31 rfl (lv_at hl 3 rfl) ?_
            refine k_iF (va_runV (As := [.int (nI n)]) (rest := [.ref a0]) hF (c_X9_paneAtN l D I C Q a0 a1 a2 a3 a4 now kept st text len att num rd sz n hsz hs0 hs1 (by omega) _) (cwV 1 hts gX9_latestExcused_X9_paneAt rfl rfl rfl (by decide +kernel) ⟨Nat.le_of_ble_eq_true rfl, Nat.le_of_ble_eq_true rfl⟩) (kPreV hE hP hD (ci := 9) (q0 := 0) rfl rfl) rfl rfl hl.1 rfl (lv_room (Nat.le_of_ble_eq_true rfl)) dX9_latestExcused_32 ⟨Nat.zero_le _, Nat.zero_le _⟩) hD hS hA (fun H locs hP hD hS => ?_)
            refine k_iF (va_runV (As := [.int (nI (n / sz))]) (rest := []) hF (c_X9_isShut l D I C Q a0 a1 a2 a3 a4 now kept st text len att num rd np sz (n / sz) hnp hn64 hsz hs0 hs1 _) (cwV 1 hts gX9_latestExcused_X9_isShut rfl rfl rfl (by decide +kernel) ⟨Nat.le_of_ble_eq_true rfl, Nat.le_of_ble_eq_true rfl⟩) (kPreV hE hP hD (ci := 9) (q0 := 0) rfl rfl) rfl rfl hl.1 rfl (lv_room (Nat.le_of_ble_eq_true rfl)) dX9_latestExcused_35 ⟨Nat.zero_le _, Nat.zero_le _⟩) hD hS hA (fun H locs hP hD hS => ?_)
            refine lv_if_eq (tgt := 53) hx hb dX9_latestExcused_38 (by decide) (fun c_38 => ?_) (fun c_38 => ?_)
            · refine lv_iinc (v := nI n - 1) (lv' := [(3, .int (nI n - 1)), (0, .ref a0), (1, .int key), (2, .int x)]) hx hb dX9_latestExcused_53 hl (k := 3) rfl (k_dec n) (by decide) rfl (fun ls hl => ?_)
              refine lv_goto (tgt := 25) hx hb dX9_latestExcused_56 (by decide) ?_
              exact ih  (by omega) _ _ _ hP hD hS (lv_sub hl [1, 2, 3, 0] rfl) (by rw [← hr]; simp +decide only [m_leL, c_26, c_38, if_true, if_false, not_true_eq_false, not_false_eq_true, and_self, and_true, true_and, and_false, false_and, kn01, kn10, kn02, kn20, kn12, kn21, eq_self])
            · refine lv_aload_n hx hb dX9_latestExcused_41 rfl (lv_at hl 0 rfl) ?_
              refine lv_iload_n hx hb dX9_latestExcused_42 rfl (lv_at hl 3 rfl) ?_
              refine lv_iload_n hx hb dX9_latestExcused_43 rfl (lv_at hl 1 rfl) ?_
              refine lv_iload_n hx hb dX9_latestExcused_44 rfl (lv_at hl 2 rfl) ?_
              refine k_iF (va_runV (As := [.int (nI n), .int key, .int x]) (rest := []) hF (c_X9_isExcuse l D I C Q a0 a1 a2 a3 a4 now kept st text len att num rd sz n key x hsz hs0 hs1 (by omega) _) (cwV 3 hts gX9_latestExcused_X9_isExcuse rfl rfl rfl (by decide +kernel) ⟨Nat.le_of_ble_eq_true rfl, Nat.le_of_ble_eq_true rfl⟩) (kPreV hE hP hD (ci := 9) (q0 := 0) rfl rfl) rfl rfl hl.1 rfl (lv_room (Nat.le_of_ble_eq_true rfl)) dX9_latestExcused_45 ⟨Nat.zero_le _, Nat.zero_le _⟩) hD hS hA (fun H locs hP hD hS => ?_)
              refine lv_if_eq (tgt := 53) hx hb dX9_latestExcused_48 (by decide) (fun c_48 => ?_) (fun c_48 => ?_)
              · refine lv_iinc (v := nI n - 1) (lv' := [(3, .int (nI n - 1)), (0, .ref a0), (1, .int key), (2, .int x)]) hx hb dX9_latestExcused_53 hl (k := 3) rfl (k_dec n) (by decide) rfl (fun ls hl => ?_)
                refine lv_goto (tgt := 25) hx hb dX9_latestExcused_56 (by decide) ?_
                exact ih  (by omega) _ _ _ hP hD hS (lv_sub hl [1, 2, 3, 0] rfl) (by rw [← hr]; simp +decide only [m_leL, c_26, c_38, c_48, if_true, if_false, not_true_eq_false, not_false_eq_true, and_self, and_true, true_and, and_false, false_and, kn01, kn10, kn02, kn20, kn12, kn21, eq_self])
              · refine lv_iload_n hx hb dX9_latestExcused_51 rfl (lv_at hl 3 rfl) ?_
                exact hend _ _ _ _ _ _ hP hD hS dX9_latestExcused_52 rfl rfl (by rw [← hr]; simp +decide only [m_leL, c_38, c_48, if_true, if_false, not_true_eq_false, not_false_eq_true, and_self, and_true, true_and, and_false, false_and, kn01, kn10, kn02, kn20, kn12, kn21, eq_self])
      rw [show (1999 : Int32) = nI 2000 - 1 from by decide] at hl
      exact loop25 2000 (by omega) _ _ _ hP hD hS (lv_sub hl [1, 2, 3, 0] rfl) rfl
    · exact absurd c_15 hok2
