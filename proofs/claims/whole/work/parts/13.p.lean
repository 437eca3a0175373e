set_option maxHeartbeats 400000 in
set_option maxRecDepth 100000 in
theorem c_X9_filedB (l : Launch) (D : va_G) (I C Q : ClassId) (a0 a1 a2 a3 a4 : Nat) (now : Nat → Int32) (kept : Nat → Int32) (st : Int32) (text : Nat → Int32) (len : Int32) (att : Int32) (num : Int32) (rd : Nat → Int32) (x : Int32) (w : Int32) (hbad : m_isIn x 0 2 = 0 ∨ m_isIn w 0 3 = 0) : KI l D (tyL I C Q) yX9_filed wsX9_filed { frames := 1, cells := 0, slots := 0, locals := 22 } [.ref a0, .int x, .int w] (wM I a0 a1 a2 a3 a4 now kept st text len att num rd) (wM I a0 a1 a2 a3 a4 now kept st text len att num rd) (-1000001) := by
  refine KI.of (cc := cX9_filed) (maxL := 4) (rt := .int) (own := RX9) (by decide) rfl rfl (Nat.le_of_ble_eq_true rfl) ?_
  intro p e s m below meth c A Q0 ls hx hb hml hown hts hE hA hP hD hS hl hend
  have hK := hE.1
  have hF : CallFix p m c cX9_filed 4 s [.ref a0, .int x, .int w].toArray wsX9_filed RX9 := ⟨hx, hb, hml, hown, hts⟩
  have k0 := hts (.constant RX9 31 (-1000001)) (List.mem_of_getElem? (i := 1) rfl)
  have hl : lv_has ls 4 [(0, .ref a0), (1, .int x), (2, .int w)] := hl
  refine lv_iload_n hx hb dX9_filed_0 rfl (lv_at hl 1 rfl) ?_
  refine lv_iconst (v := 0) hx hb dX9_filed_1 (by decide) ?_
  refine lv_iconst (v := 2) hx hb dX9_filed_2 (by decide) ?_
  refine k_i0 (va_runS (As := [.int x, .int 0, .int 2]) (rest := []) hF (c_X9_isIn l D I C Q x 0 2 _) (va_cwS 3 hts gX9_filed_X9_isIn rfl rfl rfl (by decide +kernel) ⟨Nat.le_of_ble_eq_true rfl, Nat.le_of_ble_eq_true rfl⟩) (kPreS hE k_P0 (k_D0 (A := A))) rfl rfl hl.1 rfl (lv_room (Nat.le_of_ble_eq_true rfl)) dX9_filed_3 ⟨Nat.zero_le _, Nat.zero_le _⟩) hP hS hA (fun H locs hP hS => ?_)
  refine lv_if_eq (tgt := 18) hx hb dX9_filed_6 (by decide) (fun c_6 => ?_) (fun c_6 => ?_)
  · refine lv_ldc (v := (-1000001)) hx hb hown k0 dX9_filed_18 ?_
    exact hend _ _ _ _ _ _ hP hD hS dX9_filed_20 rfl rfl rfl
  · refine lv_iload_n hx hb dX9_filed_9 rfl (lv_at hl 2 rfl) ?_
    refine lv_iconst (v := 0) hx hb dX9_filed_10 (by decide) ?_
    refine lv_iconst (v := 3) hx hb dX9_filed_11 (by decide) ?_
    refine k_i0 (va_runS (As := [.int w, .int 0, .int 3]) (rest := []) hF (c_X9_isIn l D I C Q w 0 3 _) (va_cwS 3 hts gX9_filed_X9_isIn rfl rfl rfl (by decide +kernel) ⟨Nat.le_of_ble_eq_true rfl, Nat.le_of_ble_eq_true rfl⟩) (kPreS hE k_P0 (k_D0 (A := A))) rfl rfl hl.1 rfl (lv_room (Nat.le_of_ble_eq_true rfl)) dX9_filed_12 ⟨Nat.zero_le _, Nat.zero_le _⟩) hP hS hA (fun H locs hP hS => ?_)
    refine lv_if_ne (tgt := 21) hx hb dX9_filed_15 (by decide) (fun c_15 => ?_) (fun c_15 => ?_)
    · exact (hbad.elim c_6 c_15).elim
    · refine lv_ldc (v := (-1000001)) hx hb hown k0 dX9_filed_18 ?_
      exact hend _ _ _ _ _ _ hP hD hS dX9_filed_20 rfl rfl rfl
set_option maxHeartbeats 400000 in
set_option maxRecDepth 100000 in
theorem c_X9_filedO (l : Launch) (D : va_G) (I C Q : ClassId) (a0 a1 a2 a3 a4 : Nat) (now : Nat → Int32) (kept : Nat → Int32) (st : Int32) (text : Nat → Int32) (len : Int32) (att : Int32) (num : Int32) (rd : Nat → Int32) (cab : Nat) (pl : Nat) (hok : ¬ m_isIn (nI cab) 0 2 = 0) (hok2 : ¬ m_isIn (nI pl) 0 3 = 0) (hc : cab < 3) (hp : pl < 4) : KI l D (tyL I C Q) yX9_filed wsX9_filed { frames := 1, cells := 0, slots := 0, locals := 22 } [.ref a0, .int (nI cab), .int (nI pl)] (wM I a0 a1 a2 a3 a4 now kept st text len att num rd) (wM I a0 a1 a2 a3 a4 now kept st text len att num rd) (m_filed now cab pl) := by
  refine KI.of (cc := cX9_filed) (maxL := 4) (rt := .int) (own := RX9) (by decide) rfl rfl (Nat.le_of_ble_eq_true rfl) ?_
  intro p e s m below meth c A Q0 ls hx hb hml hown hts hE hA hP hD hS hl hend
  have hK := hE.1
  have hF : CallFix p m c cX9_filed 4 s [.ref a0, .int (nI cab), .int (nI pl)].toArray wsX9_filed RX9 := ⟨hx, hb, hml, hown, hts⟩
  have k0 := hts (.fieldLink RX9 7 "LateExcusesModel" "now" "[I") (List.mem_of_getElem? (i := 2) rfl)
  have k1 := hts (.constant RX9 119 (-1000004)) (List.mem_of_getElem? (i := 3) rfl)
  have u9 : ∀ w ∈ u_ws RX9 TX9 8, w ∈ wsX9_filed := by decide +kernel
  have hl : lv_has ls 4 [(0, .ref a0), (1, .int (nI cab)), (2, .int (nI pl))] := hl
  refine lv_iload_n hx hb dX9_filed_0 rfl (lv_at hl 1 rfl) ?_
  refine lv_iconst (v := 0) hx hb dX9_filed_1 (by decide) ?_
  refine lv_iconst (v := 2) hx hb dX9_filed_2 (by decide) ?_
  refine k_i0 (va_runS (As := [.int (nI cab), .int 0, .int 2]) (rest := []) hF (c_X9_isIn l D I C Q (nI cab) 0 2 _) (va_cwS 3 hts gX9_filed_X9_isIn rfl rfl rfl (by decide +kernel) ⟨Nat.le_of_ble_eq_true rfl, Nat.le_of_ble_eq_true rfl⟩) (kPreS hE k_P0 (k_D0 (A := A))) rfl rfl hl.1 rfl (lv_room (Nat.le_of_ble_eq_true rfl)) dX9_filed_3 ⟨Nat.zero_le _, Nat.zero_le _⟩) hP hS hA (fun H locs hP hS => ?_)
  refine lv_if_eq (tgt := 18) hx hb dX9_filed_6 (by decide) (fun c_6 => ?_) (fun c_6 => ?_)
  · exact absurd c_6 hok
  · refine lv_iload_n hx hb dX9_filed_9 rfl (lv_at hl 2 rfl) ?_
    refine lv_iconst (v := 0) hx hb dX9_filed_10 (by decide) ?_
    refine lv_iconst (v := 3) hx hb dX9_filed_11 (by decide) ?_
    refine k_i0 (va_runS (As := [.int (nI pl), .int 0, .int 3]) (rest := []) hF (c_X9_isIn l D I C Q (nI pl) 0 3 _) (va_cwS 3 hts gX9_filed_X9_isIn rfl rfl rfl (by decide +kernel) ⟨Nat.le_of_ble_eq_true rfl, Nat.le_of_ble_eq_true rfl⟩) (kPreS hE k_P0 (k_D0 (A := A))) rfl rfl hl.1 rfl (lv_room (Nat.le_of_ble_eq_true rfl)) dX9_filed_12 ⟨Nat.zero_le _, Nat.zero_le _⟩) hP hS hA (fun H locs hP hS => ?_)
    refine lv_if_ne (tgt := 21) hx hb dX9_filed_15 (by decide) (fun c_15 => ?_) (fun c_15 => ?_)
    · refine lv_aload_n hx hb dX9_filed_21 rfl (lv_at hl 0 rfl) ?_
      refine va_get (D := D) (ci := 9) (v := .ref a1) (C := RX9) (T := TX9) (N := 8) hx hb hts u9 hown hK hP 0 rfl rfl 0 (by decide) k0 (fun _ h9 => h9) rfl dX9_filed_22 ?_
      refine lv_sipush (v := 1068) hx hb dX9_filed_25 (by decide) ?_
      refine lv_iconst (v := 4) hx hb dX9_filed_28 (by decide) ?_
      refine lv_iload_n hx hb dX9_filed_29 rfl (lv_at hl 1 rfl) ?_
      refine k_imul (v := nI (4 * cab)) hx hb dX9_filed_30 (k_mul 4 cab) ?_
      refine k_iadd (v := nI (1068 + 4 * cab)) hx hb dX9_filed_31 (nI_add 1068 (4 * cab)) ?_
      refine lv_iload_n hx hb dX9_filed_32 rfl (lv_at hl 2 rfl) ?_
      refine k_iadd (v := nI (1068 + 4 * cab + pl)) hx hb dX9_filed_33 (nI_add (1068 + 4 * cab) pl) ?_
      refine k_iald (j := 1068 + 4 * cab + pl) (v := (now (1068 + 4 * cab + pl))) hx hb hK hP 1 0 rfl rfl rfl (by omega) (by decide) rfl dX9_filed_34 ?_
      refine lv_istore_n (lv' := [(3, .int (now (1068 + 4 * cab + pl))), (0, .ref a0), (1, .int (nI cab)), (2, .int (nI pl))]) hx hb dX9_filed_35 rfl hl (by decide) rfl (fun ls hl => ?_)
      refine lv_iload_n hx hb dX9_filed_36 rfl (lv_at hl 0 rfl) ?_
      refine lv_if_ne (tgt := 45) hx hb dX9_filed_37 (by decide) (fun c_37 => ?_) (fun c_37 => ?_)
      · refine lv_iload_n hx hb dX9_filed_45 rfl (lv_at hl 0 rfl) ?_
        refine lv_iconst (v := 1) hx hb dX9_filed_46 (by decide) ?_
        refine lv_isub hx hb dX9_filed_47 ?_
        exact hend _ _ _ _ _ _ hP hD hS dX9_filed_48 rfl rfl (by simp +decide only [m_filed, c_37, if_true, if_false, not_true_eq_false, not_false_eq_true, and_self, and_true, true_and, and_false, false_and, kn01, kn10, kn02, kn20, kn12, kn21, eq_self])
      · refine lv_ldc (v := (-1000004)) hx hb hown k1 dX9_filed_40 ?_
        refine lv_goto (tgt := 48) hx hb dX9_filed_42 (by decide) ?_
        exact hend _ _ _ _ _ _ hP hD hS dX9_filed_48 rfl rfl (by simp +decide only [m_filed, c_37, if_true, if_false, not_true_eq_false, not_false_eq_true, and_self, and_true, true_and, and_false, false_and, kn01, kn10, kn02, kn20, kn12, kn21, eq_self])
    · exact absurd c_15 hok2
set_option maxHeartbeats 400000 in
set_option maxRecDepth 100000 in
theorem c_X9_countB (l : Launch) (D : va_G) (I C Q : ClassId) (a0 a1 a2 a3 a4 : Nat) (now : Nat → Int32) (kept : Nat → Int32) (st : Int32) (text : Nat → Int32) (len : Int32) (att : Int32) (num : Int32) (rd : Nat → Int32) (x : Int32) (hbad : m_isIn x 20 22 = 0) (hbad2 : x < 0 ∨ 13 < x) : KI l D (tyL I C Q) yX9_count wsX9_count { frames := 1, cells := 0, slots := 0, locals := 22 } [.ref a0, .int x] (wM I a0 a1 a2 a3 a4 now kept st text len att num rd) (wM I a0 a1 a2 a3 a4 now kept st text len att num rd) (-1000001) := by
  refine KI.of (cc := cX9_count) (maxL := 2) (rt := .int) (own := RX9) (by decide) rfl rfl (Nat.le_of_ble_eq_true rfl) ?_
  intro p e s m below meth c A Q0 ls hx hb hml hown hts hE hA hP hD hS hl hend
  have hK := hE.1
  have hF : CallFix p m c cX9_count 2 s [.ref a0, .int x].toArray wsX9_count RX9 := ⟨hx, hb, hml, hown, hts⟩
  have k0 := hts (.constant RX9 31 (-1000001)) (List.mem_of_getElem? (i := 4) rfl)
  have hl : lv_has ls 2 [(0, .ref a0), (1, .int x)] := hl
  refine lv_iload_n hx hb dX9_count_0 rfl (lv_at hl 1 rfl) ?_
  refine lv_bipush (v := 20) hx hb dX9_count_1 (by decide) ?_
  refine lv_bipush (v := 22) hx hb dX9_count_3 (by decide) ?_
  refine k_i0 (va_runS (As := [.int x, .int 20, .int 22]) (rest := []) hF (c_X9_isIn l D I C Q x 20 22 _) (va_cwS 3 hts gX9_count_X9_isIn rfl rfl rfl (by decide +kernel) ⟨Nat.le_of_ble_eq_true rfl, Nat.le_of_ble_eq_true rfl⟩) (kPreS hE k_P0 (k_D0 (A := A))) rfl rfl hl.1 rfl (lv_room (Nat.le_of_ble_eq_true rfl)) dX9_count_5 ⟨Nat.zero_le _, Nat.zero_le _⟩) hP hS hA (fun H locs hP hS => ?_)
  refine lv_if_eq (tgt := 24) hx hb dX9_count_8 (by decide) (fun c_8 => ?_) (fun c_8 => ?_)
  · refine lv_iload_n hx hb dX9_count_24 rfl (lv_at hl 1 rfl) ?_
    refine lv_tableOut (tgt := 189) hx hb dX9_count_25 (k_swOut (by decide) (by decide) hbad2) (by decide) ?_
    refine lv_ldc (v := (-1000001)) hx hb hown k0 dX9_count_189 ?_
    exact hend _ _ _ _ _ _ hP hD hS dX9_count_191 rfl rfl rfl
  · exact absurd hbad c_8
set_option maxHeartbeats 400000 in
set_option maxRecDepth 100000 in
theorem c_X9_countO (l : Launch) (D : va_G) (I C Q : ClassId) (a0 a1 a2 a3 a4 : Nat) (now : Nat → Int32) (kept : Nat → Int32) (ns : Nat) (text : Nat → Int32) (L : Nat) (att : Int32) (num : Int32) (rd : Nat → Int32) (np : Nat) (w : Nat) (hnp : now 10 = nI np) (hn64 : np ≤ 64) (hw : w < 14 ∨ (20 ≤ w ∧ w < 23)) : KI l D (tyL I C Q) yX9_count wsX9_count { frames := 2, cells := 0, slots := 0, locals := 46 } [.ref a0, .int (nI w)] (wM I a0 a1 a2 a3 a4 now kept (nI ns) text (nI L) att num rd) (wM I a0 a1 a2 a3 a4 now kept (nI ns) text (nI L) att num rd) (m_count now ns L np w) := by
  refine KI.of (cc := cX9_count) (maxL := 2) (rt := .int) (own := RX9) (by decide) rfl rfl (Nat.le_of_ble_eq_true rfl) ?_
  intro p e s m below meth c A Q0 ls hx hb hml hown hts hE hA hP hD hS hl hend
  have hK := hE.1
  have hF : CallFix p m c cX9_count 2 s [.ref a0, .int (nI w)].toArray wsX9_count RX9 := ⟨hx, hb, hml, hown, hts⟩
  have k0 := hts (.fieldLink RX9 7 "LateExcusesModel" "now" "[I") (List.mem_of_getElem? (i := 1) rfl)
  have k1 := hts (.fieldLink RX9 22 "LateExcusesModel" "states" "I") (List.mem_of_getElem? (i := 2) rfl)
  have k2 := hts (.fieldLink RX9 134 "LateExcusesModel" "length" "I") (List.mem_of_getElem? (i := 3) rfl)
  have u9 : ∀ w ∈ u_ws RX9 TX9 8, w ∈ wsX9_count := by decide +kernel
  have hl : lv_has ls 2 [(0, .ref a0), (1, .int (nI w))] := hl
  rcases (show w = 0 ∨ w = 1 ∨ w = 2 ∨ w = 3 ∨ w = 4 ∨ w = 5 ∨ w = 6 ∨ w = 7 ∨ w = 8 ∨ w = 9 ∨ w = 10 ∨ w = 11 ∨ w = 12 ∨ w = 13 ∨ w = 20 ∨ w = 21 ∨ w = 22 by omega) with rfl | rfl | rfl | rfl | rfl | rfl | rfl | rfl | rfl | rfl | rfl | rfl | rfl | rfl | rfl | rfl | rfl
  · have hl : lv_has ls 2 [(0, .ref a0), (1, .int 0)] := hl
    refine lv_iload_n hx hb dX9_count_0 rfl (lv_at hl 1 rfl) ?_
    refine lv_bipush (v := 20) hx hb dX9_count_1 (by decide) ?_
    refine lv_bipush (v := 22) hx hb dX9_count_3 (by decide) ?_
    refine k_i0 (va_runS (As := [.int 0, .int 20, .int 22]) (rest := []) hF (c_X9_isIn l D I C Q 0 20 22 _) (va_cwS 3 hts gX9_count_X9_isIn rfl rfl rfl (by decide +kernel) ⟨Nat.le_of_ble_eq_true rfl, Nat.le_of_ble_eq_true rfl⟩) (kPreS hE k_P0 (k_D0 (A := A))) rfl rfl hl.1 rfl (lv_room (Nat.le_of_ble_eq_true rfl)) dX9_count_5 ⟨Nat.zero_le _, Nat.zero_le _⟩) hP hS hA (fun H locs hP hS => ?_)
    refine lv_if_eq (tgt := 24) hx hb dX9_count_8 (by decide) (fun c_8 => ?_) (fun c_8 => ?_)
    · refine lv_iload_n hx hb dX9_count_24 rfl (lv_at hl 1 rfl) ?_
      refine lv_tableIn (off := 71) (tgt := 96) hx hb dX9_count_25 (by decide) (by decide) (by decide) (by decide) ?_
      refine lv_aload_n hx hb dX9_count_96 rfl (lv_at hl 0 rfl) ?_
      refine lv_iconst (v := 0) hx hb dX9_count_97 (by decide) ?_
      refine lv_iconst (v := 3) hx hb dX9_count_98 (by decide) ?_
      refine k_iF (va_runV (As := [.int 0, .int 3]) (rest := []) hF (c_X9_results l D I C Q a0 a1 a2 a3 a4 now kept (nI ns) text (nI L) att num rd 0 3 _) (cwV 2 hts gX9_count_X9_results rfl rfl rfl (by decide +kernel) ⟨Nat.le_of_ble_eq_true rfl, Nat.le_of_ble_eq_true rfl⟩) (kPreV hE hP hD (ci := 9) (q0 := 0) rfl rfl) rfl rfl hl.1 rfl (lv_room (Nat.le_of_ble_eq_true rfl)) dX9_count_99 ⟨Nat.zero_le _, Nat.zero_le _⟩) hD hS hA (fun H locs hP hD hS => ?_)
      exact hend _ _ _ _ _ _ hP hD hS dX9_count_102 rfl rfl rfl
    · exact absurd (by decide) c_8
  · have hl : lv_has ls 2 [(0, .ref a0), (1, .int 1)] := hl
    refine lv_iload_n hx hb dX9_count_0 rfl (lv_at hl 1 rfl) ?_
    refine lv_bipush (v := 20) hx hb dX9_count_1 (by decide) ?_
    refine lv_bipush (v := 22) hx hb dX9_count_3 (by decide) ?_
    refine k_i0 (va_runS (As := [.int 1, .int 20, .int 22]) (rest := []) hF (c_X9_isIn l D I C Q 1 20 22 _) (va_cwS 3 hts gX9_count_X9_isIn rfl rfl rfl (by decide +kernel) ⟨Nat.le_of_ble_eq_true rfl, Nat.le_of_ble_eq_true rfl⟩) (kPreS hE k_P0 (k_D0 (A := A))) rfl rfl hl.1 rfl (lv_room (Nat.le_of_ble_eq_true rfl)) dX9_count_5 ⟨Nat.zero_le _, Nat.zero_le _⟩) hP hS hA (fun H locs hP hS => ?_)
    refine lv_if_eq (tgt := 24) hx hb dX9_count_8 (by decide) (fun c_8 => ?_) (fun c_8 => ?_)
    · refine lv_iload_n hx hb dX9_count_24 rfl (lv_at hl 1 rfl) ?_
      refine lv_tableIn (off := 78) (tgt := 103) hx hb dX9_count_25 (by decide) (by decide) (by decide) (by decide) ?_
      refine lv_aload_n hx hb dX9_count_103 rfl (lv_at hl 0 rfl) ?_
      refine lv_iconst (v := 0) hx hb dX9_count_104 (by decide) ?_
      refine lv_iconst (v := 1) hx hb dX9_count_105 (by decide) ?_
      refine k_iF (va_runV (As := [.int 0, .int 1]) (rest := []) hF (c_X9_results l D I C Q a0 a1 a2 a3 a4 now kept (nI ns) text (nI L) att num rd 0 1 _) (cwV 2 hts gX9_count_X9_results rfl rfl rfl (by decide +kernel) ⟨Nat.le_of_ble_eq_true rfl, Nat.le_of_ble_eq_true rfl⟩) (kPreV hE hP hD (ci := 9) (q0 := 0) rfl rfl) rfl rfl hl.1 rfl (lv_room (Nat.le_of_ble_eq_true rfl)) dX9_count_106 ⟨Nat.zero_le _, Nat.zero_le _⟩) hD hS hA (fun H locs hP hD hS => ?_)
      exact hend _ _ _ _ _ _ hP hD hS dX9_count_109 rfl rfl rfl
    · exact absurd (by decide) c_8
  · have hl : lv_has ls 2 [(0, .ref a0), (1, .int 2)] := hl
    refine lv_iload_n hx hb dX9_count_0 rfl (lv_at hl 1 rfl) ?_
    refine lv_bipush (v := 20) hx hb dX9_count_1 (by decide) ?_
    refine lv_bipush (v := 22) hx hb dX9_count_3 (by decide) ?_
    refine k_i0 (va_runS (As := [.int 2, .int 20, .int 22]) (rest := []) hF (c_X9_isIn l D I C Q 2 20 22 _) (va_cwS 3 hts gX9_count_X9_isIn rfl rfl rfl (by decide +kernel) ⟨Nat.le_of_ble_eq_true rfl, Nat.le_of_ble_eq_true rfl⟩) (kPreS hE k_P0 (k_D0 (A := A))) rfl rfl hl.1 rfl (lv_room (Nat.le_of_ble_eq_true rfl)) dX9_count_5 ⟨Nat.zero_le _, Nat.zero_le _⟩) hP hS hA (fun H locs hP hS => ?_)
    refine lv_if_eq (tgt := 24) hx hb dX9_count_8 (by decide) (fun c_8 => ?_) (fun c_8 => ?_)
    · refine lv_iload_n hx hb dX9_count_24 rfl (lv_at hl 1 rfl) ?_
      refine lv_tableIn (off := 85) (tgt := 110) hx hb dX9_count_25 (by decide) (by decide) (by decide) (by decide) ?_
      refine lv_aload_n hx hb dX9_count_110 rfl (lv_at hl 0 rfl) ?_
      refine lv_iconst (v := 1) hx hb dX9_count_111 (by decide) ?_
      refine lv_iconst (v := 1) hx hb dX9_count_112 (by decide) ?_
      refine k_iF (va_runV (As := [.int 1, .int 1]) (rest := []) hF (c_X9_results l D I C Q a0 a1 a2 a3 a4 now kept (nI ns) text (nI L) att num rd 1 1 _) (cwV 2 hts gX9_count_X9_results rfl rfl rfl (by decide +kernel) ⟨Nat.le_of_ble_eq_true rfl, Nat.le_of_ble_eq_true rfl⟩) (kPreV hE hP hD (ci := 9) (q0 := 0) rfl rfl) rfl rfl hl.1 rfl (lv_room (Nat.le_of_ble_eq_true rfl)) dX9_count_113 ⟨Nat.zero_le _, Nat.zero_le _⟩) hD hS hA (fun H locs hP hD hS => ?_)
      exact hend _ _ _ _ _ _ hP hD hS dX9_count_116 rfl rfl rfl
    · exact absurd (by decide) c_8
  · have hl : lv_has ls 2 [(0, .ref a0), (1, .int 3)] := hl
    refine lv_iload_n hx hb dX9_count_0 rfl (lv_at hl 1 rfl) ?_
    refine lv_bipush (v := 20) hx hb dX9_count_1 (by decide) ?_
    refine lv_bipush (v := 22) hx hb dX9_count_3 (by decide) ?_
    refine k_i0 (va_runS (As := [.int 3, .int 20, .int 22]) (rest := []) hF (c_X9_isIn l D I C Q 3 20 22 _) (va_cwS 3 hts gX9_count_X9_isIn rfl rfl rfl (by decide +kernel) ⟨Nat.le_of_ble_eq_true rfl, Nat.le_of_ble_eq_true rfl⟩) (kPreS hE k_P0 (k_D0 (A := A))) rfl rfl hl.1 rfl (lv_room (Nat.le_of_ble_eq_true rfl)) dX9_count_5 ⟨Nat.zero_le _, Nat.zero_le _⟩) hP hS hA (fun H locs hP hS => ?_)
    refine lv_if_eq (tgt := 24) hx hb dX9_count_8 (by decide) (fun c_8 => ?_) (fun c_8 => ?_)
    · refine lv_iload_n hx hb dX9_count_24 rfl (lv_at hl 1 rfl) ?_
      refine lv_tableIn (off := 92) (tgt := 117) hx hb dX9_count_25 (by decide) (by decide) (by decide) (by decide) ?_
      refine lv_aload_n hx hb dX9_count_117 rfl (lv_at hl 0 rfl) ?_
      refine lv_iconst (v := 2) hx hb dX9_count_118 (by decide) ?_
      refine lv_iconst (v := 3) hx hb dX9_count_119 (by decide) ?_
      refine k_iF (va_runV (As := [.int 2, .int 3]) (rest := []) hF (c_X9_results l D I C Q a0 a1 a2 a3 a4 now kept (nI ns) text (nI L) att num rd 2 3 _) (cwV 2 hts gX9_count_X9_results rfl rfl rfl (by decide +kernel) ⟨Nat.le_of_ble_eq_true rfl, Nat.le_of_ble_eq_true rfl⟩) (kPreV hE hP hD (ci := 9) (q0 := 0) rfl rfl) rfl rfl hl.1 rfl (lv_room (Nat.le_of_ble_eq_true rfl)) dX9_count_120 ⟨Nat.zero_le _, Nat.zero_le _⟩) hD hS hA (fun H locs hP hD hS => ?_)
      exact hend _ _ _ _ _ _ hP hD hS dX9_count_123 rfl rfl rfl
    · exact absurd (by decide) c_8
  · have hl : lv_has ls 2 [(0, .ref a0), (1, .int 4)] := hl
    refine lv_iload_n hx hb dX9_count_0 rfl (lv_at hl 1 rfl) ?_
    refine lv_bipush (v := 20) hx hb dX9_count_1 (by decide) ?_
    refine lv_bipush (v := 22) hx hb dX9_count_3 (by decide) ?_
    refine k_i0 (va_runS (As := [.int 4, .int 20, .int 22]) (rest := []) hF (c_X9_isIn l D I C Q 4 20 22 _) (va_cwS 3 hts gX9_count_X9_isIn rfl rfl rfl (by decide +kernel) ⟨Nat.le_of_ble_eq_true rfl, Nat.le_of_ble_eq_true rfl⟩) (kPreS hE k_P0 (k_D0 (A := A))) rfl rfl hl.1 rfl (lv_room (Nat.le_of_ble_eq_true rfl)) dX9_count_5 ⟨Nat.zero_le _, Nat.zero_le _⟩) hP hS hA (fun H locs hP hS => ?_)
    refine lv_if_eq (tgt := 24) hx hb dX9_count_8 (by decide) (fun c_8 => ?_) (fun c_8 => ?_)
    · refine lv_iload_n hx hb dX9_count_24 rfl (lv_at hl 1 rfl) ?_
      refine lv_tableIn (off := 99) (tgt := 124) hx hb dX9_count_25 (by decide) (by decide) (by decide) (by decide) ?_
      refine lv_aload_n hx hb dX9_count_124 rfl (lv_at hl 0 rfl) ?_
      refine va_get (D := D) (ci := 9) (v := .ref a1) (C := RX9) (T := TX9) (N := 8) hx hb hts u9 hown hK hP 0 rfl rfl 0 (by decide) k0 (fun _ h9 => h9) rfl dX9_count_125 ?_
      refine lv_iconst (v := 5) hx hb dX9_count_128 (by decide) ?_
      refine k_iald (j := 5) (v := (now 5)) hx hb hK hP 1 0 rfl rfl rfl (by decide) (by decide) rfl dX9_count_129 ?_
      exact hend _ _ _ _ _ _ hP hD hS dX9_count_130 rfl rfl rfl
    · exact absurd (by decide) c_8
  · have hl : lv_has ls 2 [(0, .ref a0), (1, .int 5)] := hl
    refine lv_iload_n hx hb dX9_count_0 rfl (lv_at hl 1 rfl) ?_
    refine lv_bipush (v := 20) hx hb dX9_count_1 (by decide) ?_
    refine lv_bipush (v := 22) hx hb dX9_count_3 (by decide) ?_
    refine k_i0 (va_runS (As := [.int 5, .int 20, .int 22]) (rest := []) hF (c_X9_isIn l D I C Q 5 20 22 _) (va_cwS 3 hts gX9_count_X9_isIn rfl rfl rfl (by decide +kernel) ⟨Nat.le_of_ble_eq_true rfl, Nat.le_of_ble_eq_true rfl⟩) (kPreS hE k_P0 (k_D0 (A := A))) rfl rfl hl.1 rfl (lv_room (Nat.le_of_ble_eq_true rfl)) dX9_count_5 ⟨Nat.zero_le _, Nat.zero_le _⟩) hP hS hA (fun H locs hP hS => ?_)
    refine lv_if_eq (tgt := 24) hx hb dX9_count_8 (by decide) (fun c_8 => ?_) (fun c_8 => ?_)
    · refine lv_iload_n hx hb dX9_count_24 rfl (lv_at hl 1 rfl) ?_
      refine lv_tableIn (off := 106) (tgt := 131) hx hb dX9_count_25 (by decide) (by decide) (by decide) (by decide) ?_
      refine lv_aload_n hx hb dX9_count_131 rfl (lv_at hl 0 rfl) ?_
      refine va_get (D := D) (ci := 9) (v := .ref a1) (C := RX9) (T := TX9) (N := 8) hx hb hts u9 hown hK hP 0 rfl rfl 0 (by decide) k0 (fun _ h9 => h9) rfl dX9_count_132 ?_
      refine lv_iconst (v := 0) hx hb dX9_count_135 (by decide) ?_
      refine k_iald (j := 0) (v := (now 0)) hx hb hK hP 1 0 rfl rfl rfl (by decide) (by decide) rfl dX9_count_136 ?_
      exact hend _ _ _ _ _ _ hP hD hS dX9_count_137 rfl rfl rfl
    · exact absurd (by decide) c_8
  · have hl : lv_has ls 2 [(0, .ref a0), (1, .int 6)] := hl
    refine lv_iload_n hx hb dX9_count_0 rfl (lv_at hl 1 rfl) ?_
    refine lv_bipush (v := 20) hx hb dX9_count_1 (by decide) ?_
    refine lv_bipush (v := 22) hx hb dX9_count_3 (by decide) ?_
    refine k_i0 (va_runS (As := [.int 6, .int 20, .int 22]) (rest := []) hF (c_X9_isIn l D I C Q 6 20 22 _) (va_cwS 3 hts gX9_count_X9_isIn rfl rfl rfl (by decide +kernel) ⟨Nat.le_of_ble_eq_true rfl, Nat.le_of_ble_eq_true rfl⟩) (kPreS hE k_P0 (k_D0 (A := A))) rfl rfl hl.1 rfl (lv_room (Nat.le_of_ble_eq_true rfl)) dX9_count_5 ⟨Nat.zero_le _, Nat.zero_le _⟩) hP hS hA (fun H locs hP hS => ?_)
    refine lv_if_eq (tgt := 24) hx hb dX9_count_8 (by decide) (fun c_8 => ?_) (fun c_8 => ?_)
    · refine lv_iload_n hx hb dX9_count_24 rfl (lv_at hl 1 rfl) ?_
      refine lv_tableIn (off := 113) (tgt := 138) hx hb dX9_count_25 (by decide) (by decide) (by decide) (by decide) ?_
      refine lv_aload_n hx hb dX9_count_138 rfl (lv_at hl 0 rfl) ?_
      refine va_get (D := D) (ci := 9) (v := .ref a1) (C := RX9) (T := TX9) (N := 8) hx hb hts u9 hown hK hP 0 rfl rfl 0 (by decide) k0 (fun _ h9 => h9) rfl dX9_count_139 ?_
      refine lv_iconst (v := 1) hx hb dX9_count_142 (by decide) ?_
      refine k_iald (j := 1) (v := (now 1)) hx hb hK hP 1 0 rfl rfl rfl (by decide) (by decide) rfl dX9_count_143 ?_
      exact hend _ _ _ _ _ _ hP hD hS dX9_count_144 rfl rfl rfl
    · exact absurd (by decide) c_8
  · have hl : lv_has ls 2 [(0, .ref a0), (1, .int 7)] := hl
    refine lv_iload_n hx hb dX9_count_0 rfl (lv_at hl 1 rfl) ?_
    refine lv_bipush (v := 20) hx hb dX9_count_1 (by decide) ?_
    refine lv_bipush (v := 22) hx hb dX9_count_3 (by decide) ?_
    refine k_i0 (va_runS (As := [.int 7, .int 20, .int 22]) (rest := []) hF (c_X9_isIn l D I C Q 7 20 22 _) (va_cwS 3 hts gX9_count_X9_isIn rfl rfl rfl (by decide +kernel) ⟨Nat.le_of_ble_eq_true rfl, Nat.le_of_ble_eq_true rfl⟩) (kPreS hE k_P0 (k_D0 (A := A))) rfl rfl hl.1 rfl (lv_room (Nat.le_of_ble_eq_true rfl)) dX9_count_5 ⟨Nat.zero_le _, Nat.zero_le _⟩) hP hS hA (fun H locs hP hS => ?_)
    refine lv_if_eq (tgt := 24) hx hb dX9_count_8 (by decide) (fun c_8 => ?_) (fun c_8 => ?_)
    · refine lv_iload_n hx hb dX9_count_24 rfl (lv_at hl 1 rfl) ?_
      refine lv_tableIn (off := 120) (tgt := 145) hx hb dX9_count_25 (by decide) (by decide) (by decide) (by decide) ?_
      refine lv_aload_n hx hb dX9_count_145 rfl (lv_at hl 0 rfl) ?_
      refine va_get (D := D) (ci := 9) (v := .ref a1) (C := RX9) (T := TX9) (N := 8) hx hb hts u9 hown hK hP 0 rfl rfl 0 (by decide) k0 (fun _ h9 => h9) rfl dX9_count_146 ?_
      refine lv_bipush (v := 9) hx hb dX9_count_149 (by decide) ?_
      refine k_iald (j := 9) (v := (now 9)) hx hb hK hP 1 0 rfl rfl rfl (by decide) (by decide) rfl dX9_count_151 ?_
      exact hend _ _ _ _ _ _ hP hD hS dX9_count_152 rfl rfl rfl
    · exact absurd (by decide) c_8
  · have hl : lv_has ls 2 [(0, .ref a0), (1, .int 8)] := hl
    refine lv_iload_n hx hb dX9_count_0 rfl (lv_at hl 1 rfl) ?_
    refine lv_bipush (v := 20) hx hb dX9_count_1 (by decide) ?_
    refine lv_bipush (v := 22) hx hb dX9_count_3 (by decide) ?_
    refine k_i0 (va_runS (As := [.int 8, .int 20, .int 22]) (rest := []) hF (c_X9_isIn l D I C Q 8 20 22 _) (va_cwS 3 hts gX9_count_X9_isIn rfl rfl rfl (by decide +kernel) ⟨Nat.le_of_ble_eq_true rfl, Nat.le_of_ble_eq_true rfl⟩) (kPreS hE k_P0 (k_D0 (A := A))) rfl rfl hl.1 rfl (lv_room (Nat.le_of_ble_eq_true rfl)) dX9_count_5 ⟨Nat.zero_le _, Nat.zero_le _⟩) hP hS hA (fun H locs hP hS => ?_)
    refine lv_if_eq (tgt := 24) hx hb dX9_count_8 (by decide) (fun c_8 => ?_) (fun c_8 => ?_)
    · refine lv_iload_n hx hb dX9_count_24 rfl (lv_at hl 1 rfl) ?_
      refine lv_tableIn (off := 128) (tgt := 153) hx hb dX9_count_25 (by decide) (by decide) (by decide) (by decide) ?_
      refine lv_aload_n hx hb dX9_count_153 rfl (lv_at hl 0 rfl) ?_
      refine va_get (D := D) (ci := 9) (v := .ref a1) (C := RX9) (T := TX9) (N := 8) hx hb hts u9 hown hK hP 0 rfl rfl 0 (by decide) k0 (fun _ h9 => h9) rfl dX9_count_154 ?_
      refine lv_iconst (v := 3) hx hb dX9_count_157 (by decide) ?_
      refine k_iald (j := 3) (v := (now 3)) hx hb hK hP 1 0 rfl rfl rfl (by decide) (by decide) rfl dX9_count_158 ?_
      exact hend _ _ _ _ _ _ hP hD hS dX9_count_159 rfl rfl rfl
    · exact absurd (by decide) c_8
  · have hl : lv_has ls 2 [(0, .ref a0), (1, .int 9)] := hl
    refine lv_iload_n hx hb dX9_count_0 rfl (lv_at hl 1 rfl) ?_
    refine lv_bipush (v := 20) hx hb dX9_count_1 (by decide) ?_
    refine lv_bipush (v := 22) hx hb dX9_count_3 (by decide) ?_
    refine k_i0 (va_runS (As := [.int 9, .int 20, .int 22]) (rest := []) hF (c_X9_isIn l D I C Q 9 20 22 _) (va_cwS 3 hts gX9_count_X9_isIn rfl rfl rfl (by decide +kernel) ⟨Nat.le_of_ble_eq_true rfl, Nat.le_of_ble_eq_true rfl⟩) (kPreS hE k_P0 (k_D0 (A := A))) rfl rfl hl.1 rfl (lv_room (Nat.le_of_ble_eq_true rfl)) dX9_count_5 ⟨Nat.zero_le _, Nat.zero_le _⟩) hP hS hA (fun H locs hP hS => ?_)
    refine lv_if_eq (tgt := 24) hx hb dX9_count_8 (by decide) (fun c_8 => ?_) (fun c_8 => ?_)
    · refine lv_iload_n hx hb dX9_count_24 rfl (lv_at hl 1 rfl) ?_
      refine lv_tableIn (off := 135) (tgt := 160) hx hb dX9_count_25 (by decide) (by decide) (by decide) (by decide) ?_
      refine lv_aload_n hx hb dX9_count_160 rfl (lv_at hl 0 rfl) ?_
      refine va_get (D := D) (ci := 9) (v := .ref a1) (C := RX9) (T := TX9) (N := 8) hx hb hts u9 hown hK hP 0 rfl rfl 0 (by decide) k0 (fun _ h9 => h9) rfl dX9_count_161 ?_
      refine lv_iconst (v := 4) hx hb dX9_count_164 (by decide) ?_
      refine k_iald (j := 4) (v := (now 4)) hx hb hK hP 1 0 rfl rfl rfl (by decide) (by decide) rfl dX9_count_165 ?_
      exact hend _ _ _ _ _ _ hP hD hS dX9_count_166 rfl rfl rfl
    · exact absurd (by decide) c_8
  · have hl : lv_has ls 2 [(0, .ref a0), (1, .int 10)] := hl
    refine lv_iload_n hx hb dX9_count_0 rfl (lv_at hl 1 rfl) ?_
    refine lv_bipush (v := 20) hx hb dX9_count_1 (by decide) ?_
    refine lv_bipush (v := 22) hx hb dX9_count_3 (by decide) ?_
    refine k_i0 (va_runS (As := [.int 10, .int 20, .int 22]) (rest := []) hF (c_X9_isIn l D I C Q 10 20 22 _) (va_cwS 3 hts gX9_count_X9_isIn rfl rfl rfl (by decide +kernel) ⟨Nat.le_of_ble_eq_true rfl, Nat.le_of_ble_eq_true rfl⟩) (kPreS hE k_P0 (k_D0 (A := A))) rfl rfl hl.1 rfl (lv_room (Nat.le_of_ble_eq_true rfl)) dX9_count_5 ⟨Nat.zero_le _, Nat.zero_le _⟩) hP hS hA (fun H locs hP hS => ?_)
    refine lv_if_eq (tgt := 24) hx hb dX9_count_8 (by decide) (fun c_8 => ?_) (fun c_8 => ?_)
    · refine lv_iload_n hx hb dX9_count_24 rfl (lv_at hl 1 rfl) ?_
      refine lv_tableIn (off := 142) (tgt := 167) hx hb dX9_count_25 (by decide) (by decide) (by decide) (by decide) ?_
      refine lv_aload_n hx hb dX9_count_167 rfl (lv_at hl 0 rfl) ?_
      refine k_iF (va_runV (As := []) (rest := []) hF (c_X9_cases l D I C Q a0 a1 a2 a3 a4 now kept (nI ns) text (nI L) att num rd np hnp hn64 _) (cwV 0 hts gX9_count_X9_cases rfl rfl rfl (by decide +kernel) ⟨Nat.le_of_ble_eq_true rfl, Nat.le_of_ble_eq_true rfl⟩) (kPreV hE hP hD (ci := 9) (q0 := 0) rfl rfl) rfl rfl hl.1 rfl (lv_room (Nat.le_of_ble_eq_true rfl)) dX9_count_168 ⟨Nat.zero_le _, Nat.zero_le _⟩) hD hS hA (fun H locs hP hD hS => ?_)
      exact hend _ _ _ _ _ _ hP hD hS dX9_count_171 rfl rfl rfl
    · exact absurd (by decide) c_8
  · have hl : lv_has ls 2 [(0, .ref a0), (1, .int 11)] := hl
    refine lv_iload_n hx hb dX9_count_0 rfl (lv_at hl 1 rfl) ?_
    refine lv_bipush (v := 20) hx hb dX9_count_1 (by decide) ?_
    refine lv_bipush (v := 22) hx hb dX9_count_3 (by decide) ?_
    refine k_i0 (va_runS (As := [.int 11, .int 20, .int 22]) (rest := []) hF (c_X9_isIn l D I C Q 11 20 22 _) (va_cwS 3 hts gX9_count_X9_isIn rfl rfl rfl (by decide +kernel) ⟨Nat.le_of_ble_eq_true rfl, Nat.le_of_ble_eq_true rfl⟩) (kPreS hE k_P0 (k_D0 (A := A))) rfl rfl hl.1 rfl (lv_room (Nat.le_of_ble_eq_true rfl)) dX9_count_5 ⟨Nat.zero_le _, Nat.zero_le _⟩) hP hS hA (fun H locs hP hS => ?_)
    refine lv_if_eq (tgt := 24) hx hb dX9_count_8 (by decide) (fun c_8 => ?_) (fun c_8 => ?_)
    · refine lv_iload_n hx hb dX9_count_24 rfl (lv_at hl 1 rfl) ?_
      refine lv_tableIn (off := 147) (tgt := 172) hx hb dX9_count_25 (by decide) (by decide) (by decide) (by decide) ?_
      refine lv_aload_n hx hb dX9_count_172 rfl (lv_at hl 0 rfl) ?_
      refine va_get (D := D) (ci := 9) (v := .ref a1) (C := RX9) (T := TX9) (N := 8) hx hb hts u9 hown hK hP 0 rfl rfl 0 (by decide) k0 (fun _ h9 => h9) rfl dX9_count_173 ?_
      refine lv_iconst (v := 2) hx hb dX9_count_176 (by decide) ?_
      refine k_iald (j := 2) (v := (now 2)) hx hb hK hP 1 0 rfl rfl rfl (by decide) (by decide) rfl dX9_count_177 ?_
      exact hend _ _ _ _ _ _ hP hD hS dX9_count_178 rfl rfl rfl
    · exact absurd (by decide) c_8
  · have hl : lv_has ls 2 [(0, .ref a0), (1, .int 12)] := hl
    refine lv_iload_n hx hb dX9_count_0 rfl (lv_at hl 1 rfl) ?_
    refine lv_bipush (v := 20) hx hb dX9_count_1 (by decide) ?_
    refine lv_bipush (v := 22) hx hb dX9_count_3 (by decide) ?_
    refine k_i0 (va_runS (As := [.int 12, .int 20, .int 22]) (rest := []) hF (c_X9_isIn l D I C Q 12 20 22 _) (va_cwS 3 hts gX9_count_X9_isIn rfl rfl rfl (by decide +kernel) ⟨Nat.le_of_ble_eq_true rfl, Nat.le_of_ble_eq_true rfl⟩) (kPreS hE k_P0 (k_D0 (A := A))) rfl rfl hl.1 rfl (lv_room (Nat.le_of_ble_eq_true rfl)) dX9_count_5 ⟨Nat.zero_le _, Nat.zero_le _⟩) hP hS hA (fun H locs hP hS => ?_)
    refine lv_if_eq (tgt := 24) hx hb dX9_count_8 (by decide) (fun c_8 => ?_) (fun c_8 => ?_)
    · refine lv_iload_n hx hb dX9_count_24 rfl (lv_at hl 1 rfl) ?_
      refine lv_tableIn (off := 154) (tgt := 179) hx hb dX9_count_25 (by decide) (by decide) (by decide) (by decide) ?_
      refine lv_aload_n hx hb dX9_count_179 rfl (lv_at hl 0 rfl) ?_
      refine va_get (D := D) (ci := 9) (v := .int (nI ns)) (C := RX9) (T := TX9) (N := 8) hx hb hts u9 hown hK hP 0 rfl rfl 2 (by decide) k1 (fun _ h9 => h9) rfl dX9_count_180 ?_
      exact hend _ _ _ _ _ _ hP hD hS dX9_count_183 rfl rfl rfl
    · exact absurd (by decide) c_8
  · have hl : lv_has ls 2 [(0, .ref a0), (1, .int 13)] := hl
    refine lv_iload_n hx hb dX9_count_0 rfl (lv_at hl 1 rfl) ?_
    refine lv_bipush (v := 20) hx hb dX9_count_1 (by decide) ?_
    refine lv_bipush (v := 22) hx hb dX9_count_3 (by decide) ?_
    refine k_i0 (va_runS (As := [.int 13, .int 20, .int 22]) (rest := []) hF (c_X9_isIn l D I C Q 13 20 22 _) (va_cwS 3 hts gX9_count_X9_isIn rfl rfl rfl (by decide +kernel) ⟨Nat.le_of_ble_eq_true rfl, Nat.le_of_ble_eq_true rfl⟩) (kPreS hE k_P0 (k_D0 (A := A))) rfl rfl hl.1 rfl (lv_room (Nat.le_of_ble_eq_true rfl)) dX9_count_5 ⟨Nat.zero_le _, Nat.zero_le _⟩) hP hS hA (fun H locs hP hS => ?_)
    refine lv_if_eq (tgt := 24) hx hb dX9_count_8 (by decide) (fun c_8 => ?_) (fun c_8 => ?_)
    · refine lv_iload_n hx hb dX9_count_24 rfl (lv_at hl 1 rfl) ?_
      refine lv_tableIn (off := 159) (tgt := 184) hx hb dX9_count_25 (by decide) (by decide) (by decide) (by decide) ?_
      refine lv_aload_n hx hb dX9_count_184 rfl (lv_at hl 0 rfl) ?_
      refine va_get (D := D) (ci := 9) (v := .int (nI L)) (C := RX9) (T := TX9) (N := 8) hx hb hts u9 hown hK hP 0 rfl rfl 4 (by decide) k2 (fun _ h9 => h9) rfl dX9_count_185 ?_
      exact hend _ _ _ _ _ _ hP hD hS dX9_count_188 rfl rfl rfl
    · exact absurd (by decide) c_8
  · have hl : lv_has ls 2 [(0, .ref a0), (1, .int 20)] := hl
    refine lv_iload_n hx hb dX9_count_0 rfl (lv_at hl 1 rfl) ?_
    refine lv_bipush (v := 20) hx hb dX9_count_1 (by decide) ?_
    refine lv_bipush (v := 22) hx hb dX9_count_3 (by decide) ?_
    refine k_i0 (va_runS (As := [.int 20, .int 20, .int 22]) (rest := []) hF (c_X9_isIn l D I C Q 20 20 22 _) (va_cwS 3 hts gX9_count_X9_isIn rfl rfl rfl (by decide +kernel) ⟨Nat.le_of_ble_eq_true rfl, Nat.le_of_ble_eq_true rfl⟩) (kPreS hE k_P0 (k_D0 (A := A))) rfl rfl hl.1 rfl (lv_room (Nat.le_of_ble_eq_true rfl)) dX9_count_5 ⟨Nat.zero_le _, Nat.zero_le _⟩) hP hS hA (fun H locs hP hS => ?_)
    refine lv_if_eq (tgt := 24) hx hb dX9_count_8 (by decide) (fun c_8 => ?_) (fun c_8 => ?_)
    · exact absurd c_8 (by decide)
    · refine lv_aload_n hx hb dX9_count_11 rfl (lv_at hl 0 rfl) ?_
      refine va_get (D := D) (ci := 9) (v := .ref a1) (C := RX9) (T := TX9) (N := 8) hx hb hts u9 hown hK hP 0 rfl rfl 0 (by decide) k0 (fun _ h9 => h9) rfl dX9_count_12 ?_
      refine lv_bipush (v := 6) hx hb dX9_count_15 (by decide) ?_
      refine lv_iload_n hx hb dX9_count_17 rfl (lv_at hl 1 rfl) ?_
      refine k_iadd (v := 26) hx hb dX9_count_18 (nI_add 6 20) ?_
      refine lv_bipush (v := 20) hx hb dX9_count_19 (by decide) ?_
      refine k_isub (v := 6) hx hb dX9_count_21 (by decide) ?_
      refine k_iald (j := 6) (v := (now 6)) hx hb hK hP 1 0 rfl rfl rfl (by decide) (by decide) rfl dX9_count_22 ?_
      exact hend _ _ _ _ _ _ hP hD hS dX9_count_23 rfl rfl rfl
  · have hl : lv_has ls 2 [(0, .ref a0), (1, .int 21)] := hl
    refine lv_iload_n hx hb dX9_count_0 rfl (lv_at hl 1 rfl) ?_
    refine lv_bipush (v := 20) hx hb dX9_count_1 (by decide) ?_
    refine lv_bipush (v := 22) hx hb dX9_count_3 (by decide) ?_
    refine k_i0 (va_runS (As := [.int 21, .int 20, .int 22]) (rest := []) hF (c_X9_isIn l D I C Q 21 20 22 _) (va_cwS 3 hts gX9_count_X9_isIn rfl rfl rfl (by decide +kernel) ⟨Nat.le_of_ble_eq_true rfl, Nat.le_of_ble_eq_true rfl⟩) (kPreS hE k_P0 (k_D0 (A := A))) rfl rfl hl.1 rfl (lv_room (Nat.le_of_ble_eq_true rfl)) dX9_count_5 ⟨Nat.zero_le _, Nat.zero_le _⟩) hP hS hA (fun H locs hP hS => ?_)
    refine lv_if_eq (tgt := 24) hx hb dX9_count_8 (by decide) (fun c_8 => ?_) (fun c_8 => ?_)
    · exact absurd c_8 (by decide)
    · refine lv_aload_n hx hb dX9_count_11 rfl (lv_at hl 0 rfl) ?_
      refine va_get (D := D) (ci := 9) (v := .ref a1) (C := RX9) (T := TX9) (N := 8) hx hb hts u9 hown hK hP 0 rfl rfl 0 (by decide) k0 (fun _ h9 => h9) rfl dX9_count_12 ?_
      refine lv_bipush (v := 6) hx hb dX9_count_15 (by decide) ?_
      refine lv_iload_n hx hb dX9_count_17 rfl (lv_at hl 1 rfl) ?_
      refine k_iadd (v := 27) hx hb dX9_count_18 (nI_add 6 21) ?_
      refine lv_bipush (v := 20) hx hb dX9_count_19 (by decide) ?_
      refine k_isub (v := 7) hx hb dX9_count_21 (by decide) ?_
      refine k_iald (j := 7) (v := (now 7)) hx hb hK hP 1 0 rfl rfl rfl (by decide) (by decide) rfl dX9_count_22 ?_
      exact hend _ _ _ _ _ _ hP hD hS dX9_count_23 rfl rfl rfl
  · have hl : lv_has ls 2 [(0, .ref a0), (1, .int 22)] := hl
    refine lv_iload_n hx hb dX9_count_0 rfl (lv_at hl 1 rfl) ?_
    refine lv_bipush (v := 20) hx hb dX9_count_1 (by decide) ?_
    refine lv_bipush (v := 22) hx hb dX9_count_3 (by decide) ?_
    refine k_i0 (va_runS (As := [.int 22, .int 20, .int 22]) (rest := []) hF (c_X9_isIn l D I C Q 22 20 22 _) (va_cwS 3 hts gX9_count_X9_isIn rfl rfl rfl (by decide +kernel) ⟨Nat.le_of_ble_eq_true rfl, Nat.le_of_ble_eq_true rfl⟩) (kPreS hE k_P0 (k_D0 (A := A))) rfl rfl hl.1 rfl (lv_room (Nat.le_of_ble_eq_true rfl)) dX9_count_5 ⟨Nat.zero_le _, Nat.zero_le _⟩) hP hS hA (fun H locs hP hS => ?_)
    refine lv_if_eq (tgt := 24) hx hb dX9_count_8 (by decide) (fun c_8 => ?_) (fun c_8 => ?_)
    · exact absurd c_8 (by decide)
    · refine lv_aload_n hx hb dX9_count_11 rfl (lv_at hl 0 rfl) ?_
      refine va_get (D := D) (ci := 9) (v := .ref a1) (C := RX9) (T := TX9) (N := 8) hx hb hts u9 hown hK hP 0 rfl rfl 0 (by decide) k0 (fun _ h9 => h9) rfl dX9_count_12 ?_
      refine lv_bipush (v := 6) hx hb dX9_count_15 (by decide) ?_
      refine lv_iload_n hx hb dX9_count_17 rfl (lv_at hl 1 rfl) ?_
      refine k_iadd (v := 28) hx hb dX9_count_18 (nI_add 6 22) ?_
      refine lv_bipush (v := 20) hx hb dX9_count_19 (by decide) ?_
      refine k_isub (v := 8) hx hb dX9_count_21 (by decide) ?_
      refine k_iald (j := 8) (v := (now 8)) hx hb hK hP 1 0 rfl rfl rfl (by decide) (by decide) rfl dX9_count_22 ?_
      exact hend _ _ _ _ _ _ hP hD hS dX9_count_23 rfl rfl rfl
