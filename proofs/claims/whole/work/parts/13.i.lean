set_option maxHeartbeats 400000 in
set_option maxRecDepth 100000 in
theorem c_X9_isEvent (l : Launch) (D : va_G) (I C Q : ClassId) (i : Int32) (t : Int32) (k : Int32) (a : Int32) (x : Int32) : KI l D (tyL I C Q) yX9_isEvent wsX9_isEvent { frames := 1, cells := 0, slots := 0, locals := 22 } [.int i, .int t, .int k, .int a, .int x] [] [] (m_isEv i t k a x) := by
  refine KI.of (cc := cX9_isEvent) (maxL := 5) (rt := .boolean) (own := RX9) (by decide) rfl rfl (Nat.le_of_ble_eq_true rfl) ?_
  intro p e s m below meth c A Q0 ls hx hb hml hown hts hE hA hP hD hS hl hend
  have hK := hE.1
  have hF : CallFix p m c cX9_isEvent 5 s [.int i, .int t, .int k, .int a, .int x].toArray wsX9_isEvent RX9 := ⟨hx, hb, hml, hown, hts⟩
  have hl : lv_has ls 5 [(0, .int i), (1, .int t), (2, .int k), (3, .int a), (4, .int x)] := hl
  refine lv_iload_n hx hb dX9_isEvent_0 rfl (lv_at hl 0 rfl) ?_
  refine lv_iconst (v := 0) hx hb dX9_isEvent_1 (by decide) ?_
  refine lv_bipush (v := 63) hx hb dX9_isEvent_2 (by decide) ?_
  refine k_i0 (va_runS (As := [.int i, .int 0, .int 63]) (rest := []) hF (c_X9_isIn l D I C Q i 0 63 _) (va_cwS 3 hts gX9_isEvent_X9_isIn rfl rfl rfl (by decide +kernel) ⟨Nat.le_of_ble_eq_true rfl, Nat.le_of_ble_eq_true rfl⟩) (kPreS hE k_P0 (k_D0 (A := A))) rfl rfl hl.1 rfl (lv_room (Nat.le_of_ble_eq_true rfl)) dX9_isEvent_4 ⟨Nat.zero_le _, Nat.zero_le _⟩) hP hS hA (fun H locs hP hS => ?_)
  refine lv_if_eq (tgt := 55) hx hb dX9_isEvent_7 (by decide) (fun c_7 => ?_) (fun c_7 => ?_)
  · refine lv_iconst (v := 0) hx hb dX9_isEvent_55 (by decide) ?_
    exact hend _ _ _ _ _ _ hP hD hS dX9_isEvent_56 (by decide) rfl (by simp +decide only [m_isEv, c_7, if_true, if_false, not_true_eq_false, not_false_eq_true, and_self, and_true, true_and, and_false, false_and, kn01, kn10, kn02, kn20, kn12, kn21, eq_self])
  · refine lv_iload_n hx hb dX9_isEvent_10 rfl (lv_at hl 1 rfl) ?_
    refine lv_iconst (v := 0) hx hb dX9_isEvent_11 (by decide) ?_
    refine lv_sipush (v := 1999) hx hb dX9_isEvent_12 (by decide) ?_
    refine k_i0 (va_runS (As := [.int t, .int 0, .int 1999]) (rest := []) hF (c_X9_isIn l D I C Q t 0 1999 _) (va_cwS 3 hts gX9_isEvent_X9_isIn rfl rfl rfl (by decide +kernel) ⟨Nat.le_of_ble_eq_true rfl, Nat.le_of_ble_eq_true rfl⟩) (kPreS hE k_P0 (k_D0 (A := A))) rfl rfl hl.1 rfl (lv_room (Nat.le_of_ble_eq_true rfl)) dX9_isEvent_15 ⟨Nat.zero_le _, Nat.zero_le _⟩) hP hS hA (fun H locs hP hS => ?_)
    refine lv_if_eq (tgt := 55) hx hb dX9_isEvent_18 (by decide) (fun c_18 => ?_) (fun c_18 => ?_)
    · refine lv_iconst (v := 0) hx hb dX9_isEvent_55 (by decide) ?_
      exact hend _ _ _ _ _ _ hP hD hS dX9_isEvent_56 (by decide) rfl (by simp +decide only [m_isEv, c_7, c_18, if_true, if_false, not_true_eq_false, not_false_eq_true, and_self, and_true, true_and, and_false, false_and, kn01, kn10, kn02, kn20, kn12, kn21, eq_self])
    · refine lv_iload_n hx hb dX9_isEvent_21 rfl (lv_at hl 2 rfl) ?_
      refine lv_iconst (v := 0) hx hb dX9_isEvent_22 (by decide) ?_
      refine lv_iconst (v := 5) hx hb dX9_isEvent_23 (by decide) ?_
      refine k_i0 (va_runS (As := [.int k, .int 0, .int 5]) (rest := []) hF (c_X9_isIn l D I C Q k 0 5 _) (va_cwS 3 hts gX9_isEvent_X9_isIn rfl rfl rfl (by decide +kernel) ⟨Nat.le_of_ble_eq_true rfl, Nat.le_of_ble_eq_true rfl⟩) (kPreS hE k_P0 (k_D0 (A := A))) rfl rfl hl.1 rfl (lv_room (Nat.le_of_ble_eq_true rfl)) dX9_isEvent_24 ⟨Nat.zero_le _, Nat.zero_le _⟩) hP hS hA (fun H locs hP hS => ?_)
      refine lv_if_eq (tgt := 55) hx hb dX9_isEvent_27 (by decide) (fun c_27 => ?_) (fun c_27 => ?_)
      · refine lv_iconst (v := 0) hx hb dX9_isEvent_55 (by decide) ?_
        exact hend _ _ _ _ _ _ hP hD hS dX9_isEvent_56 (by decide) rfl (by simp +decide only [m_isEv, c_7, c_18, c_27, if_true, if_false, not_true_eq_false, not_false_eq_true, and_self, and_true, true_and, and_false, false_and, kn01, kn10, kn02, kn20, kn12, kn21, eq_self])
      · refine lv_iload_n hx hb dX9_isEvent_30 rfl (lv_at hl 3 rfl) ?_
        refine lv_bipush (v := (-100)) hx hb dX9_isEvent_31 (by decide) ?_
        refine lv_bipush (v := 100) hx hb dX9_isEvent_33 (by decide) ?_
        refine k_i0 (va_runS (As := [.int a, .int (-100), .int 100]) (rest := []) hF (c_X9_isIn l D I C Q a (-100) 100 _) (va_cwS 3 hts gX9_isEvent_X9_isIn rfl rfl rfl (by decide +kernel) ⟨Nat.le_of_ble_eq_true rfl, Nat.le_of_ble_eq_true rfl⟩) (kPreS hE k_P0 (k_D0 (A := A))) rfl rfl hl.1 rfl (lv_room (Nat.le_of_ble_eq_true rfl)) dX9_isEvent_35 ⟨Nat.zero_le _, Nat.zero_le _⟩) hP hS hA (fun H locs hP hS => ?_)
        refine lv_if_eq (tgt := 55) hx hb dX9_isEvent_38 (by decide) (fun c_38 => ?_) (fun c_38 => ?_)
        · refine lv_iconst (v := 0) hx hb dX9_isEvent_55 (by decide) ?_
          exact hend _ _ _ _ _ _ hP hD hS dX9_isEvent_56 (by decide) rfl (by simp +decide only [m_isEv, c_7, c_18, c_27, c_38, if_true, if_false, not_true_eq_false, not_false_eq_true, and_self, and_true, true_and, and_false, false_and, kn01, kn10, kn02, kn20, kn12, kn21, eq_self])
        · refine lv_iload hx hb dX9_isEvent_41 (lv_at hl 4 rfl) ?_
          refine lv_iconst (v := 0) hx hb dX9_isEvent_43 (by decide) ?_
          refine lv_iconst (v := 3) hx hb dX9_isEvent_44 (by decide) ?_
          refine k_i0 (va_runS (As := [.int x, .int 0, .int 3]) (rest := []) hF (c_X9_isIn l D I C Q x 0 3 _) (va_cwS 3 hts gX9_isEvent_X9_isIn rfl rfl rfl (by decide +kernel) ⟨Nat.le_of_ble_eq_true rfl, Nat.le_of_ble_eq_true rfl⟩) (kPreS hE k_P0 (k_D0 (A := A))) rfl rfl hl.1 rfl (lv_room (Nat.le_of_ble_eq_true rfl)) dX9_isEvent_45 ⟨Nat.zero_le _, Nat.zero_le _⟩) hP hS hA (fun H locs hP hS => ?_)
          refine lv_if_eq (tgt := 55) hx hb dX9_isEvent_48 (by decide) (fun c_48 => ?_) (fun c_48 => ?_)
          · refine lv_iconst (v := 0) hx hb dX9_isEvent_55 (by decide) ?_
            exact hend _ _ _ _ _ _ hP hD hS dX9_isEvent_56 (by decide) rfl (by simp +decide only [m_isEv, c_7, c_18, c_27, c_38, c_48, if_true, if_false, not_true_eq_false, not_false_eq_true, and_self, and_true, true_and, and_false, false_and, kn01, kn10, kn02, kn20, kn12, kn21, eq_self])
          · refine lv_iconst (v := 1) hx hb dX9_isEvent_51 (by decide) ?_
            refine lv_goto (tgt := 56) hx hb dX9_isEvent_52 (by decide) ?_
            exact hend _ _ _ _ _ _ hP hD hS dX9_isEvent_56 (by decide) rfl (by simp +decide only [m_isEv, c_7, c_18, c_27, c_38, c_48, if_true, if_false, not_true_eq_false, not_false_eq_true, and_self, and_true, true_and, and_false, false_and, kn01, kn10, kn02, kn20, kn12, kn21, eq_self])
set_option maxHeartbeats 400000 in
set_option maxRecDepth 100000 in
theorem c_X9_eventB (l : Launch) (D : va_G) (I C Q : ClassId) (a0 a1 a2 a3 a4 : Nat) (now : Nat → Int32) (kept : Nat → Int32) (st : Int32) (text : Nat → Int32) (len : Int32) (att : Int32) (num : Int32) (rd : Nat → Int32) (i : Int32) (t : Int32) (key : Int32) (am : Int32) (x : Int32) (hbad : m_isEv i t key am x = 0) : KI l D (tyL I C Q) yX9_event wsX9_event { frames := 2, cells := 0, slots := 0, locals := 46 } [.ref a0, .int i, .int t, .int key, .int am, .int x] (wM I a0 a1 a2 a3 a4 now kept st text len att num rd) (wM I a0 a1 a2 a3 a4 now kept st text len att num rd) (-1000001) := by
  refine KI.of (cc := cX9_event) (maxL := 6) (rt := .int) (own := RX9) (by decide) rfl rfl (Nat.le_of_ble_eq_true rfl) ?_
  intro p e s m below meth c A Q0 ls hx hb hml hown hts hE hA hP hD hS hl hend
  have hK := hE.1
  have hF : CallFix p m c cX9_event 6 s [.ref a0, .int i, .int t, .int key, .int am, .int x].toArray wsX9_event RX9 := ⟨hx, hb, hml, hown, hts⟩
  have k0 := hts (.constant RX9 31 (-1000001)) (List.mem_of_getElem? (i := 1) rfl)
  have hl : lv_has ls 6 [(0, .ref a0), (1, .int i), (2, .int t), (3, .int key), (4, .int am), (5, .int x)] := hl
  refine lv_iload_n hx hb dX9_event_0 rfl (lv_at hl 1 rfl) ?_
  refine lv_iload_n hx hb dX9_event_1 rfl (lv_at hl 2 rfl) ?_
  refine lv_iload_n hx hb dX9_event_2 rfl (lv_at hl 3 rfl) ?_
  refine lv_iload hx hb dX9_event_3 (lv_at hl 4 rfl) ?_
  refine lv_iload hx hb dX9_event_5 (lv_at hl 5 rfl) ?_
  refine k_i0 (va_runS (As := [.int i, .int t, .int key, .int am, .int x]) (rest := []) hF (c_X9_isEvent l D I C Q i t key am x _) (va_cwS 5 hts gX9_event_X9_isEvent rfl rfl rfl (by decide +kernel) ⟨Nat.le_of_ble_eq_true rfl, Nat.le_of_ble_eq_true rfl⟩) (kPreS hE k_P0 (k_D0 (A := A))) rfl rfl hl.1 rfl (lv_room (Nat.le_of_ble_eq_true rfl)) dX9_event_7 ⟨Nat.zero_le _, Nat.zero_le _⟩) hP hS hA (fun H locs hP hS => ?_)
  refine lv_if_ne (tgt := 16) hx hb dX9_event_10 (by decide) (fun c_10 => ?_) (fun c_10 => ?_)
  · exact absurd hbad c_10
  · refine lv_ldc (v := (-1000001)) hx hb hown k0 dX9_event_13 ?_
    exact hend _ _ _ _ _ _ hP hD hS dX9_event_15 rfl rfl rfl
set_option maxHeartbeats 400000 in
set_option maxRecDepth 100000 in
theorem c_X9_eventO (l : Launch) (D : va_G) (I C Q : ClassId) (a0 a1 a2 a3 a4 : Nat) (now : Nat → Int32) (kept : Nat → Int32) (ns : Nat) (text : Nat → Int32) (len : Int32) (att : Int32) (num : Int32) (rd : Nat → Int32) (np : Nat) (sz : Nat) (i : Nat) (t : Nat) (key : Int32) (am : Int32) (x : Nat) (hnp : now 10 = nI np) (hn64 : np ≤ 64) (hsz : now 6 = nI sz) (hs0 : 0 < sz) (hs1 : sz ≤ 100) (hwk : wOk now) (hnk : nOk now np) (ht : t < 2000) (hi : i < 64) (hx3 : x ≤ 3) (hcap : ¬ now (12 + 6 * i + 0) = 1 → np < 64) (hns : ns ≤ 4) (hok : ¬ m_isEv (nI i) (nI t) key am (nI x) = 0) : KI l D (tyL I C Q) yX9_event wsX9_event { frames := 6, cells := 0, slots := 0, locals := 144 } [.ref a0, .int (nI i), .int (nI t), .int key, .int am, .int (nI x)] (wM I a0 a1 a2 a3 a4 now kept (nI ns) text len att num rd) (wM I a0 a1 a2 a3 a4 ((m_come now i t key am x np sz).2) (m_rec now kept ns) (nI (m_rns ns)) text len att num rd) ((m_come now i t key am x np sz).1) := by
  refine KI.of (cc := cX9_event) (maxL := 6) (rt := .int) (own := RX9) (by decide) rfl rfl (Nat.le_of_ble_eq_true rfl) ?_
  intro p e s m below meth c A Q0 ls hx hb hml hown hts hE hA hP hD hS hl hend
  have hK := hE.1
  have hF : CallFix p m c cX9_event 6 s [.ref a0, .int (nI i), .int (nI t), .int key, .int am, .int (nI x)].toArray wsX9_event RX9 := ⟨hx, hb, hml, hown, hts⟩
  have hl : lv_has ls 6 [(0, .ref a0), (1, .int (nI i)), (2, .int (nI t)), (3, .int key), (4, .int am), (5, .int (nI x))] := hl
  refine lv_iload_n hx hb dX9_event_0 rfl (lv_at hl 1 rfl) ?_
  refine lv_iload_n hx hb dX9_event_1 rfl (lv_at hl 2 rfl) ?_
  refine lv_iload_n hx hb dX9_event_2 rfl (lv_at hl 3 rfl) ?_
  refine lv_iload hx hb dX9_event_3 (lv_at hl 4 rfl) ?_
  refine lv_iload hx hb dX9_event_5 (lv_at hl 5 rfl) ?_
  refine k_i0 (va_runS (As := [.int (nI i), .int (nI t), .int key, .int am, .int (nI x)]) (rest := []) hF (c_X9_isEvent l D I C Q (nI i) (nI t) key am (nI x) _) (va_cwS 5 hts gX9_event_X9_isEvent rfl rfl rfl (by decide +kernel) ⟨Nat.le_of_ble_eq_true rfl, Nat.le_of_ble_eq_true rfl⟩) (kPreS hE k_P0 (k_D0 (A := A))) rfl rfl hl.1 rfl (lv_room (Nat.le_of_ble_eq_true rfl)) dX9_event_7 ⟨Nat.zero_le _, Nat.zero_le _⟩) hP hS hA (fun H locs hP hS => ?_)
  refine lv_if_ne (tgt := 16) hx hb dX9_event_10 (by decide) (fun c_10 => ?_) (fun c_10 => ?_)
  · refine lv_aload_n hx hb dX9_event_16 rfl (lv_at hl 0 rfl) ?_
    refine k_vF (va_runV (As := []) (rest := []) hF (c_X9_records l D I C Q a0 a1 a2 a3 a4 now kept ns text len att num rd hns _) (cwV 0 hts gX9_event_X9_records rfl rfl rfl (by decide +kernel) ⟨Nat.le_of_ble_eq_true rfl, Nat.le_of_ble_eq_true rfl⟩) (kPreV hE hP hD (ci := 9) (q0 := 0) rfl rfl) rfl rfl hl.1 rfl (lv_room (Nat.le_of_ble_eq_true rfl)) dX9_event_17 ⟨Nat.zero_le _, Nat.zero_le _⟩) hD hS hA (fun H locs hP hD hS => ?_)
    have hP : va_P D vwCl (wM I a0 a1 a2 a3 a4 now (m_rec now kept ns) (nI (m_rns ns)) text len att num rd) H := hP
    have hD : va_D A (wM I a0 a1 a2 a3 a4 now (m_rec now kept ns) (nI (m_rns ns)) text len att num rd) := hD
    refine lv_aload_n hx hb dX9_event_20 rfl (lv_at hl 0 rfl) ?_
    refine lv_iload_n hx hb dX9_event_21 rfl (lv_at hl 1 rfl) ?_
    refine lv_iload_n hx hb dX9_event_22 rfl (lv_at hl 2 rfl) ?_
    refine lv_iload_n hx hb dX9_event_23 rfl (lv_at hl 3 rfl) ?_
    refine lv_iload hx hb dX9_event_24 (lv_at hl 4 rfl) ?_
    refine lv_iload hx hb dX9_event_26 (lv_at hl 5 rfl) ?_
    refine k_iF (va_runV (As := [.int (nI i), .int (nI t), .int key, .int am, .int (nI x)]) (rest := []) hF (c_X9_comes l D I C Q a0 a1 a2 a3 a4 now (m_rec now kept ns) (nI (m_rns ns)) text len att num rd np sz i t key am x hnp hn64 hsz hs0 hs1 hwk hnk ht hi hx3 hcap _) (cwV 5 hts gX9_event_X9_comes rfl rfl rfl (by decide +kernel) ⟨Nat.le_of_ble_eq_true rfl, Nat.le_of_ble_eq_true rfl⟩) (kPreV hE hP hD (ci := 9) (q0 := 0) rfl rfl) rfl rfl hl.1 rfl (lv_room (Nat.le_of_ble_eq_true rfl)) dX9_event_28 ⟨Nat.zero_le _, Nat.zero_le _⟩) hD hS hA (fun H locs hP hD hS => ?_)
    have hP : va_P D vwCl (wM I a0 a1 a2 a3 a4 ((m_come now i t key am x np sz).2) (m_rec now kept ns) (nI (m_rns ns)) text len att num rd) H := hP
    have hD : va_D A (wM I a0 a1 a2 a3 a4 ((m_come now i t key am x np sz).2) (m_rec now kept ns) (nI (m_rns ns)) text len att num rd) := hD
    exact hend _ _ _ _ _ _ hP hD hS dX9_event_31 rfl rfl rfl
  · exact absurd c_10 hok
