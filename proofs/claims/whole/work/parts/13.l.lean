set_option maxHeartbeats 400000 in
set_option maxRecDepth 100000 in
theorem c_X9_paneOfB (l : Launch) (D : va_G) (I C Q : ClassId) (a0 a1 a2 a3 a4 : Nat) (now : Nat → Int32) (kept : Nat → Int32) (st : Int32) (text : Nat → Int32) (len : Int32) (att : Int32) (num : Int32) (rd : Nat → Int32) (sz : Nat) (q : Int32) (w : Int32) (hsz : now 6 = nI sz) (hs0 : 0 < sz) (hs1 : sz ≤ 100) (hbad : m_isP now q sz = 0 ∨ m_isIn w 0 6 = 0) : KI l D (tyL I C Q) yX9_paneOf wsX9_paneOf { frames := 2, cells := 0, slots := 0, locals := 43 } [.ref a0, .int q, .int w] (wM I a0 a1 a2 a3 a4 now kept st text len att num rd) (wM I a0 a1 a2 a3 a4 now kept st text len att num rd) (-1000001) := by
  refine KI.of (cc := cX9_paneOf) (maxL := 4) (rt := .int) (own := RX9) (by decide) rfl rfl (Nat.le_of_ble_eq_true rfl) ?_
  intro p e s m below meth c A Q0 ls hx hb hml hown hts hE hA hP hD hS hl hend
  have hK := hE.1
  have hF : CallFix p m c cX9_paneOf 4 s [.ref a0, .int q, .int w].toArray wsX9_paneOf RX9 := ⟨hx, hb, hml, hown, hts⟩
  have k0 := hts (.constant RX9 31 (-1000001)) (List.mem_of_getElem? (i := 1) rfl)
  have hl : lv_has ls 4 [(0, .ref a0), (1, .int q), (2, .int w)] := hl
  refine lv_aload_n hx hb dX9_paneOf_0 rfl (lv_at hl 0 rfl) ?_
  refine lv_iload_n hx hb dX9_paneOf_1 rfl (lv_at hl 1 rfl) ?_
  refine k_iF (va_runV (As := [.int q]) (rest := []) hF (c_X9_isPane l D I C Q a0 a1 a2 a3 a4 now kept st text len att num rd sz q hsz hs0 hs1 _) (cwV 1 hts gX9_paneOf_X9_isPane rfl rfl rfl (by decide +kernel) ⟨Nat.le_of_ble_eq_true rfl, Nat.le_of_ble_eq_true rfl⟩) (kPreV hE hP hD (ci := 9) (q0 := 0) rfl rfl) rfl rfl hl.1 rfl (lv_room (Nat.le_of_ble_eq_true rfl)) dX9_paneOf_2 ⟨Nat.zero_le _, Nat.zero_le _⟩) hD hS hA (fun H locs hP hD hS => ?_)
  refine lv_if_eq (tgt := 18) hx hb dX9_paneOf_5 (by decide) (fun c_5 => ?_) (fun c_5 => ?_)
  · refine lv_ldc (v := (-1000001)) hx hb hown k0 dX9_paneOf_18 ?_
    exact hend _ _ _ _ _ _ hP hD hS dX9_paneOf_20 rfl rfl rfl
  · refine lv_iload_n hx hb dX9_paneOf_8 rfl (lv_at hl 2 rfl) ?_
    refine lv_iconst (v := 0) hx hb dX9_paneOf_9 (by decide) ?_
    refine lv_bipush (v := 6) hx hb dX9_paneOf_10 (by decide) ?_
    refine k_i0 (va_runS (As := [.int w, .int 0, .int 6]) (rest := []) hF (c_X9_isIn l D I C Q w 0 6 _) (va_cwS 3 hts gX9_paneOf_X9_isIn rfl rfl rfl (by decide +kernel) ⟨Nat.le_of_ble_eq_true rfl, Nat.le_of_ble_eq_true rfl⟩) (kPreS hE k_P0 (k_D0 (A := A))) rfl rfl hl.1 rfl (lv_room (Nat.le_of_ble_eq_true rfl)) dX9_paneOf_12 ⟨Nat.zero_le _, Nat.zero_le _⟩) hP hS hA (fun H locs hP hS => ?_)
    refine lv_if_ne (tgt := 21) hx hb dX9_paneOf_15 (by decide) (fun c_15 => ?_) (fun c_15 => ?_)
    · exact (hbad.elim c_5 c_15).elim
    · refine lv_ldc (v := (-1000001)) hx hb hown k0 dX9_paneOf_18 ?_
      exact hend _ _ _ _ _ _ hP hD hS dX9_paneOf_20 rfl rfl rfl
set_option maxHeartbeats 400000 in
set_option maxRecDepth 100000 in
theorem c_X9_paneOfO (l : Launch) (D : va_G) (I C Q : ClassId) (a0 a1 a2 a3 a4 : Nat) (now : Nat → Int32) (kept : Nat → Int32) (st : Int32) (text : Nat → Int32) (len : Int32) (att : Int32) (num : Int32) (rd : Nat → Int32) (np : Nat) (sz : Nat) (pp : Nat) (w : Nat) (hnp : now 10 = nI np) (hn64 : np ≤ 64) (hsz : now 6 = nI sz) (hs0 : 0 < sz) (hs1 : sz ≤ 100) (hok : ¬ m_isP now (nI pp) sz = 0) (hpp : pp < 2000) (hw7 : w < 7) : KI l D (tyL I C Q) yX9_paneOf wsX9_paneOf { frames := 5, cells := 0, slots := 0, locals := 109 } [.ref a0, .int (nI pp), .int (nI w)] (wM I a0 a1 a2 a3 a4 now kept st text len att num rd) (wM I a0 a1 a2 a3 a4 now kept st text len att num rd) (m_paneOf now pp w np sz) := by
  refine KI.of (cc := cX9_paneOf) (maxL := 4) (rt := .int) (own := RX9) (by decide) rfl rfl (Nat.le_of_ble_eq_true rfl) ?_
  intro p e s m below meth c A Q0 ls hx hb hml hown hts hE hA hP hD hS hl hend
  have hK := hE.1
  have hF : CallFix p m c cX9_paneOf 4 s [.ref a0, .int (nI pp), .int (nI w)].toArray wsX9_paneOf RX9 := ⟨hx, hb, hml, hown, hts⟩
  have k0 := hts (.constant RX9 119 (-1000004)) (List.mem_of_getElem? (i := 2) rfl)
  have hl : lv_has ls 4 [(0, .ref a0), (1, .int (nI pp)), (2, .int (nI w))] := hl
  rcases (show w = 0 ∨ w = 1 ∨ w = 2 ∨ w = 3 ∨ w = 4 ∨ w = 5 ∨ w = 6 by omega) with rfl | rfl | rfl | rfl | rfl | rfl | rfl
  · have hl : lv_has ls 4 [(0, .ref a0), (1, .int (nI pp)), (2, .int 0)] := hl
    refine lv_aload_n hx hb dX9_paneOf_0 rfl (lv_at hl 0 rfl) ?_
    refine lv_iload_n hx hb dX9_paneOf_1 rfl (lv_at hl 1 rfl) ?_
    refine k_iF (va_runV (As := [.int (nI pp)]) (rest := []) hF (c_X9_isPane l D I C Q a0 a1 a2 a3 a4 now kept st text len att num rd sz (nI pp) hsz hs0 hs1 _) (cwV 1 hts gX9_paneOf_X9_isPane rfl rfl rfl (by decide +kernel) ⟨Nat.le_of_ble_eq_true rfl, Nat.le_of_ble_eq_true rfl⟩) (kPreV hE hP hD (ci := 9) (q0 := 0) rfl rfl) rfl rfl hl.1 rfl (lv_room (Nat.le_of_ble_eq_true rfl)) dX9_paneOf_2 ⟨Nat.zero_le _, Nat.zero_le _⟩) hD hS hA (fun H locs hP hD hS => ?_)
    refine lv_if_eq (tgt := 18) hx hb dX9_paneOf_5 (by decide) (fun c_5 => ?_) (fun c_5 => ?_)
    · exact absurd c_5 hok
    · refine lv_iload_n hx hb dX9_paneOf_8 rfl (lv_at hl 2 rfl) ?_
      refine lv_iconst (v := 0) hx hb dX9_paneOf_9 (by decide) ?_
      refine lv_bipush (v := 6) hx hb dX9_paneOf_10 (by decide) ?_
      refine k_i0 (va_runS (As := [.int 0, .int 0, .int 6]) (rest := []) hF (c_X9_isIn l D I C Q 0 0 6 _) (va_cwS 3 hts gX9_paneOf_X9_isIn rfl rfl rfl (by decide +kernel) ⟨Nat.le_of_ble_eq_true rfl, Nat.le_of_ble_eq_true rfl⟩) (kPreS hE k_P0 (k_D0 (A := A))) rfl rfl hl.1 rfl (lv_room (Nat.le_of_ble_eq_true rfl)) dX9_paneOf_12 ⟨Nat.zero_le _, Nat.zero_le _⟩) hP hS hA (fun H locs hP hS => ?_)
      refine lv_if_ne (tgt := 21) hx hb dX9_paneOf_15 (by decide) (fun c_15 => ?_) (fun c_15 => ?_)
      · refine lv_aload_n hx hb dX9_paneOf_21 rfl (lv_at hl 0 rfl) ?_
        refine lv_iload_n hx hb dX9_paneOf_22 rfl (lv_at hl 1 rfl) ?_
        refine k_iF (va_runV (As := [.int (nI pp)]) (rest := []) hF (c_X9_find l D I C Q a0 a1 a2 a3 a4 now kept st text len att num rd np (nI pp) hnp hn64 _) (cwV 1 hts gX9_paneOf_X9_find rfl rfl rfl (by decide +kernel) ⟨Nat.le_of_ble_eq_true rfl, Nat.le_of_ble_eq_true rfl⟩) (kPreV hE hP hD (ci := 9) (q0 := 0) rfl rfl) rfl rfl hl.1 rfl (lv_room (Nat.le_of_ble_eq_true rfl)) dX9_paneOf_23 ⟨Nat.zero_le _, Nat.zero_le _⟩) hD hS hA (fun H locs hP hD hS => ?_)
        rcases m_find_or now (nI pp) np with ⟨hlt, hq⟩ | ⟨hlt, hq⟩
        · refine k_top hq ?_
          refine lv_istore_n (lv' := [(3, .int (nI (m_fk now (nI pp) np))), (0, .ref a0), (1, .int (nI pp)), (2, .int 0)]) hx hb dX9_paneOf_26 rfl hl (by decide) rfl (fun ls hl => ?_)
          refine lv_iload_n hx hb dX9_paneOf_27 rfl (lv_at hl 3 rfl) ?_
          refine lv_tableIn (off := 36) (tgt := 64) hx hb dX9_paneOf_28 (by decide) (by decide) (by decide) (by decide) ?_
          refine lv_aload_n hx hb dX9_paneOf_64 rfl (lv_at hl 1 rfl) ?_
          refine lv_iload_n hx hb dX9_paneOf_65 rfl (lv_at hl 2 rfl) ?_
          refine k_iF (va_runV (As := [.int (nI pp)]) (rest := []) hF (c_X9_stateOf l D I C Q a0 a1 a2 a3 a4 now kept st text len att num rd np sz pp hnp hn64 hsz hs0 hs1 hpp _) (cwV 1 hts gX9_paneOf_X9_stateOf rfl rfl rfl (by decide +kernel) ⟨Nat.le_of_ble_eq_true rfl, Nat.le_of_ble_eq_true rfl⟩) (kPreV hE hP hD (ci := 9) (q0 := 0) rfl rfl) rfl rfl hl.1 rfl (lv_room (Nat.le_of_ble_eq_true rfl)) dX9_paneOf_66 ⟨Nat.zero_le _, Nat.zero_le _⟩) hD hS hA (fun H locs hP hD hS => ?_)
          exact hend _ _ _ _ _ _ hP hD hS dX9_paneOf_69 rfl rfl rfl
        · refine k_top hq ?_
          refine lv_istore_n (lv' := [(3, .int (-1)), (0, .ref a0), (1, .int (nI pp)), (2, .int 0)]) hx hb dX9_paneOf_26 rfl hl (by decide) rfl (fun ls hl => ?_)
          refine lv_iload_n hx hb dX9_paneOf_27 rfl (lv_at hl 3 rfl) ?_
          refine lv_tableIn (off := 36) (tgt := 64) hx hb dX9_paneOf_28 (by decide) (by decide) (by decide) (by decide) ?_
          refine lv_aload_n hx hb dX9_paneOf_64 rfl (lv_at hl 1 rfl) ?_
          refine lv_iload_n hx hb dX9_paneOf_65 rfl (lv_at hl 2 rfl) ?_
          refine k_iF (va_runV (As := [.int (nI pp)]) (rest := []) hF (c_X9_stateOf l D I C Q a0 a1 a2 a3 a4 now kept st text len att num rd np sz pp hnp hn64 hsz hs0 hs1 hpp _) (cwV 1 hts gX9_paneOf_X9_stateOf rfl rfl rfl (by decide +kernel) ⟨Nat.le_of_ble_eq_true rfl, Nat.le_of_ble_eq_true rfl⟩) (kPreV hE hP hD (ci := 9) (q0 := 0) rfl rfl) rfl rfl hl.1 rfl (lv_room (Nat.le_of_ble_eq_true rfl)) dX9_paneOf_66 ⟨Nat.zero_le _, Nat.zero_le _⟩) hD hS hA (fun H locs hP hD hS => ?_)
          exact hend _ _ _ _ _ _ hP hD hS dX9_paneOf_69 rfl rfl rfl
      · exact absurd c_15 (by decide)
  · have hl : lv_has ls 4 [(0, .ref a0), (1, .int (nI pp)), (2, .int 1)] := hl
    refine lv_aload_n hx hb dX9_paneOf_0 rfl (lv_at hl 0 rfl) ?_
    refine lv_iload_n hx hb dX9_paneOf_1 rfl (lv_at hl 1 rfl) ?_
    refine k_iF (va_runV (As := [.int (nI pp)]) (rest := []) hF (c_X9_isPane l D I C Q a0 a1 a2 a3 a4 now kept st text len att num rd sz (nI pp) hsz hs0 hs1 _) (cwV 1 hts gX9_paneOf_X9_isPane rfl rfl rfl (by decide +kernel) ⟨Nat.le_of_ble_eq_true rfl, Nat.le_of_ble_eq_true rfl⟩) (kPreV hE hP hD (ci := 9) (q0 := 0) rfl rfl) rfl rfl hl.1 rfl (lv_room (Nat.le_of_ble_eq_true rfl)) dX9_paneOf_2 ⟨Nat.zero_le _, Nat.zero_le _⟩) hD hS hA (fun H locs hP hD hS => ?_)
    refine lv_if_eq (tgt := 18) hx hb dX9_paneOf_5 (by decide) (fun c_5 => ?_) (fun c_5 => ?_)
    · exact absurd c_5 hok
    · refine lv_iload_n hx hb dX9_paneOf_8 rfl (lv_at hl 2 rfl) ?_
      refine lv_iconst (v := 0) hx hb dX9_paneOf_9 (by decide) ?_
      refine lv_bipush (v := 6) hx hb dX9_paneOf_10 (by decide) ?_
      refine k_i0 (va_runS (As := [.int 1, .int 0, .int 6]) (rest := []) hF (c_X9_isIn l D I C Q 1 0 6 _) (va_cwS 3 hts gX9_paneOf_X9_isIn rfl rfl rfl (by decide +kernel) ⟨Nat.le_of_ble_eq_true rfl, Nat.le_of_ble_eq_true rfl⟩) (kPreS hE k_P0 (k_D0 (A := A))) rfl rfl hl.1 rfl (lv_room (Nat.le_of_ble_eq_true rfl)) dX9_paneOf_12 ⟨Nat.zero_le _, Nat.zero_le _⟩) hP hS hA (fun H locs hP hS => ?_)
      refine lv_if_ne (tgt := 21) hx hb dX9_paneOf_15 (by decide) (fun c_15 => ?_) (fun c_15 => ?_)
      · refine lv_aload_n hx hb dX9_paneOf_21 rfl (lv_at hl 0 rfl) ?_
        refine lv_iload_n hx hb dX9_paneOf_22 rfl (lv_at hl 1 rfl) ?_
        refine k_iF (va_runV (As := [.int (nI pp)]) (rest := []) hF (c_X9_find l D I C Q a0 a1 a2 a3 a4 now kept st text len att num rd np (nI pp) hnp hn64 _) (cwV 1 hts gX9_paneOf_X9_find rfl rfl rfl (by decide +kernel) ⟨Nat.le_of_ble_eq_true rfl, Nat.le_of_ble_eq_true rfl⟩) (kPreV hE hP hD (ci := 9) (q0 := 0) rfl rfl) rfl rfl hl.1 rfl (lv_room (Nat.le_of_ble_eq_true rfl)) dX9_paneOf_23 ⟨Nat.zero_le _, Nat.zero_le _⟩) hD hS hA (fun H locs hP hD hS => ?_)
        rcases m_find_or now (nI pp) np with ⟨hlt, hq⟩ | ⟨hlt, hq⟩
        · refine k_top hq ?_
          refine lv_istore_n (lv' := [(3, .int (nI (m_fk now (nI pp) np))), (0, .ref a0), (1, .int (nI pp)), (2, .int 1)]) hx hb dX9_paneOf_26 rfl hl (by decide) rfl (fun ls hl => ?_)
          refine lv_iload_n hx hb dX9_paneOf_27 rfl (lv_at hl 3 rfl) ?_
          refine lv_tableIn (off := 42) (tgt := 70) hx hb dX9_paneOf_28 (by decide) (by decide) (by decide) (by decide) ?_
          refine lv_aload_n hx hb dX9_paneOf_70 rfl (lv_at hl 1 rfl) ?_
          refine lv_iload_n hx hb dX9_paneOf_71 rfl (lv_at hl 2 rfl) ?_
          refine lv_iload_n hx hb dX9_paneOf_72 rfl (lv_at hl 3 rfl) ?_
          refine lv_iconst (v := 1) hx hb dX9_paneOf_73 (by decide) ?_
          refine k_isub (v := 0) hx hb dX9_paneOf_74 (by decide) ?_
          refine k_iF (va_runV (As := [.int (nI pp), .int 0]) (rest := []) hF (c_X9_sumOf l D I C Q a0 a1 a2 a3 a4 now kept st text len att num rd sz (nI pp) 0 hsz hs0 hs1 _) (cwV 2 hts gX9_paneOf_X9_sumOf rfl rfl rfl (by decide +kernel) ⟨Nat.le_of_ble_eq_true rfl, Nat.le_of_ble_eq_true rfl⟩) (kPreV hE hP hD (ci := 9) (q0 := 0) rfl rfl) rfl rfl hl.1 rfl (lv_room (Nat.le_of_ble_eq_true rfl)) dX9_paneOf_75 ⟨Nat.zero_le _, Nat.zero_le _⟩) hD hS hA (fun H locs hP hD hS => ?_)
          exact hend _ _ _ _ _ _ hP hD hS dX9_paneOf_78 rfl rfl rfl
        · refine k_top hq ?_
          refine lv_istore_n (lv' := [(3, .int (-1)), (0, .ref a0), (1, .int (nI pp)), (2, .int 1)]) hx hb dX9_paneOf_26 rfl hl (by decide) rfl (fun ls hl => ?_)
          refine lv_iload_n hx hb dX9_paneOf_27 rfl (lv_at hl 3 rfl) ?_
          refine lv_tableIn (off := 42) (tgt := 70) hx hb dX9_paneOf_28 (by decide) (by decide) (by decide) (by decide) ?_
          refine lv_aload_n hx hb dX9_paneOf_70 rfl (lv_at hl 1 rfl) ?_
          refine lv_iload_n hx hb dX9_paneOf_71 rfl (lv_at hl 2 rfl) ?_
          refine lv_iload_n hx hb dX9_paneOf_72 rfl (lv_at hl 3 rfl) ?_
          refine lv_iconst (v := 1) hx hb dX9_paneOf_73 (by decide) ?_
          refine k_isub (v := 0) hx hb dX9_paneOf_74 (by decide) ?_
          refine k_iF (va_runV (As := [.int (nI pp), .int 0]) (rest := []) hF (c_X9_sumOf l D I C Q a0 a1 a2 a3 a4 now kept st text len att num rd sz (nI pp) 0 hsz hs0 hs1 _) (cwV 2 hts gX9_paneOf_X9_sumOf rfl rfl rfl (by decide +kernel) ⟨Nat.le_of_ble_eq_true rfl, Nat.le_of_ble_eq_true rfl⟩) (kPreV hE hP hD (ci := 9) (q0 := 0) rfl rfl) rfl rfl hl.1 rfl (lv_room (Nat.le_of_ble_eq_true rfl)) dX9_paneOf_75 ⟨Nat.zero_le _, Nat.zero_le _⟩) hD hS hA (fun H locs hP hD hS => ?_)
          exact hend _ _ _ _ _ _ hP hD hS dX9_paneOf_78 rfl rfl rfl
      · exact absurd c_15 (by decide)
  · have hl : lv_has ls 4 [(0, .ref a0), (1, .int (nI pp)), (2, .int 2)] := hl
    refine lv_aload_n hx hb dX9_paneOf_0 rfl (lv_at hl 0 rfl) ?_
    refine lv_iload_n hx hb dX9_paneOf_1 rfl (lv_at hl 1 rfl) ?_
    refine k_iF (va_runV (As := [.int (nI pp)]) (rest := []) hF (c_X9_isPane l D I C Q a0 a1 a2 a3 a4 now kept st text len att num rd sz (nI pp) hsz hs0 hs1 _) (cwV 1 hts gX9_paneOf_X9_isPane rfl rfl rfl (by decide +kernel) ⟨Nat.le_of_ble_eq_true rfl, Nat.le_of_ble_eq_true rfl⟩) (kPreV hE hP hD (ci := 9) (q0 := 0) rfl rfl) rfl rfl hl.1 rfl (lv_room (Nat.le_of_ble_eq_true rfl)) dX9_paneOf_2 ⟨Nat.zero_le _, Nat.zero_le _⟩) hD hS hA (fun H locs hP hD hS => ?_)
    refine lv_if_eq (tgt := 18) hx hb dX9_paneOf_5 (by decide) (fun c_5 => ?_) (fun c_5 => ?_)
    · exact absurd c_5 hok
    · refine lv_iload_n hx hb dX9_paneOf_8 rfl (lv_at hl 2 rfl) ?_
      refine lv_iconst (v := 0) hx hb dX9_paneOf_9 (by decide) ?_
      refine lv_bipush (v := 6) hx hb dX9_paneOf_10 (by decide) ?_
      refine k_i0 (va_runS (As := [.int 2, .int 0, .int 6]) (rest := []) hF (c_X9_isIn l D I C Q 2 0 6 _) (va_cwS 3 hts gX9_paneOf_X9_isIn rfl rfl rfl (by decide +kernel) ⟨Nat.le_of_ble_eq_true rfl, Nat.le_of_ble_eq_true rfl⟩) (kPreS hE k_P0 (k_D0 (A := A))) rfl rfl hl.1 rfl (lv_room (Nat.le_of_ble_eq_true rfl)) dX9_paneOf_12 ⟨Nat.zero_le _, Nat.zero_le _⟩) hP hS hA (fun H locs hP hS => ?_)
      refine lv_if_ne (tgt := 21) hx hb dX9_paneOf_15 (by decide) (fun c_15 => ?_) (fun c_15 => ?_)
      · refine lv_aload_n hx hb dX9_paneOf_21 rfl (lv_at hl 0 rfl) ?_
        refine lv_iload_n hx hb dX9_paneOf_22 rfl (lv_at hl 1 rfl) ?_
        refine k_iF (va_runV (As := [.int (nI pp)]) (rest := []) hF (c_X9_find l D I C Q a0 a1 a2 a3 a4 now kept st text len att num rd np (nI pp) hnp hn64 _) (cwV 1 hts gX9_paneOf_X9_find rfl rfl rfl (by decide +kernel) ⟨Nat.le_of_ble_eq_true rfl, Nat.le_of_ble_eq_true rfl⟩) (kPreV hE hP hD (ci := 9) (q0 := 0) rfl rfl) rfl rfl hl.1 rfl (lv_room (Nat.le_of_ble_eq_true rfl)) dX9_paneOf_23 ⟨Nat.zero_le _, Nat.zero_le _⟩) hD hS hA (fun H locs hP hD hS => ?_)
        rcases m_find_or now (nI pp) np with ⟨hlt, hq⟩ | ⟨hlt, hq⟩
        · refine k_top hq ?_
          refine lv_istore_n (lv' := [(3, .int (nI (m_fk now (nI pp) np))), (0, .ref a0), (1, .int (nI pp)), (2, .int 2)]) hx hb dX9_paneOf_26 rfl hl (by decide) rfl (fun ls hl => ?_)
          refine lv_iload_n hx hb dX9_paneOf_27 rfl (lv_at hl 3 rfl) ?_
          refine lv_tableIn (off := 42) (tgt := 70) hx hb dX9_paneOf_28 (by decide) (by decide) (by decide) (by decide) ?_
          refine lv_aload_n hx hb dX9_paneOf_70 rfl (lv_at hl 1 rfl) ?_
          refine lv_iload_n hx hb dX9_paneOf_71 rfl (lv_at hl 2 rfl) ?_
          refine lv_iload_n hx hb dX9_paneOf_72 rfl (lv_at hl 3 rfl) ?_
          refine lv_iconst (v := 1) hx hb dX9_paneOf_73 (by decide) ?_
          refine k_isub (v := 1) hx hb dX9_paneOf_74 (by decide) ?_
          refine k_iF (va_runV (As := [.int (nI pp), .int 1]) (rest := []) hF (c_X9_sumOf l D I C Q a0 a1 a2 a3 a4 now kept st text len att num rd sz (nI pp) 1 hsz hs0 hs1 _) (cwV 2 hts gX9_paneOf_X9_sumOf rfl rfl rfl (by decide +kernel) ⟨Nat.le_of_ble_eq_true rfl, Nat.le_of_ble_eq_true rfl⟩) (kPreV hE hP hD (ci := 9) (q0 := 0) rfl rfl) rfl rfl hl.1 rfl (lv_room (Nat.le_of_ble_eq_true rfl)) dX9_paneOf_75 ⟨Nat.zero_le _, Nat.zero_le _⟩) hD hS hA (fun H locs hP hD hS => ?_)
          exact hend _ _ _ _ _ _ hP hD hS dX9_paneOf_78 rfl rfl rfl
        · refine k_top hq ?_
          refine lv_istore_n (lv' := [(3, .int (-1)), (0, .ref a0), (1, .int (nI pp)), (2, .int 2)]) hx hb dX9_paneOf_26 rfl hl (by decide) rfl (fun ls hl => ?_)
          refine lv_iload_n hx hb dX9_paneOf_27 rfl (lv_at hl 3 rfl) ?_
          refine lv_tableIn (off := 42) (tgt := 70) hx hb dX9_paneOf_28 (by decide) (by decide) (by decide) (by decide) ?_
          refine lv_aload_n hx hb dX9_paneOf_70 rfl (lv_at hl 1 rfl) ?_
          refine lv_iload_n hx hb dX9_paneOf_71 rfl (lv_at hl 2 rfl) ?_
          refine lv_iload_n hx hb dX9_paneOf_72 rfl (lv_at hl 3 rfl) ?_
          refine lv_iconst (v := 1) hx hb dX9_paneOf_73 (by decide) ?_
          refine k_isub (v := 1) hx hb dX9_paneOf_74 (by decide) ?_
          refine k_iF (va_runV (As := [.int (nI pp), .int 1]) (rest := []) hF (c_X9_sumOf l D I C Q a0 a1 a2 a3 a4 now kept st text len att num rd sz (nI pp) 1 hsz hs0 hs1 _) (cwV 2 hts gX9_paneOf_X9_sumOf rfl rfl rfl (by decide +kernel) ⟨Nat.le_of_ble_eq_true rfl, Nat.le_of_ble_eq_true rfl⟩) (kPreV hE hP hD (ci := 9) (q0 := 0) rfl rfl) rfl rfl hl.1 rfl (lv_room (Nat.le_of_ble_eq_true rfl)) dX9_paneOf_75 ⟨Nat.zero_le _, Nat.zero_le _⟩) hD hS hA (fun H locs hP hD hS => ?_)
          exact hend _ _ _ _ _ _ hP hD hS dX9_paneOf_78 rfl rfl rfl
      · exact absurd c_15 (by decide)
  · have hl : lv_has ls 4 [(0, .ref a0), (1, .int (nI pp)), (2, .int 3)] := hl
    refine lv_aload_n hx hb dX9_paneOf_0 rfl (lv_at hl 0 rfl) ?_
    refine lv_iload_n hx hb dX9_paneOf_1 rfl (lv_at hl 1 rfl) ?_
    refine k_iF (va_runV (As := [.int (nI pp)]) (rest := []) hF (c_X9_isPane l D I C Q a0 a1 a2 a3 a4 now kept st text len att num rd sz (nI pp) hsz hs0 hs1 _) (cwV 1 hts gX9_paneOf_X9_isPane rfl rfl rfl (by decide +kernel) ⟨Nat.le_of_ble_eq_true rfl, Nat.le_of_ble_eq_true rfl⟩) (kPreV hE hP hD (ci := 9) (q0 := 0) rfl rfl) rfl rfl hl.1 rfl (lv_room (Nat.le_of_ble_eq_true rfl)) dX9_paneOf_2 ⟨Nat.zero_le _, Nat.zero_le _⟩) hD hS hA (fun H locs hP hD hS => ?_)
    refine lv_if_eq (tgt := 18) hx hb dX9_paneOf_5 (by decide) (fun c_5 => ?_) (fun c_5 => ?_)
    · exact absurd c_5 hok
    · refine lv_iload_n hx hb dX9_paneOf_8 rfl (lv_at hl 2 rfl) ?_
      refine lv_iconst (v := 0) hx hb dX9_paneOf_9 (by decide) ?_
      refine lv_bipush (v := 6) hx hb dX9_paneOf_10 (by decide) ?_
      refine k_i0 (va_runS (As := [.int 3, .int 0, .int 6]) (rest := []) hF (c_X9_isIn l D I C Q 3 0 6 _) (va_cwS 3 hts gX9_paneOf_X9_isIn rfl rfl rfl (by decide +kernel) ⟨Nat.le_of_ble_eq_true rfl, Nat.le_of_ble_eq_true rfl⟩) (kPreS hE k_P0 (k_D0 (A := A))) rfl rfl hl.1 rfl (lv_room (Nat.le_of_ble_eq_true rfl)) dX9_paneOf_12 ⟨Nat.zero_le _, Nat.zero_le _⟩) hP hS hA (fun H locs hP hS => ?_)
      refine lv_if_ne (tgt := 21) hx hb dX9_paneOf_15 (by decide) (fun c_15 => ?_) (fun c_15 => ?_)
      · refine lv_aload_n hx hb dX9_paneOf_21 rfl (lv_at hl 0 rfl) ?_
        refine lv_iload_n hx hb dX9_paneOf_22 rfl (lv_at hl 1 rfl) ?_
        refine k_iF (va_runV (As := [.int (nI pp)]) (rest := []) hF (c_X9_find l D I C Q a0 a1 a2 a3 a4 now kept st text len att num rd np (nI pp) hnp hn64 _) (cwV 1 hts gX9_paneOf_X9_find rfl rfl rfl (by decide +kernel) ⟨Nat.le_of_ble_eq_true rfl, Nat.le_of_ble_eq_true rfl⟩) (kPreV hE hP hD (ci := 9) (q0 := 0) rfl rfl) rfl rfl hl.1 rfl (lv_room (Nat.le_of_ble_eq_true rfl)) dX9_paneOf_23 ⟨Nat.zero_le _, Nat.zero_le _⟩) hD hS hA (fun H locs hP hD hS => ?_)
        rcases m_find_or now (nI pp) np with ⟨hlt, hq⟩ | ⟨hlt, hq⟩
        · refine k_top hq ?_
          refine lv_istore_n (lv' := [(3, .int (nI (m_fk now (nI pp) np))), (0, .ref a0), (1, .int (nI pp)), (2, .int 3)]) hx hb dX9_paneOf_26 rfl hl (by decide) rfl (fun ls hl => ?_)
          refine lv_iload_n hx hb dX9_paneOf_27 rfl (lv_at hl 3 rfl) ?_
          refine lv_tableIn (off := 42) (tgt := 70) hx hb dX9_paneOf_28 (by decide) (by decide) (by decide) (by decide) ?_
          refine lv_aload_n hx hb dX9_paneOf_70 rfl (lv_at hl 1 rfl) ?_
          refine lv_iload_n hx hb dX9_paneOf_71 rfl (lv_at hl 2 rfl) ?_
          refine lv_iload_n hx hb dX9_paneOf_72 rfl (lv_at hl 3 rfl) ?_
          refine lv_iconst (v := 1) hx hb dX9_paneOf_73 (by decide) ?_
          refine k_isub (v := 2) hx hb dX9_paneOf_74 (by decide) ?_
          refine k_iF (va_runV (As := [.int (nI pp), .int 2]) (rest := []) hF (c_X9_sumOf l D I C Q a0 a1 a2 a3 a4 now kept st text len att num rd sz (nI pp) 2 hsz hs0 hs1 _) (cwV 2 hts gX9_paneOf_X9_sumOf rfl rfl rfl (by decide +kernel) ⟨Nat.le_of_ble_eq_true rfl, Nat.le_of_ble_eq_true rfl⟩) (kPreV hE hP hD (ci := 9) (q0 := 0) rfl rfl) rfl rfl hl.1 rfl (lv_room (Nat.le_of_ble_eq_true rfl)) dX9_paneOf_75 ⟨Nat.zero_le _, Nat.zero_le _⟩) hD hS hA (fun H locs hP hD hS => ?_)
          exact hend _ _ _ _ _ _ hP hD hS dX9_paneOf_78 rfl rfl rfl
        · refine k_top hq ?_
          refine lv_istore_n (lv' := [(3, .int (-1)), (0, .ref a0), (1, .int (nI pp)), (2, .int 3)]) hx hb dX9_paneOf_26 rfl hl (by decide) rfl (fun ls hl => ?_)
          refine lv_iload_n hx hb dX9_paneOf_27 rfl (lv_at hl 3 rfl) ?_
          refine lv_tableIn (off := 42) (tgt := 70) hx hb dX9_paneOf_28 (by decide) (by decide) (by decide) (by decide) ?_
          refine lv_aload_n hx hb dX9_paneOf_70 rfl (lv_at hl 1 rfl) ?_
          refine lv_iload_n hx hb dX9_paneOf_71 rfl (lv_at hl 2 rfl) ?_
          refine lv_iload_n hx hb dX9_paneOf_72 rfl (lv_at hl 3 rfl) ?_
          refine lv_iconst (v := 1) hx hb dX9_paneOf_73 (by decide) ?_
          refine k_isub (v := 2) hx hb dX9_paneOf_74 (by decide) ?_
          refine k_iF (va_runV (As := [.int (nI pp), .int 2]) (rest := []) hF (c_X9_sumOf l D I C Q a0 a1 a2 a3 a4 now kept st text len att num rd sz (nI pp) 2 hsz hs0 hs1 _) (cwV 2 hts gX9_paneOf_X9_sumOf rfl rfl rfl (by decide +kernel) ⟨Nat.le_of_ble_eq_true rfl, Nat.le_of_ble_eq_true rfl⟩) (kPreV hE hP hD (ci := 9) (q0 := 0) rfl rfl) rfl rfl hl.1 rfl (lv_room (Nat.le_of_ble_eq_true rfl)) dX9_paneOf_75 ⟨Nat.zero_le _, Nat.zero_le _⟩) hD hS hA (fun H locs hP hD hS => ?_)
          exact hend _ _ _ _ _ _ hP hD hS dX9_paneOf_78 rfl rfl rfl
      · exact absurd c_15 (by decide)
  · have hl : lv_has ls 4 [(0, .ref a0), (1, .int (nI pp)), (2, .int 4)] := hl
    refine lv_aload_n hx hb dX9_paneOf_0 rfl (lv_at hl 0 rfl) ?_
    refine lv_iload_n hx hb dX9_paneOf_1 rfl (lv_at hl 1 rfl) ?_
    refine k_iF (va_runV (As := [.int (nI pp)]) (rest := []) hF (c_X9_isPane l D I C Q a0 a1 a2 a3 a4 now kept st text len att num rd sz (nI pp) hsz hs0 hs1 _) (cwV 1 hts gX9_paneOf_X9_isPane rfl rfl rfl (by decide +kernel) ⟨Nat.le_of_ble_eq_true rfl, Nat.le_of_ble_eq_true rfl⟩) (kPreV hE hP hD (ci := 9) (q0 := 0) rfl rfl) rfl rfl hl.1 rfl (lv_room (Nat.le_of_ble_eq_true rfl)) dX9_paneOf_2 ⟨Nat.zero_le _, Nat.zero_le _⟩) hD hS hA (fun H locs hP hD hS => ?_)
    refine lv_if_eq (tgt := 18) hx hb dX9_paneOf_5 (by decide) (fun c_5 => ?_) (fun c_5 => ?_)
    · exact absurd c_5 hok
    · refine lv_iload_n hx hb dX9_paneOf_8 rfl (lv_at hl 2 rfl) ?_
      refine lv_iconst (v := 0) hx hb dX9_paneOf_9 (by decide) ?_
      refine lv_bipush (v := 6) hx hb dX9_paneOf_10 (by decide) ?_
      refine k_i0 (va_runS (As := [.int 4, .int 0, .int 6]) (rest := []) hF (c_X9_isIn l D I C Q 4 0 6 _) (va_cwS 3 hts gX9_paneOf_X9_isIn rfl rfl rfl (by decide +kernel) ⟨Nat.le_of_ble_eq_true rfl, Nat.le_of_ble_eq_true rfl⟩) (kPreS hE k_P0 (k_D0 (A := A))) rfl rfl hl.1 rfl (lv_room (Nat.le_of_ble_eq_true rfl)) dX9_paneOf_12 ⟨Nat.zero_le _, Nat.zero_le _⟩) hP hS hA (fun H locs hP hS => ?_)
      refine lv_if_ne (tgt := 21) hx hb dX9_paneOf_15 (by decide) (fun c_15 => ?_) (fun c_15 => ?_)
      · refine lv_aload_n hx hb dX9_paneOf_21 rfl (lv_at hl 0 rfl) ?_
        refine lv_iload_n hx hb dX9_paneOf_22 rfl (lv_at hl 1 rfl) ?_
        refine k_iF (va_runV (As := [.int (nI pp)]) (rest := []) hF (c_X9_find l D I C Q a0 a1 a2 a3 a4 now kept st text len att num rd np (nI pp) hnp hn64 _) (cwV 1 hts gX9_paneOf_X9_find rfl rfl rfl (by decide +kernel) ⟨Nat.le_of_ble_eq_true rfl, Nat.le_of_ble_eq_true rfl⟩) (kPreV hE hP hD (ci := 9) (q0 := 0) rfl rfl) rfl rfl hl.1 rfl (lv_room (Nat.le_of_ble_eq_true rfl)) dX9_paneOf_23 ⟨Nat.zero_le _, Nat.zero_le _⟩) hD hS hA (fun H locs hP hD hS => ?_)
        rcases m_find_or now (nI pp) np with ⟨hlt, hq⟩ | ⟨hlt, hq⟩
        · refine k_top hq ?_
          refine lv_istore_n (lv' := [(3, .int (nI (m_fk now (nI pp) np))), (0, .ref a0), (1, .int (nI pp)), (2, .int 4)]) hx hb dX9_paneOf_26 rfl hl (by decide) rfl (fun ls hl => ?_)
          refine lv_iload_n hx hb dX9_paneOf_27 rfl (lv_at hl 3 rfl) ?_
          refine lv_tableIn (off := 51) (tgt := 79) hx hb dX9_paneOf_28 (by decide) (by decide) (by decide) (by decide) ?_
          refine lv_iload_n hx hb dX9_paneOf_79 rfl (lv_at hl 0 rfl) ?_
          refine lv_if_lt (tgt := 93) hx hb dX9_paneOf_80 (by decide) (fun c_80 => ?_) (fun c_80 => ?_)
          · exact absurd c_80 (nI_pos (by omega))
          · refine lv_aload_n hx hb dX9_paneOf_83 rfl (lv_at hl 1 rfl) ?_
            refine lv_iload_n hx hb dX9_paneOf_84 rfl (lv_at hl 0 rfl) ?_
            refine lv_iconst (v := 1) hx hb dX9_paneOf_85 (by decide) ?_
            refine k_iF (va_runV (As := [.int (nI (m_fk now (nI pp) np)), .int 1]) (rest := []) hF (c_X9_ofP l D I C Q a0 a1 a2 a3 a4 now kept st text len att num rd (m_fk now (nI pp) np) 1 (by omega) (by omega) _) (cwV 2 hts gX9_paneOf_X9_ofP rfl rfl rfl (by decide +kernel) ⟨Nat.le_of_ble_eq_true rfl, Nat.le_of_ble_eq_true rfl⟩) (kPreV hE hP hD (ci := 9) (q0 := 0) rfl rfl) rfl rfl hl.1 rfl (lv_room (Nat.le_of_ble_eq_true rfl)) dX9_paneOf_86 ⟨Nat.zero_le _, Nat.zero_le _⟩) hD hS hA (fun H locs hP hD hS => ?_)
            refine lv_iconst (v := 1) hx hb dX9_paneOf_89 (by decide) ?_
            refine lv_icmp_eq (tgt := 98) hx hb dX9_paneOf_90 (by decide) (fun c_90 => ?_) (fun c_90 => ?_)
            · refine lv_aload_n hx hb dX9_paneOf_98 rfl (lv_at hl 1 rfl) ?_
              refine lv_iload_n hx hb dX9_paneOf_99 rfl (lv_at hl 0 rfl) ?_
              refine lv_iconst (v := 2) hx hb dX9_paneOf_100 (by decide) ?_
              refine k_iF (va_runV (As := [.int (nI (m_fk now (nI pp) np)), .int 2]) (rest := []) hF (c_X9_ofP l D I C Q a0 a1 a2 a3 a4 now kept st text len att num rd (m_fk now (nI pp) np) 2 (by omega) (by omega) _) (cwV 2 hts gX9_paneOf_X9_ofP rfl rfl rfl (by decide +kernel) ⟨Nat.le_of_ble_eq_true rfl, Nat.le_of_ble_eq_true rfl⟩) (kPreV hE hP hD (ci := 9) (q0 := 0) rfl rfl) rfl rfl hl.1 rfl (lv_room (Nat.le_of_ble_eq_true rfl)) dX9_paneOf_101 ⟨Nat.zero_le _, Nat.zero_le _⟩) hD hS hA (fun H locs hP hD hS => ?_)
              exact hend _ _ _ _ _ _ hP hD hS dX9_paneOf_104 rfl rfl (by simp +decide only [m_paneOf, hlt, c_90, if_true, if_false, not_true_eq_false, not_false_eq_true, and_self, and_true, true_and, and_false, false_and, kn01, kn10, kn02, kn20, kn12, kn21, eq_self])
            · refine lv_ldc (v := (-1000004)) hx hb hown k0 dX9_paneOf_93 ?_
              refine lv_goto (tgt := 104) hx hb dX9_paneOf_95 (by decide) ?_
              exact hend _ _ _ _ _ _ hP hD hS dX9_paneOf_104 rfl rfl (by simp +decide only [m_paneOf, hlt, c_90, if_true, if_false, not_true_eq_false, not_false_eq_true, and_self, and_true, true_and, and_false, false_and, kn01, kn10, kn02, kn20, kn12, kn21, eq_self])
        · refine k_top hq ?_
          refine lv_istore_n (lv' := [(3, .int (-1)), (0, .ref a0), (1, .int (nI pp)), (2, .int 4)]) hx hb dX9_paneOf_26 rfl hl (by decide) rfl (fun ls hl => ?_)
          refine lv_iload_n hx hb dX9_paneOf_27 rfl (lv_at hl 3 rfl) ?_
          refine lv_tableIn (off := 51) (tgt := 79) hx hb dX9_paneOf_28 (by decide) (by decide) (by decide) (by decide) ?_
          refine lv_iload_n hx hb dX9_paneOf_79 rfl (lv_at hl 0 rfl) ?_
          refine lv_if_lt (tgt := 93) hx hb dX9_paneOf_80 (by decide) (fun c_80 => ?_) (fun c_80 => ?_)
          · refine lv_ldc (v := (-1000004)) hx hb hown k0 dX9_paneOf_93 ?_
            refine lv_goto (tgt := 104) hx hb dX9_paneOf_95 (by decide) ?_
            exact hend _ _ _ _ _ _ hP hD hS dX9_paneOf_104 rfl rfl (by simp +decide only [m_paneOf, hlt, if_true, if_false, not_true_eq_false, not_false_eq_true, and_self, and_true, true_and, and_false, false_and, kn01, kn10, kn02, kn20, kn12, kn21, eq_self])
          · exact (c_80 (by decide)).elim
      · exact absurd c_15 (by decide)
  · have hl : lv_has ls 4 [(0, .ref a0), (1, .int (nI pp)), (2, .int 5)] := hl
    refine lv_aload_n hx hb dX9_paneOf_0 rfl (lv_at hl 0 rfl) ?_
    refine lv_iload_n hx hb dX9_paneOf_1 rfl (lv_at hl 1 rfl) ?_
    refine k_iF (va_runV (As := [.int (nI pp)]) (rest := []) hF (c_X9_isPane l D I C Q a0 a1 a2 a3 a4 now kept st text len att num rd sz (nI pp) hsz hs0 hs1 _) (cwV 1 hts gX9_paneOf_X9_isPane rfl rfl rfl (by decide +kernel) ⟨Nat.le_of_ble_eq_true rfl, Nat.le_of_ble_eq_true rfl⟩) (kPreV hE hP hD (ci := 9) (q0 := 0) rfl rfl) rfl rfl hl.1 rfl (lv_room (Nat.le_of_ble_eq_true rfl)) dX9_paneOf_2 ⟨Nat.zero_le _, Nat.zero_le _⟩) hD hS hA (fun H locs hP hD hS => ?_)
    refine lv_if_eq (tgt := 18) hx hb dX9_paneOf_5 (by decide) (fun c_5 => ?_) (fun c_5 => ?_)
    · exact absurd c_5 hok
    · refine lv_iload_n hx hb dX9_paneOf_8 rfl (lv_at hl 2 rfl) ?_
      refine lv_iconst (v := 0) hx hb dX9_paneOf_9 (by decide) ?_
      refine lv_bipush (v := 6) hx hb dX9_paneOf_10 (by decide) ?_
      refine k_i0 (va_runS (As := [.int 5, .int 0, .int 6]) (rest := []) hF (c_X9_isIn l D I C Q 5 0 6 _) (va_cwS 3 hts gX9_paneOf_X9_isIn rfl rfl rfl (by decide +kernel) ⟨Nat.le_of_ble_eq_true rfl, Nat.le_of_ble_eq_true rfl⟩) (kPreS hE k_P0 (k_D0 (A := A))) rfl rfl hl.1 rfl (lv_room (Nat.le_of_ble_eq_true rfl)) dX9_paneOf_12 ⟨Nat.zero_le _, Nat.zero_le _⟩) hP hS hA (fun H locs hP hS => ?_)
      refine lv_if_ne (tgt := 21) hx hb dX9_paneOf_15 (by decide) (fun c_15 => ?_) (fun c_15 => ?_)
      · refine lv_aload_n hx hb dX9_paneOf_21 rfl (lv_at hl 0 rfl) ?_
        refine lv_iload_n hx hb dX9_paneOf_22 rfl (lv_at hl 1 rfl) ?_
        refine k_iF (va_runV (As := [.int (nI pp)]) (rest := []) hF (c_X9_find l D I C Q a0 a1 a2 a3 a4 now kept st text len att num rd np (nI pp) hnp hn64 _) (cwV 1 hts gX9_paneOf_X9_find rfl rfl rfl (by decide +kernel) ⟨Nat.le_of_ble_eq_true rfl, Nat.le_of_ble_eq_true rfl⟩) (kPreV hE hP hD (ci := 9) (q0 := 0) rfl rfl) rfl rfl hl.1 rfl (lv_room (Nat.le_of_ble_eq_true rfl)) dX9_paneOf_23 ⟨Nat.zero_le _, Nat.zero_le _⟩) hD hS hA (fun H locs hP hD hS => ?_)
        rcases m_find_or now (nI pp) np with ⟨hlt, hq⟩ | ⟨hlt, hq⟩
        · refine k_top hq ?_
          refine lv_istore_n (lv' := [(3, .int (nI (m_fk now (nI pp) np))), (0, .ref a0), (1, .int (nI pp)), (2, .int 5)]) hx hb dX9_paneOf_26 rfl hl (by decide) rfl (fun ls hl => ?_)
          refine lv_iload_n hx hb dX9_paneOf_27 rfl (lv_at hl 3 rfl) ?_
          refine lv_tableOut (tgt := 105) hx hb dX9_paneOf_28 (by decide) (by decide) ?_
          refine lv_iload_n hx hb dX9_paneOf_105 rfl (lv_at hl 0 rfl) ?_
          refine lv_if_ge (tgt := 113) hx hb dX9_paneOf_106 (by decide) (fun c_106 => ?_) (fun c_106 => ?_)
          · refine lv_aload_n hx hb dX9_paneOf_113 rfl (lv_at hl 1 rfl) ?_
            refine lv_iload_n hx hb dX9_paneOf_114 rfl (lv_at hl 0 rfl) ?_
            refine lv_iload_n hx hb dX9_paneOf_115 rfl (lv_at hl 3 rfl) ?_
            refine lv_iconst (v := 5) hx hb dX9_paneOf_116 (by decide) ?_
            refine lv_icmp_ne (tgt := 124) hx hb dX9_paneOf_117 (by decide) (fun c_117 => ?_) (fun c_117 => ?_)
            · exact (c_117 (by decide)).elim
            · refine lv_iconst (v := 3) hx hb dX9_paneOf_120 (by decide) ?_
              refine lv_goto (tgt := 125) hx hb dX9_paneOf_121 (by decide) ?_
              refine k_iF (va_runV (As := [.int (nI (m_fk now (nI pp) np)), .int 3]) (rest := []) hF (c_X9_ofP l D I C Q a0 a1 a2 a3 a4 now kept st text len att num rd (m_fk now (nI pp) np) 3 (by omega) (by omega) _) (cwV 2 hts gX9_paneOf_X9_ofP rfl rfl rfl (by decide +kernel) ⟨Nat.le_of_ble_eq_true rfl, Nat.le_of_ble_eq_true rfl⟩) (kPreV hE hP hD (ci := 9) (q0 := 0) rfl rfl) rfl rfl hl.1 rfl (lv_room (Nat.le_of_ble_eq_true rfl)) dX9_paneOf_125 ⟨Nat.zero_le _, Nat.zero_le _⟩) hD hS hA (fun H locs hP hD hS => ?_)
              exact hend _ _ _ _ _ _ hP hD hS dX9_paneOf_128 rfl rfl (by simp +decide only [m_paneOf, hlt, if_true, if_false, not_true_eq_false, not_false_eq_true, and_self, and_true, true_and, and_false, false_and, kn01, kn10, kn02, kn20, kn12, kn21, eq_self])
          · exact absurd (nI_pos' (by omega)) c_106
        · refine k_top hq ?_
          refine lv_istore_n (lv' := [(3, .int (-1)), (0, .ref a0), (1, .int (nI pp)), (2, .int 5)]) hx hb dX9_paneOf_26 rfl hl (by decide) rfl (fun ls hl => ?_)
          refine lv_iload_n hx hb dX9_paneOf_27 rfl (lv_at hl 3 rfl) ?_
          refine lv_tableOut (tgt := 105) hx hb dX9_paneOf_28 (by decide) (by decide) ?_
          refine lv_iload_n hx hb dX9_paneOf_105 rfl (lv_at hl 0 rfl) ?_
          refine lv_if_ge (tgt := 113) hx hb dX9_paneOf_106 (by decide) (fun c_106 => ?_) (fun c_106 => ?_)
          · exact absurd c_106 (by decide)
          · refine lv_iconst (v := 0) hx hb dX9_paneOf_109 (by decide) ?_
            refine lv_goto (tgt := 128) hx hb dX9_paneOf_110 (by decide) ?_
            exact hend _ _ _ _ _ _ hP hD hS dX9_paneOf_128 rfl rfl (by simp +decide only [m_paneOf, hlt, if_true, if_false, not_true_eq_false, not_false_eq_true, and_self, and_true, true_and, and_false, false_and, kn01, kn10, kn02, kn20, kn12, kn21, eq_self])
      · exact absurd c_15 (by decide)
  · have hl : lv_has ls 4 [(0, .ref a0), (1, .int (nI pp)), (2, .int 6)] := hl
    refine lv_aload_n hx hb dX9_paneOf_0 rfl (lv_at hl 0 rfl) ?_
    refine lv_iload_n hx hb dX9_paneOf_1 rfl (lv_at hl 1 rfl) ?_
    refine k_iF (va_runV (As := [.int (nI pp)]) (rest := []) hF (c_X9_isPane l D I C Q a0 a1 a2 a3 a4 now kept st text len att num rd sz (nI pp) hsz hs0 hs1 _) (cwV 1 hts gX9_paneOf_X9_isPane rfl rfl rfl (by decide +kernel) ⟨Nat.le_of_ble_eq_true rfl, Nat.le_of_ble_eq_true rfl⟩) (kPreV hE hP hD (ci := 9) (q0 := 0) rfl rfl) rfl rfl hl.1 rfl (lv_room (Nat.le_of_ble_eq_true rfl)) dX9_paneOf_2 ⟨Nat.zero_le _, Nat.zero_le _⟩) hD hS hA (fun H locs hP hD hS => ?_)
    refine lv_if_eq (tgt := 18) hx hb dX9_paneOf_5 (by decide) (fun c_5 => ?_) (fun c_5 => ?_)
    · exact absurd c_5 hok
    · refine lv_iload_n hx hb dX9_paneOf_8 rfl (lv_at hl 2 rfl) ?_
      refine lv_iconst (v := 0) hx hb dX9_paneOf_9 (by decide) ?_
      refine lv_bipush (v := 6) hx hb dX9_paneOf_10 (by decide) ?_
      refine k_i0 (va_runS (As := [.int 6, .int 0, .int 6]) (rest := []) hF (c_X9_isIn l D I C Q 6 0 6 _) (va_cwS 3 hts gX9_paneOf_X9_isIn rfl rfl rfl (by decide +kernel) ⟨Nat.le_of_ble_eq_true rfl, Nat.le_of_ble_eq_true rfl⟩) (kPreS hE k_P0 (k_D0 (A := A))) rfl rfl hl.1 rfl (lv_room (Nat.le_of_ble_eq_true rfl)) dX9_paneOf_12 ⟨Nat.zero_le _, Nat.zero_le _⟩) hP hS hA (fun H locs hP hS => ?_)
      refine lv_if_ne (tgt := 21) hx hb dX9_paneOf_15 (by decide) (fun c_15 => ?_) (fun c_15 => ?_)
      · refine lv_aload_n hx hb dX9_paneOf_21 rfl (lv_at hl 0 rfl) ?_
        refine lv_iload_n hx hb dX9_paneOf_22 rfl (lv_at hl 1 rfl) ?_
        refine k_iF (va_runV (As := [.int (nI pp)]) (rest := []) hF (c_X9_find l D I C Q a0 a1 a2 a3 a4 now kept st text len att num rd np (nI pp) hnp hn64 _) (cwV 1 hts gX9_paneOf_X9_find rfl rfl rfl (by decide +kernel) ⟨Nat.le_of_ble_eq_true rfl, Nat.le_of_ble_eq_true rfl⟩) (kPreV hE hP hD (ci := 9) (q0 := 0) rfl rfl) rfl rfl hl.1 rfl (lv_room (Nat.le_of_ble_eq_true rfl)) dX9_paneOf_23 ⟨Nat.zero_le _, Nat.zero_le _⟩) hD hS hA (fun H locs hP hD hS => ?_)
        rcases m_find_or now (nI pp) np with ⟨hlt, hq⟩ | ⟨hlt, hq⟩
        · refine k_top hq ?_
          refine lv_istore_n (lv' := [(3, .int (nI (m_fk now (nI pp) np))), (0, .ref a0), (1, .int (nI pp)), (2, .int 6)]) hx hb dX9_paneOf_26 rfl hl (by decide) rfl (fun ls hl => ?_)
          refine lv_iload_n hx hb dX9_paneOf_27 rfl (lv_at hl 3 rfl) ?_
          refine lv_tableOut (tgt := 105) hx hb dX9_paneOf_28 (by decide) (by decide) ?_
          refine lv_iload_n hx hb dX9_paneOf_105 rfl (lv_at hl 0 rfl) ?_
          refine lv_if_ge (tgt := 113) hx hb dX9_paneOf_106 (by decide) (fun c_106 => ?_) (fun c_106 => ?_)
          · refine lv_aload_n hx hb dX9_paneOf_113 rfl (lv_at hl 1 rfl) ?_
            refine lv_iload_n hx hb dX9_paneOf_114 rfl (lv_at hl 0 rfl) ?_
            refine lv_iload_n hx hb dX9_paneOf_115 rfl (lv_at hl 3 rfl) ?_
            refine lv_iconst (v := 5) hx hb dX9_paneOf_116 (by decide) ?_
            refine lv_icmp_ne (tgt := 124) hx hb dX9_paneOf_117 (by decide) (fun c_117 => ?_) (fun c_117 => ?_)
            · refine lv_iconst (v := 4) hx hb dX9_paneOf_124 (by decide) ?_
              refine k_iF (va_runV (As := [.int (nI (m_fk now (nI pp) np)), .int 4]) (rest := []) hF (c_X9_ofP l D I C Q a0 a1 a2 a3 a4 now kept st text len att num rd (m_fk now (nI pp) np) 4 (by omega) (by omega) _) (cwV 2 hts gX9_paneOf_X9_ofP rfl rfl rfl (by decide +kernel) ⟨Nat.le_of_ble_eq_true rfl, Nat.le_of_ble_eq_true rfl⟩) (kPreV hE hP hD (ci := 9) (q0 := 0) rfl rfl) rfl rfl hl.1 rfl (lv_room (Nat.le_of_ble_eq_true rfl)) dX9_paneOf_125 ⟨Nat.zero_le _, Nat.zero_le _⟩) hD hS hA (fun H locs hP hD hS => ?_)
              exact hend _ _ _ _ _ _ hP hD hS dX9_paneOf_128 rfl rfl (by simp +decide only [m_paneOf, hlt, if_true, if_false, not_true_eq_false, not_false_eq_true, and_self, and_true, true_and, and_false, false_and, kn01, kn10, kn02, kn20, kn12, kn21, eq_self])
            · exact absurd c_117 (by decide)
          · exact absurd (nI_pos' (by omega)) c_106
        · refine k_top hq ?_
          refine lv_istore_n (lv' := [(3, .int (-1)), (0, .ref a0), (1, .int (nI pp)), (2, .int 6)]) hx hb dX9_paneOf_26 rfl hl (by decide) rfl (fun ls hl => ?_)
          refine lv_iload_n hx hb dX9_paneOf_27 rfl (lv_at hl 3 rfl) ?_
          refine lv_tableOut (tgt := 105) hx hb dX9_paneOf_28 (by decide) (by decide) ?_
          refine lv_iload_n hx hb dX9_paneOf_105 rfl (lv_at hl 0 rfl) ?_
          refine lv_if_ge (tgt := 113) hx hb dX9_paneOf_106 (by decide) (fun c_106 => ?_) (fun c_106 => ?_)
          · exact absurd c_106 (by decide)
          · refine lv_iconst (v := 0) hx hb dX9_paneOf_109 (by decide) ?_
            refine lv_goto (tgt := 128) hx hb dX9_paneOf_110 (by decide) ?_
            exact hend _ _ _ _ _ _ hP hD hS dX9_paneOf_128 rfl rfl (by simp +decide only [m_paneOf, hlt, if_true, if_false, not_true_eq_false, not_false_eq_true, and_self, and_true, true_and, and_false, false_and, kn01, kn10, kn02, kn20, kn12, kn21, eq_self])
      · exact absurd c_15 (by decide)
