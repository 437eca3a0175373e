set_option maxHeartbeats 400000 in
set_option maxRecDepth 100000 in
theorem c_X9_standingB (l : Launch) (D : va_G) (I C Q : ClassId) (a0 a1 a2 a3 a4 : Nat) (now : Nat → Int32) (kept : Nat → Int32) (st : Int32) (text : Nat → Int32) (len : Int32) (att : Int32) (num : Int32) (rd : Nat → Int32) (sz : Nat) (q : Int32) (w : Int32) (hsz : now 6 = nI sz) (hs0 : 0 < sz) (hs1 : sz ≤ 100) (hbad : m_isP now q sz = 0 ∨ m_isIn w 0 1 = 0) : KI l D (tyL I C Q) yX9_standing wsX9_standing { frames := 2, cells := 0, slots := 0, locals := 43 } [.ref a0, .int q, .int w] (wM I a0 a1 a2 a3 a4 now kept st text len att num rd) (wM I a0 a1 a2 a3 a4 now kept st text len att num rd) (-1000001) := by
  refine KI.of (cc := cX9_standing) (maxL := 4) (rt := .int) (own := RX9) (by decide) rfl rfl (Nat.le_of_ble_eq_true rfl) ?_
  intro p e s m below meth c A Q0 ls hx hb hml hown hts hE hA hP hD hS hl hend
  have hK := hE.1
  have hF : CallFix p m c cX9_standing 4 s [.ref a0, .int q, .int w].toArray wsX9_standing RX9 := ⟨hx, hb, hml, hown, hts⟩
  have k0 := hts (.constant RX9 31 (-1000001)) (List.mem_of_getElem? (i := 1) rfl)
  have hl : lv_has ls 4 [(0, .ref a0), (1, .int q), (2, .int w)] := hl
  refine lv_aload_n hx hb dX9_standing_0 rfl (lv_at hl 0 rfl) ?_
  refine lv_iload_n hx hb dX9_standing_1 rfl (lv_at hl 1 rfl) ?_
  refine k_iF (va_runV (As := [.int q]) (rest := []) hF (c_X9_isPane l D I C Q a0 a1 a2 a3 a4 now kept st text len att num rd sz q hsz hs0 hs1 _) (cwV 1 hts gX9_standing_X9_isPane rfl rfl rfl (by decide +kernel) ⟨Nat.le_of_ble_eq_true rfl, Nat.le_of_ble_eq_true rfl⟩) (kPreV hE hP hD (ci := 9) (q0 := 0) rfl rfl) rfl rfl hl.1 rfl (lv_room (Nat.le_of_ble_eq_true rfl)) dX9_standing_2 ⟨Nat.zero_le _, Nat.zero_le _⟩) hD hS hA (fun H locs hP hD hS => ?_)
  refine lv_if_eq (tgt := 17) hx hb dX9_standing_5 (by decide) (fun c_5 => ?_) (fun c_5 => ?_)
  · refine lv_ldc (v := (-1000001)) hx hb hown k0 dX9_standing_17 ?_
    exact hend _ _ _ _ _ _ hP hD hS dX9_standing_19 rfl rfl rfl
  · refine lv_iload_n hx hb dX9_standing_8 rfl (lv_at hl 2 rfl) ?_
    refine lv_iconst (v := 0) hx hb dX9_standing_9 (by decide) ?_
    refine lv_iconst (v := 1) hx hb dX9_standing_10 (by decide) ?_
    refine k_i0 (va_runS (As := [.int w, .int 0, .int 1]) (rest := []) hF (c_X9_isIn l D I C Q w 0 1 _) (va_cwS 3 hts gX9_standing_X9_isIn rfl rfl rfl (by decide +kernel) ⟨Nat.le_of_ble_eq_true rfl, Nat.le_of_ble_eq_true rfl⟩) (kPreS hE k_P0 (k_D0 (A := A))) rfl rfl hl.1 rfl (lv_room (Nat.le_of_ble_eq_true rfl)) dX9_standing_11 ⟨Nat.zero_le _, Nat.zero_le _⟩) hP hS hA (fun H locs hP hS => ?_)
    refine lv_if_ne (tgt := 20) hx hb dX9_standing_14 (by decide) (fun c_14 => ?_) (fun c_14 => ?_)
    · exact (hbad.elim c_5 c_14).elim
    · refine lv_ldc (v := (-1000001)) hx hb hown k0 dX9_standing_17 ?_
      exact hend _ _ _ _ _ _ hP hD hS dX9_standing_19 rfl rfl rfl
set_option maxHeartbeats 400000 in
set_option maxRecDepth 100000 in
theorem c_X9_standingO (l : Launch) (D : va_G) (I C Q : ClassId) (a0 a1 a2 a3 a4 : Nat) (now : Nat → Int32) (kept : Nat → Int32) (st : Int32) (text : Nat → Int32) (len : Int32) (att : Int32) (num : Int32) (rd : Nat → Int32) (np : Nat) (sz : Nat) (pp : Nat) (w : Nat) (hnp : now 10 = nI np) (hn64 : np ≤ 64) (hsz : now 6 = nI sz) (hs0 : 0 < sz) (hs1 : sz ≤ 100) (hok : ¬ m_isP now (nI pp) sz = 0) (hpp : pp < 2000) (hw7 : w < 2) : KI l D (tyL I C Q) yX9_standing wsX9_standing { frames := 2, cells := 0, slots := 0, locals := 44 } [.ref a0, .int (nI pp), .int (nI w)] (wM I a0 a1 a2 a3 a4 now kept st text len att num rd) (wM I a0 a1 a2 a3 a4 now kept st text len att num rd) (m_stand now pp w np) := by
  refine KI.of (cc := cX9_standing) (maxL := 4) (rt := .int) (own := RX9) (by decide) rfl rfl (Nat.le_of_ble_eq_true rfl) ?_
  intro p e s m below meth c A Q0 ls hx hb hml hown hts hE hA hP hD hS hl hend
  have hK := hE.1
  have hF : CallFix p m c cX9_standing 4 s [.ref a0, .int (nI pp), .int (nI w)].toArray wsX9_standing RX9 := ⟨hx, hb, hml, hown, hts⟩
  have k0 := hts (.constant RX9 119 (-1000004)) (List.mem_of_getElem? (i := 2) rfl)
  have hl : lv_has ls 4 [(0, .ref a0), (1, .int (nI pp)), (2, .int (nI w))] := hl
  rcases (show w = 0 ∨ w = 1 by omega) with rfl | rfl
  · have hl : lv_has ls 4 [(0, .ref a0), (1, .int (nI pp)), (2, .int 0)] := hl
    refine lv_aload_n hx hb dX9_standing_0 rfl (lv_at hl 0 rfl) ?_
    refine lv_iload_n hx hb dX9_standing_1 rfl (lv_at hl 1 rfl) ?_
    refine k_iF (va_runV (As := [.int (nI pp)]) (rest := []) hF (c_X9_isPane l D I C Q a0 a1 a2 a3 a4 now kept st text len att num rd sz (nI pp) hsz hs0 hs1 _) (cwV 1 hts gX9_standing_X9_isPane rfl rfl rfl (by decide +kernel) ⟨Nat.le_of_ble_eq_true rfl, Nat.le_of_ble_eq_true rfl⟩) (kPreV hE hP hD (ci := 9) (q0 := 0) rfl rfl) rfl rfl hl.1 rfl (lv_room (Nat.le_of_ble_eq_true rfl)) dX9_standing_2 ⟨Nat.zero_le _, Nat.zero_le _⟩) hD hS hA (fun H locs hP hD hS => ?_)
    refine lv_if_eq (tgt := 17) hx hb dX9_standing_5 (by decide) (fun c_5 => ?_) (fun c_5 => ?_)
    · exact absurd c_5 hok
    · refine lv_iload_n hx hb dX9_standing_8 rfl (lv_at hl 2 rfl) ?_
      refine lv_iconst (v := 0) hx hb dX9_standing_9 (by decide) ?_
      refine lv_iconst (v := 1) hx hb dX9_standing_10 (by decide) ?_
      refine k_i0 (va_runS (As := [.int 0, .int 0, .int 1]) (rest := []) hF (c_X9_isIn l D I C Q 0 0 1 _) (va_cwS 3 hts gX9_standing_X9_isIn rfl rfl rfl (by decide +kernel) ⟨Nat.le_of_ble_eq_true rfl, Nat.le_of_ble_eq_true rfl⟩) (kPreS hE k_P0 (k_D0 (A := A))) rfl rfl hl.1 rfl (lv_room (Nat.le_of_ble_eq_true rfl)) dX9_standing_11 ⟨Nat.zero_le _, Nat.zero_le _⟩) hP hS hA (fun H locs hP hS => ?_)
      refine lv_if_ne (tgt := 20) hx hb dX9_standing_14 (by decide) (fun c_14 => ?_) (fun c_14 => ?_)
      · refine lv_aload_n hx hb dX9_standing_20 rfl (lv_at hl 0 rfl) ?_
        refine lv_iload_n hx hb dX9_standing_21 rfl (lv_at hl 1 rfl) ?_
        refine k_iF (va_runV (As := [.int (nI pp)]) (rest := []) hF (c_X9_find l D I C Q a0 a1 a2 a3 a4 now kept st text len att num rd np (nI pp) hnp hn64 _) (cwV 1 hts gX9_standing_X9_find rfl rfl rfl (by decide +kernel) ⟨Nat.le_of_ble_eq_true rfl, Nat.le_of_ble_eq_true rfl⟩) (kPreV hE hP hD (ci := 9) (q0 := 0) rfl rfl) rfl rfl hl.1 rfl (lv_room (Nat.le_of_ble_eq_true rfl)) dX9_standing_22 ⟨Nat.zero_le _, Nat.zero_le _⟩) hD hS hA (fun H locs hP hD hS => ?_)
        rcases m_find_or now (nI pp) np with ⟨hlt, hq⟩ | ⟨hlt, hq⟩
        · refine k_top hq ?_
          refine lv_istore_n (lv' := [(3, .int (nI (m_fk now (nI pp) np))), (0, .ref a0), (1, .int (nI pp)), (2, .int 0)]) hx hb dX9_standing_25 rfl hl (by decide) rfl (fun ls hl => ?_)
          refine lv_iload_n hx hb dX9_standing_26 rfl (lv_at hl 0 rfl) ?_
          refine lv_if_lt (tgt := 39) hx hb dX9_standing_27 (by decide) (fun c_27 => ?_) (fun c_27 => ?_)
          · exact absurd c_27 (nI_pos (by omega))
          · refine lv_aload_n hx hb dX9_standing_30 rfl (lv_at hl 1 rfl) ?_
            refine lv_iload_n hx hb dX9_standing_31 rfl (lv_at hl 0 rfl) ?_
            refine lv_iconst (v := 5) hx hb dX9_standing_32 (by decide) ?_
            refine k_iF (va_runV (As := [.int (nI (m_fk now (nI pp) np)), .int 5]) (rest := []) hF (c_X9_ofP l D I C Q a0 a1 a2 a3 a4 now kept st text len att num rd (m_fk now (nI pp) np) 5 (by omega) (by omega) _) (cwV 2 hts gX9_standing_X9_ofP rfl rfl rfl (by decide +kernel) ⟨Nat.le_of_ble_eq_true rfl, Nat.le_of_ble_eq_true rfl⟩) (kPreV hE hP hD (ci := 9) (q0 := 0) rfl rfl) rfl rfl hl.1 rfl (lv_room (Nat.le_of_ble_eq_true rfl)) dX9_standing_33 ⟨Nat.zero_le _, Nat.zero_le _⟩) hD hS hA (fun H locs hP hD hS => ?_)
            refine lv_if_ne (tgt := 44) hx hb dX9_standing_36 (by decide) (fun c_36 => ?_) (fun c_36 => ?_)
            · refine lv_aload_n hx hb dX9_standing_44 rfl (lv_at hl 1 rfl) ?_
              refine lv_iload_n hx hb dX9_standing_45 rfl (lv_at hl 0 rfl) ?_
              refine lv_bipush (v := 6) hx hb dX9_standing_46 (by decide) ?_
              refine lv_iload_n hx hb dX9_standing_48 rfl (lv_at hl 3 rfl) ?_
              refine k_iadd (v := 6) hx hb dX9_standing_49 (nI_add 6 0) ?_
              refine k_iF (va_runV (As := [.int (nI (m_fk now (nI pp) np)), .int 6]) (rest := []) hF (c_X9_ofP l D I C Q a0 a1 a2 a3 a4 now kept st text len att num rd (m_fk now (nI pp) np) 6 (by omega) (by omega) _) (cwV 2 hts gX9_standing_X9_ofP rfl rfl rfl (by decide +kernel) ⟨Nat.le_of_ble_eq_true rfl, Nat.le_of_ble_eq_true rfl⟩) (kPreV hE hP hD (ci := 9) (q0 := 0) rfl rfl) rfl rfl hl.1 rfl (lv_room (Nat.le_of_ble_eq_true rfl)) dX9_standing_50 ⟨Nat.zero_le _, Nat.zero_le _⟩) hD hS hA (fun H locs hP hD hS => ?_)
              exact hend _ _ _ _ _ _ hP hD hS dX9_standing_53 rfl rfl (by simp +decide only [m_stand, hlt, c_36, if_true, if_false, not_true_eq_false, not_false_eq_true, and_self, and_true, true_and, and_false, false_and, kn01, kn10, kn02, kn20, kn12, kn21, eq_self])
            · refine lv_ldc (v := (-1000004)) hx hb hown k0 dX9_standing_39 ?_
              refine lv_goto (tgt := 53) hx hb dX9_standing_41 (by decide) ?_
              exact hend _ _ _ _ _ _ hP hD hS dX9_standing_53 rfl rfl (by simp +decide only [m_stand, hlt, c_36, if_true, if_false, not_true_eq_false, not_false_eq_true, and_self, and_true, true_and, and_false, false_and, kn01, kn10, kn02, kn20, kn12, kn21, eq_self])
        · refine k_top hq ?_
          refine lv_istore_n (lv' := [(3, .int (-1)), (0, .ref a0), (1, .int (nI pp)), (2, .int 0)]) hx hb dX9_standing_25 rfl hl (by decide) rfl (fun ls hl => ?_)
          refine lv_iload_n hx hb dX9_standing_26 rfl (lv_at hl 0 rfl) ?_
          refine lv_if_lt (tgt := 39) hx hb dX9_standing_27 (by decide) (fun c_27 => ?_) (fun c_27 => ?_)
          · refine lv_ldc (v := (-1000004)) hx hb hown k0 dX9_standing_39 ?_
            refine lv_goto (tgt := 53) hx hb dX9_standing_41 (by decide) ?_
            exact hend _ _ _ _ _ _ hP hD hS dX9_standing_53 rfl rfl (by simp +decide only [m_stand, hlt, if_true, if_false, not_true_eq_false, not_false_eq_true, and_self, and_true, true_and, and_false, false_and, kn01, kn10, kn02, kn20, kn12, kn21, eq_self])
          · exact (c_27 (by decide)).elim
      · exact absurd c_14 (by decide)
  · have hl : lv_has ls 4 [(0, .ref a0), (1, .int (nI pp)), (2, .int 1)] := hl
    refine lv_aload_n hx hb dX9_standing_0 rfl (lv_at hl 0 rfl) ?_
    refine lv_iload_n hx hb dX9_standing_1 rfl (lv_at hl 1 rfl) ?_
    refine k_iF (va_runV (As := [.int (nI pp)]) (rest := []) hF (c_X9_isPane l D I C Q a0 a1 a2 a3 a4 now kept st text len att num rd sz (nI pp) hsz hs0 hs1 _) (cwV 1 hts gX9_standing_X9_isPane rfl rfl rfl (by decide +kernel) ⟨Nat.le_of_ble_eq_true rfl, Nat.le_of_ble_eq_true rfl⟩) (kPreV hE hP hD (ci := 9) (q0 := 0) rfl rfl) rfl rfl hl.1 rfl (lv_room (Nat.le_of_ble_eq_true rfl)) dX9_standing_2 ⟨Nat.zero_le _, Nat.zero_le _⟩) hD hS hA (fun H locs hP hD hS => ?_)
    refine lv_if_eq (tgt := 17) hx hb dX9_standing_5 (by decide) (fun c_5 => ?_) (fun c_5 => ?_)
    · exact absurd c_5 hok
    · refine lv_iload_n hx hb dX9_standing_8 rfl (lv_at hl 2 rfl) ?_
      refine lv_iconst (v := 0) hx hb dX9_standing_9 (by decide) ?_
      refine lv_iconst (v := 1) hx hb dX9_standing_10 (by decide) ?_
      refine k_i0 (va_runS (As := [.int 1, .int 0, .int 1]) (rest := []) hF (c_X9_isIn l D I C Q 1 0 1 _) (va_cwS 3 hts gX9_standing_X9_isIn rfl rfl rfl (by decide +kernel) ⟨Nat.le_of_ble_eq_true rfl, Nat.le_of_ble_eq_true rfl⟩) (kPreS hE k_P0 (k_D0 (A := A))) rfl rfl hl.1 rfl (lv_room (Nat.le_of_ble_eq_true rfl)) dX9_standing_11 ⟨Nat.zero_le _, Nat.zero_le _⟩) hP hS hA (fun H locs hP hS => ?_)
      refine lv_if_ne (tgt := 20) hx hb dX9_standing_14 (by decide) (fun c_14 => ?_) (fun c_14 => ?_)
      · refine lv_aload_n hx hb dX9_standing_20 rfl (lv_at hl 0 rfl) ?_
        refine lv_iload_n hx hb dX9_standing_21 rfl (lv_at hl 1 rfl) ?_
        refine k_iF (va_runV (As := [.int (nI pp)]) (rest := []) hF (c_X9_find l D I C Q a0 a1 a2 a3 a4 now kept st text len att num rd np (nI pp) hnp hn64 _) (cwV 1 hts gX9_standing_X9_find rfl rfl rfl (by decide +kernel) ⟨Nat.le_of_ble_eq_true rfl, Nat.le_of_ble_eq_true rfl⟩) (kPreV hE hP hD (ci := 9) (q0 := 0) rfl rfl) rfl rfl hl.1 rfl (lv_room (Nat.le_of_ble_eq_true rfl)) dX9_standing_22 ⟨Nat.zero_le _, Nat.zero_le _⟩) hD hS hA (fun H locs hP hD hS => ?_)
        rcases m_find_or now (nI pp) np with ⟨hlt, hq⟩ | ⟨hlt, hq⟩
        · refine k_top hq ?_
          refine lv_istore_n (lv' := [(3, .int (nI (m_fk now (nI pp) np))), (0, .ref a0), (1, .int (nI pp)), (2, .int 1)]) hx hb dX9_standing_25 rfl hl (by decide) rfl (fun ls hl => ?_)
          refine lv_iload_n hx hb dX9_standing_26 rfl (lv_at hl 0 rfl) ?_
          refine lv_if_lt (tgt := 39) hx hb dX9_standing_27 (by decide) (fun c_27 => ?_) (fun c_27 => ?_)
          · exact absurd c_27 (nI_pos (by omega))
          · refine lv_aload_n hx hb dX9_standing_30 rfl (lv_at hl 1 rfl) ?_
            refine lv_iload_n hx hb dX9_standing_31 rfl (lv_at hl 0 rfl) ?_
            refine lv_iconst (v := 5) hx hb dX9_standing_32 (by decide) ?_
            refine k_iF (va_runV (As := [.int (nI (m_fk now (nI pp) np)), .int 5]) (rest := []) hF (c_X9_ofP l D I C Q a0 a1 a2 a3 a4 now kept st text len att num rd (m_fk now (nI pp) np) 5 (by omega) (by omega) _) (cwV 2 hts gX9_standing_X9_ofP rfl rfl rfl (by decide +kernel) ⟨Nat.le_of_ble_eq_true rfl, Nat.le_of_ble_eq_true rfl⟩) (kPreV hE hP hD (ci := 9) (q0 := 0) rfl rfl) rfl rfl hl.1 rfl (lv_room (Nat.le_of_ble_eq_true rfl)) dX9_standing_33 ⟨Nat.zero_le _, Nat.zero_le _⟩) hD hS hA (fun H locs hP hD hS => ?_)
            refine lv_if_ne (tgt := 44) hx hb dX9_standing_36 (by decide) (fun c_36 => ?_) (fun c_36 => ?_)
            · refine lv_aload_n hx hb dX9_standing_44 rfl (lv_at hl 1 rfl) ?_
              refine lv_iload_n hx hb dX9_standing_45 rfl (lv_at hl 0 rfl) ?_
              refine lv_bipush (v := 6) hx hb dX9_standing_46 (by decide) ?_
              refine lv_iload_n hx hb dX9_standing_48 rfl (lv_at hl 3 rfl) ?_
              refine k_iadd (v := 7) hx hb dX9_standing_49 (nI_add 6 1) ?_
              refine k_iF (va_runV (As := [.int (nI (m_fk now (nI pp) np)), .int 7]) (rest := []) hF (c_X9_ofP l D I C Q a0 a1 a2 a3 a4 now kept st text len att num rd (m_fk now (nI pp) np) 7 (by omega) (by omega) _) (cwV 2 hts gX9_standing_X9_ofP rfl rfl rfl (by decide +kernel) ⟨Nat.le_of_ble_eq_true rfl, Nat.le_of_ble_eq_true rfl⟩) (kPreV hE hP hD (ci := 9) (q0 := 0) rfl rfl) rfl rfl hl.1 rfl (lv_room (Nat.le_of_ble_eq_true rfl)) dX9_standing_50 ⟨Nat.zero_le _, Nat.zero_le _⟩) hD hS hA (fun H locs hP hD hS => ?_)
              exact hend _ _ _ _ _ _ hP hD hS dX9_standing_53 rfl rfl (by simp +decide only [m_stand, hlt, c_36, if_true, if_false, not_true_eq_false, not_false_eq_true, and_self, and_true, true_and, and_false, false_and, kn01, kn10, kn02, kn20, kn12, kn21, eq_self])
            · refine lv_ldc (v := (-1000004)) hx hb hown k0 dX9_standing_39 ?_
              refine lv_goto (tgt := 53) hx hb dX9_standing_41 (by decide) ?_
              exact hend _ _ _ _ _ _ hP hD hS dX9_standing_53 rfl rfl (by simp +decide only [m_stand, hlt, c_36, if_true, if_false, not_true_eq_false, not_false_eq_true, and_self, and_true, true_and, and_false, false_and, kn01, kn10, kn02, kn20, kn12, kn21, eq_self])
        · refine k_top hq ?_
          refine lv_istore_n (lv' := [(3, .int (-1)), (0, .ref a0), (1, .int (nI pp)), (2, .int 1)]) hx hb dX9_standing_25 rfl hl (by decide) rfl (fun ls hl => ?_)
          refine lv_iload_n hx hb dX9_standing_26 rfl (lv_at hl 0 rfl) ?_
          refine lv_if_lt (tgt := 39) hx hb dX9_standing_27 (by decide) (fun c_27 => ?_) (fun c_27 => ?_)
          · refine lv_ldc (v := (-1000004)) hx hb hown k0 dX9_standing_39 ?_
            refine lv_goto (tgt := 53) hx hb dX9_standing_41 (by decide) ?_
            exact hend _ _ _ _ _ _ hP hD hS dX9_standing_53 rfl rfl (by simp +decide only [m_stand, hlt, if_true, if_false, not_true_eq_false, not_false_eq_true, and_self, and_true, true_and, and_false, false_and, kn01, kn10, kn02, kn20, kn12, kn21, eq_self])
          · exact (c_27 (by decide)).elim
      · exact absurd c_14 (by decide)
set_option maxHeartbeats 400000 in
set_option maxRecDepth 100000 in
theorem c_X9_nextPaneB (l : Launch) (D : va_G) (I C Q : ClassId) (a0 a1 a2 a3 a4 : Nat) (now : Nat → Int32) (kept : Nat → Int32) (st : Int32) (text : Nat → Int32) (len : Int32) (att : Int32) (num : Int32) (rd : Nat → Int32) (q : Int32) (hbad : m_isIn q (-1) 1999 = 0) : KI l D (tyL I C Q) yX9_nextPane wsX9_nextPane { frames := 1, cells := 0, slots := 0, locals := 22 } [.ref a0, .int q] (wM I a0 a1 a2 a3 a4 now kept st text len att num rd) (wM I a0 a1 a2 a3 a4 now kept st text len att num rd) (-1000001) := by
  refine KI.of (cc := cX9_nextPane) (maxL := 4) (rt := .int) (own := RX9) (by decide) rfl rfl (Nat.le_of_ble_eq_true rfl) ?_
  intro p e s m below meth c A Q0 ls hx hb hml hown hts hE hA hP hD hS hl hend
  have hK := hE.1
  have hF : CallFix p m c cX9_nextPane 4 s [.ref a0, .int q].toArray wsX9_nextPane RX9 := ⟨hx, hb, hml, hown, hts⟩
  have k0 := hts (.constant RX9 31 (-1000001)) (List.mem_of_getElem? (i := 1) rfl)
  have hl : lv_has ls 4 [(0, .ref a0), (1, .int q)] := hl
  refine lv_iload_n hx hb dX9_nextPane_0 rfl (lv_at hl 1 rfl) ?_
  refine lv_iconst (v := (-1)) hx hb dX9_nextPane_1 (by decide) ?_
  refine lv_sipush (v := 1999) hx hb dX9_nextPane_2 (by decide) ?_
  refine k_i0 (va_runS (As := [.int q, .int (-1), .int 1999]) (rest := []) hF (c_X9_isIn l D I C Q q (-1) 1999 _) (va_cwS 3 hts gX9_nextPane_X9_isIn rfl rfl rfl (by decide +kernel) ⟨Nat.le_of_ble_eq_true rfl, Nat.le_of_ble_eq_true rfl⟩) (kPreS hE k_P0 (k_D0 (A := A))) rfl rfl hl.1 rfl (lv_room (Nat.le_of_ble_eq_true rfl)) dX9_nextPane_5 ⟨Nat.zero_le _, Nat.zero_le _⟩) hP hS hA (fun H locs hP hS => ?_)
  refine lv_if_ne (tgt := 14) hx hb dX9_nextPane_8 (by decide) (fun c_8 => ?_) (fun c_8 => ?_)
  · exact absurd hbad c_8
  · refine lv_ldc (v := (-1000001)) hx hb hown k0 dX9_nextPane_11 ?_
    exact hend _ _ _ _ _ _ hP hD hS dX9_nextPane_13 rfl rfl rfl
set_option maxHeartbeats 400000 in
set_option maxRecDepth 100000 in
theorem c_X9_nextPaneO (l : Launch) (D : va_G) (I C Q : ClassId) (a0 a1 a2 a3 a4 : Nat) (now : Nat → Int32) (kept : Nat → Int32) (st : Int32) (text : Nat → Int32) (len : Int32) (att : Int32) (num : Int32) (rd : Nat → Int32) (np : Nat) (sz : Nat) (q : Int32) (hnp : now 10 = nI np) (hn64 : np ≤ 64) (hsz : now 6 = nI sz) (hs0 : 0 < sz) (hs1 : sz ≤ 100) (hok : ¬ m_isIn q (-1) 1999 = 0) (hq1 : -1 ≤ q.toInt) (hnk : nOk now np) : KI l D (tyL I C Q) yX9_nextPane wsX9_nextPane { frames := 3, cells := 0, slots := 0, locals := 69 } [.ref a0, .int q] (wM I a0 a1 a2 a3 a4 now kept st text len att num rd) (wM I a0 a1 a2 a3 a4 now kept st text len att num rd) (m_npL now np sz 2000 q) := by
  refine KI.of (cc := cX9_nextPane) (maxL := 4) (rt := .int) (own := RX9) (by decide) rfl rfl (Nat.le_of_ble_eq_true rfl) ?_
  intro p e s m below meth c A Q0 ls hx hb hml hown hts hE hA hP hD hS hl hend
  have hK := hE.1
  have hF : CallFix p m c cX9_nextPane 4 s [.ref a0, .int q].toArray wsX9_nextPane RX9 := ⟨hx, hb, hml, hown, hts⟩
  have k0 := hts (.constant RX9 119 (-1000004)) (List.mem_of_getElem? (i := 2) rfl)
  have hl : lv_has ls 4 [(0, .ref a0), (1, .int q)] := hl
  refine lv_iload_n hx hb dX9_nextPane_0 rfl (lv_at hl 1 rfl) ?_
  refine lv_iconst (v := (-1)) hx hb dX9_nextPane_1 (by decide) ?_
  refine lv_sipush (v := 1999) hx hb dX9_nextPane_2 (by decide) ?_
  refine k_i0 (va_runS (As := [.int q, .int (-1), .int 1999]) (rest := []) hF (c_X9_isIn l D I C Q q (-1) 1999 _) (va_cwS 3 hts gX9_nextPane_X9_isIn rfl rfl rfl (by decide +kernel) ⟨Nat.le_of_ble_eq_true rfl, Nat.le_of_ble_eq_true rfl⟩) (kPreS hE k_P0 (k_D0 (A := A))) rfl rfl hl.1 rfl (lv_room (Nat.le_of_ble_eq_true rfl)) dX9_nextPane_5 ⟨Nat.zero_le _, Nat.zero_le _⟩) hP hS hA (fun H locs hP hS => ?_)
  refine lv_if_ne (tgt := 14) hx hb dX9_nextPane_8 (by decide) (fun c_8 => ?_) (fun c_8 => ?_)
  · refine lv_aload_n hx hb dX9_nextPane_14 rfl (lv_at hl 0 rfl) ?_
    refine lv_iload_n hx hb dX9_nextPane_15 rfl (lv_at hl 1 rfl) ?_
    refine k_iF (va_runV (As := [.int q]) (rest := []) hF (c_X9_nextKept l D I C Q a0 a1 a2 a3 a4 now kept st text len att num rd np q hnp hn64 _) (cwV 1 hts gX9_nextPane_X9_nextKept rfl rfl rfl (by decide +kernel) ⟨Nat.le_of_ble_eq_true rfl, Nat.le_of_ble_eq_true rfl⟩) (kPreV hE hP hD (ci := 9) (q0 := 0) rfl rfl) rfl rfl hl.1 rfl (lv_room (Nat.le_of_ble_eq_true rfl)) dX9_nextPane_16 ⟨Nat.zero_le _, Nat.zero_le _⟩) hD hS hA (fun H locs hP hD hS => ?_)
    refine lv_istore_n (lv' := [(2, .int (m_oI (m_nb now q np))), (0, .ref a0), (1, .int q)]) hx hb dX9_nextPane_19 rfl hl (by decide) rfl (fun ls hl => ?_)
    have loop20 : ∀ (n : Nat) (ab : Int32), (1999 ≤ ab.toInt + (n : Int)) → ∀ (H : Heap) (locs : List Loc) (ls : Array Slot), va_P D vwCl (wM I a0 a1 a2 a3 a4 now kept st text len att num rd) H → va_D A (wM I a0 a1 a2 a3 a4 now kept st text len att num rd) → va_S A s.heap H locs → lv_has ls 4 [(0, .ref a0), (2, .int (m_oI (m_nb now ab np)))] → (m_npL now np sz n ab = m_npL now np sz 2000 q) → W p l e ({ frames := 3, cells := 0, slots := 0, locals := 69 } : Room) s m [.ref a0, .int q].toArray below meth c H locs 0 0 Q0 (F0 m 20 ls []) := by
      intro n
      induction n with
      | zero =>
        intro ab hfu H locs ls hP hD hS hl hr
        have hnb : m_nb now ab np = none := m_fuel0 hnk (by omega)
        have hl : lv_has ls 4 [(0, .ref a0), (2, .int (-1))] := by rw [hnb] at hl; exact hl
        refine lv_iload_n hx hb dX9_nextPane_20 rfl (lv_at hl 1 rfl) ?_
        refine lv_if_lt (tgt := 51) hx hb dX9_nextPane_21 (by decide) (fun c_21 => ?_) (fun c_21 => ?_)
        · refine lv_ldc (v := (-1000004)) hx hb hown k0 dX9_nextPane_51 ?_
          exact hend _ _ _ _ _ _ hP hD hS dX9_nextPane_53 rfl rfl (by rw [← hr]; simp +decide only [m_npL, if_true, if_false, not_true_eq_false, not_false_eq_true, and_self, and_true, true_and, and_false, false_and, kn01, kn10, kn02, kn20, kn12, kn21, eq_self])
        · exact (c_21 (by decide)).elim
      | succ n ih =>
        intro ab hfu H locs ls hP hD hS hl hr
        rcases hnb : m_nb now ab np with _ | k
        · have hl : lv_has ls 4 [(0, .ref a0), (2, .int (-1))] := by rw [hnb] at hl; exact hl
          refine lv_iload_n hx hb dX9_nextPane_20 rfl (lv_at hl 1 rfl) ?_
          refine lv_if_lt (tgt := 51) hx hb dX9_nextPane_21 (by decide) (fun c_21 => ?_) (fun c_21 => ?_)
          · refine lv_ldc (v := (-1000004)) hx hb hown k0 dX9_nextPane_51 ?_
            exact hend _ _ _ _ _ _ hP hD hS dX9_nextPane_53 rfl rfl (by rw [← hr]; simp +decide only [m_npL, hnb, if_true, if_false, not_true_eq_false, not_false_eq_true, and_self, and_true, true_and, and_false, false_and, kn01, kn10, kn02, kn20, kn12, kn21, eq_self])
          · exact (c_21 (by decide)).elim
        · have hl : lv_has ls 4 [(0, .ref a0), (2, .int (nI k))] := by rw [hnb] at hl; exact hl
          have hkb := (m_nb_lt hnb).1
          refine lv_iload_n hx hb dX9_nextPane_20 rfl (lv_at hl 1 rfl) ?_
          refine lv_if_lt (tgt := 51) hx hb dX9_nextPane_21 (by decide) (fun c_21 => ?_) (fun c_21 => ?_)
          · exact absurd c_21 (nI_pos (by omega))
          · refine lv_aload_n hx hb dX9_nextPane_24 rfl (lv_at hl 0 rfl) ?_
            refine lv_iload_n hx hb dX9_nextPane_25 rfl (lv_at hl 1 rfl) ?_
            refine lv_iconst (v := 0) hx hb dX9_nextPane_26 (by decide) ?_
            refine k_iF (va_runV (As := [.int (nI k), .int 0]) (rest := []) hF (c_X9_ofP l D I C Q a0 a1 a2 a3 a4 now kept st text len att num rd k 0 (by omega) (by omega) _) (cwV 2 hts gX9_nextPane_X9_ofP rfl rfl rfl (by decide +kernel) ⟨Nat.le_of_ble_eq_true rfl, Nat.le_of_ble_eq_true rfl⟩) (kPreV hE hP hD (ci := 9) (q0 := 0) rfl rfl) rfl rfl hl.1 rfl (lv_room (Nat.le_of_ble_eq_true rfl)) dX9_nextPane_27 ⟨Nat.zero_le _, Nat.zero_le _⟩) hD hS hA (fun H locs hP hD hS => ?_)
            refine lv_istore_n (lv' := [(3, .int (now (396 + 8 * k + 0))), (0, .ref a0), (2, .int (nI k))]) hx hb dX9_nextPane_30 rfl hl (by decide) rfl (fun ls hl => ?_)
            refine lv_aload_n hx hb dX9_nextPane_31 rfl (lv_at hl 1 rfl) ?_
            refine lv_iload_n hx hb dX9_nextPane_32 rfl (lv_at hl 0 rfl) ?_
            refine lv_iconst (v := 0) hx hb dX9_nextPane_33 (by decide) ?_
            refine k_iF (va_runV (As := [.int (now (396 + 8 * k + 0)), .int 0]) (rest := []) hF (c_X9_sumOf l D I C Q a0 a1 a2 a3 a4 now kept st text len att num rd sz (now (396 + 8 * k + 0)) 0 hsz hs0 hs1 _) (cwV 2 hts gX9_nextPane_X9_sumOf rfl rfl rfl (by decide +kernel) ⟨Nat.le_of_ble_eq_true rfl, Nat.le_of_ble_eq_true rfl⟩) (kPreV hE hP hD (ci := 9) (q0 := 0) rfl rfl) rfl rfl hl.1 rfl (lv_room (Nat.le_of_ble_eq_true rfl)) dX9_nextPane_34 ⟨Nat.zero_le _, Nat.zero_le _⟩) hD hS hA (fun H locs hP hD hS => ?_)
            refine k_top (y := m_num now sz (now (396 + 8 * k + 0))) (m_sumOf_0 _ _ _) ?_
            refine lv_if_le (tgt := 42) hx hb dX9_nextPane_37 (by decide) (fun c_37 => ?_) (fun c_37 => ?_)
            · refine lv_aload_n hx hb dX9_nextPane_42 rfl (lv_at hl 1 rfl) ?_
              refine lv_iload_n hx hb dX9_nextPane_43 rfl (lv_at hl 0 rfl) ?_
              refine k_iF (va_runV (As := [.int (now (396 + 8 * k + 0))]) (rest := []) hF (c_X9_nextKept l D I C Q a0 a1 a2 a3 a4 now kept st text len att num rd np (now (396 + 8 * k + 0)) hnp hn64 _) (cwV 1 hts gX9_nextPane_X9_nextKept rfl rfl rfl (by decide +kernel) ⟨Nat.le_of_ble_eq_true rfl, Nat.le_of_ble_eq_true rfl⟩) (kPreV hE hP hD (ci := 9) (q0 := 0) rfl rfl) rfl rfl hl.1 rfl (lv_room (Nat.le_of_ble_eq_true rfl)) dX9_nextPane_44 ⟨Nat.zero_le _, Nat.zero_le _⟩) hD hS hA (fun H locs hP hD hS => ?_)
              refine lv_istore_n (lv' := [(2, .int (m_oI (m_nb now (now (396 + 8 * k + 0)) np))), (3, .int (now (396 + 8 * k + 0))), (0, .ref a0)]) hx hb dX9_nextPane_47 rfl hl (by decide) rfl (fun ls hl => ?_)
              refine lv_goto (tgt := 20) hx hb dX9_nextPane_48 (by decide) ?_
              exact ih (now (396 + 8 * k + 0)) (m_fuelS hfu hnb) _ _ _ hP hD hS (lv_sub hl [2, 0] rfl) (by rw [← hr]; simp +decide only [m_npL, hnb, c_37, if_true, if_false, not_true_eq_false, not_false_eq_true, and_self, and_true, true_and, and_false, false_and, kn01, kn10, kn02, kn20, kn12, kn21, eq_self])
            · refine lv_iload_n hx hb dX9_nextPane_40 rfl (lv_at hl 0 rfl) ?_
              exact hend _ _ _ _ _ _ hP hD hS dX9_nextPane_41 rfl rfl (by rw [← hr]; simp +decide only [m_npL, hnb, c_37, if_true, if_false, not_true_eq_false, not_false_eq_true, and_self, and_true, true_and, and_false, false_and, kn01, kn10, kn02, kn20, kn12, kn21, eq_self])
    exact loop20 2000 q (by omega) _ _ _ hP hD hS (lv_sub hl [1, 0] rfl) rfl
  · exact absurd c_8 hok
