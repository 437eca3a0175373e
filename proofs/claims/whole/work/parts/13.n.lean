set_option maxHeartbeats 400000 in
set_option maxRecDepth 100000 in
theorem c_X9_wordAtB (l : Launch) (D : va_G) (I C Q : ClassId) (a0 a1 a2 a3 a4 : Nat) (now : Nat → Int32) (kept : Nat → Int32) (st : Int32) (text : Nat → Int32) (len : Int32) (att : Int32) (num : Int32) (rd : Nat → Int32) (x : Int32) (w : Int32) (hbad : x < 0 ∨ m_isIn w 0 3 = 0) : KI l D (tyL I C Q) yX9_wordAt wsX9_wordAt { frames := 1, cells := 0, slots := 0, locals := 22 } [.ref a0, .int x, .int w] (wM I a0 a1 a2 a3 a4 now kept st text len att num rd) (wM I a0 a1 a2 a3 a4 now kept st text len att num rd) (-1000001) := by
  refine KI.of (cc := cX9_wordAt) (maxL := 3) (rt := .int) (own := RX9) (by decide) rfl rfl (Nat.le_of_ble_eq_true rfl) ?_
  intro p e s m below meth c A Q0 ls hx hb hml hown hts hE hA hP hD hS hl hend
  have hK := hE.1
  have hF : CallFix p m c cX9_wordAt 3 s [.ref a0, .int x, .int w].toArray wsX9_wordAt RX9 := ⟨hx, hb, hml, hown, hts⟩
  have k0 := hts (.constant RX9 31 (-1000001)) (List.mem_of_getElem? (i := 1) rfl)
  have hl : lv_has ls 3 [(0, .ref a0), (1, .int x), (2, .int w)] := hl
  refine lv_iload_n hx hb dX9_wordAt_0 rfl (lv_at hl 1 rfl) ?_
  refine lv_if_lt (tgt := 13) hx hb dX9_wordAt_1 (by decide) (fun c_1 => ?_) (fun c_1 => ?_)
  · refine lv_ldc (v := (-1000001)) hx hb hown k0 dX9_wordAt_13 ?_
    exact hend _ _ _ _ _ _ hP hD hS dX9_wordAt_15 rfl rfl rfl
  · refine lv_iload_n hx hb dX9_wordAt_4 rfl (lv_at hl 2 rfl) ?_
    refine lv_iconst (v := 0) hx hb dX9_wordAt_5 (by decide) ?_
    refine lv_iconst (v := 3) hx hb dX9_wordAt_6 (by decide) ?_
    refine k_i0 (va_runS (As := [.int w, .int 0, .int 3]) (rest := []) hF (c_X9_isIn l D I C Q w 0 3 _) (va_cwS 3 hts gX9_wordAt_X9_isIn rfl rfl rfl (by decide +kernel) ⟨Nat.le_of_ble_eq_true rfl, Nat.le_of_ble_eq_true rfl⟩) (kPreS hE k_P0 (k_D0 (A := A))) rfl rfl hl.1 rfl (lv_room (Nat.le_of_ble_eq_true rfl)) dX9_wordAt_7 ⟨Nat.zero_le _, Nat.zero_le _⟩) hP hS hA (fun H locs hP hS => ?_)
    refine lv_if_ne (tgt := 16) hx hb dX9_wordAt_10 (by decide) (fun c_10 => ?_) (fun c_10 => ?_)
    · exact (hbad.elim c_1 c_10).elim
    · refine lv_ldc (v := (-1000001)) hx hb hown k0 dX9_wordAt_13 ?_
      exact hend _ _ _ _ _ _ hP hD hS dX9_wordAt_15 rfl rfl rfl
set_option maxHeartbeats 400000 in
set_option maxRecDepth 100000 in
theorem c_X9_wordAtO (l : Launch) (D : va_G) (I C Q : ClassId) (a0 a1 a2 a3 a4 : Nat) (now : Nat → Int32) (kept : Nat → Int32) (st : Int32) (text : Nat → Int32) (len : Int32) (att : Int32) (num : Int32) (rd : Nat → Int32) (ix : Nat) (w : Nat) (hwk : wOk now) (hix : ix < 2 ^ 31) (hw4 : w < 4) : KI l D (tyL I C Q) yX9_wordAt wsX9_wordAt { frames := 1, cells := 0, slots := 0, locals := 22 } [.ref a0, .int (nI ix), .int (nI w)] (wM I a0 a1 a2 a3 a4 now kept st text len att num rd) (wM I a0 a1 a2 a3 a4 now kept st text len att num rd) (m_word now ix w) := by
  refine KI.of (cc := cX9_wordAt) (maxL := 3) (rt := .int) (own := RX9) (by decide) rfl rfl (Nat.le_of_ble_eq_true rfl) ?_
  intro p e s m below meth c A Q0 ls hx hb hml hown hts hE hA hP hD hS hl hend
  have hK := hE.1
  have hF : CallFix p m c cX9_wordAt 3 s [.ref a0, .int (nI ix), .int (nI w)].toArray wsX9_wordAt RX9 := ⟨hx, hb, hml, hown, hts⟩
  have k0 := hts (.fieldLink RX9 7 "LateExcusesModel" "now" "[I") (List.mem_of_getElem? (i := 2) rfl)
  have k1 := hts (.constant RX9 119 (-1000004)) (List.mem_of_getElem? (i := 3) rfl)
  have u9 : ∀ w ∈ u_ws RX9 TX9 8, w ∈ wsX9_wordAt := by decide +kernel
  have hl : lv_has ls 3 [(0, .ref a0), (1, .int (nI ix)), (2, .int (nI w))] := hl
  rcases (show w = 0 ∨ w = 1 ∨ w = 2 ∨ w = 3 by omega) with rfl | rfl | rfl | rfl
  · have hl : lv_has ls 3 [(0, .ref a0), (1, .int (nI ix)), (2, .int 0)] := hl
    refine lv_iload_n hx hb dX9_wordAt_0 rfl (lv_at hl 1 rfl) ?_
    refine lv_if_lt (tgt := 13) hx hb dX9_wordAt_1 (by decide) (fun c_1 => ?_) (fun c_1 => ?_)
    · exact absurd c_1 (nI_pos (by omega))
    · refine lv_iload_n hx hb dX9_wordAt_4 rfl (lv_at hl 2 rfl) ?_
      refine lv_iconst (v := 0) hx hb dX9_wordAt_5 (by decide) ?_
      refine lv_iconst (v := 3) hx hb dX9_wordAt_6 (by decide) ?_
      refine k_i0 (va_runS (As := [.int 0, .int 0, .int 3]) (rest := []) hF (c_X9_isIn l D I C Q 0 0 3 _) (va_cwS 3 hts gX9_wordAt_X9_isIn rfl rfl rfl (by decide +kernel) ⟨Nat.le_of_ble_eq_true rfl, Nat.le_of_ble_eq_true rfl⟩) (kPreS hE k_P0 (k_D0 (A := A))) rfl rfl hl.1 rfl (lv_room (Nat.le_of_ble_eq_true rfl)) dX9_wordAt_7 ⟨Nat.zero_le _, Nat.zero_le _⟩) hP hS hA (fun H locs hP hS => ?_)
      refine lv_if_ne (tgt := 16) hx hb dX9_wordAt_10 (by decide) (fun c_10 => ?_) (fun c_10 => ?_)
      · refine lv_iload_n hx hb dX9_wordAt_16 rfl (lv_at hl 1 rfl) ?_
        refine lv_aload_n hx hb dX9_wordAt_17 rfl (lv_at hl 0 rfl) ?_
        refine va_get (D := D) (ci := 9) (v := .ref a1) (C := RX9) (T := TX9) (N := 8) hx hb hts u9 hown hK hP 0 rfl rfl 0 (by decide) k0 (fun _ h9 => h9) rfl dX9_wordAt_18 ?_
        refine lv_bipush (v := 9) hx hb dX9_wordAt_21 (by decide) ?_
        refine k_iald (j := 9) (v := (nI (wN now))) hx hb hK hP 1 0 rfl rfl rfl (by decide) (by decide) hwk.1 dX9_wordAt_23 ?_
        refine lv_icmp_ge (tgt := 44) hx hb dX9_wordAt_24 (by decide) (fun c_24 => ?_) (fun c_24 => ?_)
        · have hle : wN now ≤ ix := (nI_leI (a := wN now) (b := ix) (by have := hwk.2; omega) hix).mp c_24
          refine lv_ldc (v := (-1000004)) hx hb hown k1 dX9_wordAt_44 ?_
          exact hend _ _ _ _ _ _ hP hD hS dX9_wordAt_46 rfl rfl (by simp +decide only [m_word, hle, if_true, if_false, not_true_eq_false, not_false_eq_true, and_self, and_true, true_and, and_false, false_and, kn01, kn10, kn02, kn20, kn12, kn21, eq_self])
        · have h40 := hwk.2
          have hle : ¬ wN now ≤ ix := fun h => c_24 ((nI_leI (a := wN now) (b := ix) (by omega) hix).mpr h)
          refine lv_aload_n hx hb dX9_wordAt_27 rfl (lv_at hl 0 rfl) ?_
          refine va_get (D := D) (ci := 9) (v := .ref a1) (C := RX9) (T := TX9) (N := 8) hx hb hts u9 hown hK hP 0 rfl rfl 0 (by decide) k0 (fun _ h9 => h9) rfl dX9_wordAt_28 ?_
          refine lv_sipush (v := 908) hx hb dX9_wordAt_31 (by decide) ?_
          refine lv_iconst (v := 4) hx hb dX9_wordAt_34 (by decide) ?_
          refine lv_iload_n hx hb dX9_wordAt_35 rfl (lv_at hl 1 rfl) ?_
          refine k_imul (v := nI (4 * ix)) hx hb dX9_wordAt_36 (k_mul 4 ix) ?_
          refine k_iadd (v := nI (908 + 4 * ix)) hx hb dX9_wordAt_37 (nI_add 908 (4 * ix)) ?_
          refine lv_iload_n hx hb dX9_wordAt_38 rfl (lv_at hl 2 rfl) ?_
          refine k_iadd (v := nI (908 + 4 * ix + 0)) hx hb dX9_wordAt_39 (nI_add (908 + 4 * ix) 0) ?_
          refine k_iald (j := 908 + 4 * ix + 0) (v := (now (908 + 4 * ix + 0))) hx hb hK hP 1 0 rfl rfl rfl (by omega) (by decide) rfl dX9_wordAt_40 ?_
          refine lv_goto (tgt := 46) hx hb dX9_wordAt_41 (by decide) ?_
          exact hend _ _ _ _ _ _ hP hD hS dX9_wordAt_46 rfl rfl (by simp +decide only [m_word, hle, if_true, if_false, not_true_eq_false, not_false_eq_true, and_self, and_true, true_and, and_false, false_and, kn01, kn10, kn02, kn20, kn12, kn21, eq_self])
      · exact absurd c_10 (by decide)
  · have hl : lv_has ls 3 [(0, .ref a0), (1, .int (nI ix)), (2, .int 1)] := hl
    refine lv_iload_n hx hb dX9_wordAt_0 rfl (lv_at hl 1 rfl) ?_
    refine lv_if_lt (tgt := 13) hx hb dX9_wordAt_1 (by decide) (fun c_1 => ?_) (fun c_1 => ?_)
    · exact absurd c_1 (nI_pos (by omega))
    · refine lv_iload_n hx hb dX9_wordAt_4 rfl (lv_at hl 2 rfl) ?_
      refine lv_iconst (v := 0) hx hb dX9_wordAt_5 (by decide) ?_
      refine lv_iconst (v := 3) hx hb dX9_wordAt_6 (by decide) ?_
      refine k_i0 (va_runS (As := [.int 1, .int 0, .int 3]) (rest := []) hF (c_X9_isIn l D I C Q 1 0 3 _) (va_cwS 3 hts gX9_wordAt_X9_isIn rfl rfl rfl (by decide +kernel) ⟨Nat.le_of_ble_eq_true rfl, Nat.le_of_ble_eq_true rfl⟩) (kPreS hE k_P0 (k_D0 (A := A))) rfl rfl hl.1 rfl (lv_room (Nat.le_of_ble_eq_true rfl)) dX9_wordAt_7 ⟨Nat.zero_le _, Nat.zero_le _⟩) hP hS hA (fun H locs hP hS => ?_)
      refine lv_if_ne (tgt := 16) hx hb dX9_wordAt_10 (by decide) (fun c_10 => ?_) (fun c_10 => ?_)
      · refine lv_iload_n hx hb dX9_wordAt_16 rfl (lv_at hl 1 rfl) ?_
        refine lv_aload_n hx hb dX9_wordAt_17 rfl (lv_at hl 0 rfl) ?_
        refine va_get (D := D) (ci := 9) (v := .ref a1) (C := RX9) (T := TX9) (N := 8) hx hb hts u9 hown hK hP 0 rfl rfl 0 (by decide) k0 (fun _ h9 => h9) rfl dX9_wordAt_18 ?_
        refine lv_bipush (v := 9) hx hb dX9_wordAt_21 (by decide) ?_
        refine k_iald (j := 9) (v := (nI (wN now))) hx hb hK hP 1 0 rfl rfl rfl (by decide) (by decide) hwk.1 dX9_wordAt_23 ?_
        refine lv_icmp_ge (tgt := 44) hx hb dX9_wordAt_24 (by decide) (fun c_24 => ?_) (fun c_24 => ?_)
        · have hle : wN now ≤ ix := (nI_leI (a := wN now) (b := ix) (by have := hwk.2; omega) hix).mp c_24
          refine lv_ldc (v := (-1000004)) hx hb hown k1 dX9_wordAt_44 ?_
          exact hend _ _ _ _ _ _ hP hD hS dX9_wordAt_46 rfl rfl (by simp +decide only [m_word, hle, if_true, if_false, not_true_eq_false, not_false_eq_true, and_self, and_true, true_and, and_false, false_and, kn01, kn10, kn02, kn20, kn12, kn21, eq_self])
        · have h40 := hwk.2
          have hle : ¬ wN now ≤ ix := fun h => c_24 ((nI_leI (a := wN now) (b := ix) (by omega) hix).mpr h)
          refine lv_aload_n hx hb dX9_wordAt_27 rfl (lv_at hl 0 rfl) ?_
          refine va_get (D := D) (ci := 9) (v := .ref a1) (C := RX9) (T := TX9) (N := 8) hx hb hts u9 hown hK hP 0 rfl rfl 0 (by decide) k0 (fun _ h9 => h9) rfl dX9_wordAt_28 ?_
          refine lv_sipush (v := 908) hx hb dX9_wordAt_31 (by decide) ?_
          refine lv_iconst (v := 4) hx hb dX9_wordAt_34 (by decide) ?_
          refine lv_iload_n hx hb dX9_wordAt_35 rfl (lv_at hl 1 rfl) ?_
          refine k_imul (v := nI (4 * ix)) hx hb dX9_wordAt_36 (k_mul 4 ix) ?_
          refine k_iadd (v := nI (908 + 4 * ix)) hx hb dX9_wordAt_37 (nI_add 908 (4 * ix)) ?_
          refine lv_iload_n hx hb dX9_wordAt_38 rfl (lv_at hl 2 rfl) ?_
          refine k_iadd (v := nI (908 + 4 * ix + 1)) hx hb dX9_wordAt_39 (nI_add (908 + 4 * ix) 1) ?_
          refine k_iald (j := 908 + 4 * ix + 1) (v := (now (908 + 4 * ix + 1))) hx hb hK hP 1 0 rfl rfl rfl (by omega) (by decide) rfl dX9_wordAt_40 ?_
          refine lv_goto (tgt := 46) hx hb dX9_wordAt_41 (by decide) ?_
          exact hend _ _ _ _ _ _ hP hD hS dX9_wordAt_46 rfl rfl (by simp +decide only [m_word, hle, if_true, if_false, not_true_eq_false, not_false_eq_true, and_self, and_true, true_and, and_false, false_and, kn01, kn10, kn02, kn20, kn12, kn21, eq_self])
      · exact absurd c_10 (by decide)
  · have hl : lv_has ls 3 [(0, .ref a0), (1, .int (nI ix)), (2, .int 2)] := hl
    refine lv_iload_n hx hb dX9_wordAt_0 rfl (lv_at hl 1 rfl) ?_
    refine lv_if_lt (tgt := 13) hx hb dX9_wordAt_1 (by decide) (fun c_1 => ?_) (fun c_1 => ?_)
    · exact absurd c_1 (nI_pos (by omega))
    · refine lv_iload_n hx hb dX9_wordAt_4 rfl (lv_at hl 2 rfl) ?_
      refine lv_iconst (v := 0) hx hb dX9_wordAt_5 (by decide) ?_
      refine lv_iconst (v := 3) hx hb dX9_wordAt_6 (by decide) ?_
      refine k_i0 (va_runS (As := [.int 2, .int 0, .int 3]) (rest := []) hF (c_X9_isIn l D I C Q 2 0 3 _) (va_cwS 3 hts gX9_wordAt_X9_isIn rfl rfl rfl (by decide +kernel) ⟨Nat.le_of_ble_eq_true rfl, Nat.le_of_ble_eq_true rfl⟩) (kPreS hE k_P0 (k_D0 (A := A))) rfl rfl hl.1 rfl (lv_room (Nat.le_of_ble_eq_true rfl)) dX9_wordAt_7 ⟨Nat.zero_le _, Nat.zero_le _⟩) hP hS hA (fun H locs hP hS => ?_)
      refine lv_if_ne (tgt := 16) hx hb dX9_wordAt_10 (by decide) (fun c_10 => ?_) (fun c_10 => ?_)
      · refine lv_iload_n hx hb dX9_wordAt_16 rfl (lv_at hl 1 rfl) ?_
        refine lv_aload_n hx hb dX9_wordAt_17 rfl (lv_at hl 0 rfl) ?_
        refine va_get (D := D) (ci := 9) (v := .ref a1) (C := RX9) (T := TX9) (N := 8) hx hb hts u9 hown hK hP 0 rfl rfl 0 (by decide) k0 (fun _ h9 => h9) rfl dX9_wordAt_18 ?_
        refine lv_bipush (v := 9) hx hb dX9_wordAt_21 (by decide) ?_
        refine k_iald (j := 9) (v := (nI (wN now))) hx hb hK hP 1 0 rfl rfl rfl (by decide) (by decide) hwk.1 dX9_wordAt_23 ?_
        refine lv_icmp_ge (tgt := 44) hx hb dX9_wordAt_24 (by decide) (fun c_24 => ?_) (fun c_24 => ?_)
        · have hle : wN now ≤ ix := (nI_leI (a := wN now) (b := ix) (by have := hwk.2; omega) hix).mp c_24
          refine lv_ldc (v := (-1000004)) hx hb hown k1 dX9_wordAt_44 ?_
          exact hend _ _ _ _ _ _ hP hD hS dX9_wordAt_46 rfl rfl (by simp +decide only [m_word, hle, if_true, if_false, not_true_eq_false, not_false_eq_true, and_self, and_true, true_and, and_false, false_and, kn01, kn10, kn02, kn20, kn12, kn21, eq_self])
        · have h40 := hwk.2
          have hle : ¬ wN now ≤ ix := fun h => c_24 ((nI_leI (a := wN now) (b := ix) (by omega) hix).mpr h)
          refine lv_aload_n hx hb dX9_wordAt_27 rfl (lv_at hl 0 rfl) ?_
          refine va_get (D := D) (ci := 9) (v := .ref a1) (C := RX9) (T := TX9) (N := 8) hx hb hts u9 hown hK hP 0 rfl rfl 0 (by decide) k0 (fun _ h9 => h9) rfl dX9_wordAt_28 ?_
          refine lv_sipush (v := 908) hx hb dX9_wordAt_31 (by decide) ?_
          refine lv_iconst (v := 4) hx hb dX9_wordAt_34 (by decide) ?_
          refine lv_iload_n hx hb dX9_wordAt_35 rfl (lv_at hl 1 rfl) ?_
          refine k_imul (v := nI (4 * ix)) hx hb dX9_wordAt_36 (k_mul 4 ix) ?_
          refine k_iadd (v := nI (908 + 4 * ix)) hx hb dX9_wordAt_37 (nI_add 908 (4 * ix)) ?_
          refine lv_iload_n hx hb dX9_wordAt_38 rfl (lv_at hl 2 rfl) ?_
          refine k_iadd (v := nI (908 + 4 * ix + 2)) hx hb dX9_wordAt_39 (nI_add (908 + 4 * ix) 2) ?_
          refine k_iald (j := 908 + 4 * ix + 2) (v := (now (908 + 4 * ix + 2))) hx hb hK hP 1 0 rfl rfl rfl (by omega) (by decide) rfl dX9_wordAt_40 ?_
          refine lv_goto (tgt := 46) hx hb dX9_wordAt_41 (by decide) ?_
          exact hend _ _ _ _ _ _ hP hD hS dX9_wordAt_46 rfl rfl (by simp +decide only [m_word, hle, if_true, if_false, not_true_eq_false, not_false_eq_true, and_self, and_true, true_and, and_false, false_and, kn01, kn10, kn02, kn20, kn12, kn21, eq_self])
      · exact absurd c_10 (by decide)
  · have hl : lv_has ls 3 [(0, .ref a0), (1, .int (nI ix)), (2, .int 3)] := hl
    refine lv_iload_n hx hb dX9_wordAt_0 rfl (lv_at hl 1 rfl) ?_
    refine lv_if_lt (tgt := 13) hx hb dX9_wordAt_1 (by decide) (fun c_1 => ?_) (fun c_1 => ?_)
    · exact absurd c_1 (nI_pos (by omega))
    · refine lv_iload_n hx hb dX9_wordAt_4 rfl (lv_at hl 2 rfl) ?_
      refine lv_iconst (v := 0) hx hb dX9_wordAt_5 (by decide) ?_
      refine lv_iconst (v := 3) hx hb dX9_wordAt_6 (by decide) ?_
      refine k_i0 (va_runS (As := [.int 3, .int 0, .int 3]) (rest := []) hF (c_X9_isIn l D I C Q 3 0 3 _) (va_cwS 3 hts gX9_wordAt_X9_isIn rfl rfl rfl (by decide +kernel) ⟨Nat.le_of_ble_eq_true rfl, Nat.le_of_ble_eq_true rfl⟩) (kPreS hE k_P0 (k_D0 (A := A))) rfl rfl hl.1 rfl (lv_room (Nat.le_of_ble_eq_true rfl)) dX9_wordAt_7 ⟨Nat.zero_le _, Nat.zero_le _⟩) hP hS hA (fun H locs hP hS => ?_)
      refine lv_if_ne (tgt := 16) hx hb dX9_wordAt_10 (by decide) (fun c_10 => ?_) (fun c_10 => ?_)
      · refine lv_iload_n hx hb dX9_wordAt_16 rfl (lv_at hl 1 rfl) ?_
        refine lv_aload_n hx hb dX9_wordAt_17 rfl (lv_at hl 0 rfl) ?_
        refine va_get (D := D) (ci := 9) (v := .ref a1) (C := RX9) (T := TX9) (N := 8) hx hb hts u9 hown hK hP 0 rfl rfl 0 (by decide) k0 (fun _ h9 => h9) rfl dX9_wordAt_18 ?_
        refine lv_bipush (v := 9) hx hb dX9_wordAt_21 (by decide) ?_
        refine k_iald (j := 9) (v := (nI (wN now))) hx hb hK hP 1 0 rfl rfl rfl (by decide) (by decide) hwk.1 dX9_wordAt_23 ?_
        refine lv_icmp_ge (tgt := 44) hx hb dX9_wordAt_24 (by decide) (fun c_24 => ?_) (fun c_24 => ?_)
        · have hle : wN now ≤ ix := (nI_leI (a := wN now) (b := ix) (by have := hwk.2; omega) hix).mp c_24
          refine lv_ldc (v := (-1000004)) hx hb hown k1 dX9_wordAt_44 ?_
          exact hend _ _ _ _ _ _ hP hD hS dX9_wordAt_46 rfl rfl (by simp +decide only [m_word, hle, if_true, if_false, not_true_eq_false, not_false_eq_true, and_self, and_true, true_and, and_false, false_and, kn01, kn10, kn02, kn20, kn12, kn21, eq_self])
        · have h40 := hwk.2
          have hle : ¬ wN now ≤ ix := fun h => c_24 ((nI_leI (a := wN now) (b := ix) (by omega) hix).mpr h)
          refine lv_aload_n hx hb dX9_wordAt_27 rfl (lv_at hl 0 rfl) ?_
          refine va_get (D := D) (ci := 9) (v := .ref a1) (C := RX9) (T := TX9) (N := 8) hx hb hts u9 hown hK hP 0 rfl rfl 0 (by decide) k0 (fun _ h9 => h9) rfl dX9_wordAt_28 ?_
          refine lv_sipush (v := 908) hx hb dX9_wordAt_31 (by decide) ?_
          refine lv_iconst (v := 4) hx hb dX9_wordAt_34 (by decide) ?_
          refine lv_iload_n hx hb dX9_wordAt_35 rfl (lv_at hl 1 rfl) ?_
          refine k_imul (v := nI (4 * ix)) hx hb dX9_wordAt_36 (k_mul 4 ix) ?_
          refine k_iadd (v := nI (908 + 4 * ix)) hx hb dX9_wordAt_37 (nI_add 908 (4 * ix)) ?_
          refine lv_iload_n hx hb dX9_wordAt_38 rfl (lv_at hl 2 rfl) ?_
          refine k_iadd (v := nI (908 + 4 * ix + 3)) hx hb dX9_wordAt_39 (nI_add (908 + 4 * ix) 3) ?_
          refine k_iald (j := 908 + 4 * ix + 3) (v := (now (908 + 4 * ix + 3))) hx hb hK hP 1 0 rfl rfl rfl (by omega) (by decide) rfl dX9_wordAt_40 ?_
          refine lv_goto (tgt := 46) hx hb dX9_wordAt_41 (by decide) ?_
          exact hend _ _ _ _ _ _ hP hD hS dX9_wordAt_46 rfl rfl (by simp +decide only [m_word, hle, if_true, if_false, not_true_eq_false, not_false_eq_true, and_self, and_true, true_and, and_false, false_and, kn01, kn10, kn02, kn20, kn12, kn21, eq_self])
      · exact absurd c_10 (by decide)
set_option maxHeartbeats 400000 in
set_option maxRecDepth 100000 in
theorem c_X9_eventOfB (l : Launch) (D : va_G) (I C Q : ClassId) (a0 a1 a2 a3 a4 : Nat) (now : Nat → Int32) (kept : Nat → Int32) (st : Int32) (text : Nat → Int32) (len : Int32) (att : Int32) (num : Int32) (rd : Nat → Int32) (x : Int32) (w : Int32) (hbad : m_isIn x 0 63 = 0 ∨ m_isIn w 0 5 = 0) : KI l D (tyL I C Q) yX9_eventOf wsX9_eventOf { frames := 1, cells := 0, slots := 0, locals := 22 } [.ref a0, .int x, .int w] (wM I a0 a1 a2 a3 a4 now kept st text len att num rd) (wM I a0 a1 a2 a3 a4 now kept st text len att num rd) (-1000001) := by
  refine KI.of (cc := cX9_eventOf) (maxL := 3) (rt := .int) (own := RX9) (by decide) rfl rfl (Nat.le_of_ble_eq_true rfl) ?_
  intro p e s m below meth c A Q0 ls hx hb hml hown hts hE hA hP hD hS hl hend
  have hK := hE.1
  have hF : CallFix p m c cX9_eventOf 3 s [.ref a0, .int x, .int w].toArray wsX9_eventOf RX9 := ⟨hx, hb, hml, hown, hts⟩
  have k0 := hts (.constant RX9 31 (-1000001)) (List.mem_of_getElem? (i := 1) rfl)
  have hl : lv_has ls 3 [(0, .ref a0), (1, .int x), (2, .int w)] := hl
  refine lv_iload_n hx hb dX9_eventOf_0 rfl (lv_at hl 1 rfl) ?_
  refine lv_iconst (v := 0) hx hb dX9_eventOf_1 (by decide) ?_
  refine lv_bipush (v := 63) hx hb dX9_eventOf_2 (by decide) ?_
  refine k_i0 (va_runS (As := [.int x, .int 0, .int 63]) (rest := []) hF (c_X9_isIn l D I C Q x 0 63 _) (va_cwS 3 hts gX9_eventOf_X9_isIn rfl rfl rfl (by decide +kernel) ⟨Nat.le_of_ble_eq_true rfl, Nat.le_of_ble_eq_true rfl⟩) (kPreS hE k_P0 (k_D0 (A := A))) rfl rfl hl.1 rfl (lv_room (Nat.le_of_ble_eq_true rfl)) dX9_eventOf_4 ⟨Nat.zero_le _, Nat.zero_le _⟩) hP hS hA (fun H locs hP hS => ?_)
  refine lv_if_eq (tgt := 19) hx hb dX9_eventOf_7 (by decide) (fun c_7 => ?_) (fun c_7 => ?_)
  · refine lv_ldc (v := (-1000001)) hx hb hown k0 dX9_eventOf_19 ?_
    exact hend _ _ _ _ _ _ hP hD hS dX9_eventOf_21 rfl rfl rfl
  · refine lv_iload_n hx hb dX9_eventOf_10 rfl (lv_at hl 2 rfl) ?_
    refine lv_iconst (v := 0) hx hb dX9_eventOf_11 (by decide) ?_
    refine lv_iconst (v := 5) hx hb dX9_eventOf_12 (by decide) ?_
    refine k_i0 (va_runS (As := [.int w, .int 0, .int 5]) (rest := []) hF (c_X9_isIn l D I C Q w 0 5 _) (va_cwS 3 hts gX9_eventOf_X9_isIn rfl rfl rfl (by decide +kernel) ⟨Nat.le_of_ble_eq_true rfl, Nat.le_of_ble_eq_true rfl⟩) (kPreS hE k_P0 (k_D0 (A := A))) rfl rfl hl.1 rfl (lv_room (Nat.le_of_ble_eq_true rfl)) dX9_eventOf_13 ⟨Nat.zero_le _, Nat.zero_le _⟩) hP hS hA (fun H locs hP hS => ?_)
    refine lv_if_ne (tgt := 22) hx hb dX9_eventOf_16 (by decide) (fun c_16 => ?_) (fun c_16 => ?_)
    · exact (hbad.elim c_7 c_16).elim
    · refine lv_ldc (v := (-1000001)) hx hb hown k0 dX9_eventOf_19 ?_
      exact hend _ _ _ _ _ _ hP hD hS dX9_eventOf_21 rfl rfl rfl
set_option maxHeartbeats 400000 in
set_option maxRecDepth 100000 in
theorem c_X9_eventOfO (l : Launch) (D : va_G) (I C Q : ClassId) (a0 a1 a2 a3 a4 : Nat) (now : Nat → Int32) (kept : Nat → Int32) (st : Int32) (text : Nat → Int32) (len : Int32) (att : Int32) (num : Int32) (rd : Nat → Int32) (sz : Nat) (i : Nat) (w : Nat) (hsz : now 6 = nI sz) (hs0 : 0 < sz) (hs1 : sz ≤ 100) (hi : i < 64) (hok : ¬ m_isIn (nI i) 0 63 = 0) (hw6 : w < 6) : KI l D (tyL I C Q) yX9_eventOf wsX9_eventOf { frames := 1, cells := 0, slots := 0, locals := 22 } [.ref a0, .int (nI i), .int (nI w)] (wM I a0 a1 a2 a3 a4 now kept st text len att num rd) (wM I a0 a1 a2 a3 a4 now kept st text len att num rd) (m_evOf now i w sz) := by
  refine KI.of (cc := cX9_eventOf) (maxL := 3) (rt := .int) (own := RX9) (by decide) rfl rfl (Nat.le_of_ble_eq_true rfl) ?_
  intro p e s m below meth c A Q0 ls hx hb hml hown hts hE hA hP hD hS hl hend
  have hK := hE.1
  have hF : CallFix p m c cX9_eventOf 3 s [.ref a0, .int (nI i), .int (nI w)].toArray wsX9_eventOf RX9 := ⟨hx, hb, hml, hown, hts⟩
  have k0 := hts (.constant RX9 119 (-1000004)) (List.mem_of_getElem? (i := 2) rfl)
  have hl : lv_has ls 3 [(0, .ref a0), (1, .int (nI i)), (2, .int (nI w))] := hl
  rcases (show w = 0 ∨ w = 1 ∨ w = 2 ∨ w = 3 ∨ w = 4 ∨ w = 5 by omega) with rfl | rfl | rfl | rfl | rfl | rfl
  · have hl : lv_has ls 3 [(0, .ref a0), (1, .int (nI i)), (2, .int 0)] := hl
    refine lv_iload_n hx hb dX9_eventOf_0 rfl (lv_at hl 1 rfl) ?_
    refine lv_iconst (v := 0) hx hb dX9_eventOf_1 (by decide) ?_
    refine lv_bipush (v := 63) hx hb dX9_eventOf_2 (by decide) ?_
    refine k_i0 (va_runS (As := [.int (nI i), .int 0, .int 63]) (rest := []) hF (c_X9_isIn l D I C Q (nI i) 0 63 _) (va_cwS 3 hts gX9_eventOf_X9_isIn rfl rfl rfl (by decide +kernel) ⟨Nat.le_of_ble_eq_true rfl, Nat.le_of_ble_eq_true rfl⟩) (kPreS hE k_P0 (k_D0 (A := A))) rfl rfl hl.1 rfl (lv_room (Nat.le_of_ble_eq_true rfl)) dX9_eventOf_4 ⟨Nat.zero_le _, Nat.zero_le _⟩) hP hS hA (fun H locs hP hS => ?_)
    refine lv_if_eq (tgt := 19) hx hb dX9_eventOf_7 (by decide) (fun c_7 => ?_) (fun c_7 => ?_)
    · exact absurd c_7 hok
    · refine lv_iload_n hx hb dX9_eventOf_10 rfl (lv_at hl 2 rfl) ?_
      refine lv_iconst (v := 0) hx hb dX9_eventOf_11 (by decide) ?_
      refine lv_iconst (v := 5) hx hb dX9_eventOf_12 (by decide) ?_
      refine k_i0 (va_runS (As := [.int 0, .int 0, .int 5]) (rest := []) hF (c_X9_isIn l D I C Q 0 0 5 _) (va_cwS 3 hts gX9_eventOf_X9_isIn rfl rfl rfl (by decide +kernel) ⟨Nat.le_of_ble_eq_true rfl, Nat.le_of_ble_eq_true rfl⟩) (kPreS hE k_P0 (k_D0 (A := A))) rfl rfl hl.1 rfl (lv_room (Nat.le_of_ble_eq_true rfl)) dX9_eventOf_13 ⟨Nat.zero_le _, Nat.zero_le _⟩) hP hS hA (fun H locs hP hS => ?_)
      refine lv_if_ne (tgt := 22) hx hb dX9_eventOf_16 (by decide) (fun c_16 => ?_) (fun c_16 => ?_)
      · refine lv_aload_n hx hb dX9_eventOf_22 rfl (lv_at hl 0 rfl) ?_
        refine lv_iload_n hx hb dX9_eventOf_23 rfl (lv_at hl 1 rfl) ?_
        refine lv_iconst (v := 0) hx hb dX9_eventOf_24 (by decide) ?_
        refine k_iF (va_runV (As := [.int (nI i), .int 0]) (rest := []) hF (c_X9_ofE l D I C Q a0 a1 a2 a3 a4 now kept st text len att num rd i 0 hi (by omega) _) (cwV 2 hts gX9_eventOf_X9_ofE rfl rfl rfl (by decide +kernel) ⟨Nat.le_of_ble_eq_true rfl, Nat.le_of_ble_eq_true rfl⟩) (kPreV hE hP hD (ci := 9) (q0 := 0) rfl rfl) rfl rfl hl.1 rfl (lv_room (Nat.le_of_ble_eq_true rfl)) dX9_eventOf_25 ⟨Nat.zero_le _, Nat.zero_le _⟩) hD hS hA (fun H locs hP hD hS => ?_)
        refine lv_if_ne (tgt := 34) hx hb dX9_eventOf_28 (by decide) (fun c_28 => ?_) (fun c_28 => ?_)
        · refine lv_iload_n hx hb dX9_eventOf_34 rfl (lv_at hl 2 rfl) ?_
          refine lv_iconst (v := 5) hx hb dX9_eventOf_35 (by decide) ?_
          refine lv_icmp_ne (tgt := 52) hx hb dX9_eventOf_36 (by decide) (fun c_36 => ?_) (fun c_36 => ?_)
          · refine lv_aload_n hx hb dX9_eventOf_52 rfl (lv_at hl 0 rfl) ?_
            refine lv_iload_n hx hb dX9_eventOf_53 rfl (lv_at hl 1 rfl) ?_
            refine lv_iload_n hx hb dX9_eventOf_54 rfl (lv_at hl 2 rfl) ?_
            refine lv_iconst (v := 1) hx hb dX9_eventOf_55 (by decide) ?_
            refine k_iadd (v := 1) hx hb dX9_eventOf_56 (nI_add 0 1) ?_
            refine k_iF (va_runV (As := [.int (nI i), .int 1]) (rest := []) hF (c_X9_ofE l D I C Q a0 a1 a2 a3 a4 now kept st text len att num rd i 1 hi (by omega) _) (cwV 2 hts gX9_eventOf_X9_ofE rfl rfl rfl (by decide +kernel) ⟨Nat.le_of_ble_eq_true rfl, Nat.le_of_ble_eq_true rfl⟩) (kPreV hE hP hD (ci := 9) (q0 := 0) rfl rfl) rfl rfl hl.1 rfl (lv_room (Nat.le_of_ble_eq_true rfl)) dX9_eventOf_57 ⟨Nat.zero_le _, Nat.zero_le _⟩) hD hS hA (fun H locs hP hD hS => ?_)
            exact hend _ _ _ _ _ _ hP hD hS dX9_eventOf_60 rfl rfl (by simp +decide only [m_evOf, c_7, c_16, c_28, c_36, if_true, if_false, not_true_eq_false, not_false_eq_true, and_self, and_true, true_and, and_false, false_and, kn01, kn10, kn02, kn20, kn12, kn21, eq_self])
          · exact absurd c_36 (by decide)
        · refine lv_ldc (v := (-1000004)) hx hb hown k0 dX9_eventOf_31 ?_
          exact hend _ _ _ _ _ _ hP hD hS dX9_eventOf_33 rfl rfl (by simp +decide only [m_evOf, c_7, c_16, c_28, if_true, if_false, not_true_eq_false, not_false_eq_true, and_self, and_true, true_and, and_false, false_and, kn01, kn10, kn02, kn20, kn12, kn21, eq_self])
      · exact absurd c_16 (by decide)
  · have hl : lv_has ls 3 [(0, .ref a0), (1, .int (nI i)), (2, .int 1)] := hl
    refine lv_iload_n hx hb dX9_eventOf_0 rfl (lv_at hl 1 rfl) ?_
    refine lv_iconst (v := 0) hx hb dX9_eventOf_1 (by decide) ?_
    refine lv_bipush (v := 63) hx hb dX9_eventOf_2 (by decide) ?_
    refine k_i0 (va_runS (As := [.int (nI i), .int 0, .int 63]) (rest := []) hF (c_X9_isIn l D I C Q (nI i) 0 63 _) (va_cwS 3 hts gX9_eventOf_X9_isIn rfl rfl rfl (by decide +kernel) ⟨Nat.le_of_ble_eq_true rfl, Nat.le_of_ble_eq_true rfl⟩) (kPreS hE k_P0 (k_D0 (A := A))) rfl rfl hl.1 rfl (lv_room (Nat.le_of_ble_eq_true rfl)) dX9_eventOf_4 ⟨Nat.zero_le _, Nat.zero_le _⟩) hP hS hA (fun H locs hP hS => ?_)
    refine lv_if_eq (tgt := 19) hx hb dX9_eventOf_7 (by decide) (fun c_7 => ?_) (fun c_7 => ?_)
    · exact absurd c_7 hok
    · refine lv_iload_n hx hb dX9_eventOf_10 rfl (lv_at hl 2 rfl) ?_
      refine lv_iconst (v := 0) hx hb dX9_eventOf_11 (by decide) ?_
      refine lv_iconst (v := 5) hx hb dX9_eventOf_12 (by decide) ?_
      refine k_i0 (va_runS (As := [.int 1, .int 0, .int 5]) (rest := []) hF (c_X9_isIn l D I C Q 1 0 5 _) (va_cwS 3 hts gX9_eventOf_X9_isIn rfl rfl rfl (by decide +kernel) ⟨Nat.le_of_ble_eq_true rfl, Nat.le_of_ble_eq_true rfl⟩) (kPreS hE k_P0 (k_D0 (A := A))) rfl rfl hl.1 rfl (lv_room (Nat.le_of_ble_eq_true rfl)) dX9_eventOf_13 ⟨Nat.zero_le _, Nat.zero_le _⟩) hP hS hA (fun H locs hP hS => ?_)
      refine lv_if_ne (tgt := 22) hx hb dX9_eventOf_16 (by decide) (fun c_16 => ?_) (fun c_16 => ?_)
      · refine lv_aload_n hx hb dX9_eventOf_22 rfl (lv_at hl 0 rfl) ?_
        refine lv_iload_n hx hb dX9_eventOf_23 rfl (lv_at hl 1 rfl) ?_
        refine lv_iconst (v := 0) hx hb dX9_eventOf_24 (by decide) ?_
        refine k_iF (va_runV (As := [.int (nI i), .int 0]) (rest := []) hF (c_X9_ofE l D I C Q a0 a1 a2 a3 a4 now kept st text len att num rd i 0 hi (by omega) _) (cwV 2 hts gX9_eventOf_X9_ofE rfl rfl rfl (by decide +kernel) ⟨Nat.le_of_ble_eq_true rfl, Nat.le_of_ble_eq_true rfl⟩) (kPreV hE hP hD (ci := 9) (q0 := 0) rfl rfl) rfl rfl hl.1 rfl (lv_room (Nat.le_of_ble_eq_true rfl)) dX9_eventOf_25 ⟨Nat.zero_le _, Nat.zero_le _⟩) hD hS hA (fun H locs hP hD hS => ?_)
        refine lv_if_ne (tgt := 34) hx hb dX9_eventOf_28 (by decide) (fun c_28 => ?_) (fun c_28 => ?_)
        · refine lv_iload_n hx hb dX9_eventOf_34 rfl (lv_at hl 2 rfl) ?_
          refine lv_iconst (v := 5) hx hb dX9_eventOf_35 (by decide) ?_
          refine lv_icmp_ne (tgt := 52) hx hb dX9_eventOf_36 (by decide) (fun c_36 => ?_) (fun c_36 => ?_)
          · refine lv_aload_n hx hb dX9_eventOf_52 rfl (lv_at hl 0 rfl) ?_
            refine lv_iload_n hx hb dX9_eventOf_53 rfl (lv_at hl 1 rfl) ?_
            refine lv_iload_n hx hb dX9_eventOf_54 rfl (lv_at hl 2 rfl) ?_
            refine lv_iconst (v := 1) hx hb dX9_eventOf_55 (by decide) ?_
            refine k_iadd (v := 2) hx hb dX9_eventOf_56 (nI_add 1 1) ?_
            refine k_iF (va_runV (As := [.int (nI i), .int 2]) (rest := []) hF (c_X9_ofE l D I C Q a0 a1 a2 a3 a4 now kept st text len att num rd i 2 hi (by omega) _) (cwV 2 hts gX9_eventOf_X9_ofE rfl rfl rfl (by decide +kernel) ⟨Nat.le_of_ble_eq_true rfl, Nat.le_of_ble_eq_true rfl⟩) (kPreV hE hP hD (ci := 9) (q0 := 0) rfl rfl) rfl rfl hl.1 rfl (lv_room (Nat.le_of_ble_eq_true rfl)) dX9_eventOf_57 ⟨Nat.zero_le _, Nat.zero_le _⟩) hD hS hA (fun H locs hP hD hS => ?_)
            exact hend _ _ _ _ _ _ hP hD hS dX9_eventOf_60 rfl rfl (by simp +decide only [m_evOf, c_7, c_16, c_28, c_36, if_true, if_false, not_true_eq_false, not_false_eq_true, and_self, and_true, true_and, and_false, false_and, kn01, kn10, kn02, kn20, kn12, kn21, eq_self])
          · exact absurd c_36 (by decide)
        · refine lv_ldc (v := (-1000004)) hx hb hown k0 dX9_eventOf_31 ?_
          exact hend _ _ _ _ _ _ hP hD hS dX9_eventOf_33 rfl rfl (by simp +decide only [m_evOf, c_7, c_16, c_28, if_true, if_false, not_true_eq_false, not_false_eq_true, and_self, and_true, true_and, and_false, false_and, kn01, kn10, kn02, kn20, kn12, kn21, eq_self])
      · exact absurd c_16 (by decide)
  · have hl : lv_has ls 3 [(0, .ref a0), (1, .int (nI i)), (2, .int 2)] := hl
    refine lv_iload_n hx hb dX9_eventOf_0 rfl (lv_at hl 1 rfl) ?_
    refine lv_iconst (v := 0) hx hb dX9_eventOf_1 (by decide) ?_
    refine lv_bipush (v := 63) hx hb dX9_eventOf_2 (by decide) ?_
    refine k_i0 (va_runS (As := [.int (nI i), .int 0, .int 63]) (rest := []) hF (c_X9_isIn l D I C Q (nI i) 0 63 _) (va_cwS 3 hts gX9_eventOf_X9_isIn rfl rfl rfl (by decide +kernel) ⟨Nat.le_of_ble_eq_true rfl, Nat.le_of_ble_eq_true rfl⟩) (kPreS hE k_P0 (k_D0 (A := A))) rfl rfl hl.1 rfl (lv_room (Nat.le_of_ble_eq_true rfl)) dX9_eventOf_4 ⟨Nat.zero_le _, Nat.zero_le _⟩) hP hS hA (fun H locs hP hS => ?_)
    refine lv_if_eq (tgt := 19) hx hb dX9_eventOf_7 (by decide) (fun c_7 => ?_) (fun c_7 => ?_)
    · exact absurd c_7 hok
    · refine lv_iload_n hx hb dX9_eventOf_10 rfl (lv_at hl 2 rfl) ?_
      refine lv_iconst (v := 0) hx hb dX9_eventOf_11 (by decide) ?_
      refine lv_iconst (v := 5) hx hb dX9_eventOf_12 (by decide) ?_
      refine k_i0 (va_runS (As := [.int 2, .int 0, .int 5]) (rest := []) hF (c_X9_isIn l D I C Q 2 0 5 _) (va_cwS 3 hts gX9_eventOf_X9_isIn rfl rfl rfl (by decide +kernel) ⟨Nat.le_of_ble_eq_true rfl, Nat.le_of_ble_eq_true rfl⟩) (kPreS hE k_P0 (k_D0 (A := A))) rfl rfl hl.1 rfl (lv_room (Nat.le_of_ble_eq_true rfl)) dX9_eventOf_13 ⟨Nat.zero_le _, Nat.zero_le _⟩) hP hS hA (fun H locs hP hS => ?_)
      refine lv_if_ne (tgt := 22) hx hb dX9_eventOf_16 (by decide) (fun c_16 => ?_) (fun c_16 => ?_)
      · refine lv_aload_n hx hb dX9_eventOf_22 rfl (lv_at hl 0 rfl) ?_
        refine lv_iload_n hx hb dX9_eventOf_23 rfl (lv_at hl 1 rfl) ?_
        refine lv_iconst (v := 0) hx hb dX9_eventOf_24 (by decide) ?_
        refine k_iF (va_runV (As := [.int (nI i), .int 0]) (rest := []) hF (c_X9_ofE l D I C Q a0 a1 a2 a3 a4 now kept st text len att num rd i 0 hi (by omega) _) (cwV 2 hts gX9_eventOf_X9_ofE rfl rfl rfl (by decide +kernel) ⟨Nat.le_of_ble_eq_true rfl, Nat.le_of_ble_eq_true rfl⟩) (kPreV hE hP hD (ci := 9) (q0 := 0) rfl rfl) rfl rfl hl.1 rfl (lv_room (Nat.le_of_ble_eq_true rfl)) dX9_eventOf_25 ⟨Nat.zero_le _, Nat.zero_le _⟩) hD hS hA (fun H locs hP hD hS => ?_)
        refine lv_if_ne (tgt := 34) hx hb dX9_eventOf_28 (by decide) (fun c_28 => ?_) (fun c_28 => ?_)
        · refine lv_iload_n hx hb dX9_eventOf_34 rfl (lv_at hl 2 rfl) ?_
          refine lv_iconst (v := 5) hx hb dX9_eventOf_35 (by decide) ?_
          refine lv_icmp_ne (tgt := 52) hx hb dX9_eventOf_36 (by decide) (fun c_36 => ?_) (fun c_36 => ?_)
          · refine lv_aload_n hx hb dX9_eventOf_52 rfl (lv_at hl 0 rfl) ?_
            refine lv_iload_n hx hb dX9_eventOf_53 rfl (lv_at hl 1 rfl) ?_
            refine lv_iload_n hx hb dX9_eventOf_54 rfl (lv_at hl 2 rfl) ?_
            refine lv_iconst (v := 1) hx hb dX9_eventOf_55 (by decide) ?_
            refine k_iadd (v := 3) hx hb dX9_eventOf_56 (nI_add 2 1) ?_
            refine k_iF (va_runV (As := [.int (nI i), .int 3]) (rest := []) hF (c_X9_ofE l D I C Q a0 a1 a2 a3 a4 now kept st text len att num rd i 3 hi (by omega) _) (cwV 2 hts gX9_eventOf_X9_ofE rfl rfl rfl (by decide +kernel) ⟨Nat.le_of_ble_eq_true rfl, Nat.le_of_ble_eq_true rfl⟩) (kPreV hE hP hD (ci := 9) (q0 := 0) rfl rfl) rfl rfl hl.1 rfl (lv_room (Nat.le_of_ble_eq_true rfl)) dX9_eventOf_57 ⟨Nat.zero_le _, Nat.zero_le _⟩) hD hS hA (fun H locs hP hD hS => ?_)
            exact hend _ _ _ _ _ _ hP hD hS dX9_eventOf_60 rfl rfl (by simp +decide only [m_evOf, c_7, c_16, c_28, c_36, if_true, if_false, not_true_eq_false, not_false_eq_true, and_self, and_true, true_and, and_false, false_and, kn01, kn10, kn02, kn20, kn12, kn21, eq_self])
          · exact absurd c_36 (by decide)
        · refine lv_ldc (v := (-1000004)) hx hb hown k0 dX9_eventOf_31 ?_
          exact hend _ _ _ _ _ _ hP hD hS dX9_eventOf_33 rfl rfl (by simp +decide only [m_evOf, c_7, c_16, c_28, if_true, if_false, not_true_eq_false, not_false_eq_true, and_self, and_true, true_and, and_false, false_and, kn01, kn10, kn02, kn20, kn12, kn21, eq_self])
      · exact absurd c_16 (by decide)
  · have hl : lv_has ls 3 [(0, .ref a0), (1, .int (nI i)), (2, .int 3)] := hl
    refine lv_iload_n hx hb dX9_eventOf_0 rfl (lv_at hl 1 rfl) ?_
    refine lv_iconst (v := 0) hx hb dX9_eventOf_1 (by decide) ?_
    refine lv_bipush (v := 63) hx hb dX9_eventOf_2 (by decide) ?_
    refine k_i0 (va_runS (As := [.int (nI i), .int 0, .int 63]) (rest := []) hF (c_X9_isIn l D I C Q (nI i) 0 63 _) (va_cwS 3 hts gX9_eventOf_X9_isIn rfl rfl rfl (by decide +kernel) ⟨Nat.le_of_ble_eq_true rfl, Nat.le_of_ble_eq_true rfl⟩) (kPreS hE k_P0 (k_D0 (A := A))) rfl rfl hl.1 rfl (lv_room (Nat.le_of_ble_eq_true rfl)) dX9_eventOf_4 ⟨Nat.zero_le _, Nat.zero_le _⟩) hP hS hA (fun H locs hP hS => ?_)
    refine lv_if_eq (tgt := 19) hx hb dX9_eventOf_7 (by decide) (fun c_7 => ?_) (fun c_7 => ?_)
    · exact absurd c_7 hok
    · refine lv_iload_n hx hb dX9_eventOf_10 rfl (lv_at hl 2 rfl) ?_
      refine lv_iconst (v := 0) hx hb dX9_eventOf_11 (by decide) ?_
      refine lv_iconst (v := 5) hx hb dX9_eventOf_12 (by decide) ?_
      refine k_i0 (va_runS (As := [.int 3, .int 0, .int 5]) (rest := []) hF (c_X9_isIn l D I C Q 3 0 5 _) (va_cwS 3 hts gX9_eventOf_X9_isIn rfl rfl rfl (by decide +kernel) ⟨Nat.le_of_ble_eq_true rfl, Nat.le_of_ble_eq_true rfl⟩) (kPreS hE k_P0 (k_D0 (A := A))) rfl rfl hl.1 rfl (lv_room (Nat.le_of_ble_eq_true rfl)) dX9_eventOf_13 ⟨Nat.zero_le _, Nat.zero_le _⟩) hP hS hA (fun H locs hP hS => ?_)
      refine lv_if_ne (tgt := 22) hx hb dX9_eventOf_16 (by decide) (fun c_16 => ?_) (fun c_16 => ?_)
      · refine lv_aload_n hx hb dX9_eventOf_22 rfl (lv_at hl 0 rfl) ?_
        refine lv_iload_n hx hb dX9_eventOf_23 rfl (lv_at hl 1 rfl) ?_
        refine lv_iconst (v := 0) hx hb dX9_eventOf_24 (by decide) ?_
        refine k_iF (va_runV (As := [.int (nI i), .int 0]) (rest := []) hF (c_X9_ofE l D I C Q a0 a1 a2 a3 a4 now kept st text len att num rd i 0 hi (by omega) _) (cwV 2 hts gX9_eventOf_X9_ofE rfl rfl rfl (by decide +kernel) ⟨Nat.le_of_ble_eq_true rfl, Nat.le_of_ble_eq_true rfl⟩) (kPreV hE hP hD (ci := 9) (q0 := 0) rfl rfl) rfl rfl hl.1 rfl (lv_room (Nat.le_of_ble_eq_true rfl)) dX9_eventOf_25 ⟨Nat.zero_le _, Nat.zero_le _⟩) hD hS hA (fun H locs hP hD hS => ?_)
        refine lv_if_ne (tgt := 34) hx hb dX9_eventOf_28 (by decide) (fun c_28 => ?_) (fun c_28 => ?_)
        · refine lv_iload_n hx hb dX9_eventOf_34 rfl (lv_at hl 2 rfl) ?_
          refine lv_iconst (v := 5) hx hb dX9_eventOf_35 (by decide) ?_
          refine lv_icmp_ne (tgt := 52) hx hb dX9_eventOf_36 (by decide) (fun c_36 => ?_) (fun c_36 => ?_)
          · refine lv_aload_n hx hb dX9_eventOf_52 rfl (lv_at hl 0 rfl) ?_
            refine lv_iload_n hx hb dX9_eventOf_53 rfl (lv_at hl 1 rfl) ?_
            refine lv_iload_n hx hb dX9_eventOf_54 rfl (lv_at hl 2 rfl) ?_
            refine lv_iconst (v := 1) hx hb dX9_eventOf_55 (by decide) ?_
            refine k_iadd (v := 4) hx hb dX9_eventOf_56 (nI_add 3 1) ?_
            refine k_iF (va_runV (As := [.int (nI i), .int 4]) (rest := []) hF (c_X9_ofE l D I C Q a0 a1 a2 a3 a4 now kept st text len att num rd i 4 hi (by omega) _) (cwV 2 hts gX9_eventOf_X9_ofE rfl rfl rfl (by decide +kernel) ⟨Nat.le_of_ble_eq_true rfl, Nat.le_of_ble_eq_true rfl⟩) (kPreV hE hP hD (ci := 9) (q0 := 0) rfl rfl) rfl rfl hl.1 rfl (lv_room (Nat.le_of_ble_eq_true rfl)) dX9_eventOf_57 ⟨Nat.zero_le _, Nat.zero_le _⟩) hD hS hA (fun H locs hP hD hS => ?_)
            exact hend _ _ _ _ _ _ hP hD hS dX9_eventOf_60 rfl rfl (by simp +decide only [m_evOf, c_7, c_16, c_28, c_36, if_true, if_false, not_true_eq_false, not_false_eq_true, and_self, and_true, true_and, and_false, false_and, kn01, kn10, kn02, kn20, kn12, kn21, eq_self])
          · exact absurd c_36 (by decide)
        · refine lv_ldc (v := (-1000004)) hx hb hown k0 dX9_eventOf_31 ?_
          exact hend _ _ _ _ _ _ hP hD hS dX9_eventOf_33 rfl rfl (by simp +decide only [m_evOf, c_7, c_16, c_28, if_true, if_false, not_true_eq_false, not_false_eq_true, and_self, and_true, true_and, and_false, false_and, kn01, kn10, kn02, kn20, kn12, kn21, eq_self])
      · exact absurd c_16 (by decide)
  · have hl : lv_has ls 3 [(0, .ref a0), (1, .int (nI i)), (2, .int 4)] := hl
    refine lv_iload_n hx hb dX9_eventOf_0 rfl (lv_at hl 1 rfl) ?_
    refine lv_iconst (v := 0) hx hb dX9_eventOf_1 (by decide) ?_
    refine lv_bipush (v := 63) hx hb dX9_eventOf_2 (by decide) ?_
    refine k_i0 (va_runS (As := [.int (nI i), .int 0, .int 63]) (rest := []) hF (c_X9_isIn l D I C Q (nI i) 0 63 _) (va_cwS 3 hts gX9_eventOf_X9_isIn rfl rfl rfl (by decide +kernel) ⟨Nat.le_of_ble_eq_true rfl, Nat.le_of_ble_eq_true rfl⟩) (kPreS hE k_P0 (k_D0 (A := A))) rfl rfl hl.1 rfl (lv_room (Nat.le_of_ble_eq_true rfl)) dX9_eventOf_4 ⟨Nat.zero_le _, Nat.zero_le _⟩) hP hS hA (fun H locs hP hS => ?_)
    refine lv_if_eq (tgt := 19) hx hb dX9_eventOf_7 (by decide) (fun c_7 => ?_) (fun c_7 => ?_)
    · exact absurd c_7 hok
    · refine lv_iload_n hx hb dX9_eventOf_10 rfl (lv_at hl 2 rfl) ?_
      refine lv_iconst (v := 0) hx hb dX9_eventOf_11 (by decide) ?_
      refine lv_iconst (v := 5) hx hb dX9_eventOf_12 (by decide) ?_
      refine k_i0 (va_runS (As := [.int 4, .int 0, .int 5]) (rest := []) hF (c_X9_isIn l D I C Q 4 0 5 _) (va_cwS 3 hts gX9_eventOf_X9_isIn rfl rfl rfl (by decide +kernel) ⟨Nat.le_of_ble_eq_true rfl, Nat.le_of_ble_eq_true rfl⟩) (kPreS hE k_P0 (k_D0 (A := A))) rfl rfl hl.1 rfl (lv_room (Nat.le_of_ble_eq_true rfl)) dX9_eventOf_13 ⟨Nat.zero_le _, Nat.zero_le _⟩) hP hS hA (fun H locs hP hS => ?_)
      refine lv_if_ne (tgt := 22) hx hb dX9_eventOf_16 (by decide) (fun c_16 => ?_) (fun c_16 => ?_)
      · refine lv_aload_n hx hb dX9_eventOf_22 rfl (lv_at hl 0 rfl) ?_
        refine lv_iload_n hx hb dX9_eventOf_23 rfl (lv_at hl 1 rfl) ?_
        refine lv_iconst (v := 0) hx hb dX9_eventOf_24 (by decide) ?_
        refine k_iF (va_runV (As := [.int (nI i), .int 0]) (rest := []) hF (c_X9_ofE l D I C Q a0 a1 a2 a3 a4 now kept st text len att num rd i 0 hi (by omega) _) (cwV 2 hts gX9_eventOf_X9_ofE rfl rfl rfl (by decide +kernel) ⟨Nat.le_of_ble_eq_true rfl, Nat.le_of_ble_eq_true rfl⟩) (kPreV hE hP hD (ci := 9) (q0 := 0) rfl rfl) rfl rfl hl.1 rfl (lv_room (Nat.le_of_ble_eq_true rfl)) dX9_eventOf_25 ⟨Nat.zero_le _, Nat.zero_le _⟩) hD hS hA (fun H locs hP hD hS => ?_)
        refine lv_if_ne (tgt := 34) hx hb dX9_eventOf_28 (by decide) (fun c_28 => ?_) (fun c_28 => ?_)
        · refine lv_iload_n hx hb dX9_eventOf_34 rfl (lv_at hl 2 rfl) ?_
          refine lv_iconst (v := 5) hx hb dX9_eventOf_35 (by decide) ?_
          refine lv_icmp_ne (tgt := 52) hx hb dX9_eventOf_36 (by decide) (fun c_36 => ?_) (fun c_36 => ?_)
          · refine lv_aload_n hx hb dX9_eventOf_52 rfl (lv_at hl 0 rfl) ?_
            refine lv_iload_n hx hb dX9_eventOf_53 rfl (lv_at hl 1 rfl) ?_
            refine lv_iload_n hx hb dX9_eventOf_54 rfl (lv_at hl 2 rfl) ?_
            refine lv_iconst (v := 1) hx hb dX9_eventOf_55 (by decide) ?_
            refine k_iadd (v := 5) hx hb dX9_eventOf_56 (nI_add 4 1) ?_
            refine k_iF (va_runV (As := [.int (nI i), .int 5]) (rest := []) hF (c_X9_ofE l D I C Q a0 a1 a2 a3 a4 now kept st text len att num rd i 5 hi (by omega) _) (cwV 2 hts gX9_eventOf_X9_ofE rfl rfl rfl (by decide +kernel) ⟨Nat.le_of_ble_eq_true rfl, Nat.le_of_ble_eq_true rfl⟩) (kPreV hE hP hD (ci := 9) (q0 := 0) rfl rfl) rfl rfl hl.1 rfl (lv_room (Nat.le_of_ble_eq_true rfl)) dX9_eventOf_57 ⟨Nat.zero_le _, Nat.zero_le _⟩) hD hS hA (fun H locs hP hD hS => ?_)
            exact hend _ _ _ _ _ _ hP hD hS dX9_eventOf_60 rfl rfl (by simp +decide only [m_evOf, c_7, c_16, c_28, c_36, if_true, if_false, not_true_eq_false, not_false_eq_true, and_self, and_true, true_and, and_false, false_and, kn01, kn10, kn02, kn20, kn12, kn21, eq_self])
          · exact absurd c_36 (by decide)
        · refine lv_ldc (v := (-1000004)) hx hb hown k0 dX9_eventOf_31 ?_
          exact hend _ _ _ _ _ _ hP hD hS dX9_eventOf_33 rfl rfl (by simp +decide only [m_evOf, c_7, c_16, c_28, if_true, if_false, not_true_eq_false, not_false_eq_true, and_self, and_true, true_and, and_false, false_and, kn01, kn10, kn02, kn20, kn12, kn21, eq_self])
      · exact absurd c_16 (by decide)
  · have hl : lv_has ls 3 [(0, .ref a0), (1, .int (nI i)), (2, .int 5)] := hl
    refine lv_iload_n hx hb dX9_eventOf_0 rfl (lv_at hl 1 rfl) ?_
    refine lv_iconst (v := 0) hx hb dX9_eventOf_1 (by decide) ?_
    refine lv_bipush (v := 63) hx hb dX9_eventOf_2 (by decide) ?_
    refine k_i0 (va_runS (As := [.int (nI i), .int 0, .int 63]) (rest := []) hF (c_X9_isIn l D I C Q (nI i) 0 63 _) (va_cwS 3 hts gX9_eventOf_X9_isIn rfl rfl rfl (by decide +kernel) ⟨Nat.le_of_ble_eq_true rfl, Nat.le_of_ble_eq_true rfl⟩) (kPreS hE k_P0 (k_D0 (A := A))) rfl rfl hl.1 rfl (lv_room (Nat.le_of_ble_eq_true rfl)) dX9_eventOf_4 ⟨Nat.zero_le _, Nat.zero_le _⟩) hP hS hA (fun H locs hP hS => ?_)
    refine lv_if_eq (tgt := 19) hx hb dX9_eventOf_7 (by decide) (fun c_7 => ?_) (fun c_7 => ?_)
    · exact absurd c_7 hok
    · refine lv_iload_n hx hb dX9_eventOf_10 rfl (lv_at hl 2 rfl) ?_
      refine lv_iconst (v := 0) hx hb dX9_eventOf_11 (by decide) ?_
      refine lv_iconst (v := 5) hx hb dX9_eventOf_12 (by decide) ?_
      refine k_i0 (va_runS (As := [.int 5, .int 0, .int 5]) (rest := []) hF (c_X9_isIn l D I C Q 5 0 5 _) (va_cwS 3 hts gX9_eventOf_X9_isIn rfl rfl rfl (by decide +kernel) ⟨Nat.le_of_ble_eq_true rfl, Nat.le_of_ble_eq_true rfl⟩) (kPreS hE k_P0 (k_D0 (A := A))) rfl rfl hl.1 rfl (lv_room (Nat.le_of_ble_eq_true rfl)) dX9_eventOf_13 ⟨Nat.zero_le _, Nat.zero_le _⟩) hP hS hA (fun H locs hP hS => ?_)
      refine lv_if_ne (tgt := 22) hx hb dX9_eventOf_16 (by decide) (fun c_16 => ?_) (fun c_16 => ?_)
      · refine lv_aload_n hx hb dX9_eventOf_22 rfl (lv_at hl 0 rfl) ?_
        refine lv_iload_n hx hb dX9_eventOf_23 rfl (lv_at hl 1 rfl) ?_
        refine lv_iconst (v := 0) hx hb dX9_eventOf_24 (by decide) ?_
        refine k_iF (va_runV (As := [.int (nI i), .int 0]) (rest := []) hF (c_X9_ofE l D I C Q a0 a1 a2 a3 a4 now kept st text len att num rd i 0 hi (by omega) _) (cwV 2 hts gX9_eventOf_X9_ofE rfl rfl rfl (by decide +kernel) ⟨Nat.le_of_ble_eq_true rfl, Nat.le_of_ble_eq_true rfl⟩) (kPreV hE hP hD (ci := 9) (q0 := 0) rfl rfl) rfl rfl hl.1 rfl (lv_room (Nat.le_of_ble_eq_true rfl)) dX9_eventOf_25 ⟨Nat.zero_le _, Nat.zero_le _⟩) hD hS hA (fun H locs hP hD hS => ?_)
        refine lv_if_ne (tgt := 34) hx hb dX9_eventOf_28 (by decide) (fun c_28 => ?_) (fun c_28 => ?_)
        · refine lv_iload_n hx hb dX9_eventOf_34 rfl (lv_at hl 2 rfl) ?_
          refine lv_iconst (v := 5) hx hb dX9_eventOf_35 (by decide) ?_
          refine lv_icmp_ne (tgt := 52) hx hb dX9_eventOf_36 (by decide) (fun c_36 => ?_) (fun c_36 => ?_)
          · exact (c_36 (by decide)).elim
          · refine lv_aload_n hx hb dX9_eventOf_39 rfl (lv_at hl 0 rfl) ?_
            refine lv_aload_n hx hb dX9_eventOf_40 rfl (lv_at hl 0 rfl) ?_
            refine lv_iload_n hx hb dX9_eventOf_41 rfl (lv_at hl 1 rfl) ?_
            refine lv_iconst (v := 1) hx hb dX9_eventOf_42 (by decide) ?_
            refine k_iF (va_runV (As := [.int (nI i), .int 1]) (rest := [.ref a0]) hF (c_X9_ofE l D I C Q a0 a1 a2 a3 a4 now kept st text len att num rd i 1 hi (by omega) _) (cwV 2 hts gX9_eventOf_X9_ofE rfl rfl rfl (by decide +kernel) ⟨Nat.le_of_ble_eq_true rfl, Nat.le_of_ble_eq_true rfl⟩) (kPreV hE hP hD (ci := 9) (q0 := 0) rfl rfl) rfl rfl hl.1 rfl (lv_room (Nat.le_of_ble_eq_true rfl)) dX9_eventOf_43 ⟨Nat.zero_le _, Nat.zero_le _⟩) hD hS hA (fun H locs hP hD hS => ?_)
            refine k_iF (va_runV (As := [.int (now (12 + 6 * i + 1))]) (rest := []) hF (c_X9_paneAt l D I C Q a0 a1 a2 a3 a4 now kept st text len att num rd sz (now (12 + 6 * i + 1)) hsz hs0 hs1 _) (cwV 1 hts gX9_eventOf_X9_paneAt rfl rfl rfl (by decide +kernel) ⟨Nat.le_of_ble_eq_true rfl, Nat.le_of_ble_eq_true rfl⟩) (kPreV hE hP hD (ci := 9) (q0 := 0) rfl rfl) rfl rfl hl.1 rfl (lv_room (Nat.le_of_ble_eq_true rfl)) dX9_eventOf_46 ⟨Nat.zero_le _, Nat.zero_le _⟩) hD hS hA (fun H locs hP hD hS => ?_)
            refine lv_goto (tgt := 60) hx hb dX9_eventOf_49 (by decide) ?_
            exact hend _ _ _ _ _ _ hP hD hS dX9_eventOf_60 rfl rfl (by simp +decide only [m_evOf, c_7, c_16, c_28, c_36, if_true, if_false, not_true_eq_false, not_false_eq_true, and_self, and_true, true_and, and_false, false_and, kn01, kn10, kn02, kn20, kn12, kn21, eq_self])
        · refine lv_ldc (v := (-1000004)) hx hb hown k0 dX9_eventOf_31 ?_
          exact hend _ _ _ _ _ _ hP hD hS dX9_eventOf_33 rfl rfl (by simp +decide only [m_evOf, c_7, c_16, c_28, if_true, if_false, not_true_eq_false, not_false_eq_true, and_self, and_true, true_and, and_false, false_and, kn01, kn10, kn02, kn20, kn12, kn21, eq_self])
      · exact absurd c_16 (by decide)
