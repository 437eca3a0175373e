set_option maxHeartbeats 400000 in
set_option maxRecDepth 100000 in
theorem c_X9_setB (l : Launch) (D : va_G) (I C Q : ClassId) (a0 a1 a2 a3 a4 : Nat) (now : Nat → Int32) (kept : Nat → Int32) (st : Int32) (text : Nat → Int32) (len : Int32) (att : Int32) (num : Int32) (rd : Nat → Int32) (w : Int32) (v : Int32) (hbad : m_isIn w 0 2 = 0 ∨ m_isIn v (if w = 0 then 1 else 0) 100 = 0) : KI l D (tyL I C Q) yX9_set wsX9_set { frames := 1, cells := 0, slots := 0, locals := 22 } [.ref a0, .int w, .int v] (wM I a0 a1 a2 a3 a4 now kept st text len att num rd) (wM I a0 a1 a2 a3 a4 now kept st text len att num rd) (-1000001) := by
  refine KI.of (cc := cX9_set) (maxL := 4) (rt := .int) (own := RX9) (by decide) rfl rfl (Nat.le_of_ble_eq_true rfl) ?_
  intro p e s m below meth c A Q0 ls hx hb hml hown hts hE hA hP hD hS hl hend
  have hK := hE.1
  have hF : CallFix p m c cX9_set 4 s [.ref a0, .int w, .int v].toArray wsX9_set RX9 := ⟨hx, hb, hml, hown, hts⟩
  have k0 := hts (.constant RX9 31 (-1000001)) (List.mem_of_getElem? (i := 1) rfl)
  have hl : lv_has ls 4 [(0, .ref a0), (1, .int w), (2, .int v)] := hl
  refine lv_iload_n hx hb dX9_set_0 rfl (lv_at hl 1 rfl) ?_
  refine lv_iconst (v := 0) hx hb dX9_set_1 (by decide) ?_
  refine lv_iconst (v := 2) hx hb dX9_set_2 (by decide) ?_
  refine k_i0 (va_runS (As := [.int w, .int 0, .int 2]) (rest := []) hF (c_X9_isIn l D I C Q w 0 2 _) (va_cwS 3 hts gX9_set_X9_isIn rfl rfl rfl (by decide +kernel) ⟨Nat.le_of_ble_eq_true rfl, Nat.le_of_ble_eq_true rfl⟩) (kPreS hE k_P0 (k_D0 (A := A))) rfl rfl hl.1 rfl (lv_room (Nat.le_of_ble_eq_true rfl)) dX9_set_3 ⟨Nat.zero_le _, Nat.zero_le _⟩) hP hS hA (fun H locs hP hS => ?_)
  refine lv_if_eq (tgt := 27) hx hb dX9_set_6 (by decide) (fun c_6 => ?_) (fun c_6 => ?_)
  · refine lv_ldc (v := (-1000001)) hx hb hown k0 dX9_set_27 ?_
    exact hend _ _ _ _ _ _ hP hD hS dX9_set_29 rfl rfl rfl
  · refine lv_iload_n hx hb dX9_set_9 rfl (lv_at hl 2 rfl) ?_
    refine lv_iload_n hx hb dX9_set_10 rfl (lv_at hl 1 rfl) ?_
    refine lv_if_ne (tgt := 18) hx hb dX9_set_11 (by decide) (fun c_11 => ?_) (fun c_11 => ?_)
    · refine lv_iconst (v := 0) hx hb dX9_set_18 (by decide) ?_
      refine lv_bipush (v := 100) hx hb dX9_set_19 (by decide) ?_
      refine k_i0 (va_runS (As := [.int v, .int 0, .int 100]) (rest := []) hF (c_X9_isIn l D I C Q v 0 100 _) (va_cwS 3 hts gX9_set_X9_isIn rfl rfl rfl (by decide +kernel) ⟨Nat.le_of_ble_eq_true rfl, Nat.le_of_ble_eq_true rfl⟩) (kPreS hE k_P0 (k_D0 (A := A))) rfl rfl hl.1 rfl (lv_room (Nat.le_of_ble_eq_true rfl)) dX9_set_21 ⟨Nat.zero_le _, Nat.zero_le _⟩) hP hS hA (fun H locs hP hS => ?_)
      refine lv_if_ne (tgt := 30) hx hb dX9_set_24 (by decide) (fun c_24 => ?_) (fun c_24 => ?_)
      · exact (hbad.elim (fun h => c_6 h) (fun h => c_24 (by rw [if_neg c_11] at h; exact h))).elim
      · refine lv_ldc (v := (-1000001)) hx hb hown k0 dX9_set_27 ?_
        exact hend _ _ _ _ _ _ hP hD hS dX9_set_29 rfl rfl rfl
    · refine lv_iconst (v := 1) hx hb dX9_set_14 (by decide) ?_
      refine lv_goto (tgt := 19) hx hb dX9_set_15 (by decide) ?_
      refine lv_bipush (v := 100) hx hb dX9_set_19 (by decide) ?_
      refine k_i0 (va_runS (As := [.int v, .int 1, .int 100]) (rest := []) hF (c_X9_isIn l D I C Q v 1 100 _) (va_cwS 3 hts gX9_set_X9_isIn rfl rfl rfl (by decide +kernel) ⟨Nat.le_of_ble_eq_true rfl, Nat.le_of_ble_eq_true rfl⟩) (kPreS hE k_P0 (k_D0 (A := A))) rfl rfl hl.1 rfl (lv_room (Nat.le_of_ble_eq_true rfl)) dX9_set_21 ⟨Nat.zero_le _, Nat.zero_le _⟩) hP hS hA (fun H locs hP hS => ?_)
      refine lv_if_ne (tgt := 30) hx hb dX9_set_24 (by decide) (fun c_24 => ?_) (fun c_24 => ?_)
      · exact (hbad.elim (fun h => c_6 h) (fun h => c_24 (by rw [if_pos c_11] at h; exact h))).elim
      · refine lv_ldc (v := (-1000001)) hx hb hown k0 dX9_set_27 ?_
        exact hend _ _ _ _ _ _ hP hD hS dX9_set_29 rfl rfl rfl
set_option maxHeartbeats 400000 in
set_option maxRecDepth 100000 in
theorem c_X9_setN (l : Launch) (D : va_G) (I C Q : ClassId) (a0 a1 a2 a3 a4 : Nat) (now : Nat → Int32) (kept : Nat → Int32) (st : Int32) (text : Nat → Int32) (len : Int32) (att : Int32) (num : Int32) (rd : Nat → Int32) (w : Nat) (v : Int32) (hw3 : w < 3) (hv : ¬ m_isIn v (if w = 0 then 1 else 0) 100 = 0) (h0 : w = 0) (h11 : now 11 = 1) : KI l D (tyL I C Q) yX9_set wsX9_set { frames := 1, cells := 0, slots := 0, locals := 22 } [.ref a0, .int (nI w), .int v] (wM I a0 a1 a2 a3 a4 now kept st text len att num rd) (wM I a0 a1 a2 a3 a4 now kept st text len att num rd) (-1000002) := by
  refine KI.of (cc := cX9_set) (maxL := 4) (rt := .int) (own := RX9) (by decide) rfl rfl (Nat.le_of_ble_eq_true rfl) ?_
  intro p e s m below meth c A Q0 ls hx hb hml hown hts hE hA hP hD hS hl hend
  have hK := hE.1
  have hF : CallFix p m c cX9_set 4 s [.ref a0, .int (nI w), .int v].toArray wsX9_set RX9 := ⟨hx, hb, hml, hown, hts⟩
  have k0 := hts (.fieldLink RX9 7 "LateExcusesModel" "now" "[I") (List.mem_of_getElem? (i := 2) rfl)
  have k1 := hts (.constant RX9 26 (-1000002)) (List.mem_of_getElem? (i := 3) rfl)
  have u9 : ∀ w ∈ u_ws RX9 TX9 8, w ∈ wsX9_set := by decide +kernel
  have hl : lv_has ls 4 [(0, .ref a0), (1, .int (nI w)), (2, .int v)] := hl
  rcases (show w = 0 ∨ w = 1 ∨ w = 2 by omega) with rfl | rfl | rfl
  · have hl : lv_has ls 4 [(0, .ref a0), (1, .int 0), (2, .int v)] := hl
    refine lv_iload_n hx hb dX9_set_0 rfl (lv_at hl 1 rfl) ?_
    refine lv_iconst (v := 0) hx hb dX9_set_1 (by decide) ?_
    refine lv_iconst (v := 2) hx hb dX9_set_2 (by decide) ?_
    refine k_i0 (va_runS (As := [.int 0, .int 0, .int 2]) (rest := []) hF (c_X9_isIn l D I C Q 0 0 2 _) (va_cwS 3 hts gX9_set_X9_isIn rfl rfl rfl (by decide +kernel) ⟨Nat.le_of_ble_eq_true rfl, Nat.le_of_ble_eq_true rfl⟩) (kPreS hE k_P0 (k_D0 (A := A))) rfl rfl hl.1 rfl (lv_room (Nat.le_of_ble_eq_true rfl)) dX9_set_3 ⟨Nat.zero_le _, Nat.zero_le _⟩) hP hS hA (fun H locs hP hS => ?_)
    refine lv_if_eq (tgt := 27) hx hb dX9_set_6 (by decide) (fun c_6 => ?_) (fun c_6 => ?_)
    · exact absurd c_6 (by decide)
    · refine lv_iload_n hx hb dX9_set_9 rfl (lv_at hl 2 rfl) ?_
      refine lv_iload_n hx hb dX9_set_10 rfl (lv_at hl 1 rfl) ?_
      refine lv_if_ne (tgt := 18) hx hb dX9_set_11 (by decide) (fun c_11 => ?_) (fun c_11 => ?_)
      · exact (c_11 (by decide)).elim
      · refine lv_iconst (v := 1) hx hb dX9_set_14 (by decide) ?_
        refine lv_goto (tgt := 19) hx hb dX9_set_15 (by decide) ?_
        refine lv_bipush (v := 100) hx hb dX9_set_19 (by decide) ?_
        refine k_i0 (va_runS (As := [.int v, .int 1, .int 100]) (rest := []) hF (c_X9_isIn l D I C Q v 1 100 _) (va_cwS 3 hts gX9_set_X9_isIn rfl rfl rfl (by decide +kernel) ⟨Nat.le_of_ble_eq_true rfl, Nat.le_of_ble_eq_true rfl⟩) (kPreS hE k_P0 (k_D0 (A := A))) rfl rfl hl.1 rfl (lv_room (Nat.le_of_ble_eq_true rfl)) dX9_set_21 ⟨Nat.zero_le _, Nat.zero_le _⟩) hP hS hA (fun H locs hP hS => ?_)
        refine lv_if_ne (tgt := 30) hx hb dX9_set_24 (by decide) (fun c_24 => ?_) (fun c_24 => ?_)
        · refine lv_iload_n hx hb dX9_set_30 rfl (lv_at hl 1 rfl) ?_
          refine lv_if_ne (tgt := 48) hx hb dX9_set_31 (by decide) (fun c_31 => ?_) (fun c_31 => ?_)
          · exact absurd rfl c_31
          · refine lv_aload_n hx hb dX9_set_34 rfl (lv_at hl 0 rfl) ?_
            refine va_get (D := D) (ci := 9) (v := .ref a1) (C := RX9) (T := TX9) (N := 8) hx hb hts u9 hown hK hP 0 rfl rfl 0 (by decide) k0 (fun _ h9 => h9) rfl dX9_set_35 ?_
            refine lv_bipush (v := 11) hx hb dX9_set_38 (by decide) ?_
            refine k_iald (j := 11) (v := (now 11)) hx hb hK hP 1 0 rfl rfl rfl (by decide) (by decide) rfl dX9_set_40 ?_
            refine lv_iconst (v := 1) hx hb dX9_set_41 (by decide) ?_
            refine lv_icmp_ne (tgt := 48) hx hb dX9_set_42 (by decide) (fun c_42 => ?_) (fun c_42 => ?_)
            · exact absurd h11 c_42
            · refine lv_ldc (v := (-1000002)) hx hb hown k1 dX9_set_45 ?_
              exact hend _ _ _ _ _ _ hP hD hS dX9_set_47 rfl rfl rfl
        · exact absurd c_24 hv
  · have hl : lv_has ls 4 [(0, .ref a0), (1, .int 1), (2, .int v)] := hl
    refine lv_iload_n hx hb dX9_set_0 rfl (lv_at hl 1 rfl) ?_
    refine lv_iconst (v := 0) hx hb dX9_set_1 (by decide) ?_
    refine lv_iconst (v := 2) hx hb dX9_set_2 (by decide) ?_
    refine k_i0 (va_runS (As := [.int 1, .int 0, .int 2]) (rest := []) hF (c_X9_isIn l D I C Q 1 0 2 _) (va_cwS 3 hts gX9_set_X9_isIn rfl rfl rfl (by decide +kernel) ⟨Nat.le_of_ble_eq_true rfl, Nat.le_of_ble_eq_true rfl⟩) (kPreS hE k_P0 (k_D0 (A := A))) rfl rfl hl.1 rfl (lv_room (Nat.le_of_ble_eq_true rfl)) dX9_set_3 ⟨Nat.zero_le _, Nat.zero_le _⟩) hP hS hA (fun H locs hP hS => ?_)
    refine lv_if_eq (tgt := 27) hx hb dX9_set_6 (by decide) (fun c_6 => ?_) (fun c_6 => ?_)
    · exact absurd c_6 (by decide)
    · refine lv_iload_n hx hb dX9_set_9 rfl (lv_at hl 2 rfl) ?_
      refine lv_iload_n hx hb dX9_set_10 rfl (lv_at hl 1 rfl) ?_
      refine lv_if_ne (tgt := 18) hx hb dX9_set_11 (by decide) (fun c_11 => ?_) (fun c_11 => ?_)
      · refine lv_iconst (v := 0) hx hb dX9_set_18 (by decide) ?_
        refine lv_bipush (v := 100) hx hb dX9_set_19 (by decide) ?_
        refine k_i0 (va_runS (As := [.int v, .int 0, .int 100]) (rest := []) hF (c_X9_isIn l D I C Q v 0 100 _) (va_cwS 3 hts gX9_set_X9_isIn rfl rfl rfl (by decide +kernel) ⟨Nat.le_of_ble_eq_true rfl, Nat.le_of_ble_eq_true rfl⟩) (kPreS hE k_P0 (k_D0 (A := A))) rfl rfl hl.1 rfl (lv_room (Nat.le_of_ble_eq_true rfl)) dX9_set_21 ⟨Nat.zero_le _, Nat.zero_le _⟩) hP hS hA (fun H locs hP hS => ?_)
        refine lv_if_ne (tgt := 30) hx hb dX9_set_24 (by decide) (fun c_24 => ?_) (fun c_24 => ?_)
        · refine lv_iload_n hx hb dX9_set_30 rfl (lv_at hl 1 rfl) ?_
          refine lv_if_ne (tgt := 48) hx hb dX9_set_31 (by decide) (fun c_31 => ?_) (fun c_31 => ?_)
          · exact absurd h0 (by decide)
          · refine lv_aload_n hx hb dX9_set_34 rfl (lv_at hl 0 rfl) ?_
            refine va_get (D := D) (ci := 9) (v := .ref a1) (C := RX9) (T := TX9) (N := 8) hx hb hts u9 hown hK hP 0 rfl rfl 0 (by decide) k0 (fun _ h9 => h9) rfl dX9_set_35 ?_
            refine lv_bipush (v := 11) hx hb dX9_set_38 (by decide) ?_
            refine k_iald (j := 11) (v := (now 11)) hx hb hK hP 1 0 rfl rfl rfl (by decide) (by decide) rfl dX9_set_40 ?_
            refine lv_iconst (v := 1) hx hb dX9_set_41 (by decide) ?_
            refine lv_icmp_ne (tgt := 48) hx hb dX9_set_42 (by decide) (fun c_42 => ?_) (fun c_42 => ?_)
            · exact absurd h11 c_42
            · refine lv_ldc (v := (-1000002)) hx hb hown k1 dX9_set_45 ?_
              exact hend _ _ _ _ _ _ hP hD hS dX9_set_47 rfl rfl rfl
        · exact absurd c_24 hv
      · exact absurd c_11 (by decide)
  · have hl : lv_has ls 4 [(0, .ref a0), (1, .int 2), (2, .int v)] := hl
    refine lv_iload_n hx hb dX9_set_0 rfl (lv_at hl 1 rfl) ?_
    refine lv_iconst (v := 0) hx hb dX9_set_1 (by decide) ?_
    refine lv_iconst (v := 2) hx hb dX9_set_2 (by decide) ?_
    refine k_i0 (va_runS (As := [.int 2, .int 0, .int 2]) (rest := []) hF (c_X9_isIn l D I C Q 2 0 2 _) (va_cwS 3 hts gX9_set_X9_isIn rfl rfl rfl (by decide +kernel) ⟨Nat.le_of_ble_eq_true rfl, Nat.le_of_ble_eq_true rfl⟩) (kPreS hE k_P0 (k_D0 (A := A))) rfl rfl hl.1 rfl (lv_room (Nat.le_of_ble_eq_true rfl)) dX9_set_3 ⟨Nat.zero_le _, Nat.zero_le _⟩) hP hS hA (fun H locs hP hS => ?_)
    refine lv_if_eq (tgt := 27) hx hb dX9_set_6 (by decide) (fun c_6 => ?_) (fun c_6 => ?_)
    · exact absurd c_6 (by decide)
    · refine lv_iload_n hx hb dX9_set_9 rfl (lv_at hl 2 rfl) ?_
      refine lv_iload_n hx hb dX9_set_10 rfl (lv_at hl 1 rfl) ?_
      refine lv_if_ne (tgt := 18) hx hb dX9_set_11 (by decide) (fun c_11 => ?_) (fun c_11 => ?_)
      · refine lv_iconst (v := 0) hx hb dX9_set_18 (by decide) ?_
        refine lv_bipush (v := 100) hx hb dX9_set_19 (by decide) ?_
        refine k_i0 (va_runS (As := [.int v, .int 0, .int 100]) (rest := []) hF (c_X9_isIn l D I C Q v 0 100 _) (va_cwS 3 hts gX9_set_X9_isIn rfl rfl rfl (by decide +kernel) ⟨Nat.le_of_ble_eq_true rfl, Nat.le_of_ble_eq_true rfl⟩) (kPreS hE k_P0 (k_D0 (A := A))) rfl rfl hl.1 rfl (lv_room (Nat.le_of_ble_eq_true rfl)) dX9_set_21 ⟨Nat.zero_le _, Nat.zero_le _⟩) hP hS hA (fun H locs hP hS => ?_)
        refine lv_if_ne (tgt := 30) hx hb dX9_set_24 (by decide) (fun c_24 => ?_) (fun c_24 => ?_)
        · refine lv_iload_n hx hb dX9_set_30 rfl (lv_at hl 1 rfl) ?_
          refine lv_if_ne (tgt := 48) hx hb dX9_set_31 (by decide) (fun c_31 => ?_) (fun c_31 => ?_)
          · exact absurd h0 (by decide)
          · refine lv_aload_n hx hb dX9_set_34 rfl (lv_at hl 0 rfl) ?_
            refine va_get (D := D) (ci := 9) (v := .ref a1) (C := RX9) (T := TX9) (N := 8) hx hb hts u9 hown hK hP 0 rfl rfl 0 (by decide) k0 (fun _ h9 => h9) rfl dX9_set_35 ?_
            refine lv_bipush (v := 11) hx hb dX9_set_38 (by decide) ?_
            refine k_iald (j := 11) (v := (now 11)) hx hb hK hP 1 0 rfl rfl rfl (by decide) (by decide) rfl dX9_set_40 ?_
            refine lv_iconst (v := 1) hx hb dX9_set_41 (by decide) ?_
            refine lv_icmp_ne (tgt := 48) hx hb dX9_set_42 (by decide) (fun c_42 => ?_) (fun c_42 => ?_)
            · exact absurd h11 c_42
            · refine lv_ldc (v := (-1000002)) hx hb hown k1 dX9_set_45 ?_
              exact hend _ _ _ _ _ _ hP hD hS dX9_set_47 rfl rfl rfl
        · exact absurd c_24 hv
      · exact absurd c_11 (by decide)
set_option maxHeartbeats 400000 in
set_option maxRecDepth 100000 in
theorem c_X9_setO (l : Launch) (D : va_G) (I C Q : ClassId) (a0 a1 a2 a3 a4 : Nat) (now : Nat → Int32) (kept : Nat → Int32) (ns : Nat) (text : Nat → Int32) (len : Int32) (att : Int32) (num : Int32) (rd : Nat → Int32) (w : Nat) (v : Int32) (hw3 : w < 3) (hv : ¬ m_isIn v (if w = 0 then 1 else 0) 100 = 0) (hns : ns ≤ 4) (h11 : w = 0 → ¬ now 11 = 1) : KI l D (tyL I C Q) yX9_set wsX9_set { frames := 1, cells := 0, slots := 0, locals := 22 } [.ref a0, .int (nI w), .int v] (wM I a0 a1 a2 a3 a4 now kept (nI ns) text len att num rd) (wM I a0 a1 a2 a3 a4 (upd now (6 + w) v) (m_rec now kept ns) (nI (m_rns ns)) text len att num rd) (now (6 + w)) := by
  refine KI.of (cc := cX9_set) (maxL := 4) (rt := .int) (own := RX9) (by decide) rfl rfl (Nat.le_of_ble_eq_true rfl) ?_
  intro p e s m below meth c A Q0 ls hx hb hml hown hts hE hA hP hD hS hl hend
  have hK := hE.1
  have hF : CallFix p m c cX9_set 4 s [.ref a0, .int (nI w), .int v].toArray wsX9_set RX9 := ⟨hx, hb, hml, hown, hts⟩
  have k0 := hts (.fieldLink RX9 7 "LateExcusesModel" "now" "[I") (List.mem_of_getElem? (i := 2) rfl)
  have u9 : ∀ w ∈ u_ws RX9 TX9 8, w ∈ wsX9_set := by decide +kernel
  have hl : lv_has ls 4 [(0, .ref a0), (1, .int (nI w)), (2, .int v)] := hl
  rcases (show w = 0 ∨ w = 1 ∨ w = 2 by omega) with rfl | rfl | rfl
  · have hl : lv_has ls 4 [(0, .ref a0), (1, .int 0), (2, .int v)] := hl
    refine lv_iload_n hx hb dX9_set_0 rfl (lv_at hl 1 rfl) ?_
    refine lv_iconst (v := 0) hx hb dX9_set_1 (by decide) ?_
    refine lv_iconst (v := 2) hx hb dX9_set_2 (by decide) ?_
    refine k_i0 (va_runS (As := [.int 0, .int 0, .int 2]) (rest := []) hF (c_X9_isIn l D I C Q 0 0 2 _) (va_cwS 3 hts gX9_set_X9_isIn rfl rfl rfl (by decide +kernel) ⟨Nat.le_of_ble_eq_true rfl, Nat.le_of_ble_eq_true rfl⟩) (kPreS hE k_P0 (k_D0 (A := A))) rfl rfl hl.1 rfl (lv_room (Nat.le_of_ble_eq_true rfl)) dX9_set_3 ⟨Nat.zero_le _, Nat.zero_le _⟩) hP hS hA (fun H locs hP hS => ?_)
    refine lv_if_eq (tgt := 27) hx hb dX9_set_6 (by decide) (fun c_6 => ?_) (fun c_6 => ?_)
    · exact absurd c_6 (by decide)
    · refine lv_iload_n hx hb dX9_set_9 rfl (lv_at hl 2 rfl) ?_
      refine lv_iload_n hx hb dX9_set_10 rfl (lv_at hl 1 rfl) ?_
      refine lv_if_ne (tgt := 18) hx hb dX9_set_11 (by decide) (fun c_11 => ?_) (fun c_11 => ?_)
      · exact (c_11 (by decide)).elim
      · refine lv_iconst (v := 1) hx hb dX9_set_14 (by decide) ?_
        refine lv_goto (tgt := 19) hx hb dX9_set_15 (by decide) ?_
        refine lv_bipush (v := 100) hx hb dX9_set_19 (by decide) ?_
        refine k_i0 (va_runS (As := [.int v, .int 1, .int 100]) (rest := []) hF (c_X9_isIn l D I C Q v 1 100 _) (va_cwS 3 hts gX9_set_X9_isIn rfl rfl rfl (by decide +kernel) ⟨Nat.le_of_ble_eq_true rfl, Nat.le_of_ble_eq_true rfl⟩) (kPreS hE k_P0 (k_D0 (A := A))) rfl rfl hl.1 rfl (lv_room (Nat.le_of_ble_eq_true rfl)) dX9_set_21 ⟨Nat.zero_le _, Nat.zero_le _⟩) hP hS hA (fun H locs hP hS => ?_)
        refine lv_if_ne (tgt := 30) hx hb dX9_set_24 (by decide) (fun c_24 => ?_) (fun c_24 => ?_)
        · refine lv_iload_n hx hb dX9_set_30 rfl (lv_at hl 1 rfl) ?_
          refine lv_if_ne (tgt := 48) hx hb dX9_set_31 (by decide) (fun c_31 => ?_) (fun c_31 => ?_)
          · exact absurd rfl c_31
          · refine lv_aload_n hx hb dX9_set_34 rfl (lv_at hl 0 rfl) ?_
            refine va_get (D := D) (ci := 9) (v := .ref a1) (C := RX9) (T := TX9) (N := 8) hx hb hts u9 hown hK hP 0 rfl rfl 0 (by decide) k0 (fun _ h9 => h9) rfl dX9_set_35 ?_
            refine lv_bipush (v := 11) hx hb dX9_set_38 (by decide) ?_
            refine k_iald (j := 11) (v := (now 11)) hx hb hK hP 1 0 rfl rfl rfl (by decide) (by decide) rfl dX9_set_40 ?_
            refine lv_iconst (v := 1) hx hb dX9_set_41 (by decide) ?_
            refine lv_icmp_ne (tgt := 48) hx hb dX9_set_42 (by decide) (fun c_42 => ?_) (fun c_42 => ?_)
            · refine lv_aload_n hx hb dX9_set_48 rfl (lv_at hl 0 rfl) ?_
              refine k_vF (va_runV (As := []) (rest := []) hF (c_X9_records l D I C Q a0 a1 a2 a3 a4 now kept ns text len att num rd hns _) (cwV 0 hts gX9_set_X9_records rfl rfl rfl (by decide +kernel) ⟨Nat.le_of_ble_eq_true rfl, Nat.le_of_ble_eq_true rfl⟩) (kPreV hE hP hD (ci := 9) (q0 := 0) rfl rfl) rfl rfl hl.1 rfl (lv_room (Nat.le_of_ble_eq_true rfl)) dX9_set_49 ⟨Nat.zero_le _, Nat.zero_le _⟩) hD hS hA (fun H locs hP hD hS => ?_)
              have hP : va_P D vwCl (wM I a0 a1 a2 a3 a4 now (m_rec now kept ns) (nI (m_rns ns)) text len att num rd) H := hP
              have hD : va_D A (wM I a0 a1 a2 a3 a4 now (m_rec now kept ns) (nI (m_rns ns)) text len att num rd) := hD
              refine lv_aload_n hx hb dX9_set_52 rfl (lv_at hl 0 rfl) ?_
              refine va_get (D := D) (ci := 9) (v := .ref a1) (C := RX9) (T := TX9) (N := 8) hx hb hts u9 hown hK hP 0 rfl rfl 0 (by decide) k0 (fun _ h9 => h9) rfl dX9_set_53 ?_
              refine lv_bipush (v := 6) hx hb dX9_set_56 (by decide) ?_
              refine lv_iload_n hx hb dX9_set_58 rfl (lv_at hl 1 rfl) ?_
              refine k_iadd (v := 6) hx hb dX9_set_59 (nI_add 6 0) ?_
              refine k_iald (j := 6) (v := (now 6)) hx hb hK hP 1 0 rfl rfl rfl (by decide) (by decide) rfl dX9_set_60 ?_
              refine lv_istore_n (lv' := [(3, .int (now 6)), (0, .ref a0), (1, .int 0), (2, .int v)]) hx hb dX9_set_61 rfl hl (by decide) rfl (fun ls hl => ?_)
              refine lv_aload_n hx hb dX9_set_62 rfl (lv_at hl 1 rfl) ?_
              refine va_get (D := D) (ci := 9) (v := .ref a1) (C := RX9) (T := TX9) (N := 8) hx hb hts u9 hown hK hP 0 rfl rfl 0 (by decide) k0 (fun _ h9 => h9) rfl dX9_set_63 ?_
              refine lv_bipush (v := 6) hx hb dX9_set_66 (by decide) ?_
              refine lv_iload_n hx hb dX9_set_68 rfl (lv_at hl 2 rfl) ?_
              refine k_iadd (v := 6) hx hb dX9_set_69 (nI_add 6 0) ?_
              refine lv_iload_n hx hb dX9_set_70 rfl (lv_at hl 3 rfl) ?_
              refine k_iast (j := 6) hx hb hK hP hD hS 1 0 rfl rfl rfl (by decide) (by decide) dX9_set_71 (fun H locs hP hD hS => ?_)
              have hP : va_P D vwCl (wM I a0 a1 a2 a3 a4 (upd now 6 v) (m_rec now kept ns) (nI (m_rns ns)) text len att num rd) H := hP
              have hD : va_D A (wM I a0 a1 a2 a3 a4 (upd now 6 v) (m_rec now kept ns) (nI (m_rns ns)) text len att num rd) := hD
              refine lv_iload_n hx hb dX9_set_72 rfl (lv_at hl 0 rfl) ?_
              exact hend _ _ _ _ _ _ hP hD hS dX9_set_73 rfl rfl rfl
            · exact absurd c_42 (h11 rfl)
        · exact absurd c_24 hv
  · have hl : lv_has ls 4 [(0, .ref a0), (1, .int 1), (2, .int v)] := hl
    refine lv_iload_n hx hb dX9_set_0 rfl (lv_at hl 1 rfl) ?_
    refine lv_iconst (v := 0) hx hb dX9_set_1 (by decide) ?_
    refine lv_iconst (v := 2) hx hb dX9_set_2 (by decide) ?_
    refine k_i0 (va_runS (As := [.int 1, .int 0, .int 2]) (rest := []) hF (c_X9_isIn l D I C Q 1 0 2 _) (va_cwS 3 hts gX9_set_X9_isIn rfl rfl rfl (by decide +kernel) ⟨Nat.le_of_ble_eq_true rfl, Nat.le_of_ble_eq_true rfl⟩) (kPreS hE k_P0 (k_D0 (A := A))) rfl rfl hl.1 rfl (lv_room (Nat.le_of_ble_eq_true rfl)) dX9_set_3 ⟨Nat.zero_le _, Nat.zero_le _⟩) hP hS hA (fun H locs hP hS => ?_)
    refine lv_if_eq (tgt := 27) hx hb dX9_set_6 (by decide) (fun c_6 => ?_) (fun c_6 => ?_)
    · exact absurd c_6 (by decide)
    · refine lv_iload_n hx hb dX9_set_9 rfl (lv_at hl 2 rfl) ?_
      refine lv_iload_n hx hb dX9_set_10 rfl (lv_at hl 1 rfl) ?_
      refine lv_if_ne (tgt := 18) hx hb dX9_set_11 (by decide) (fun c_11 => ?_) (fun c_11 => ?_)
      · refine lv_iconst (v := 0) hx hb dX9_set_18 (by decide) ?_
        refine lv_bipush (v := 100) hx hb dX9_set_19 (by decide) ?_
        refine k_i0 (va_runS (As := [.int v, .int 0, .int 100]) (rest := []) hF (c_X9_isIn l D I C Q v 0 100 _) (va_cwS 3 hts gX9_set_X9_isIn rfl rfl rfl (by decide +kernel) ⟨Nat.le_of_ble_eq_true rfl, Nat.le_of_ble_eq_true rfl⟩) (kPreS hE k_P0 (k_D0 (A := A))) rfl rfl hl.1 rfl (lv_room (Nat.le_of_ble_eq_true rfl)) dX9_set_21 ⟨Nat.zero_le _, Nat.zero_le _⟩) hP hS hA (fun H locs hP hS => ?_)
        refine lv_if_ne (tgt := 30) hx hb dX9_set_24 (by decide) (fun c_24 => ?_) (fun c_24 => ?_)
        · refine lv_iload_n hx hb dX9_set_30 rfl (lv_at hl 1 rfl) ?_
          refine lv_if_ne (tgt := 48) hx hb dX9_set_31 (by decide) (fun c_31 => ?_) (fun c_31 => ?_)
          · refine lv_aload_n hx hb dX9_set_48 rfl (lv_at hl 0 rfl) ?_
            refine k_vF (va_runV (As := []) (rest := []) hF (c_X9_records l D I C Q a0 a1 a2 a3 a4 now kept ns text len att num rd hns _) (cwV 0 hts gX9_set_X9_records rfl rfl rfl (by decide +kernel) ⟨Nat.le_of_ble_eq_true rfl, Nat.le_of_ble_eq_true rfl⟩) (kPreV hE hP hD (ci := 9) (q0 := 0) rfl rfl) rfl rfl hl.1 rfl (lv_room (Nat.le_of_ble_eq_true rfl)) dX9_set_49 ⟨Nat.zero_le _, Nat.zero_le _⟩) hD hS hA (fun H locs hP hD hS => ?_)
            have hP : va_P D vwCl (wM I a0 a1 a2 a3 a4 now (m_rec now kept ns) (nI (m_rns ns)) text len att num rd) H := hP
            have hD : va_D A (wM I a0 a1 a2 a3 a4 now (m_rec now kept ns) (nI (m_rns ns)) text len att num rd) := hD
            refine lv_aload_n hx hb dX9_set_52 rfl (lv_at hl 0 rfl) ?_
            refine va_get (D := D) (ci := 9) (v := .ref a1) (C := RX9) (T := TX9) (N := 8) hx hb hts u9 hown hK hP 0 rfl rfl 0 (by decide) k0 (fun _ h9 => h9) rfl dX9_set_53 ?_
            refine lv_bipush (v := 6) hx hb dX9_set_56 (by decide) ?_
            refine lv_iload_n hx hb dX9_set_58 rfl (lv_at hl 1 rfl) ?_
            refine k_iadd (v := 7) hx hb dX9_set_59 (nI_add 6 1) ?_
            refine k_iald (j := 7) (v := (now 7)) hx hb hK hP 1 0 rfl rfl rfl (by decide) (by decide) rfl dX9_set_60 ?_
            refine lv_istore_n (lv' := [(3, .int (now 7)), (0, .ref a0), (1, .int 1), (2, .int v)]) hx hb dX9_set_61 rfl hl (by decide) rfl (fun ls hl => ?_)
            refine lv_aload_n hx hb dX9_set_62 rfl (lv_at hl 1 rfl) ?_
            refine va_get (D := D) (ci := 9) (v := .ref a1) (C := RX9) (T := TX9) (N := 8) hx hb hts u9 hown hK hP 0 rfl rfl 0 (by decide) k0 (fun _ h9 => h9) rfl dX9_set_63 ?_
            refine lv_bipush (v := 6) hx hb dX9_set_66 (by decide) ?_
            refine lv_iload_n hx hb dX9_set_68 rfl (lv_at hl 2 rfl) ?_
            refine k_iadd (v := 7) hx hb dX9_set_69 (nI_add 6 1) ?_
            refine lv_iload_n hx hb dX9_set_70 rfl (lv_at hl 3 rfl) ?_
            refine k_iast (j := 7) hx hb hK hP hD hS 1 0 rfl rfl rfl (by decide) (by decide) dX9_set_71 (fun H locs hP hD hS => ?_)
            have hP : va_P D vwCl (wM I a0 a1 a2 a3 a4 (upd now 7 v) (m_rec now kept ns) (nI (m_rns ns)) text len att num rd) H := hP
            have hD : va_D A (wM I a0 a1 a2 a3 a4 (upd now 7 v) (m_rec now kept ns) (nI (m_rns ns)) text len att num rd) := hD
            refine lv_iload_n hx hb dX9_set_72 rfl (lv_at hl 0 rfl) ?_
            exact hend _ _ _ _ _ _ hP hD hS dX9_set_73 rfl rfl rfl
          · exact absurd c_31 (by decide)
        · exact absurd c_24 hv
      · exact absurd c_11 (by decide)
  · have hl : lv_has ls 4 [(0, .ref a0), (1, .int 2), (2, .int v)] := hl
    refine lv_iload_n hx hb dX9_set_0 rfl (lv_at hl 1 rfl) ?_
    refine lv_iconst (v := 0) hx hb dX9_set_1 (by decide) ?_
    refine lv_iconst (v := 2) hx hb dX9_set_2 (by decide) ?_
    refine k_i0 (va_runS (As := [.int 2, .int 0, .int 2]) (rest := []) hF (c_X9_isIn l D I C Q 2 0 2 _) (va_cwS 3 hts gX9_set_X9_isIn rfl rfl rfl (by decide +kernel) ⟨Nat.le_of_ble_eq_true rfl, Nat.le_of_ble_eq_true rfl⟩) (kPreS hE k_P0 (k_D0 (A := A))) rfl rfl hl.1 rfl (lv_room (Nat.le_of_ble_eq_true rfl)) dX9_set_3 ⟨Nat.zero_le _, Nat.zero_le _⟩) hP hS hA (fun H locs hP hS => ?_)
    refine lv_if_eq (tgt := 27) hx hb dX9_set_6 (by decide) (fun c_6 => ?_) (fun c_6 => ?_)
    · exact absurd c_6 (by decide)
    · refine lv_iload_n hx hb dX9_set_9 rfl (lv_at hl 2 rfl) ?_
      refine lv_iload_n hx hb dX9_set_10 rfl (lv_at hl 1 rfl) ?_
      refine lv_if_ne (tgt := 18) hx hb dX9_set_11 (by decide) (fun c_11 => ?_) (fun c_11 => ?_)
      · refine lv_iconst (v := 0) hx hb dX9_set_18 (by decide) ?_
        refine lv_bipush (v := 100) hx hb dX9_set_19 (by decide) ?_
        refine k_i0 (va_runS (As := [.int v, .int 0, .int 100]) (rest := []) hF (c_X9_isIn l D I C Q v 0 100 _) (va_cwS 3 hts gX9_set_X9_isIn rfl rfl rfl (by decide +kernel) ⟨Nat.le_of_ble_eq_true rfl, Nat.le_of_ble_eq_true rfl⟩) (kPreS hE k_P0 (k_D0 (A := A))) rfl rfl hl.1 rfl (lv_room (Nat.le_of_ble_eq_true rfl)) dX9_set_21 ⟨Nat.zero_le _, Nat.zero_le _⟩) hP hS hA (fun H locs hP hS => ?_)
        refine lv_if_ne (tgt := 30) hx hb dX9_set_24 (by decide) (fun c_24 => ?_) (fun c_24 => ?_)
        · refine lv_iload_n hx hb dX9_set_30 rfl (lv_at hl 1 rfl) ?_
          refine lv_if_ne (tgt := 48) hx hb dX9_set_31 (by decide) (fun c_31 => ?_) (fun c_31 => ?_)
          · refine lv_aload_n hx hb dX9_set_48 rfl (lv_at hl 0 rfl) ?_
            refine k_vF (va_runV (As := []) (rest := []) hF (c_X9_records l D I C Q a0 a1 a2 a3 a4 now kept ns text len att num rd hns _) (cwV 0 hts gX9_set_X9_records rfl rfl rfl (by decide +kernel) ⟨Nat.le_of_ble_eq_true rfl, Nat.le_of_ble_eq_true rfl⟩) (kPreV hE hP hD (ci := 9) (q0 := 0) rfl rfl) rfl rfl hl.1 rfl (lv_room (Nat.le_of_ble_eq_true rfl)) dX9_set_49 ⟨Nat.zero_le _, Nat.zero_le _⟩) hD hS hA (fun H locs hP hD hS => ?_)
            have hP : va_P D vwCl (wM I a0 a1 a2 a3 a4 now (m_rec now kept ns) (nI (m_rns ns)) text len att num rd) H := hP
            have hD : va_D A (wM I a0 a1 a2 a3 a4 now (m_rec now kept ns) (nI (m_rns ns)) text len att num rd) := hD
            refine lv_aload_n hx hb dX9_set_52 rfl (lv_at hl 0 rfl) ?_
            refine va_get (D := D) (ci := 9) (v := .ref a1) (C := RX9) (T := TX9) (N := 8) hx hb hts u9 hown hK hP 0 rfl rfl 0 (by decide) k0 (fun _ h9 => h9) rfl dX9_set_53 ?_
            refine lv_bipush (v := 6) hx hb dX9_set_56 (by decide) ?_
            refine lv_iload_n hx hb dX9_set_58 rfl (lv_at hl 1 rfl) ?_
            refine k_iadd (v := 8) hx hb dX9_set_59 (nI_add 6 2) ?_
            refine k_iald (j := 8) (v := (now 8)) hx hb hK hP 1 0 rfl rfl rfl (by decide) (by decide) rfl dX9_set_60 ?_
            refine lv_istore_n (lv' := [(3, .int (now 8)), (0, .ref a0), (1, .int 2), (2, .int v)]) hx hb dX9_set_61 rfl hl (by decide) rfl (fun ls hl => ?_)
            refine lv_aload_n hx hb dX9_set_62 rfl (lv_at hl 1 rfl) ?_
            refine va_get (D := D) (ci := 9) (v := .ref a1) (C := RX9) (T := TX9) (N := 8) hx hb hts u9 hown hK hP 0 rfl rfl 0 (by decide) k0 (fun _ h9 => h9) rfl dX9_set_63 ?_
            refine lv_bipush (v := 6) hx hb dX9_set_66 (by decide) ?_
            refine lv_iload_n hx hb dX9_set_68 rfl (lv_at hl 2 rfl) ?_
            refine k_iadd (v := 8) hx hb dX9_set_69 (nI_add 6 2) ?_
            refine lv_iload_n hx hb dX9_set_70 rfl (lv_at hl 3 rfl) ?_
            refine k_iast (j := 8) hx hb hK hP hD hS 1 0 rfl rfl rfl (by decide) (by decide) dX9_set_71 (fun H locs hP hD hS => ?_)
            have hP : va_P D vwCl (wM I a0 a1 a2 a3 a4 (upd now 8 v) (m_rec now kept ns) (nI (m_rns ns)) text len att num rd) H := hP
            have hD : va_D A (wM I a0 a1 a2 a3 a4 (upd now 8 v) (m_rec now kept ns) (nI (m_rns ns)) text len att num rd) := hD
            refine lv_iload_n hx hb dX9_set_72 rfl (lv_at hl 0 rfl) ?_
            exact hend _ _ _ _ _ _ hP hD hS dX9_set_73 rfl rfl rfl
          · exact absurd c_31 (by decide)
        · exact absurd c_24 hv
      · exact absurd c_11 (by decide)
