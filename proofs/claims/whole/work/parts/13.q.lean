set_option maxHeartbeats 400000 in
set_option maxRecDepth 100000 in
theorem c_X9_typeB (l : Launch) (D : va_G) (I C Q : ClassId) (a0 a1 a2 a3 a4 : Nat) (now : Nat → Int32) (kept : Nat → Int32) (st : Int32) (text : Nat → Int32) (len : Int32) (att : Int32) (num : Int32) (rd : Nat → Int32) (ch : Int32) (hbad : m_isIn ch 32 126 = 0) : KI l D (tyL I C Q) yX9_type wsX9_type { frames := 1, cells := 0, slots := 0, locals := 22 } [.ref a0, .int ch] (wM I a0 a1 a2 a3 a4 now kept st text len att num rd) (wM I a0 a1 a2 a3 a4 now kept st text len att num rd) (-1000001) := by
  refine KI.of (cc := cX9_type) (maxL := 2) (rt := .int) (own := RX9) (by decide) rfl rfl (Nat.le_of_ble_eq_true rfl) ?_
  intro p e s m below meth c A Q0 ls hx hb hml hown hts hE hA hP hD hS hl hend
  have hK := hE.1
  have hF : CallFix p m c cX9_type 2 s [.ref a0, .int ch].toArray wsX9_type RX9 := ⟨hx, hb, hml, hown, hts⟩
  have k0 := hts (.constant RX9 31 (-1000001)) (List.mem_of_getElem? (i := 1) rfl)
  have hl : lv_has ls 2 [(0, .ref a0), (1, .int ch)] := hl
  refine lv_iload_n hx hb dX9_type_0 rfl (lv_at hl 1 rfl) ?_
  refine lv_bipush (v := 32) hx hb dX9_type_1 (by decide) ?_
  refine lv_bipush (v := 126) hx hb dX9_type_3 (by decide) ?_
  refine k_i0 (va_runS (As := [.int ch, .int 32, .int 126]) (rest := []) hF (c_X9_isIn l D I C Q ch 32 126 _) (va_cwS 3 hts gX9_type_X9_isIn rfl rfl rfl (by decide +kernel) ⟨Nat.le_of_ble_eq_true rfl, Nat.le_of_ble_eq_true rfl⟩) (kPreS hE k_P0 (k_D0 (A := A))) rfl rfl hl.1 rfl (lv_room (Nat.le_of_ble_eq_true rfl)) dX9_type_5 ⟨Nat.zero_le _, Nat.zero_le _⟩) hP hS hA (fun H locs hP hS => ?_)
  refine lv_if_ne (tgt := 14) hx hb dX9_type_8 (by decide) (fun c_8 => ?_) (fun c_8 => ?_)
  · exact absurd hbad c_8
  · refine lv_ldc (v := (-1000001)) hx hb hown k0 dX9_type_11 ?_
    exact hend _ _ _ _ _ _ hP hD hS dX9_type_13 rfl rfl rfl
set_option maxHeartbeats 400000 in
set_option maxRecDepth 100000 in
theorem c_X9_typeL (l : Launch) (D : va_G) (I C Q : ClassId) (a0 a1 a2 a3 a4 : Nat) (now : Nat → Int32) (kept : Nat → Int32) (st : Int32) (text : Nat → Int32) (L : Nat) (att : Int32) (num : Int32) (rd : Nat → Int32) (ch : Int32) (hok : ¬ m_isIn ch 32 126 = 0) (hl80 : L = 80) : KI l D (tyL I C Q) yX9_type wsX9_type { frames := 1, cells := 0, slots := 0, locals := 22 } [.ref a0, .int ch] (wM I a0 a1 a2 a3 a4 now kept st text (nI L) att num rd) (wM I a0 a1 a2 a3 a4 now kept st text (nI L) att num rd) (-1000003) := by
  refine KI.of (cc := cX9_type) (maxL := 2) (rt := .int) (own := RX9) (by decide) rfl rfl (Nat.le_of_ble_eq_true rfl) ?_
  intro p e s m below meth c A Q0 ls hx hb hml hown hts hE hA hP hD hS hl hend
  have hK := hE.1
  have hF : CallFix p m c cX9_type 2 s [.ref a0, .int ch].toArray wsX9_type RX9 := ⟨hx, hb, hml, hown, hts⟩
  have k0 := hts (.fieldLink RX9 134 "LateExcusesModel" "length" "I") (List.mem_of_getElem? (i := 2) rfl)
  have k1 := hts (.constant RX9 137 (-1000003)) (List.mem_of_getElem? (i := 3) rfl)
  have u9 : ∀ w ∈ u_ws RX9 TX9 8, w ∈ wsX9_type := by decide +kernel
  have hl : lv_has ls 2 [(0, .ref a0), (1, .int ch)] := hl
  refine lv_iload_n hx hb dX9_type_0 rfl (lv_at hl 1 rfl) ?_
  refine lv_bipush (v := 32) hx hb dX9_type_1 (by decide) ?_
  refine lv_bipush (v := 126) hx hb dX9_type_3 (by decide) ?_
  refine k_i0 (va_runS (As := [.int ch, .int 32, .int 126]) (rest := []) hF (c_X9_isIn l D I C Q ch 32 126 _) (va_cwS 3 hts gX9_type_X9_isIn rfl rfl rfl (by decide +kernel) ⟨Nat.le_of_ble_eq_true rfl, Nat.le_of_ble_eq_true rfl⟩) (kPreS hE k_P0 (k_D0 (A := A))) rfl rfl hl.1 rfl (lv_room (Nat.le_of_ble_eq_true rfl)) dX9_type_5 ⟨Nat.zero_le _, Nat.zero_le _⟩) hP hS hA (fun H locs hP hS => ?_)
  refine lv_if_ne (tgt := 14) hx hb dX9_type_8 (by decide) (fun c_8 => ?_) (fun c_8 => ?_)
  · refine lv_aload_n hx hb dX9_type_14 rfl (lv_at hl 0 rfl) ?_
    refine va_get (D := D) (ci := 9) (v := .int (nI L)) (C := RX9) (T := TX9) (N := 8) hx hb hts u9 hown hK hP 0 rfl rfl 4 (by decide) k0 (fun _ h9 => h9) rfl dX9_type_15 ?_
    refine lv_bipush (v := 80) hx hb dX9_type_18 (by decide) ?_
    refine lv_icmp_ne (tgt := 26) hx hb dX9_type_20 (by decide) (fun c_20 => ?_) (fun c_20 => ?_)
    · exact absurd (by rw [hl80]; rfl) c_20
    · refine lv_ldc (v := (-1000003)) hx hb hown k1 dX9_type_23 ?_
      exact hend _ _ _ _ _ _ hP hD hS dX9_type_25 rfl rfl rfl
  · exact absurd c_8 hok
set_option maxHeartbeats 400000 in
set_option maxRecDepth 100000 in
theorem c_X9_typeO (l : Launch) (D : va_G) (I C Q : ClassId) (a0 a1 a2 a3 a4 : Nat) (now : Nat → Int32) (kept : Nat → Int32) (st : Int32) (text : Nat → Int32) (L : Nat) (att : Int32) (num : Int32) (rd : Nat → Int32) (ch : Int32) (hok : ¬ m_isIn ch 32 126 = 0) (hl80 : L < 80) : KI l D (tyL I C Q) yX9_type wsX9_type { frames := 1, cells := 0, slots := 0, locals := 22 } [.ref a0, .int ch] (wM I a0 a1 a2 a3 a4 now kept st text (nI L) att num rd) (wM I a0 a1 a2 a3 a4 now kept st (upd text L ch) (nI (L + 1)) att num rd) (nI (L + 1)) := by
  refine KI.of (cc := cX9_type) (maxL := 2) (rt := .int) (own := RX9) (by decide) rfl rfl (Nat.le_of_ble_eq_true rfl) ?_
  intro p e s m below meth c A Q0 ls hx hb hml hown hts hE hA hP hD hS hl hend
  have hK := hE.1
  have hF : CallFix p m c cX9_type 2 s [.ref a0, .int ch].toArray wsX9_type RX9 := ⟨hx, hb, hml, hown, hts⟩
  have k0 := hts (.fieldLink RX9 134 "LateExcusesModel" "length" "I") (List.mem_of_getElem? (i := 2) rfl)
  have k1 := hts (.fieldLink RX9 16 "LateExcusesModel" "text" "[I") (List.mem_of_getElem? (i := 4) rfl)
  have u9 : ∀ w ∈ u_ws RX9 TX9 8, w ∈ wsX9_type := by decide +kernel
  have hl : lv_has ls 2 [(0, .ref a0), (1, .int ch)] := hl
  refine lv_iload_n hx hb dX9_type_0 rfl (lv_at hl 1 rfl) ?_
  refine lv_bipush (v := 32) hx hb dX9_type_1 (by decide) ?_
  refine lv_bipush (v := 126) hx hb dX9_type_3 (by decide) ?_
  refine k_i0 (va_runS (As := [.int ch, .int 32, .int 126]) (rest := []) hF (c_X9_isIn l D I C Q ch 32 126 _) (va_cwS 3 hts gX9_type_X9_isIn rfl rfl rfl (by decide +kernel) ⟨Nat.le_of_ble_eq_true rfl, Nat.le_of_ble_eq_true rfl⟩) (kPreS hE k_P0 (k_D0 (A := A))) rfl rfl hl.1 rfl (lv_room (Nat.le_of_ble_eq_true rfl)) dX9_type_5 ⟨Nat.zero_le _, Nat.zero_le _⟩) hP hS hA (fun H locs hP hS => ?_)
  refine lv_if_ne (tgt := 14) hx hb dX9_type_8 (by decide) (fun c_8 => ?_) (fun c_8 => ?_)
  · refine lv_aload_n hx hb dX9_type_14 rfl (lv_at hl 0 rfl) ?_
    refine va_get (D := D) (ci := 9) (v := .int (nI L)) (C := RX9) (T := TX9) (N := 8) hx hb hts u9 hown hK hP 0 rfl rfl 4 (by decide) k0 (fun _ h9 => h9) rfl dX9_type_15 ?_
    refine lv_bipush (v := 80) hx hb dX9_type_18 (by decide) ?_
    refine lv_icmp_ne (tgt := 26) hx hb dX9_type_20 (by decide) (fun c_20 => ?_) (fun c_20 => ?_)
    · refine lv_aload_n hx hb dX9_type_26 rfl (lv_at hl 0 rfl) ?_
      refine va_get (D := D) (ci := 9) (v := .ref a3) (C := RX9) (T := TX9) (N := 8) hx hb hts u9 hown hK hP 0 rfl rfl 3 (by decide) k1 (fun _ h9 => h9) rfl dX9_type_27 ?_
      refine lv_aload_n hx hb dX9_type_30 rfl (lv_at hl 0 rfl) ?_
      refine va_get (D := D) (ci := 9) (v := .int (nI L)) (C := RX9) (T := TX9) (N := 8) hx hb hts u9 hown hK hP 0 rfl rfl 4 (by decide) k0 (fun _ h9 => h9) rfl dX9_type_31 ?_
      refine lv_iload_n hx hb dX9_type_34 rfl (lv_at hl 1 rfl) ?_
      refine k_iast (j := L) hx hb hK hP hD hS 3 0 rfl rfl rfl (by omega) (by decide) dX9_type_35 (fun H locs hP hD hS => ?_)
      have hP : va_P D vwCl (wM I a0 a1 a2 a3 a4 now kept st (upd text L ch) (nI L) att num rd) H := hP
      have hD : va_D A (wM I a0 a1 a2 a3 a4 now kept st (upd text L ch) (nI L) att num rd) := hD
      refine lv_aload_n hx hb dX9_type_36 rfl (lv_at hl 0 rfl) ?_
      refine lv_dup hx hb dX9_type_37 rfl ?_
      refine va_get (D := D) (ci := 9) (v := .int (nI L)) (C := RX9) (T := TX9) (N := 8) hx hb hts u9 hown hK hP 0 rfl rfl 4 (by decide) k0 (fun _ h9 => h9) rfl dX9_type_38 ?_
      refine lv_iconst (v := 1) hx hb dX9_type_41 (by decide) ?_
      refine k_iadd (v := nI (L + 1)) hx hb dX9_type_42 (nI_add L 1) ?_
      refine va_put (D := D) (ci := 9) (v := .int (nI (L + 1))) (ty := .int) (C := RX9) (T := TX9) (N := 8) hx hb hts u9 tyX9 tyX9_ok nmX9 hown hK hP hD hS 0 rfl rfl 4 (by decide) k0 (fun _ h9 => h9) rfl (by decide +kernel) rfl rfl (Nat.le_of_ble_eq_true rfl) dX9_type_43 (fun H locs hP hD hS => ?_)
      have hP : va_P D vwCl (wM I a0 a1 a2 a3 a4 now kept st (upd text L ch) (nI (L + 1)) att num rd) H := hP
      have hD : va_D A (wM I a0 a1 a2 a3 a4 now kept st (upd text L ch) (nI (L + 1)) att num rd) := hD
      refine lv_aload_n hx hb dX9_type_46 rfl (lv_at hl 0 rfl) ?_
      refine va_get (D := D) (ci := 9) (v := .int (nI (L + 1))) (C := RX9) (T := TX9) (N := 8) hx hb hts u9 hown hK hP 0 rfl rfl 4 (by decide) k0 (fun _ h9 => h9) rfl dX9_type_47 ?_
      exact hend _ _ _ _ _ _ hP hD hS dX9_type_50 rfl rfl rfl
    · exact absurd ((nI_eq (a := L) (b := 80) (by omega) (by omega)).mp c_20) (by omega)
  · exact absurd c_8 hok
set_option maxHeartbeats 400000 in
set_option maxRecDepth 100000 in
theorem c_X9_clearText (l : Launch) (D : va_G) (I C Q : ClassId) (a0 a1 a2 a3 a4 : Nat) (now : Nat → Int32) (kept : Nat → Int32) (st : Int32) (text : Nat → Int32) (len : Int32) (att : Int32) (num : Int32) (rd : Nat → Int32) : KI l D (tyL I C Q) yX9_clearText wsX9_clearText { frames := 0, cells := 0, slots := 0, locals := 0 } [.ref a0] (wM I a0 a1 a2 a3 a4 now kept st text len att num rd) (wM I a0 a1 a2 a3 a4 now kept st text 0 att num rd) len := by
  refine KI.of (cc := cX9_clearText) (maxL := 2) (rt := .int) (own := RX9) (by decide) rfl rfl (Nat.le_of_ble_eq_true rfl) ?_
  intro p e s m below meth c A Q0 ls hx hb hml hown hts hE hA hP hD hS hl hend
  have hK := hE.1
  have hF : CallFix p m c cX9_clearText 2 s [.ref a0].toArray wsX9_clearText RX9 := ⟨hx, hb, hml, hown, hts⟩
  have k0 := hts (.fieldLink RX9 134 "LateExcusesModel" "length" "I") (List.mem_of_getElem? (i := 1) rfl)
  have u9 : ∀ w ∈ u_ws RX9 TX9 8, w ∈ wsX9_clearText := by decide +kernel
  have hl : lv_has ls 2 [(0, .ref a0)] := hl
  refine lv_aload_n hx hb dX9_clearText_0 rfl (lv_at hl 0 rfl) ?_
  refine va_get (D := D) (ci := 9) (v := .int len) (C := RX9) (T := TX9) (N := 8) hx hb hts u9 hown hK hP 0 rfl rfl 4 (by decide) k0 (fun _ h9 => h9) rfl dX9_clearText_1 ?_
  refine lv_istore_n (lv' := [(1, .int len), (0, .ref a0)]) hx hb dX9_clearText_4 rfl hl (by decide) rfl (fun ls hl => ?_)
  refine lv_aload_n hx hb dX9_clearText_5 rfl (lv_at hl 1 rfl) ?_
  refine lv_iconst (v := 0) hx hb dX9_clearText_6 (by decide) ?_
  refine va_put (D := D) (ci := 9) (v := .int 0) (ty := .int) (C := RX9) (T := TX9) (N := 8) hx hb hts u9 tyX9 tyX9_ok nmX9 hown hK hP hD hS 0 rfl rfl 4 (by decide) k0 (fun _ h9 => h9) rfl (by decide +kernel) rfl rfl (Nat.le_of_ble_eq_true rfl) dX9_clearText_7 (fun H locs hP hD hS => ?_)
  have hP : va_P D vwCl (wM I a0 a1 a2 a3 a4 now kept st text 0 att num rd) H := hP
  have hD : va_D A (wM I a0 a1 a2 a3 a4 now kept st text 0 att num rd) := hD
  refine lv_iload_n hx hb dX9_clearText_10 rfl (lv_at hl 0 rfl) ?_
  exact hend _ _ _ _ _ _ hP hD hS dX9_clearText_11 rfl rfl rfl
