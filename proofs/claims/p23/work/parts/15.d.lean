set_option maxHeartbeats 400000 in
set_option maxRecDepth 100000 in
theorem c_X0_isFull (l : Launch) (D : va_G) (I C Q : ClassId) (g0 g1 g2 : Nat) (cb : Nat → Int32) (c1 : Nat) (hc3 : c1 < 3) : KI l D (tyL I C Q) yX0_isFull wsX0_isFull { frames := 1, cells := 0, slots := 0, locals := 23 } [.ref g0, .int (nI c1)] (wCb I g0 g1 g2 cb) (wCb I g0 g1 g2 cb) (g_full cb c1) := by
  refine KI.of (cc := cX0_isFull) (maxL := 2) (rt := .boolean) (own := RX0) (by decide) rfl rfl (Nat.le_of_ble_eq_true rfl) ?_
  intro p e s m below meth c A Q0 ls hx hb hml hown hts hE hA hP hD hS hl hend
  have hK := hE.1
  have hF : CallFix p m c cX0_isFull 2 s [.ref g0, .int (nI c1)].toArray wsX0_isFull RX0 := ⟨hx, hb, hml, hown, hts⟩
  have k0 := hts (.fieldLink RX0 16 "LateExcuses$Cabinets" "rows" "LLateExcuses$Table;") (List.mem_of_getElem? (i := 1) rfl)
  have u0 : ∀ w ∈ u_ws RX0 TX0 1, w ∈ wsX0_isFull := by decide +kernel
  have hl : lv_has ls 2 [(0, .ref g0), (1, .int (nI c1))] := hl
  refine lv_aload_n hx hb dX0_isFull_0 rfl (lv_at hl 0 rfl) ?_
  refine va_get (D := D) (ci := 0) (v := .ref g1) (C := RX0) (T := TX0) (N := 1) hx hb hts u0 hown hK hP 0 rfl rfl 0 (by decide) k0 (fun _ h9 => h9) rfl dX0_isFull_1 ?_
  refine lv_iload_n hx hb dX0_isFull_4 rfl (lv_at hl 1 rfl) ?_
  refine lv_iconst (v := 4) hx hb dX0_isFull_5 (by decide) ?_
  have hPc := hP.sub (ws' := (wT I g1 g2 3 5 cb)) [1, 2] rfl
  have hDc := hD.sub (ws' := (wT I g1 g2 3 5 cb)) [1, 2] (by decide) rfl
  refine k_i (wr := [(g0, .inr (0, [.ref g1]))]) (ws' := (wCb I g0 g1 g2 cb)) (va_runV (As := [.int (nI c1), .int 4]) (rest := []) hF (c_X5_get l D I C Q g1 g2 3 5 cb c1 4 hc3 (by omega) (by omega) (by omega) (by omega) _) (cwV 2 hts gX0_isFull_X5_get rfl rfl rfl (by decide +kernel) ⟨Nat.le_of_ble_eq_true rfl, Nat.le_of_ble_eq_true rfl⟩) (kPreV hE hPc hDc (ci := 5) (q0 := 0) rfl rfl) rfl rfl hl.1 rfl (lv_room (Nat.le_of_ble_eq_true rfl)) dX0_isFull_6 ⟨Nat.zero_le _, Nat.zero_le _⟩) hP hD hS hA [1, 2] [0] [0, 1, 2] rfl rfl (by decide) (by decide) rfl (by decide) (fun H locs hP hD hS => ?_)
  refine lv_iconst (v := 4) hx hb dX0_isFull_9 (by decide) ?_
  refine lv_icmp_lt (tgt := 17) hx hb dX0_isFull_10 (by decide) (fun c_10 => ?_) (fun c_10 => ?_)
  · refine lv_iconst (v := 0) hx hb dX0_isFull_17 (by decide) ?_
    exact hend _ _ _ _ _ _ hP hD hS dX0_isFull_18 (by decide) rfl (by simp +decide only [g_full, c_10, if_true, if_false, not_true_eq_false, not_false_eq_true, and_self, and_true, true_and, and_false, false_and, kn01, kn10, kn02, kn20, kn12, kn21, eq_self])
  · refine lv_iconst (v := 1) hx hb dX0_isFull_13 (by decide) ?_
    refine lv_goto (tgt := 18) hx hb dX0_isFull_14 (by decide) ?_
    exact hend _ _ _ _ _ _ hP hD hS dX0_isFull_18 (by decide) rfl (by simp +decide only [g_full, c_10, if_true, if_false, not_true_eq_false, not_false_eq_true, and_self, and_true, true_and, and_false, false_and, kn01, kn10, kn02, kn20, kn12, kn21, eq_self])
set_option maxHeartbeats 400000 in
set_option maxRecDepth 100000 in
theorem c_X0_cabinetFor (l : Launch) (D : va_G) (I C Q : ClassId) (g0 g1 g2 : Nat) (cb : Nat → Int32) (x : Int32) : KI l D (tyL I C Q) yX0_cabinetFor wsX0_cabinetFor { frames := 2, cells := 0, slots := 0, locals := 44 } [.ref g0, .int x] (wCb I g0 g1 g2 cb) (wCb I g0 g1 g2 cb) (nI (g_for cb x)) := by
  refine KI.of (cc := cX0_cabinetFor) (maxL := 2) (rt := .int) (own := RX0) (by decide) rfl rfl (Nat.le_of_ble_eq_true rfl) ?_
  intro p e s m below meth c A Q0 ls hx hb hml hown hts hE hA hP hD hS hl hend
  have hK := hE.1
  have hF : CallFix p m c cX0_cabinetFor 2 s [.ref g0, .int x].toArray wsX0_cabinetFor RX0 := ⟨hx, hb, hml, hown, hts⟩
  have hl : lv_has ls 2 [(0, .ref g0), (1, .int x)] := hl
  refine lv_iload_n hx hb dX0_cabinetFor_0 rfl (lv_at hl 1 rfl) ?_
  refine lv_iconst (v := 1) hx hb dX0_cabinetFor_1 (by decide) ?_
  refine lv_icmp_ne (tgt := 15) hx hb dX0_cabinetFor_2 (by decide) (fun c_2 => ?_) (fun c_2 => ?_)
  · refine lv_iload_n hx hb dX0_cabinetFor_15 rfl (lv_at hl 1 rfl) ?_
    refine lv_iconst (v := 2) hx hb dX0_cabinetFor_16 (by decide) ?_
    refine lv_icmp_ne (tgt := 32) hx hb dX0_cabinetFor_17 (by decide) (fun c_17 => ?_) (fun c_17 => ?_)
    · refine lv_iconst (v := 2) hx hb dX0_cabinetFor_32 (by decide) ?_
      exact hend _ _ _ _ _ _ hP hD hS dX0_cabinetFor_33 rfl rfl (by simp +decide only [g_for, c_2, c_17, if_true, if_false, not_true_eq_false, not_false_eq_true, and_self, and_true, true_and, and_false, false_and, kn01, kn10, kn02, kn20, kn12, kn21, eq_self])
    · refine lv_aload_n hx hb dX0_cabinetFor_20 rfl (lv_at hl 0 rfl) ?_
      refine lv_iconst (v := 1) hx hb dX0_cabinetFor_21 (by decide) ?_
      refine k_iF (va_runV (As := [.int 1]) (rest := []) hF (c_X0_isFull l D I C Q g0 g1 g2 cb 1 (by omega) _) (cwV 1 hts gX0_cabinetFor_X0_isFull rfl rfl rfl (by decide +kernel) ⟨Nat.le_of_ble_eq_true rfl, Nat.le_of_ble_eq_true rfl⟩) (kPreV hE hP hD (ci := 0) (q0 := 0) rfl rfl) rfl rfl hl.1 rfl (lv_room (Nat.le_of_ble_eq_true rfl)) dX0_cabinetFor_22 ⟨Nat.zero_le _, Nat.zero_le _⟩) hD hS hA (fun H locs hP hD hS => ?_)
      refine lv_if_ne (tgt := 32) hx hb dX0_cabinetFor_25 (by decide) (fun c_25 => ?_) (fun c_25 => ?_)
      · refine lv_iconst (v := 2) hx hb dX0_cabinetFor_32 (by decide) ?_
        exact hend _ _ _ _ _ _ hP hD hS dX0_cabinetFor_33 rfl rfl (by simp +decide only [g_for, c_2, c_17, c_25, if_true, if_false, not_true_eq_false, not_false_eq_true, and_self, and_true, true_and, and_false, false_and, kn01, kn10, kn02, kn20, kn12, kn21, eq_self])
      · refine lv_iconst (v := 1) hx hb dX0_cabinetFor_28 (by decide) ?_
        refine lv_goto (tgt := 33) hx hb dX0_cabinetFor_29 (by decide) ?_
        exact hend _ _ _ _ _ _ hP hD hS dX0_cabinetFor_33 rfl rfl (by simp +decide only [g_for, c_2, c_17, c_25, if_true, if_false, not_true_eq_false, not_false_eq_true, and_self, and_true, true_and, and_false, false_and, kn01, kn10, kn02, kn20, kn12, kn21, eq_self])
  · refine lv_aload_n hx hb dX0_cabinetFor_5 rfl (lv_at hl 0 rfl) ?_
    refine lv_iconst (v := 0) hx hb dX0_cabinetFor_6 (by decide) ?_
    refine k_iF (va_runV (As := [.int 0]) (rest := []) hF (c_X0_isFull l D I C Q g0 g1 g2 cb 0 (by omega) _) (cwV 1 hts gX0_cabinetFor_X0_isFull rfl rfl rfl (by decide +kernel) ⟨Nat.le_of_ble_eq_true rfl, Nat.le_of_ble_eq_true rfl⟩) (kPreV hE hP hD (ci := 0) (q0 := 0) rfl rfl) rfl rfl hl.1 rfl (lv_room (Nat.le_of_ble_eq_true rfl)) dX0_cabinetFor_7 ⟨Nat.zero_le _, Nat.zero_le _⟩) hD hS hA (fun H locs hP hD hS => ?_)
    refine lv_if_ne (tgt := 15) hx hb dX0_cabinetFor_10 (by decide) (fun c_10 => ?_) (fun c_10 => ?_)
    · refine lv_iload_n hx hb dX0_cabinetFor_15 rfl (lv_at hl 1 rfl) ?_
      refine lv_iconst (v := 2) hx hb dX0_cabinetFor_16 (by decide) ?_
      refine lv_icmp_ne (tgt := 32) hx hb dX0_cabinetFor_17 (by decide) (fun c_17 => ?_) (fun c_17 => ?_)
      · refine lv_iconst (v := 2) hx hb dX0_cabinetFor_32 (by decide) ?_
        exact hend _ _ _ _ _ _ hP hD hS dX0_cabinetFor_33 rfl rfl (by simp +decide only [g_for, c_2, c_10, c_17, if_true, if_false, not_true_eq_false, not_false_eq_true, and_self, and_true, true_and, and_false, false_and, kn01, kn10, kn02, kn20, kn12, kn21, eq_self])
      · exact absurd (c_2.symm.trans c_17) (by decide)
    · refine lv_iconst (v := 0) hx hb dX0_cabinetFor_13 (by decide) ?_
      exact hend _ _ _ _ _ _ hP hD hS dX0_cabinetFor_14 rfl rfl (by simp +decide only [g_for, c_2, c_10, if_true, if_false, not_true_eq_false, not_false_eq_true, and_self, and_true, true_and, and_false, false_and, kn01, kn10, kn02, kn20, kn12, kn21, eq_self])
set_option maxHeartbeats 400000 in
set_option maxRecDepth 100000 in
theorem c_X0_hasPlaceFor (l : Launch) (D : va_G) (I C Q : ClassId) (g0 g1 g2 : Nat) (cb : Nat → Int32) (x : Int32) : KI l D (tyL I C Q) yX0_hasPlaceFor wsX0_hasPlaceFor { frames := 3, cells := 0, slots := 0, locals := 65 } [.ref g0, .int x] (wCb I g0 g1 g2 cb) (wCb I g0 g1 g2 cb) (if g_full cb (g_for cb x) = 0 then 1 else 0) := by
  have hg3 := g_for_lt cb x
  refine KI.of (cc := cX0_hasPlaceFor) (maxL := 2) (rt := .boolean) (own := RX0) (by decide) rfl rfl (Nat.le_of_ble_eq_true rfl) ?_
  intro p e s m below meth c A Q0 ls hx hb hml hown hts hE hA hP hD hS hl hend
  have hK := hE.1
  have hF : CallFix p m c cX0_hasPlaceFor 2 s [.ref g0, .int x].toArray wsX0_hasPlaceFor RX0 := ⟨hx, hb, hml, hown, hts⟩
  have hl : lv_has ls 2 [(0, .ref g0), (1, .int x)] := hl
  refine lv_aload_n hx hb dX0_hasPlaceFor_0 rfl (lv_at hl 0 rfl) ?_
  refine lv_aload_n hx hb dX0_hasPlaceFor_1 rfl (lv_at hl 0 rfl) ?_
  refine lv_iload_n hx hb dX0_hasPlaceFor_2 rfl (lv_at hl 1 rfl) ?_
  refine k_iF (va_runV (As := [.int x]) (rest := [.ref g0]) hF (c_X0_cabinetFor l D I C Q g0 g1 g2 cb x _) (cwV 1 hts gX0_hasPlaceFor_X0_cabinetFor rfl rfl rfl (by decide +kernel) ⟨Nat.le_of_ble_eq_true rfl, Nat.le_of_ble_eq_true rfl⟩) (kPreV hE hP hD (ci := 0) (q0 := 0) rfl rfl) rfl rfl hl.1 rfl (lv_room (Nat.le_of_ble_eq_true rfl)) dX0_hasPlaceFor_3 ⟨Nat.zero_le _, Nat.zero_le _⟩) hD hS hA (fun H locs hP hD hS => ?_)
  refine k_iF (va_runV (As := [.int (nI (g_for cb x))]) (rest := []) hF (c_X0_isFull l D I C Q g0 g1 g2 cb (g_for cb x) (by omega) _) (cwV 1 hts gX0_hasPlaceFor_X0_isFull rfl rfl rfl (by decide +kernel) ⟨Nat.le_of_ble_eq_true rfl, Nat.le_of_ble_eq_true rfl⟩) (kPreV hE hP hD (ci := 0) (q0 := 0) rfl rfl) rfl rfl hl.1 rfl (lv_room (Nat.le_of_ble_eq_true rfl)) dX0_hasPlaceFor_6 ⟨Nat.zero_le _, Nat.zero_le _⟩) hD hS hA (fun H locs hP hD hS => ?_)
  refine lv_if_ne (tgt := 16) hx hb dX0_hasPlaceFor_9 (by decide) (fun c_9 => ?_) (fun c_9 => ?_)
  · refine lv_iconst (v := 0) hx hb dX0_hasPlaceFor_16 (by decide) ?_
    exact hend _ _ _ _ _ _ hP hD hS dX0_hasPlaceFor_17 (by decide) rfl (by simp +decide only [c_9, if_true, if_false, not_true_eq_false, not_false_eq_true, and_self, and_true, true_and, and_false, false_and, kn01, kn10, kn02, kn20, kn12, kn21, eq_self])
  · refine lv_iconst (v := 1) hx hb dX0_hasPlaceFor_12 (by decide) ?_
    refine lv_goto (tgt := 17) hx hb dX0_hasPlaceFor_13 (by decide) ?_
    exact hend _ _ _ _ _ _ hP hD hS dX0_hasPlaceFor_17 (by decide) rfl (by simp +decide only [c_9, if_true, if_false, not_true_eq_false, not_false_eq_true, and_self, and_true, true_and, and_false, false_and, kn01, kn10, kn02, kn20, kn12, kn21, eq_self])
set_option maxHeartbeats 400000 in
set_option maxRecDepth 100000 in
theorem c_X0_file (l : Launch) (D : va_G) (I C Q : ClassId) (g0 g1 g2 : Nat) (cb : Nat → Int32) (z : Nat) (x : Int32) (id : Int32) (hz : cb (g_for cb x * 5 + 4) = nI z) (hz4 : g_full cb (g_for cb x) = 0 → z < 4) : KV l D (tyL I C Q) yX0_file wsX0_file { frames := 3, cells := 0, slots := 0, locals := 65 } [.ref g0, .int x, .int id] (wCb I g0 g1 g2 cb) (wCb I g0 g1 g2 (g_file cb x id z)) := by
  have hg3 := g_for_lt cb x
  refine KV.of (cc := cX0_file) (maxL := 5) (own := RX0) (by decide) rfl rfl (Nat.le_of_ble_eq_true rfl) ?_
  intro p e s m below meth c A Q0 ls hx hb hml hown hts hE hA hP hD hS hl hend
  have hK := hE.1
  have hF : CallFix p m c cX0_file 5 s [.ref g0, .int x, .int id].toArray wsX0_file RX0 := ⟨hx, hb, hml, hown, hts⟩
  have k0 := hts (.fieldLink RX0 16 "LateExcuses$Cabinets" "rows" "LLateExcuses$Table;") (List.mem_of_getElem? (i := 1) rfl)
  have u0 : ∀ w ∈ u_ws RX0 TX0 1, w ∈ wsX0_file := by decide +kernel
  have hl : lv_has ls 5 [(0, .ref g0), (1, .int x), (2, .int id)] := hl
  refine lv_aload_n hx hb dX0_file_0 rfl (lv_at hl 0 rfl) ?_
  refine lv_iload_n hx hb dX0_file_1 rfl (lv_at hl 1 rfl) ?_
  refine k_iF (va_runV (As := [.int x]) (rest := []) hF (c_X0_cabinetFor l D I C Q g0 g1 g2 cb x _) (cwV 1 hts gX0_file_X0_cabinetFor rfl rfl rfl (by decide +kernel) ⟨Nat.le_of_ble_eq_true rfl, Nat.le_of_ble_eq_true rfl⟩) (kPreV hE hP hD (ci := 0) (q0 := 0) rfl rfl) rfl rfl hl.1 rfl (lv_room (Nat.le_of_ble_eq_true rfl)) dX0_file_2 ⟨Nat.zero_le _, Nat.zero_le _⟩) hD hS hA (fun H locs hP hD hS => ?_)
  refine lv_istore_n (lv' := [(3, .int (nI (g_for cb x))), (0, .ref g0), (1, .int x), (2, .int id)]) hx hb dX0_file_5 rfl hl (by decide) rfl (fun ls hl => ?_)
  refine lv_aload_n hx hb dX0_file_6 rfl (lv_at hl 1 rfl) ?_
  refine lv_iload_n hx hb dX0_file_7 rfl (lv_at hl 0 rfl) ?_
  refine k_iF (va_runV (As := [.int (nI (g_for cb x))]) (rest := []) hF (c_X0_isFull l D I C Q g0 g1 g2 cb (g_for cb x) (by omega) _) (cwV 1 hts gX0_file_X0_isFull rfl rfl rfl (by decide +kernel) ⟨Nat.le_of_ble_eq_true rfl, Nat.le_of_ble_eq_true rfl⟩) (kPreV hE hP hD (ci := 0) (q0 := 0) rfl rfl) rfl rfl hl.1 rfl (lv_room (Nat.le_of_ble_eq_true rfl)) dX0_file_8 ⟨Nat.zero_le _, Nat.zero_le _⟩) hD hS hA (fun H locs hP hD hS => ?_)
  refine lv_if_ne (tgt := 49) hx hb dX0_file_11 (by decide) (fun c_11 => ?_) (fun c_11 => ?_)
  · exact hend _ _ _ _ _ hP hD hS dX0_file_49 (by simp +decide only [g_file, c_11, if_true, if_false, not_true_eq_false, not_false_eq_true, and_self, and_true, true_and, and_false, false_and, kn01, kn10, kn02, kn20, kn12, kn21, eq_self])
  · have hz5 := hz4 c_11
    refine lv_aload_n hx hb dX0_file_14 rfl (lv_at hl 1 rfl) ?_
    refine va_get (D := D) (ci := 0) (v := .ref g1) (C := RX0) (T := TX0) (N := 1) hx hb hts u0 hown hK hP 0 rfl rfl 0 (by decide) k0 (fun _ h9 => h9) rfl dX0_file_15 ?_
    refine lv_iload_n hx hb dX0_file_18 rfl (lv_at hl 0 rfl) ?_
    refine lv_iconst (v := 4) hx hb dX0_file_19 (by decide) ?_
    have hPc := hP.sub (ws' := (wT I g1 g2 3 5 cb)) [1, 2] rfl
    have hDc := hD.sub (ws' := (wT I g1 g2 3 5 cb)) [1, 2] (by decide) rfl
    refine k_i (wr := [(g0, .inr (0, [.ref g1]))]) (ws' := (wCb I g0 g1 g2 cb)) (va_runV (As := [.int (nI (g_for cb x)), .int 4]) (rest := []) hF (c_X5_get l D I C Q g1 g2 3 5 cb (g_for cb x) 4 (by omega) (by omega) (by omega) (by omega) (by omega) _) (cwV 2 hts gX0_file_X5_get rfl rfl rfl (by decide +kernel) ⟨Nat.le_of_ble_eq_true rfl, Nat.le_of_ble_eq_true rfl⟩) (kPreV hE hPc hDc (ci := 5) (q0 := 0) rfl rfl) rfl rfl hl.1 rfl (lv_room (Nat.le_of_ble_eq_true rfl)) dX0_file_20 ⟨Nat.zero_le _, Nat.zero_le _⟩) hP hD hS hA [1, 2] [0] [0, 1, 2] rfl rfl (by decide) (by decide) rfl (by decide) (fun H locs hP hD hS => ?_)
    refine k_top (y := nI z) hz ?_
    refine lv_istore (lv' := [(4, .int (nI z)), (3, .int (nI (g_for cb x))), (0, .ref g0), (1, .int x), (2, .int id)]) hx hb dX0_file_23 hl (by decide) rfl (fun ls hl => ?_)
    refine lv_aload_n hx hb dX0_file_25 rfl (lv_at hl 2 rfl) ?_
    refine va_get (D := D) (ci := 0) (v := .ref g1) (C := RX0) (T := TX0) (N := 1) hx hb hts u0 hown hK hP 0 rfl rfl 0 (by decide) k0 (fun _ h9 => h9) rfl dX0_file_26 ?_
    refine lv_iload_n hx hb dX0_file_29 rfl (lv_at hl 1 rfl) ?_
    refine lv_iload hx hb dX0_file_30 (lv_at hl 0 rfl) ?_
    refine lv_iload_n hx hb dX0_file_32 rfl (lv_at hl 4 rfl) ?_
    have hPc := hP.sub (ws' := (wT I g1 g2 3 5 cb)) [1, 2] rfl
    have hDc := hD.sub (ws' := (wT I g1 g2 3 5 cb)) [1, 2] (by decide) rfl
    refine k_v (wr := [(g0, .inr (0, [.ref g1]))]) (ws' := (wCb I g0 g1 g2 (upd cb ((g_for cb x) * 5 + z) id))) (va_runV (As := [.int (nI (g_for cb x)), .int (nI z), .int id]) (rest := []) hF (c_X5_put l D I C Q g1 g2 3 5 cb (g_for cb x) z id (by omega) (by omega) (by omega) (by omega) (by omega) _) (cwV 3 hts gX0_file_X5_put rfl rfl rfl (by decide +kernel) ⟨Nat.le_of_ble_eq_true rfl, Nat.le_of_ble_eq_true rfl⟩) (kPreV hE hPc hDc (ci := 5) (q0 := 0) rfl rfl) rfl rfl hl.1 rfl (lv_room (Nat.le_of_ble_eq_true rfl)) dX0_file_33 ⟨Nat.zero_le _, Nat.zero_le _⟩) hP hD hS hA [1, 2] [0] [0, 1, 2] rfl rfl (by decide) (by decide) rfl (by decide) (fun H locs hP hD hS => ?_)
    refine lv_aload_n hx hb dX0_file_36 rfl (lv_at hl 2 rfl) ?_
    refine va_get (D := D) (ci := 0) (v := .ref g1) (C := RX0) (T := TX0) (N := 1) hx hb hts u0 hown hK hP 0 rfl rfl 0 (by decide) k0 (fun _ h9 => h9) rfl dX0_file_37 ?_
    refine lv_iload_n hx hb dX0_file_40 rfl (lv_at hl 1 rfl) ?_
    refine lv_iconst (v := 4) hx hb dX0_file_41 (by decide) ?_
    refine lv_iload hx hb dX0_file_42 (lv_at hl 0 rfl) ?_
    refine lv_iconst (v := 1) hx hb dX0_file_44 (by decide) ?_
    refine k_iadd (v := nI (z + 1)) hx hb dX0_file_45 (nI_add z 1) ?_
    have hPc := hP.sub (ws' := (wT I g1 g2 3 5 (upd cb ((g_for cb x) * 5 + z) id))) [1, 2] rfl
    have hDc := hD.sub (ws' := (wT I g1 g2 3 5 (upd cb ((g_for cb x) * 5 + z) id))) [1, 2] (by decide) rfl
    refine k_v (wr := [(g0, .inr (0, [.ref g1]))]) (ws' := (wCb I g0 g1 g2 (upd (upd cb ((g_for cb x) * 5 + z) id) ((g_for cb x) * 5 + 4) (nI (z + 1))))) (va_runV (As := [.int (nI (g_for cb x)), .int 4, .int (nI (z + 1))]) (rest := []) hF (c_X5_put l D I C Q g1 g2 3 5 (upd cb ((g_for cb x) * 5 + z) id) (g_for cb x) 4 (nI (z + 1)) (by omega) (by omega) (by omega) (by omega) (by omega) _) (cwV 3 hts gX0_file_X5_put rfl rfl rfl (by decide +kernel) ⟨Nat.le_of_ble_eq_true rfl, Nat.le_of_ble_eq_true rfl⟩) (kPreV hE hPc hDc (ci := 5) (q0 := 0) rfl rfl) rfl rfl hl.1 rfl (lv_room (Nat.le_of_ble_eq_true rfl)) dX0_file_46 ⟨Nat.zero_le _, Nat.zero_le _⟩) hP hD hS hA [1, 2] [0] [0, 1, 2] rfl rfl (by decide) (by decide) rfl (by decide) (fun H locs hP hD hS => ?_)
    exact hend _ _ _ _ _ hP hD hS dX0_file_49 (by simp +decide only [g_file, c_11, if_true, if_false, not_true_eq_false, not_false_eq_true, and_self, and_true, true_and, and_false, false_and, kn01, kn10, kn02, kn20, kn12, kn21, eq_self])
