set_option maxHeartbeats 400000 in
set_option maxRecDepth 100000 in
theorem c_X2_hasCome (l : Launch) (D : va_G) (I C Q : ClassId) (e0 e1 e2 : Nat) (ev : Nat → Int32) (dbl : Int32) (i : Nat) (hi : i < 64) : KI l D (tyL I C Q) yX2_hasCome wsX2_hasCome { frames := 1, cells := 0, slots := 0, locals := 23 } [.ref e0, .int (nI i)] (wEv I e0 e1 e2 ev dbl) (wEv I e0 e1 e2 ev dbl) (e_has ev i) := by
  refine KI.of (cc := cX2_hasCome) (maxL := 2) (rt := .boolean) (own := RX2) (by decide) rfl rfl (Nat.le_of_ble_eq_true rfl) ?_
  intro p e s m below meth c A Q0 ls hx hb hml hown hts hE hA hP hD hS hl hend
  have hK := hE.1
  have hF : CallFix p m c cX2_hasCome 2 s [.ref e0, .int (nI i)].toArray wsX2_hasCome RX2 := ⟨hx, hb, hml, hown, hts⟩
  have k0 := hts (.fieldLink RX2 14 "LateExcuses$Events" "rows" "LLateExcuses$Table;") (List.mem_of_getElem? (i := 1) rfl)
  have u2 : ∀ w ∈ u_ws RX2 TX2 2, w ∈ wsX2_hasCome := by decide +kernel
  have hl : lv_has ls 2 [(0, .ref e0), (1, .int (nI i))] := hl
  refine lv_aload_n hx hb dX2_hasCome_0 rfl (lv_at hl 0 rfl) ?_
  refine va_get (D := D) (ci := 2) (v := .ref e1) (C := RX2) (T := TX2) (N := 2) hx hb hts u2 hown hK hP 0 rfl rfl 0 (by decide) k0 (fun _ h9 => h9) rfl dX2_hasCome_1 ?_
  refine lv_iload_n hx hb dX2_hasCome_4 rfl (lv_at hl 1 rfl) ?_
  refine lv_bipush (v := 6) hx hb dX2_hasCome_5 (by decide) ?_
  have hPc := hP.sub (ws' := (wT I e1 e2 64 7 ev)) [1, 2] rfl
  have hDc := hD.sub (ws' := (wT I e1 e2 64 7 ev)) [1, 2] (by decide) rfl
  refine k_i (wr := [(e0, .inr (2, [.ref e1, .int dbl]))]) (ws' := (wEv I e0 e1 e2 ev dbl)) (va_runV (As := [.int (nI i), .int 6]) (rest := []) hF (c_X5_get l D I C Q e1 e2 64 7 ev i 6 hi (by omega) (by omega) (by omega) (by omega) _) (cwV 2 hts gX2_hasCome_X5_get rfl rfl rfl (by decide +kernel) ⟨Nat.le_of_ble_eq_true rfl, Nat.le_of_ble_eq_true rfl⟩) (kPreV hE hPc hDc (ci := 5) (q0 := 0) rfl rfl) rfl rfl hl.1 rfl (lv_room (Nat.le_of_ble_eq_true rfl)) dX2_hasCome_7 ⟨Nat.zero_le _, Nat.zero_le _⟩) hP hD hS hA [1, 2] [0] [0, 1, 2] rfl rfl (by decide) (by decide) rfl (by decide) (fun H locs hP hD hS => ?_)
  refine lv_iconst (v := 1) hx hb dX2_hasCome_10 (by decide) ?_
  refine lv_icmp_ne (tgt := 18) hx hb dX2_hasCome_11 (by decide) (fun c_11 => ?_) (fun c_11 => ?_)
  · refine lv_iconst (v := 0) hx hb dX2_hasCome_18 (by decide) ?_
    exact hend _ _ _ _ _ _ hP hD hS dX2_hasCome_19 (by decide) rfl (by simp +decide only [e_has, c_11, if_true, if_false, not_true_eq_false, not_false_eq_true, and_self, and_true, true_and, and_false, false_and, kn01, kn10, kn02, kn20, kn12, kn21, eq_self])
  · refine lv_iconst (v := 1) hx hb dX2_hasCome_14 (by decide) ?_
    refine lv_goto (tgt := 19) hx hb dX2_hasCome_15 (by decide) ?_
    exact hend _ _ _ _ _ _ hP hD hS dX2_hasCome_19 (by decide) rfl (by simp +decide only [e_has, c_11, if_true, if_false, not_true_eq_false, not_false_eq_true, and_self, and_true, true_and, and_false, false_and, kn01, kn10, kn02, kn20, kn12, kn21, eq_self])
set_option maxHeartbeats 400000 in
set_option maxRecDepth 100000 in
theorem c_X2_read (l : Launch) (D : va_G) (I C Q : ClassId) (e0 e1 e2 : Nat) (ev : Nat → Int32) (dbl : Int32) (i : Nat) (w : Nat) (hi : i < 64) (hw : w < 7) : KI l D (tyL I C Q) yX2_read wsX2_read { frames := 2, cells := 0, slots := 0, locals := 44 } [.ref e0, .int (nI i), .int (nI w)] (wEv I e0 e1 e2 ev dbl) (wEv I e0 e1 e2 ev dbl) (e_rd ev i w) := by
  refine KI.of (cc := cX2_read) (maxL := 3) (rt := .int) (own := RX2) (by decide) rfl rfl (Nat.le_of_ble_eq_true rfl) ?_
  intro p e s m below meth c A Q0 ls hx hb hml hown hts hE hA hP hD hS hl hend
  have hK := hE.1
  have hF : CallFix p m c cX2_read 3 s [.ref e0, .int (nI i), .int (nI w)].toArray wsX2_read RX2 := ⟨hx, hb, hml, hown, hts⟩
  have k0 := hts (.constant RX2 36 (-1000004)) (List.mem_of_getElem? (i := 2) rfl)
  have k1 := hts (.fieldLink RX2 14 "LateExcuses$Events" "rows" "LLateExcuses$Table;") (List.mem_of_getElem? (i := 1) rfl)
  have u2 : ∀ w ∈ u_ws RX2 TX2 2, w ∈ wsX2_read := by decide +kernel
  have hl : lv_has ls 3 [(0, .ref e0), (1, .int (nI i)), (2, .int (nI w))] := hl
  refine lv_aload_n hx hb dX2_read_0 rfl (lv_at hl 0 rfl) ?_
  refine lv_iload_n hx hb dX2_read_1 rfl (lv_at hl 1 rfl) ?_
  refine k_iF (va_runV (As := [.int (nI i)]) (rest := []) hF (c_X2_hasCome l D I C Q e0 e1 e2 ev dbl i hi _) (cwV 1 hts gX2_read_X2_hasCome rfl rfl rfl (by decide +kernel) ⟨Nat.le_of_ble_eq_true rfl, Nat.le_of_ble_eq_true rfl⟩) (kPreV hE hP hD (ci := 2) (q0 := 0) rfl rfl) rfl rfl hl.1 rfl (lv_room (Nat.le_of_ble_eq_true rfl)) dX2_read_2 ⟨Nat.zero_le _, Nat.zero_le _⟩) hD hS hA (fun H locs hP hD hS => ?_)
  refine lv_if_eq (tgt := 20) hx hb dX2_read_5 (by decide) (fun c_5 => ?_) (fun c_5 => ?_)
  · refine lv_ldc (v := (-1000004)) hx hb hown k0 dX2_read_20 ?_
    exact hend _ _ _ _ _ _ hP hD hS dX2_read_22 rfl rfl (by simp +decide only [e_rd, c_5, if_true, if_false, not_true_eq_false, not_false_eq_true, and_self, and_true, true_and, and_false, false_and, kn01, kn10, kn02, kn20, kn12, kn21, eq_self])
  · refine lv_aload_n hx hb dX2_read_8 rfl (lv_at hl 0 rfl) ?_
    refine va_get (D := D) (ci := 2) (v := .ref e1) (C := RX2) (T := TX2) (N := 2) hx hb hts u2 hown hK hP 0 rfl rfl 0 (by decide) k1 (fun _ h9 => h9) rfl dX2_read_9 ?_
    refine lv_iload_n hx hb dX2_read_12 rfl (lv_at hl 1 rfl) ?_
    refine lv_iload_n hx hb dX2_read_13 rfl (lv_at hl 2 rfl) ?_
    have hPc := hP.sub (ws' := (wT I e1 e2 64 7 ev)) [1, 2] rfl
    have hDc := hD.sub (ws' := (wT I e1 e2 64 7 ev)) [1, 2] (by decide) rfl
    refine k_i (wr := [(e0, .inr (2, [.ref e1, .int dbl]))]) (ws' := (wEv I e0 e1 e2 ev dbl)) (va_runV (As := [.int (nI i), .int (nI w)]) (rest := []) hF (c_X5_get l D I C Q e1 e2 64 7 ev i w hi hw (by omega) (by omega) (by omega) _) (cwV 2 hts gX2_read_X5_get rfl rfl rfl (by decide +kernel) ⟨Nat.le_of_ble_eq_true rfl, Nat.le_of_ble_eq_true rfl⟩) (kPreV hE hPc hDc (ci := 5) (q0 := 0) rfl rfl) rfl rfl hl.1 rfl (lv_room (Nat.le_of_ble_eq_true rfl)) dX2_read_14 ⟨Nat.zero_le _, Nat.zero_le _⟩) hP hD hS hA [1, 2] [0] [0, 1, 2] rfl rfl (by decide) (by decide) rfl (by decide) (fun H locs hP hD hS => ?_)
    refine lv_goto (tgt := 22) hx hb dX2_read_17 (by decide) ?_
    exact hend _ _ _ _ _ _ hP hD hS dX2_read_22 rfl rfl (by simp +decide only [e_rd, c_5, if_true, if_false, not_true_eq_false, not_false_eq_true, and_self, and_true, true_and, and_false, false_and, kn01, kn10, kn02, kn20, kn12, kn21, eq_self])
set_option maxHeartbeats 400000 in
set_option maxRecDepth 100000 in
theorem c_X2_enter (l : Launch) (D : va_G) (I C Q : ClassId) (e0 e1 e2 : Nat) (ev : Nat → Int32) (dbl : Int32) (i : Nat) (t : Int32) (key : Int32) (am : Int32) (x : Int32) (hi : i < 64) : KV l D (tyL I C Q) yX2_enter wsX2_enter { frames := 1, cells := 0, slots := 0, locals := 24 } [.ref e0, .int (nI i), .int t, .int key, .int am, .int x] (wEv I e0 e1 e2 ev dbl) (wEv I e0 e1 e2 (e_ent ev i t key am x) dbl) := by
  refine KV.of (cc := cX2_enter) (maxL := 6) (own := RX2) (by decide) rfl rfl (Nat.le_of_ble_eq_true rfl) ?_
  intro p e s m below meth c A Q0 ls hx hb hml hown hts hE hA hP hD hS hl hend
  have hK := hE.1
  have hF : CallFix p m c cX2_enter 6 s [.ref e0, .int (nI i), .int t, .int key, .int am, .int x].toArray wsX2_enter RX2 := ⟨hx, hb, hml, hown, hts⟩
  have k0 := hts (.fieldLink RX2 14 "LateExcuses$Events" "rows" "LLateExcuses$Table;") (List.mem_of_getElem? (i := 1) rfl)
  have u2 : ∀ w ∈ u_ws RX2 TX2 2, w ∈ wsX2_enter := by decide +kernel
  have hl : lv_has ls 6 [(0, .ref e0), (1, .int (nI i)), (2, .int t), (3, .int key), (4, .int am), (5, .int x)] := hl
  refine lv_aload_n hx hb dX2_enter_0 rfl (lv_at hl 0 rfl) ?_
  refine va_get (D := D) (ci := 2) (v := .ref e1) (C := RX2) (T := TX2) (N := 2) hx hb hts u2 hown hK hP 0 rfl rfl 0 (by decide) k0 (fun _ h9 => h9) rfl dX2_enter_1 ?_
  refine lv_iload_n hx hb dX2_enter_4 rfl (lv_at hl 1 rfl) ?_
  refine lv_iconst (v := 0) hx hb dX2_enter_5 (by decide) ?_
  refine lv_iload_n hx hb dX2_enter_6 rfl (lv_at hl 2 rfl) ?_
  have hPc := hP.sub (ws' := (wT I e1 e2 64 7 ev)) [1, 2] rfl
  have hDc := hD.sub (ws' := (wT I e1 e2 64 7 ev)) [1, 2] (by decide) rfl
  refine k_v (wr := [(e0, .inr (2, [.ref e1, .int dbl]))]) (ws' := (wEv I e0 e1 e2 (upd ev (i * 7 + 0) t) dbl)) (va_runV (As := [.int (nI i), .int 0, .int t]) (rest := []) hF (c_X5_put l D I C Q e1 e2 64 7 ev i 0 t hi (by omega) (by omega) (by omega) (by omega) _) (cwV 3 hts gX2_enter_X5_put rfl rfl rfl (by decide +kernel) ⟨Nat.le_of_ble_eq_true rfl, Nat.le_of_ble_eq_true rfl⟩) (kPreV hE hPc hDc (ci := 5) (q0 := 0) rfl rfl) rfl rfl hl.1 rfl (lv_room (Nat.le_of_ble_eq_true rfl)) dX2_enter_7 ⟨Nat.zero_le _, Nat.zero_le _⟩) hP hD hS hA [1, 2] [0] [0, 1, 2] rfl rfl (by decide) (by decide) rfl (by decide) (fun H locs hP hD hS => ?_)
  refine lv_aload_n hx hb dX2_enter_10 rfl (lv_at hl 0 rfl) ?_
  refine va_get (D := D) (ci := 2) (v := .ref e1) (C := RX2) (T := TX2) (N := 2) hx hb hts u2 hown hK hP 0 rfl rfl 0 (by decide) k0 (fun _ h9 => h9) rfl dX2_enter_11 ?_
  refine lv_iload_n hx hb dX2_enter_14 rfl (lv_at hl 1 rfl) ?_
  refine lv_iconst (v := 1) hx hb dX2_enter_15 (by decide) ?_
  refine lv_iload_n hx hb dX2_enter_16 rfl (lv_at hl 3 rfl) ?_
  have hPc := hP.sub (ws' := (wT I e1 e2 64 7 (upd ev (i * 7 + 0) t))) [1, 2] rfl
  have hDc := hD.sub (ws' := (wT I e1 e2 64 7 (upd ev (i * 7 + 0) t))) [1, 2] (by decide) rfl
  refine k_v (wr := [(e0, .inr (2, [.ref e1, .int dbl]))]) (ws' := (wEv I e0 e1 e2 (upd (upd ev (i * 7 + 0) t) (i * 7 + 1) key) dbl)) (va_runV (As := [.int (nI i), .int 1, .int key]) (rest := []) hF (c_X5_put l D I C Q e1 e2 64 7 (upd ev (i * 7 + 0) t) i 1 key hi (by omega) (by omega) (by omega) (by omega) _) (cwV 3 hts gX2_enter_X5_put rfl rfl rfl (by decide +kernel) ⟨Nat.le_of_ble_eq_true rfl, Nat.le_of_ble_eq_true rfl⟩) (kPreV hE hPc hDc (ci := 5) (q0 := 0) rfl rfl) rfl rfl hl.1 rfl (lv_room (Nat.le_of_ble_eq_true rfl)) dX2_enter_17 ⟨Nat.zero_le _, Nat.zero_le _⟩) hP hD hS hA [1, 2] [0] [0, 1, 2] rfl rfl (by decide) (by decide) rfl (by decide) (fun H locs hP hD hS => ?_)
  refine lv_aload_n hx hb dX2_enter_20 rfl (lv_at hl 0 rfl) ?_
  refine va_get (D := D) (ci := 2) (v := .ref e1) (C := RX2) (T := TX2) (N := 2) hx hb hts u2 hown hK hP 0 rfl rfl 0 (by decide) k0 (fun _ h9 => h9) rfl dX2_enter_21 ?_
  refine lv_iload_n hx hb dX2_enter_24 rfl (lv_at hl 1 rfl) ?_
  refine lv_iconst (v := 2) hx hb dX2_enter_25 (by decide) ?_
  refine lv_iload hx hb dX2_enter_26 (lv_at hl 4 rfl) ?_
  have hPc := hP.sub (ws' := (wT I e1 e2 64 7 (upd (upd ev (i * 7 + 0) t) (i * 7 + 1) key))) [1, 2] rfl
  have hDc := hD.sub (ws' := (wT I e1 e2 64 7 (upd (upd ev (i * 7 + 0) t) (i * 7 + 1) key))) [1, 2] (by decide) rfl
  refine k_v (wr := [(e0, .inr (2, [.ref e1, .int dbl]))]) (ws' := (wEv I e0 e1 e2 (upd (upd (upd ev (i * 7 + 0) t) (i * 7 + 1) key) (i * 7 + 2) am) dbl)) (va_runV (As := [.int (nI i), .int 2, .int am]) (rest := []) hF (c_X5_put l D I C Q e1 e2 64 7 (upd (upd ev (i * 7 + 0) t) (i * 7 + 1) key) i 2 am hi (by omega) (by omega) (by omega) (by omega) _) (cwV 3 hts gX2_enter_X5_put rfl rfl rfl (by decide +kernel) ⟨Nat.le_of_ble_eq_true rfl, Nat.le_of_ble_eq_true rfl⟩) (kPreV hE hPc hDc (ci := 5) (q0 := 0) rfl rfl) rfl rfl hl.1 rfl (lv_room (Nat.le_of_ble_eq_true rfl)) dX2_enter_28 ⟨Nat.zero_le _, Nat.zero_le _⟩) hP hD hS hA [1, 2] [0] [0, 1, 2] rfl rfl (by decide) (by decide) rfl (by decide) (fun H locs hP hD hS => ?_)
  refine lv_aload_n hx hb dX2_enter_31 rfl (lv_at hl 0 rfl) ?_
  refine va_get (D := D) (ci := 2) (v := .ref e1) (C := RX2) (T := TX2) (N := 2) hx hb hts u2 hown hK hP 0 rfl rfl 0 (by decide) k0 (fun _ h9 => h9) rfl dX2_enter_32 ?_
  refine lv_iload_n hx hb dX2_enter_35 rfl (lv_at hl 1 rfl) ?_
  refine lv_iconst (v := 3) hx hb dX2_enter_36 (by decide) ?_
  refine lv_iload hx hb dX2_enter_37 (lv_at hl 5 rfl) ?_
  have hPc := hP.sub (ws' := (wT I e1 e2 64 7 (upd (upd (upd ev (i * 7 + 0) t) (i * 7 + 1) key) (i * 7 + 2) am))) [1, 2] rfl
  have hDc := hD.sub (ws' := (wT I e1 e2 64 7 (upd (upd (upd ev (i * 7 + 0) t) (i * 7 + 1) key) (i * 7 + 2) am))) [1, 2] (by decide) rfl
  refine k_v (wr := [(e0, .inr (2, [.ref e1, .int dbl]))]) (ws' := (wEv I e0 e1 e2 (upd (upd (upd (upd ev (i * 7 + 0) t) (i * 7 + 1) key) (i * 7 + 2) am) (i * 7 + 3) x) dbl)) (va_runV (As := [.int (nI i), .int 3, .int x]) (rest := []) hF (c_X5_put l D I C Q e1 e2 64 7 (upd (upd (upd ev (i * 7 + 0) t) (i * 7 + 1) key) (i * 7 + 2) am) i 3 x hi (by omega) (by omega) (by omega) (by omega) _) (cwV 3 hts gX2_enter_X5_put rfl rfl rfl (by decide +kernel) ⟨Nat.le_of_ble_eq_true rfl, Nat.le_of_ble_eq_true rfl⟩) (kPreV hE hPc hDc (ci := 5) (q0 := 0) rfl rfl) rfl rfl hl.1 rfl (lv_room (Nat.le_of_ble_eq_true rfl)) dX2_enter_39 ⟨Nat.zero_le _, Nat.zero_le _⟩) hP hD hS hA [1, 2] [0] [0, 1, 2] rfl rfl (by decide) (by decide) rfl (by decide) (fun H locs hP hD hS => ?_)
  refine lv_aload_n hx hb dX2_enter_42 rfl (lv_at hl 0 rfl) ?_
  refine va_get (D := D) (ci := 2) (v := .ref e1) (C := RX2) (T := TX2) (N := 2) hx hb hts u2 hown hK hP 0 rfl rfl 0 (by decide) k0 (fun _ h9 => h9) rfl dX2_enter_43 ?_
  refine lv_iload_n hx hb dX2_enter_46 rfl (lv_at hl 1 rfl) ?_
  refine lv_bipush (v := 6) hx hb dX2_enter_47 (by decide) ?_
  refine lv_iconst (v := 1) hx hb dX2_enter_49 (by decide) ?_
  have hPc := hP.sub (ws' := (wT I e1 e2 64 7 (upd (upd (upd (upd ev (i * 7 + 0) t) (i * 7 + 1) key) (i * 7 + 2) am) (i * 7 + 3) x))) [1, 2] rfl
  have hDc := hD.sub (ws' := (wT I e1 e2 64 7 (upd (upd (upd (upd ev (i * 7 + 0) t) (i * 7 + 1) key) (i * 7 + 2) am) (i * 7 + 3) x))) [1, 2] (by decide) rfl
  refine k_v (wr := [(e0, .inr (2, [.ref e1, .int dbl]))]) (ws' := (wEv I e0 e1 e2 (upd (upd (upd (upd (upd ev (i * 7 + 0) t) (i * 7 + 1) key) (i * 7 + 2) am) (i * 7 + 3) x) (i * 7 + 6) 1) dbl)) (va_runV (As := [.int (nI i), .int 6, .int 1]) (rest := []) hF (c_X5_put l D I C Q e1 e2 64 7 (upd (upd (upd (upd ev (i * 7 + 0) t) (i * 7 + 1) key) (i * 7 + 2) am) (i * 7 + 3) x) i 6 1 hi (by omega) (by omega) (by omega) (by omega) _) (cwV 3 hts gX2_enter_X5_put rfl rfl rfl (by decide +kernel) ⟨Nat.le_of_ble_eq_true rfl, Nat.le_of_ble_eq_true rfl⟩) (kPreV hE hPc hDc (ci := 5) (q0 := 0) rfl rfl) rfl rfl hl.1 rfl (lv_room (Nat.le_of_ble_eq_true rfl)) dX2_enter_50 ⟨Nat.zero_le _, Nat.zero_le _⟩) hP hD hS hA [1, 2] [0] [0, 1, 2] rfl rfl (by decide) (by decide) rfl (by decide) (fun H locs hP hD hS => ?_)
  exact hend _ _ _ _ _ hP hD hS dX2_enter_53 rfl
set_option maxHeartbeats 400000 in
set_option maxRecDepth 100000 in
theorem c_X2_conclude (l : Launch) (D : va_G) (I C Q : ClassId) (e0 e1 e2 : Nat) (ev : Nat → Int32) (dbl : Int32) (i : Nat) (o : Int32) (q : Int32) (hi : i < 64) : KV l D (tyL I C Q) yX2_conclude wsX2_conclude { frames := 1, cells := 0, slots := 0, locals := 24 } [.ref e0, .int (nI i), .int o, .int q] (wEv I e0 e1 e2 ev dbl) (wEv I e0 e1 e2 (e_con ev i o q) dbl) := by
  refine KV.of (cc := cX2_conclude) (maxL := 4) (own := RX2) (by decide) rfl rfl (Nat.le_of_ble_eq_true rfl) ?_
  intro p e s m below meth c A Q0 ls hx hb hml hown hts hE hA hP hD hS hl hend
  have hK := hE.1
  have hF : CallFix p m c cX2_conclude 4 s [.ref e0, .int (nI i), .int o, .int q].toArray wsX2_conclude RX2 := ⟨hx, hb, hml, hown, hts⟩
  have k0 := hts (.fieldLink RX2 14 "LateExcuses$Events" "rows" "LLateExcuses$Table;") (List.mem_of_getElem? (i := 1) rfl)
  have u2 : ∀ w ∈ u_ws RX2 TX2 2, w ∈ wsX2_conclude := by decide +kernel
  have hl : lv_has ls 4 [(0, .ref e0), (1, .int (nI i)), (2, .int o), (3, .int q)] := hl
  refine lv_aload_n hx hb dX2_conclude_0 rfl (lv_at hl 0 rfl) ?_
  refine va_get (D := D) (ci := 2) (v := .ref e1) (C := RX2) (T := TX2) (N := 2) hx hb hts u2 hown hK hP 0 rfl rfl 0 (by decide) k0 (fun _ h9 => h9) rfl dX2_conclude_1 ?_
  refine lv_iload_n hx hb dX2_conclude_4 rfl (lv_at hl 1 rfl) ?_
  refine lv_iconst (v := 4) hx hb dX2_conclude_5 (by decide) ?_
  refine lv_iload_n hx hb dX2_conclude_6 rfl (lv_at hl 2 rfl) ?_
  have hPc := hP.sub (ws' := (wT I e1 e2 64 7 ev)) [1, 2] rfl
  have hDc := hD.sub (ws' := (wT I e1 e2 64 7 ev)) [1, 2] (by decide) rfl
  refine k_v (wr := [(e0, .inr (2, [.ref e1, .int dbl]))]) (ws' := (wEv I e0 e1 e2 (upd ev (i * 7 + 4) o) dbl)) (va_runV (As := [.int (nI i), .int 4, .int o]) (rest := []) hF (c_X5_put l D I C Q e1 e2 64 7 ev i 4 o hi (by omega) (by omega) (by omega) (by omega) _) (cwV 3 hts gX2_conclude_X5_put rfl rfl rfl (by decide +kernel) ⟨Nat.le_of_ble_eq_true rfl, Nat.le_of_ble_eq_true rfl⟩) (kPreV hE hPc hDc (ci := 5) (q0 := 0) rfl rfl) rfl rfl hl.1 rfl (lv_room (Nat.le_of_ble_eq_true rfl)) dX2_conclude_7 ⟨Nat.zero_le _, Nat.zero_le _⟩) hP hD hS hA [1, 2] [0] [0, 1, 2] rfl rfl (by decide) (by decide) rfl (by decide) (fun H locs hP hD hS => ?_)
  refine lv_aload_n hx hb dX2_conclude_10 rfl (lv_at hl 0 rfl) ?_
  refine va_get (D := D) (ci := 2) (v := .ref e1) (C := RX2) (T := TX2) (N := 2) hx hb hts u2 hown hK hP 0 rfl rfl 0 (by decide) k0 (fun _ h9 => h9) rfl dX2_conclude_11 ?_
  refine lv_iload_n hx hb dX2_conclude_14 rfl (lv_at hl 1 rfl) ?_
  refine lv_iconst (v := 5) hx hb dX2_conclude_15 (by decide) ?_
  refine lv_iload_n hx hb dX2_conclude_16 rfl (lv_at hl 3 rfl) ?_
  have hPc := hP.sub (ws' := (wT I e1 e2 64 7 (upd ev (i * 7 + 4) o))) [1, 2] rfl
  have hDc := hD.sub (ws' := (wT I e1 e2 64 7 (upd ev (i * 7 + 4) o))) [1, 2] (by decide) rfl
  refine k_v (wr := [(e0, .inr (2, [.ref e1, .int dbl]))]) (ws' := (wEv I e0 e1 e2 (upd (upd ev (i * 7 + 4) o) (i * 7 + 5) q) dbl)) (va_runV (As := [.int (nI i), .int 5, .int q]) (rest := []) hF (c_X5_put l D I C Q e1 e2 64 7 (upd ev (i * 7 + 4) o) i 5 q hi (by omega) (by omega) (by omega) (by omega) _) (cwV 3 hts gX2_conclude_X5_put rfl rfl rfl (by decide +kernel) ⟨Nat.le_of_ble_eq_true rfl, Nat.le_of_ble_eq_true rfl⟩) (kPreV hE hPc hDc (ci := 5) (q0 := 0) rfl rfl) rfl rfl hl.1 rfl (lv_room (Nat.le_of_ble_eq_true rfl)) dX2_conclude_17 ⟨Nat.zero_le _, Nat.zero_le _⟩) hP hD hS hA [1, 2] [0] [0, 1, 2] rfl rfl (by decide) (by decide) rfl (by decide) (fun H locs hP hD hS => ?_)
  exact hend _ _ _ _ _ hP hD hS dX2_conclude_20 rfl
set_option maxHeartbeats 400000 in
set_option maxRecDepth 100000 in
theorem c_X2_addDouble (l : Launch) (D : va_G) (I C Q : ClassId) (e0 e1 e2 : Nat) (ev : Nat → Int32) (dbl : Int32) : KV l D (tyL I C Q) yX2_addDouble wsX2_addDouble { frames := 0, cells := 0, slots := 0, locals := 0 } [.ref e0] (wEv I e0 e1 e2 ev dbl) (wEv I e0 e1 e2 ev (dbl + 1)) := by
  refine KV.of (cc := cX2_addDouble) (maxL := 1) (own := RX2) (by decide) rfl rfl (Nat.le_of_ble_eq_true rfl) ?_
  intro p e s m below meth c A Q0 ls hx hb hml hown hts hE hA hP hD hS hl hend
  have hK := hE.1
  have hF : CallFix p m c cX2_addDouble 1 s [.ref e0].toArray wsX2_addDouble RX2 := ⟨hx, hb, hml, hown, hts⟩
  have k0 := hts (.fieldLink RX2 24 "LateExcuses$Events" "doubles" "I") (List.mem_of_getElem? (i := 1) rfl)
  have u2 : ∀ w ∈ u_ws RX2 TX2 2, w ∈ wsX2_addDouble := by decide +kernel
  have hl : lv_has ls 1 [(0, .ref e0)] := hl
  refine lv_aload_n hx hb dX2_addDouble_0 rfl (lv_at hl 0 rfl) ?_
  refine lv_dup hx hb dX2_addDouble_1 rfl ?_
  refine va_get (D := D) (ci := 2) (v := .int dbl) (C := RX2) (T := TX2) (N := 2) hx hb hts u2 hown hK hP 0 rfl rfl 1 (by decide) k0 (fun _ h9 => h9) rfl dX2_addDouble_2 ?_
  refine lv_iconst (v := 1) hx hb dX2_addDouble_5 (by decide) ?_
  refine lv_iadd hx hb dX2_addDouble_6 ?_
  refine va_put (D := D) (ci := 2) (v := .int (dbl + 1)) (ty := .int) (C := RX2) (T := TX2) (N := 2) hx hb hts u2 tyX2 tyX2_ok nmX2 hown hK hP hD hS 0 rfl rfl 1 (by decide) k0 (fun _ h9 => h9) rfl (by decide +kernel) rfl rfl (Nat.le_of_ble_eq_true rfl) dX2_addDouble_7 (fun H locs hP hD hS => ?_)
  have hP : va_P D vwCl (wEv I e0 e1 e2 ev (dbl + 1)) H := hP
  have hD : va_D A (wEv I e0 e1 e2 ev (dbl + 1)) := hD
  exact hend _ _ _ _ _ hP hD hS dX2_addDouble_10 rfl
set_option maxHeartbeats 400000 in
set_option maxRecDepth 100000 in
theorem c_X2_doubles (l : Launch) (D : va_G) (I C Q : ClassId) (e0 e1 e2 : Nat) (ev : Nat → Int32) (dbl : Int32) : KI l D (tyL I C Q) yX2_doubles wsX2_doubles { frames := 0, cells := 0, slots := 0, locals := 0 } [.ref e0] (wEv I e0 e1 e2 ev dbl) (wEv I e0 e1 e2 ev dbl) dbl := by
  refine KI.of (cc := cX2_doubles) (maxL := 1) (rt := .int) (own := RX2) (by decide) rfl rfl (Nat.le_of_ble_eq_true rfl) ?_
  intro p e s m below meth c A Q0 ls hx hb hml hown hts hE hA hP hD hS hl hend
  have hK := hE.1
  have hF : CallFix p m c cX2_doubles 1 s [.ref e0].toArray wsX2_doubles RX2 := ⟨hx, hb, hml, hown, hts⟩
  have k0 := hts (.fieldLink RX2 24 "LateExcuses$Events" "doubles" "I") (List.mem_of_getElem? (i := 1) rfl)
  have u2 : ∀ w ∈ u_ws RX2 TX2 2, w ∈ wsX2_doubles := by decide +kernel
  have hl : lv_has ls 1 [(0, .ref e0)] := hl
  refine lv_aload_n hx hb dX2_doubles_0 rfl (lv_at hl 0 rfl) ?_
  refine va_get (D := D) (ci := 2) (v := .int dbl) (C := RX2) (T := TX2) (N := 2) hx hb hts u2 hown hK hP 0 rfl rfl 1 (by decide) k0 (fun _ h9 => h9) rfl dX2_doubles_1 ?_
  exact hend _ _ _ _ _ _ hP hD hS dX2_doubles_4 rfl rfl rfl
