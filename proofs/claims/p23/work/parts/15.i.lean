set_option maxHeartbeats 400000 in
set_option maxRecDepth 100000 in
theorem c_X4_tellWord (l : Launch) (D : va_G) (I C Q : ClassId) (p0 p1 p2 w0 w1 w2 : Nat) (pn : Nat → Int32) (us : Int32) (wd : Nat → Int32) (w : Nat) (tl : Int32) (tk : Int32) (r : Nat) (hw40 : w ≤ 40) (h64 : r < 64) : KV l D (tyL I C Q) yX4_tellWord wsX4_tellWord { frames := 3, cells := 0, slots := 0, locals := 84 } [.ref p0, .int (nI r)] (wPn I p0 p1 p2 w0 w1 w2 pn us wd (nI w) tl tk) (wPn I p0 p1 p2 w0 w1 w2 (upd pn (r * 8 + 5) (pn (r * 8 + 5) + 1)) us (w_add wd w 0 (pn (r * 8 + 7)) (pn (r * 8 + 1)) (pn (r * 8 + 2))) (nI (w_n w)) (tl + 1) tk) := by
  refine KV.of (cc := cX4_tellWord) (maxL := 3) (own := RX4) (by decide) rfl rfl (Nat.le_of_ble_eq_true rfl) ?_
  intro p e s m below meth c A Q0 ls hx hb hml hown hts hE hA hP hD hS hl hend
  have hK := hE.1
  have hF : CallFix p m c cX4_tellWord 3 s [.ref p0, .int (nI r)].toArray wsX4_tellWord RX4 := ⟨hx, hb, hml, hown, hts⟩
  have k0 := hts (.fieldLink RX4 16 "LateExcuses$Panes" "rows" "LLateExcuses$Table;") (List.mem_of_getElem? (i := 1) rfl)
  have k1 := hts (.fieldLink RX4 23 "LateExcuses$Panes" "words" "LLateExcuses$Words;") (List.mem_of_getElem? (i := 2) rfl)
  have u4 : ∀ w ∈ u_ws RX4 TX4 3, w ∈ wsX4_tellWord := by decide +kernel
  have hl : lv_has ls 3 [(0, .ref p0), (1, .int (nI r))] := hl
  refine lv_aload_n hx hb dX4_tellWord_0 rfl (lv_at hl 0 rfl) ?_
  refine va_get (D := D) (ci := 4) (v := .ref p1) (C := RX4) (T := TX4) (N := 3) hx hb hts u4 hown hK hP 0 rfl rfl 0 (by decide) k0 (fun _ h9 => h9) rfl dX4_tellWord_1 ?_
  refine lv_iload_n hx hb dX4_tellWord_4 rfl (lv_at hl 1 rfl) ?_
  refine lv_iconst (v := 5) hx hb dX4_tellWord_5 (by decide) ?_
  refine lv_aload_n hx hb dX4_tellWord_6 rfl (lv_at hl 0 rfl) ?_
  refine va_get (D := D) (ci := 4) (v := .ref p1) (C := RX4) (T := TX4) (N := 3) hx hb hts u4 hown hK hP 0 rfl rfl 0 (by decide) k0 (fun _ h9 => h9) rfl dX4_tellWord_7 ?_
  refine lv_iload_n hx hb dX4_tellWord_10 rfl (lv_at hl 1 rfl) ?_
  refine lv_iconst (v := 5) hx hb dX4_tellWord_11 (by decide) ?_
  have hPc := hP.sub (ws' := (wT I p1 p2 64 8 pn)) [1, 2] rfl
  have hDc := hD.sub (ws' := (wT I p1 p2 64 8 pn)) [1, 2] (by decide) rfl
  refine k_i (wr := [(p0, .inr (4, [.ref p1, .ref w0, .int us])), (w0, .inr (7, [.ref w1, .int (nI w), .int tl, .int tk])), (w1, .inr (5, [.int (nI 40), .int (nI 4), .ref w2])), (w2, .inl (I, 40 * 4, .inl wd))]) (ws' := (wPn I p0 p1 p2 w0 w1 w2 pn us wd (nI w) tl tk)) (va_runV (As := [.int (nI r), .int 5]) (rest := [.int 5, .int (nI r), .ref p1]) hF (c_X5_get l D I C Q p1 p2 64 8 pn r 5 h64 (by omega) (by omega) (by omega) (by omega) _) (cwV 2 hts gX4_tellWord_X5_get rfl rfl rfl (by decide +kernel) ⟨Nat.le_of_ble_eq_true rfl, Nat.le_of_ble_eq_true rfl⟩) (kPreV hE hPc hDc (ci := 5) (q0 := 0) rfl rfl) rfl rfl hl.1 rfl (lv_room (Nat.le_of_ble_eq_true rfl)) dX4_tellWord_12 ⟨Nat.zero_le _, Nat.zero_le _⟩) hP hD hS hA [1, 2] [0, 3, 4, 5] [0, 4, 5, 1, 2, 3] rfl rfl (by decide) (by decide) rfl (by decide) (fun H locs hP hD hS => ?_)
  refine lv_iconst (v := 1) hx hb dX4_tellWord_15 (by decide) ?_
  refine lv_iadd hx hb dX4_tellWord_16 ?_
  have hPc := hP.sub (ws' := (wT I p1 p2 64 8 pn)) [1, 2] rfl
  have hDc := hD.sub (ws' := (wT I p1 p2 64 8 pn)) [1, 2] (by decide) rfl
  refine k_v (wr := [(p0, .inr (4, [.ref p1, .ref w0, .int us])), (w0, .inr (7, [.ref w1, .int (nI w), .int tl, .int tk])), (w1, .inr (5, [.int (nI 40), .int (nI 4), .ref w2])), (w2, .inl (I, 40 * 4, .inl wd))]) (ws' := (wPn I p0 p1 p2 w0 w1 w2 (upd pn (r * 8 + 5) ((pn (r * 8 + 5)) + 1)) us wd (nI w) tl tk)) (va_runV (As := [.int (nI r), .int 5, .int ((pn (r * 8 + 5)) + 1)]) (rest := []) hF (c_X5_put l D I C Q p1 p2 64 8 pn r 5 ((pn (r * 8 + 5)) + 1) h64 (by omega) (by omega) (by omega) (by omega) _) (cwV 3 hts gX4_tellWord_X5_put rfl rfl rfl (by decide +kernel) ⟨Nat.le_of_ble_eq_true rfl, Nat.le_of_ble_eq_true rfl⟩) (kPreV hE hPc hDc (ci := 5) (q0 := 0) rfl rfl) rfl rfl hl.1 rfl (lv_room (Nat.le_of_ble_eq_true rfl)) dX4_tellWord_17 ⟨Nat.zero_le _, Nat.zero_le _⟩) hP hD hS hA [1, 2] [0, 3, 4, 5] [0, 4, 5, 1, 2, 3] rfl rfl (by decide) (by decide) rfl (by decide) (fun H locs hP hD hS => ?_)
  refine lv_aload_n hx hb dX4_tellWord_20 rfl (lv_at hl 0 rfl) ?_
  refine va_get (D := D) (ci := 4) (v := .ref p1) (C := RX4) (T := TX4) (N := 3) hx hb hts u4 hown hK hP 0 rfl rfl 0 (by decide) k0 (fun _ h9 => h9) rfl dX4_tellWord_21 ?_
  refine lv_iload_n hx hb dX4_tellWord_24 rfl (lv_at hl 1 rfl) ?_
  refine lv_bipush (v := 7) hx hb dX4_tellWord_25 (by decide) ?_
  have hPc := hP.sub (ws' := (wT I p1 p2 64 8 (upd pn (r * 8 + 5) ((pn (r * 8 + 5)) + 1)))) [1, 2] rfl
  have hDc := hD.sub (ws' := (wT I p1 p2 64 8 (upd pn (r * 8 + 5) ((pn (r * 8 + 5)) + 1)))) [1, 2] (by decide) rfl
  refine k_i (wr := [(p0, .inr (4, [.ref p1, .ref w0, .int us])), (w0, .inr (7, [.ref w1, .int (nI w), .int tl, .int tk])), (w1, .inr (5, [.int (nI 40), .int (nI 4), .ref w2])), (w2, .inl (I, 40 * 4, .inl wd))]) (ws' := (wPn I p0 p1 p2 w0 w1 w2 (upd pn (r * 8 + 5) ((pn (r * 8 + 5)) + 1)) us wd (nI w) tl tk)) (va_runV (As := [.int (nI r), .int 7]) (rest := []) hF (c_X5_get l D I C Q p1 p2 64 8 (upd pn (r * 8 + 5) ((pn (r * 8 + 5)) + 1)) r 7 h64 (by omega) (by omega) (by omega) (by omega) _) (cwV 2 hts gX4_tellWord_X5_get rfl rfl rfl (by decide +kernel) ⟨Nat.le_of_ble_eq_true rfl, Nat.le_of_ble_eq_true rfl⟩) (kPreV hE hPc hDc (ci := 5) (q0 := 0) rfl rfl) rfl rfl hl.1 rfl (lv_room (Nat.le_of_ble_eq_true rfl)) dX4_tellWord_27 ⟨Nat.zero_le _, Nat.zero_le _⟩) hP hD hS hA [1, 2] [0, 3, 4, 5] [0, 4, 5, 1, 2, 3] rfl rfl (by decide) (by decide) rfl (by decide) (fun H locs hP hD hS => ?_)
  refine k_top (y := pn (r * 8 + 7)) (pk_un (by omega)) ?_
  refine lv_istore_n (lv' := [(2, .int (pn (r * 8 + 7))), (0, .ref p0), (1, .int (nI r))]) hx hb dX4_tellWord_30 rfl hl (by decide) rfl (fun ls hl => ?_)
  refine lv_aload_n hx hb dX4_tellWord_31 rfl (lv_at hl 1 rfl) ?_
  refine va_get (D := D) (ci := 4) (v := .ref w0) (C := RX4) (T := TX4) (N := 3) hx hb hts u4 hown hK hP 0 rfl rfl 1 (by decide) k1 (fun _ h9 => h9) rfl dX4_tellWord_32 ?_
  refine lv_iconst (v := 0) hx hb dX4_tellWord_35 (by decide) ?_
  refine lv_iload_n hx hb dX4_tellWord_36 rfl (lv_at hl 0 rfl) ?_
  refine lv_aload_n hx hb dX4_tellWord_37 rfl (lv_at hl 1 rfl) ?_
  refine va_get (D := D) (ci := 4) (v := .ref p1) (C := RX4) (T := TX4) (N := 3) hx hb hts u4 hown hK hP 0 rfl rfl 0 (by decide) k0 (fun _ h9 => h9) rfl dX4_tellWord_38 ?_
  refine lv_iload_n hx hb dX4_tellWord_41 rfl (lv_at hl 2 rfl) ?_
  refine lv_iconst (v := 1) hx hb dX4_tellWord_42 (by decide) ?_
  have hPc := hP.sub (ws' := (wT I p1 p2 64 8 (upd pn (r * 8 + 5) ((pn (r * 8 + 5)) + 1)))) [1, 2] rfl
  have hDc := hD.sub (ws' := (wT I p1 p2 64 8 (upd pn (r * 8 + 5) ((pn (r * 8 + 5)) + 1)))) [1, 2] (by decide) rfl
  refine k_i (wr := [(p0, .inr (4, [.ref p1, .ref w0, .int us])), (w0, .inr (7, [.ref w1, .int (nI w), .int tl, .int tk])), (w1, .inr (5, [.int (nI 40), .int (nI 4), .ref w2])), (w2, .inl (I, 40 * 4, .inl wd))]) (ws' := (wPn I p0 p1 p2 w0 w1 w2 (upd pn (r * 8 + 5) ((pn (r * 8 + 5)) + 1)) us wd (nI w) tl tk)) (va_runV (As := [.int (nI r), .int 1]) (rest := [.int (pn (r * 8 + 7)), .int 0, .ref w0]) hF (c_X5_get l D I C Q p1 p2 64 8 (upd pn (r * 8 + 5) ((pn (r * 8 + 5)) + 1)) r 1 h64 (by omega) (by omega) (by omega) (by omega) _) (cwV 2 hts gX4_tellWord_X5_get rfl rfl rfl (by decide +kernel) ⟨Nat.le_of_ble_eq_true rfl, Nat.le_of_ble_eq_true rfl⟩) (kPreV hE hPc hDc (ci := 5) (q0 := 0) rfl rfl) rfl rfl hl.1 rfl (lv_room (Nat.le_of_ble_eq_true rfl)) dX4_tellWord_43 ⟨Nat.zero_le _, Nat.zero_le _⟩) hP hD hS hA [1, 2] [0, 3, 4, 5] [0, 4, 5, 1, 2, 3] rfl rfl (by decide) (by decide) rfl (by decide) (fun H locs hP hD hS => ?_)
  refine k_top (y := pn (r * 8 + 1)) (pk_un (by omega)) ?_
  refine lv_aload_n hx hb dX4_tellWord_46 rfl (lv_at hl 1 rfl) ?_
  refine va_get (D := D) (ci := 4) (v := .ref p1) (C := RX4) (T := TX4) (N := 3) hx hb hts u4 hown hK hP 0 rfl rfl 0 (by decide) k0 (fun _ h9 => h9) rfl dX4_tellWord_47 ?_
  refine lv_iload_n hx hb dX4_tellWord_50 rfl (lv_at hl 2 rfl) ?_
  refine lv_iconst (v := 2) hx hb dX4_tellWord_51 (by decide) ?_
  have hPc := hP.sub (ws' := (wT I p1 p2 64 8 (upd pn (r * 8 + 5) ((pn (r * 8 + 5)) + 1)))) [1, 2] rfl
  have hDc := hD.sub (ws' := (wT I p1 p2 64 8 (upd pn (r * 8 + 5) ((pn (r * 8 + 5)) + 1)))) [1, 2] (by decide) rfl
  refine k_i (wr := [(p0, .inr (4, [.ref p1, .ref w0, .int us])), (w0, .inr (7, [.ref w1, .int (nI w), .int tl, .int tk])), (w1, .inr (5, [.int (nI 40), .int (nI 4), .ref w2])), (w2, .inl (I, 40 * 4, .inl wd))]) (ws' := (wPn I p0 p1 p2 w0 w1 w2 (upd pn (r * 8 + 5) ((pn (r * 8 + 5)) + 1)) us wd (nI w) tl tk)) (va_runV (As := [.int (nI r), .int 2]) (rest := [.int (pn (r * 8 + 1)), .int (pn (r * 8 + 7)), .int 0, .ref w0]) hF (c_X5_get l D I C Q p1 p2 64 8 (upd pn (r * 8 + 5) ((pn (r * 8 + 5)) + 1)) r 2 h64 (by omega) (by omega) (by omega) (by omega) _) (cwV 2 hts gX4_tellWord_X5_get rfl rfl rfl (by decide +kernel) ⟨Nat.le_of_ble_eq_true rfl, Nat.le_of_ble_eq_true rfl⟩) (kPreV hE hPc hDc (ci := 5) (q0 := 0) rfl rfl) rfl rfl hl.1 rfl (lv_room (Nat.le_of_ble_eq_true rfl)) dX4_tellWord_52 ⟨Nat.zero_le _, Nat.zero_le _⟩) hP hD hS hA [1, 2] [0, 3, 4, 5] [0, 4, 5, 1, 2, 3] rfl rfl (by decide) (by decide) rfl (by decide) (fun H locs hP hD hS => ?_)
  refine k_top (y := pn (r * 8 + 2)) (pk_un (by omega)) ?_
  have hPc := hP.sub (ws' := (wWd I w0 w1 w2 wd (nI w) tl tk)) [3, 4, 5] rfl
  have hDc := hD.sub (ws' := (wWd I w0 w1 w2 wd (nI w) tl tk)) [3, 4, 5] (by decide) rfl
  refine k_v (wr := [(p0, .inr (4, [.ref p1, .ref w0, .int us])), (p1, .inr (5, [.int (nI 64), .int (nI 8), .ref p2])), (p2, .inl (I, 64 * 8, .inl (upd pn (r * 8 + 5) ((pn (r * 8 + 5)) + 1))))]) (ws' := (wPn I p0 p1 p2 w0 w1 w2 (upd pn (r * 8 + 5) ((pn (r * 8 + 5)) + 1)) us (w_add wd w 0 (pn (r * 8 + 7)) (pn (r * 8 + 1)) (pn (r * 8 + 2))) (nI (w_n w)) (tl + 1) tk)) (va_runV (As := [.int 0, .int (pn (r * 8 + 7)), .int (pn (r * 8 + 1)), .int (pn (r * 8 + 2))]) (rest := []) hF (c_X7_addT l D I C Q w0 w1 w2 wd w tl tk 0 (pn (r * 8 + 7)) (pn (r * 8 + 1)) (pn (r * 8 + 2)) hw40 rfl _) (cwV 4 hts gX4_tellWord_X7_add rfl rfl rfl (by decide +kernel) ⟨Nat.le_of_ble_eq_true rfl, Nat.le_of_ble_eq_true rfl⟩) (kPreV hE hPc hDc (ci := 7) (q0 := 0) rfl rfl) rfl rfl hl.1 rfl (lv_room (Nat.le_of_ble_eq_true rfl)) dX4_tellWord_55 ⟨Nat.zero_le _, Nat.zero_le _⟩) hP hD hS hA [3, 4, 5] [0, 1, 2] [0, 1, 2, 3, 4, 5] rfl rfl (by decide) (by decide) rfl (by decide) (fun H locs hP hD hS => ?_)
  exact hend _ _ _ _ _ hP hD hS dX4_tellWord_58 rfl
set_option maxHeartbeats 400000 in
set_option maxRecDepth 100000 in
theorem c_X4_takeBackY (l : Launch) (D : va_G) (I C Q : ClassId) (p0 p1 p2 w0 w1 w2 : Nat) (pn : Nat → Int32) (us : Int32) (wd : Nat → Int32) (w : Nat) (tl : Int32) (tk : Int32) (r : Nat) (hw40 : w ≤ 40) (h64 : r < 64) (hst : ¬ p_st pn r = 0) : KV l D (tyL I C Q) yX4_takeBack wsX4_takeBack { frames := 3, cells := 0, slots := 0, locals := 84 } [.ref p0, .int (nI r)] (wPn I p0 p1 p2 w0 w1 w2 pn us wd (nI w) tl tk) (wPn I p0 p1 p2 w0 w1 w2 (upd pn (r * 8 + 6) (pn (r * 8 + 6) + 1)) us (w_add wd w 1 (pn (r * 8 + 7)) (pn (r * 8 + 1)) (pn (r * 8 + 2))) (nI (w_n w)) tl (tk + 1)) := by
  refine KV.of (cc := cX4_takeBack) (maxL := 3) (own := RX4) (by decide) rfl rfl (Nat.le_of_ble_eq_true rfl) ?_
  intro p e s m below meth c A Q0 ls hx hb hml hown hts hE hA hP hD hS hl hend
  have hK := hE.1
  have hF : CallFix p m c cX4_takeBack 3 s [.ref p0, .int (nI r)].toArray wsX4_takeBack RX4 := ⟨hx, hb, hml, hown, hts⟩
  have k0 := hts (.fieldLink RX4 16 "LateExcuses$Panes" "rows" "LLateExcuses$Table;") (List.mem_of_getElem? (i := 1) rfl)
  have k1 := hts (.fieldLink RX4 23 "LateExcuses$Panes" "words" "LLateExcuses$Words;") (List.mem_of_getElem? (i := 2) rfl)
  have u4 : ∀ w ∈ u_ws RX4 TX4 3, w ∈ wsX4_takeBack := by decide +kernel
  have hl : lv_has ls 3 [(0, .ref p0), (1, .int (nI r))] := hl
  refine lv_aload_n hx hb dX4_takeBack_0 rfl (lv_at hl 0 rfl) ?_
  refine lv_iload_n hx hb dX4_takeBack_1 rfl (lv_at hl 1 rfl) ?_
  refine k_iF (va_runV (As := [.int (nI r)]) (rest := []) hF (c_X4_isStanding l D I C Q p0 p1 p2 w0 w1 w2 pn us wd (nI w) tl tk r h64 _) (cwV 1 hts gX4_takeBack_X4_isStanding rfl rfl rfl (by decide +kernel) ⟨Nat.le_of_ble_eq_true rfl, Nat.le_of_ble_eq_true rfl⟩) (kPreV hE hP hD (ci := 4) (q0 := 0) rfl rfl) rfl rfl hl.1 rfl (lv_room (Nat.le_of_ble_eq_true rfl)) dX4_takeBack_2 ⟨Nat.zero_le _, Nat.zero_le _⟩) hD hS hA (fun H locs hP hD hS => ?_)
  refine lv_if_eq (tgt := 68) hx hb dX4_takeBack_5 (by decide) (fun c_5 => ?_) (fun c_5 => ?_)
  · exact absurd c_5 hst
  · refine lv_aload_n hx hb dX4_takeBack_8 rfl (lv_at hl 0 rfl) ?_
    refine va_get (D := D) (ci := 4) (v := .ref p1) (C := RX4) (T := TX4) (N := 3) hx hb hts u4 hown hK hP 0 rfl rfl 0 (by decide) k0 (fun _ h9 => h9) rfl dX4_takeBack_9 ?_
    refine lv_iload_n hx hb dX4_takeBack_12 rfl (lv_at hl 1 rfl) ?_
    refine lv_bipush (v := 6) hx hb dX4_takeBack_13 (by decide) ?_
    refine lv_aload_n hx hb dX4_takeBack_15 rfl (lv_at hl 0 rfl) ?_
    refine va_get (D := D) (ci := 4) (v := .ref p1) (C := RX4) (T := TX4) (N := 3) hx hb hts u4 hown hK hP 0 rfl rfl 0 (by decide) k0 (fun _ h9 => h9) rfl dX4_takeBack_16 ?_
    refine lv_iload_n hx hb dX4_takeBack_19 rfl (lv_at hl 1 rfl) ?_
    refine lv_bipush (v := 6) hx hb dX4_takeBack_20 (by decide) ?_
    have hPc := hP.sub (ws' := (wT I p1 p2 64 8 pn)) [1, 2] rfl
    have hDc := hD.sub (ws' := (wT I p1 p2 64 8 pn)) [1, 2] (by decide) rfl
    refine k_i (wr := [(p0, .inr (4, [.ref p1, .ref w0, .int us])), (w0, .inr (7, [.ref w1, .int (nI w), .int tl, .int tk])), (w1, .inr (5, [.int (nI 40), .int (nI 4), .ref w2])), (w2, .inl (I, 40 * 4, .inl wd))]) (ws' := (wPn I p0 p1 p2 w0 w1 w2 pn us wd (nI w) tl tk)) (va_runV (As := [.int (nI r), .int 6]) (rest := [.int 6, .int (nI r), .ref p1]) hF (c_X5_get l D I C Q p1 p2 64 8 pn r 6 h64 (by omega) (by omega) (by omega) (by omega) _) (cwV 2 hts gX4_takeBack_X5_get rfl rfl rfl (by decide +kernel) ⟨Nat.le_of_ble_eq_true rfl, Nat.le_of_ble_eq_true rfl⟩) (kPreV hE hPc hDc (ci := 5) (q0 := 0) rfl rfl) rfl rfl hl.1 rfl (lv_room (Nat.le_of_ble_eq_true rfl)) dX4_takeBack_22 ⟨Nat.zero_le _, Nat.zero_le _⟩) hP hD hS hA [1, 2] [0, 3, 4, 5] [0, 4, 5, 1, 2, 3] rfl rfl (by decide) (by decide) rfl (by decide) (fun H locs hP hD hS => ?_)
    refine lv_iconst (v := 1) hx hb dX4_takeBack_25 (by decide) ?_
    refine lv_iadd hx hb dX4_takeBack_26 ?_
    have hPc := hP.sub (ws' := (wT I p1 p2 64 8 pn)) [1, 2] rfl
    have hDc := hD.sub (ws' := (wT I p1 p2 64 8 pn)) [1, 2] (by decide) rfl
    refine k_v (wr := [(p0, .inr (4, [.ref p1, .ref w0, .int us])), (w0, .inr (7, [.ref w1, .int (nI w), .int tl, .int tk])), (w1, .inr (5, [.int (nI 40), .int (nI 4), .ref w2])), (w2, .inl (I, 40 * 4, .inl wd))]) (ws' := (wPn I p0 p1 p2 w0 w1 w2 (upd pn (r * 8 + 6) ((pn (r * 8 + 6)) + 1)) us wd (nI w) tl tk)) (va_runV (As := [.int (nI r), .int 6, .int ((pn (r * 8 + 6)) + 1)]) (rest := []) hF (c_X5_put l D I C Q p1 p2 64 8 pn r 6 ((pn (r * 8 + 6)) + 1) h64 (by omega) (by omega) (by omega) (by omega) _) (cwV 3 hts gX4_takeBack_X5_put rfl rfl rfl (by decide +kernel) ⟨Nat.le_of_ble_eq_true rfl, Nat.le_of_ble_eq_true rfl⟩) (kPreV hE hPc hDc (ci := 5) (q0 := 0) rfl rfl) rfl rfl hl.1 rfl (lv_room (Nat.le_of_ble_eq_true rfl)) dX4_takeBack_27 ⟨Nat.zero_le _, Nat.zero_le _⟩) hP hD hS hA [1, 2] [0, 3, 4, 5] [0, 4, 5, 1, 2, 3] rfl rfl (by decide) (by decide) rfl (by decide) (fun H locs hP hD hS => ?_)
    refine lv_aload_n hx hb dX4_takeBack_30 rfl (lv_at hl 0 rfl) ?_
    refine va_get (D := D) (ci := 4) (v := .ref p1) (C := RX4) (T := TX4) (N := 3) hx hb hts u4 hown hK hP 0 rfl rfl 0 (by decide) k0 (fun _ h9 => h9) rfl dX4_takeBack_31 ?_
    refine lv_iload_n hx hb dX4_takeBack_34 rfl (lv_at hl 1 rfl) ?_
    refine lv_bipush (v := 7) hx hb dX4_takeBack_35 (by decide) ?_
    have hPc := hP.sub (ws' := (wT I p1 p2 64 8 (upd pn (r * 8 + 6) ((pn (r * 8 + 6)) + 1)))) [1, 2] rfl
    have hDc := hD.sub (ws' := (wT I p1 p2 64 8 (upd pn (r * 8 + 6) ((pn (r * 8 + 6)) + 1)))) [1, 2] (by decide) rfl
    refine k_i (wr := [(p0, .inr (4, [.ref p1, .ref w0, .int us])), (w0, .inr (7, [.ref w1, .int (nI w), .int tl, .int tk])), (w1, .inr (5, [.int (nI 40), .int (nI 4), .ref w2])), (w2, .inl (I, 40 * 4, .inl wd))]) (ws' := (wPn I p0 p1 p2 w0 w1 w2 (upd pn (r * 8 + 6) ((pn (r * 8 + 6)) + 1)) us wd (nI w) tl tk)) (va_runV (As := [.int (nI r), .int 7]) (rest := []) hF (c_X5_get l D I C Q p1 p2 64 8 (upd pn (r * 8 + 6) ((pn (r * 8 + 6)) + 1)) r 7 h64 (by omega) (by omega) (by omega) (by omega) _) (cwV 2 hts gX4_takeBack_X5_get rfl rfl rfl (by decide +kernel) ⟨Nat.le_of_ble_eq_true rfl, Nat.le_of_ble_eq_true rfl⟩) (kPreV hE hPc hDc (ci := 5) (q0 := 0) rfl rfl) rfl rfl hl.1 rfl (lv_room (Nat.le_of_ble_eq_true rfl)) dX4_takeBack_37 ⟨Nat.zero_le _, Nat.zero_le _⟩) hP hD hS hA [1, 2] [0, 3, 4, 5] [0, 4, 5, 1, 2, 3] rfl rfl (by decide) (by decide) rfl (by decide) (fun H locs hP hD hS => ?_)
    refine k_top (y := pn (r * 8 + 7)) (pk_un (by omega)) ?_
    refine lv_istore_n (lv' := [(2, .int (pn (r * 8 + 7))), (0, .ref p0), (1, .int (nI r))]) hx hb dX4_takeBack_40 rfl hl (by decide) rfl (fun ls hl => ?_)
    refine lv_aload_n hx hb dX4_takeBack_41 rfl (lv_at hl 1 rfl) ?_
    refine va_get (D := D) (ci := 4) (v := .ref w0) (C := RX4) (T := TX4) (N := 3) hx hb hts u4 hown hK hP 0 rfl rfl 1 (by decide) k1 (fun _ h9 => h9) rfl dX4_takeBack_42 ?_
    refine lv_iconst (v := 1) hx hb dX4_takeBack_45 (by decide) ?_
    refine lv_iload_n hx hb dX4_takeBack_46 rfl (lv_at hl 0 rfl) ?_
    refine lv_aload_n hx hb dX4_takeBack_47 rfl (lv_at hl 1 rfl) ?_
    refine va_get (D := D) (ci := 4) (v := .ref p1) (C := RX4) (T := TX4) (N := 3) hx hb hts u4 hown hK hP 0 rfl rfl 0 (by decide) k0 (fun _ h9 => h9) rfl dX4_takeBack_48 ?_
    refine lv_iload_n hx hb dX4_takeBack_51 rfl (lv_at hl 2 rfl) ?_
    refine lv_iconst (v := 1) hx hb dX4_takeBack_52 (by decide) ?_
    have hPc := hP.sub (ws' := (wT I p1 p2 64 8 (upd pn (r * 8 + 6) ((pn (r * 8 + 6)) + 1)))) [1, 2] rfl
    have hDc := hD.sub (ws' := (wT I p1 p2 64 8 (upd pn (r * 8 + 6) ((pn (r * 8 + 6)) + 1)))) [1, 2] (by decide) rfl
    refine k_i (wr := [(p0, .inr (4, [.ref p1, .ref w0, .int us])), (w0, .inr (7, [.ref w1, .int (nI w), .int tl, .int tk])), (w1, .inr (5, [.int (nI 40), .int (nI 4), .ref w2])), (w2, .inl (I, 40 * 4, .inl wd))]) (ws' := (wPn I p0 p1 p2 w0 w1 w2 (upd pn (r * 8 + 6) ((pn (r * 8 + 6)) + 1)) us wd (nI w) tl tk)) (va_runV (As := [.int (nI r), .int 1]) (rest := [.int (pn (r * 8 + 7)), .int 1, .ref w0]) hF (c_X5_get l D I C Q p1 p2 64 8 (upd pn (r * 8 + 6) ((pn (r * 8 + 6)) + 1)) r 1 h64 (by omega) (by omega) (by omega) (by omega) _) (cwV 2 hts gX4_takeBack_X5_get rfl rfl rfl (by decide +kernel) ⟨Nat.le_of_ble_eq_true rfl, Nat.le_of_ble_eq_true rfl⟩) (kPreV hE hPc hDc (ci := 5) (q0 := 0) rfl rfl) rfl rfl hl.1 rfl (lv_room (Nat.le_of_ble_eq_true rfl)) dX4_takeBack_53 ⟨Nat.zero_le _, Nat.zero_le _⟩) hP hD hS hA [1, 2] [0, 3, 4, 5] [0, 4, 5, 1, 2, 3] rfl rfl (by decide) (by decide) rfl (by decide) (fun H locs hP hD hS => ?_)
    refine k_top (y := pn (r * 8 + 1)) (pk_un (by omega)) ?_
    refine lv_aload_n hx hb dX4_takeBack_56 rfl (lv_at hl 1 rfl) ?_
    refine va_get (D := D) (ci := 4) (v := .ref p1) (C := RX4) (T := TX4) (N := 3) hx hb hts u4 hown hK hP 0 rfl rfl 0 (by decide) k0 (fun _ h9 => h9) rfl dX4_takeBack_57 ?_
    refine lv_iload_n hx hb dX4_takeBack_60 rfl (lv_at hl 2 rfl) ?_
    refine lv_iconst (v := 2) hx hb dX4_takeBack_61 (by decide) ?_
    have hPc := hP.sub (ws' := (wT I p1 p2 64 8 (upd pn (r * 8 + 6) ((pn (r * 8 + 6)) + 1)))) [1, 2] rfl
    have hDc := hD.sub (ws' := (wT I p1 p2 64 8 (upd pn (r * 8 + 6) ((pn (r * 8 + 6)) + 1)))) [1, 2] (by decide) rfl
    refine k_i (wr := [(p0, .inr (4, [.ref p1, .ref w0, .int us])), (w0, .inr (7, [.ref w1, .int (nI w), .int tl, .int tk])), (w1, .inr (5, [.int (nI 40), .int (nI 4), .ref w2])), (w2, .inl (I, 40 * 4, .inl wd))]) (ws' := (wPn I p0 p1 p2 w0 w1 w2 (upd pn (r * 8 + 6) ((pn (r * 8 + 6)) + 1)) us wd (nI w) tl tk)) (va_runV (As := [.int (nI r), .int 2]) (rest := [.int (pn (r * 8 + 1)), .int (pn (r * 8 + 7)), .int 1, .ref w0]) hF (c_X5_get l D I C Q p1 p2 64 8 (upd pn (r * 8 + 6) ((pn (r * 8 + 6)) + 1)) r 2 h64 (by omega) (by omega) (by omega) (by omega) _) (cwV 2 hts gX4_takeBack_X5_get rfl rfl rfl (by decide +kernel) ⟨Nat.le_of_ble_eq_true rfl, Nat.le_of_ble_eq_true rfl⟩) (kPreV hE hPc hDc (ci := 5) (q0 := 0) rfl rfl) rfl rfl hl.1 rfl (lv_room (Nat.le_of_ble_eq_true rfl)) dX4_takeBack_62 ⟨Nat.zero_le _, Nat.zero_le _⟩) hP hD hS hA [1, 2] [0, 3, 4, 5] [0, 4, 5, 1, 2, 3] rfl rfl (by decide) (by decide) rfl (by decide) (fun H locs hP hD hS => ?_)
    refine k_top (y := pn (r * 8 + 2)) (pk_un (by omega)) ?_
    have hPc := hP.sub (ws' := (wWd I w0 w1 w2 wd (nI w) tl tk)) [3, 4, 5] rfl
    have hDc := hD.sub (ws' := (wWd I w0 w1 w2 wd (nI w) tl tk)) [3, 4, 5] (by decide) rfl
    refine k_v (wr := [(p0, .inr (4, [.ref p1, .ref w0, .int us])), (p1, .inr (5, [.int (nI 64), .int (nI 8), .ref p2])), (p2, .inl (I, 64 * 8, .inl (upd pn (r * 8 + 6) ((pn (r * 8 + 6)) + 1))))]) (ws' := (wPn I p0 p1 p2 w0 w1 w2 (upd pn (r * 8 + 6) ((pn (r * 8 + 6)) + 1)) us (w_add wd w 1 (pn (r * 8 + 7)) (pn (r * 8 + 1)) (pn (r * 8 + 2))) (nI (w_n w)) tl (tk + 1))) (va_runV (As := [.int 1, .int (pn (r * 8 + 7)), .int (pn (r * 8 + 1)), .int (pn (r * 8 + 2))]) (rest := []) hF (c_X7_addK l D I C Q w0 w1 w2 wd w tl tk 1 (pn (r * 8 + 7)) (pn (r * 8 + 1)) (pn (r * 8 + 2)) hw40 rfl _) (cwV 4 hts gX4_takeBack_X7_add rfl rfl rfl (by decide +kernel) ⟨Nat.le_of_ble_eq_true rfl, Nat.le_of_ble_eq_true rfl⟩) (kPreV hE hPc hDc (ci := 7) (q0 := 0) rfl rfl) rfl rfl hl.1 rfl (lv_room (Nat.le_of_ble_eq_true rfl)) dX4_takeBack_65 ⟨Nat.zero_le _, Nat.zero_le _⟩) hP hD hS hA [3, 4, 5] [0, 1, 2] [0, 1, 2, 3, 4, 5] rfl rfl (by decide) (by decide) rfl (by decide) (fun H locs hP hD hS => ?_)
    exact hend _ _ _ _ _ hP hD hS dX4_takeBack_68 rfl
set_option maxHeartbeats 400000 in
set_option maxRecDepth 100000 in
theorem c_X4_takeBackN (l : Launch) (D : va_G) (I C Q : ClassId) (p0 p1 p2 w0 w1 w2 : Nat) (pn : Nat → Int32) (us : Int32) (wd : Nat → Int32) (kp : Int32) (tl : Int32) (tk : Int32) (r : Nat) (h64 : r < 64) (hst : p_st pn r = 0) : KV l D (tyL I C Q) yX4_takeBack wsX4_takeBack { frames := 2, cells := 0, slots := 0, locals := 44 } [.ref p0, .int (nI r)] (wPn I p0 p1 p2 w0 w1 w2 pn us wd kp tl tk) (wPn I p0 p1 p2 w0 w1 w2 pn us wd kp tl tk) := by
  refine KV.of (cc := cX4_takeBack) (maxL := 3) (own := RX4) (by decide) rfl rfl (Nat.le_of_ble_eq_true rfl) ?_
  intro p e s m below meth c A Q0 ls hx hb hml hown hts hE hA hP hD hS hl hend
  have hK := hE.1
  have hF : CallFix p m c cX4_takeBack 3 s [.ref p0, .int (nI r)].toArray wsX4_takeBack RX4 := ⟨hx, hb, hml, hown, hts⟩
  have hl : lv_has ls 3 [(0, .ref p0), (1, .int (nI r))] := hl
  refine lv_aload_n hx hb dX4_takeBack_0 rfl (lv_at hl 0 rfl) ?_
  refine lv_iload_n hx hb dX4_takeBack_1 rfl (lv_at hl 1 rfl) ?_
  refine k_iF (va_runV (As := [.int (nI r)]) (rest := []) hF (c_X4_isStanding l D I C Q p0 p1 p2 w0 w1 w2 pn us wd kp tl tk r h64 _) (cwV 1 hts gX4_takeBack_X4_isStanding rfl rfl rfl (by decide +kernel) ⟨Nat.le_of_ble_eq_true rfl, Nat.le_of_ble_eq_true rfl⟩) (kPreV hE hP hD (ci := 4) (q0 := 0) rfl rfl) rfl rfl hl.1 rfl (lv_room (Nat.le_of_ble_eq_true rfl)) dX4_takeBack_2 ⟨Nat.zero_le _, Nat.zero_le _⟩) hD hS hA (fun H locs hP hD hS => ?_)
  refine lv_if_eq (tgt := 68) hx hb dX4_takeBack_5 (by decide) (fun c_5 => ?_) (fun c_5 => ?_)
  · exact hend _ _ _ _ _ hP hD hS dX4_takeBack_68 rfl
  · exact absurd hst c_5
set_option maxHeartbeats 400000 in
set_option maxRecDepth 100000 in
theorem c_X4_takeBackX (l : Launch) (D : va_G) (I C Q : ClassId) (p0 p1 p2 w0 w1 w2 : Nat) (pn : Nat → Int32) (us : Int32) (wd : Nat → Int32) (kp : Int32) (tl : Int32) (tk : Int32) (q : Int32) (hq : q < 0) : KV l D (tyL I C Q) yX4_takeBack wsX4_takeBack { frames := 2, cells := 0, slots := 0, locals := 44 } [.ref p0, .int q] (wPn I p0 p1 p2 w0 w1 w2 pn us wd kp tl tk) (wPn I p0 p1 p2 w0 w1 w2 pn us wd kp tl tk) := by
  refine KV.of (cc := cX4_takeBack) (maxL := 3) (own := RX4) (by decide) rfl rfl (Nat.le_of_ble_eq_true rfl) ?_
  intro p e s m below meth c A Q0 ls hx hb hml hown hts hE hA hP hD hS hl hend
  have hK := hE.1
  have hF : CallFix p m c cX4_takeBack 3 s [.ref p0, .int q].toArray wsX4_takeBack RX4 := ⟨hx, hb, hml, hown, hts⟩
  have hl : lv_has ls 3 [(0, .ref p0), (1, .int q)] := hl
  refine lv_aload_n hx hb dX4_takeBack_0 rfl (lv_at hl 0 rfl) ?_
  refine lv_iload_n hx hb dX4_takeBack_1 rfl (lv_at hl 1 rfl) ?_
  refine k_iF (va_runV (As := [.int q]) (rest := []) hF (c_X4_isStandingN l D I C Q p0 p1 p2 w0 w1 w2 pn us wd kp tl tk q hq _) (cwV 1 hts gX4_takeBack_X4_isStanding rfl rfl rfl (by decide +kernel) ⟨Nat.le_of_ble_eq_true rfl, Nat.le_of_ble_eq_true rfl⟩) (kPreV hE hP hD (ci := 4) (q0 := 0) rfl rfl) rfl rfl hl.1 rfl (lv_room (Nat.le_of_ble_eq_true rfl)) dX4_takeBack_2 ⟨Nat.zero_le _, Nat.zero_le _⟩) hD hS hA (fun H locs hP hD hS => ?_)
  refine lv_if_eq (tgt := 68) hx hb dX4_takeBack_5 (by decide) (fun c_5 => ?_) (fun c_5 => ?_)
  · exact hend _ _ _ _ _ hP hD hS dX4_takeBack_68 rfl
  · exact (c_5 (by decide)).elim
