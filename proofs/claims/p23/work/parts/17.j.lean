set_option maxHeartbeats 400000 in
set_option maxRecDepth 100000 in
theorem c_X4_add (l : Launch) (D : va_G) (I C Q : ClassId) (p0 p1 p2 w0 w1 w2 : Nat) (pn : Nat → Int32) (u : Nat) (wd : Nat → Int32) (kp : Int32) (tl : Int32) (tk : Int32) (q : Int32) (key : Int32) (am : Int32) (hu64 : u ≤ 64) (hcap : ¬ p_rk pn q u < u → u < 64) : KV l D (tyL I C Q) yX4_add wsX4_add { frames := 3, cells := 0, slots := 0, locals := 86 } [.ref p0, .int q, .int key, .int am] (wPn I p0 p1 p2 w0 w1 w2 pn (nI u) wd kp tl tk) (wPn I p0 p1 p2 w0 w1 w2 (p_add (p_mp pn q u) (p_mr pn q u) key am) (nI (p_mu pn q u)) wd kp tl tk) := by
  have hmr := p_mr_lt hu64 hcap
  refine KV.of (cc := cX4_add) (maxL := 5) (own := RX4) (by decide) rfl rfl (Nat.le_of_ble_eq_true rfl) ?_
  intro p e s m below meth c A Q0 ls hx hb hml hown hts hE hA hP hD hS hl hend
  have hK := hE.1
  have hF : CallFix p m c cX4_add 5 s [.ref p0, .int q, .int key, .int am].toArray wsX4_add RX4 := ⟨hx, hb, hml, hown, hts⟩
  have k0 := hts (.fieldLink RX4 16 "LateExcuses$Panes" "rows" "LLateExcuses$Table;") (List.mem_of_getElem? (i := 1) rfl)
  have u4 : ∀ w ∈ u_ws RX4 TX4 3, w ∈ wsX4_add := by decide +kernel
  have hl : lv_has ls 5 [(0, .ref p0), (1, .int q), (2, .int key), (3, .int am)] := hl
  refine lv_aload_n hx hb dX4_add_0 rfl (lv_at hl 0 rfl) ?_
  refine lv_iload_n hx hb dX4_add_1 rfl (lv_at hl 1 rfl) ?_
  refine k_iF (va_runV (As := [.int q]) (rest := []) hF (c_X4_rowMadeFor l D I C Q p0 p1 p2 w0 w1 w2 pn u wd kp tl tk q hu64 hcap _) (cwV 1 hts gX4_add_X4_rowMadeFor rfl rfl rfl (by decide +kernel) ⟨Nat.le_of_ble_eq_true rfl, Nat.le_of_ble_eq_true rfl⟩) (kPreV hE hP hD (ci := 4) (q0 := 0) rfl rfl) rfl rfl hl.1 rfl (lv_room (Nat.le_of_ble_eq_true rfl)) dX4_add_2 ⟨Nat.zero_le _, Nat.zero_le _⟩) hD hS hA (fun H locs hP hD hS => ?_)
  have hP : va_P D vwCl (wPn I p0 p1 p2 w0 w1 w2 (p_mp pn q u) (nI (p_mu pn q u)) wd kp tl tk) H := hP
  have hD : va_D A (wPn I p0 p1 p2 w0 w1 w2 (p_mp pn q u) (nI (p_mu pn q u)) wd kp tl tk) := hD
  refine lv_istore (lv' := [(4, .int (nI (p_mr pn q u))), (0, .ref p0), (1, .int q), (2, .int key), (3, .int am)]) hx hb dX4_add_5 hl (by decide) rfl (fun ls hl => ?_)
  refine lv_aload_n hx hb dX4_add_7 rfl (lv_at hl 1 rfl) ?_
  refine va_get (D := D) (ci := 4) (v := .ref p1) (C := RX4) (T := TX4) (N := 3) hx hb hts u4 hown hK hP 0 rfl rfl 0 (by decide) k0 (fun _ h9 => h9) rfl dX4_add_8 ?_
  refine lv_iload hx hb dX4_add_11 (lv_at hl 0 rfl) ?_
  refine lv_iconst (v := 1) hx hb dX4_add_13 (by decide) ?_
  refine lv_aload_n hx hb dX4_add_14 rfl (lv_at hl 1 rfl) ?_
  refine va_get (D := D) (ci := 4) (v := .ref p1) (C := RX4) (T := TX4) (N := 3) hx hb hts u4 hown hK hP 0 rfl rfl 0 (by decide) k0 (fun _ h9 => h9) rfl dX4_add_15 ?_
  refine lv_iload hx hb dX4_add_18 (lv_at hl 0 rfl) ?_
  refine lv_iconst (v := 1) hx hb dX4_add_20 (by decide) ?_
  have hPc := hP.sub (ws' := (wT I p1 p2 64 8 (p_mp pn q u))) [1, 2] rfl
  have hDc := hD.sub (ws' := (wT I p1 p2 64 8 (p_mp pn q u))) [1, 2] (by decide) rfl
  refine k_i (wr := [(p0, .inr (4, [.ref p1, .ref w0, .int (nI (p_mu pn q u))])), (w0, .inr (7, [.ref w1, .int kp, .int tl, .int tk])), (w1, .inr (5, [.int (nI 40), .int (nI 4), .ref w2])), (w2, .inl (I, 40 * 4, .inl wd))]) (ws' := (wPn I p0 p1 p2 w0 w1 w2 (p_mp pn q u) (nI (p_mu pn q u)) wd kp tl tk)) (va_runV (As := [.int (nI (p_mr pn q u)), .int 1]) (rest := [.int 1, .int (nI (p_mr pn q u)), .ref p1]) hF (c_X5_get l D I C Q p1 p2 64 8 (p_mp pn q u) (p_mr pn q u) 1 (by omega) (by omega) (by omega) (by omega) (by omega) _) (cwV 2 hts gX4_add_X5_get rfl rfl rfl (by decide +kernel) ⟨Nat.le_of_ble_eq_true rfl, Nat.le_of_ble_eq_true rfl⟩) (kPreV hE hPc hDc (ci := 5) (q0 := 0) rfl rfl) rfl rfl hl.1 rfl (lv_room (Nat.le_of_ble_eq_true rfl)) dX4_add_21 ⟨Nat.zero_le _, Nat.zero_le _⟩) hP hD hS hA [1, 2] [0, 3, 4, 5] [0, 4, 5, 1, 2, 3] rfl rfl (by decide) (by decide) rfl (by decide) (fun H locs hP hD hS => ?_)
  refine lv_iconst (v := 1) hx hb dX4_add_24 (by decide) ?_
  refine lv_iadd hx hb dX4_add_25 ?_
  have hPc := hP.sub (ws' := (wT I p1 p2 64 8 (p_mp pn q u))) [1, 2] rfl
  have hDc := hD.sub (ws' := (wT I p1 p2 64 8 (p_mp pn q u))) [1, 2] (by decide) rfl
  refine k_v (wr := [(p0, .inr (4, [.ref p1, .ref w0, .int (nI (p_mu pn q u))])), (w0, .inr (7, [.ref w1, .int kp, .int tl, .int tk])), (w1, .inr (5, [.int (nI 40), .int (nI 4), .ref w2])), (w2, .inl (I, 40 * 4, .inl wd))]) (ws' := (wPn I p0 p1 p2 w0 w1 w2 (upd (p_mp pn q u) ((p_mr pn q u) * 8 + 1) (((p_mp pn q u) ((p_mr pn q u) * 8 + 1)) + 1)) (nI (p_mu pn q u)) wd kp tl tk)) (va_runV (As := [.int (nI (p_mr pn q u)), .int 1, .int (((p_mp pn q u) ((p_mr pn q u) * 8 + 1)) + 1)]) (rest := []) hF (c_X5_put l D I C Q p1 p2 64 8 (p_mp pn q u) (p_mr pn q u) 1 (((p_mp pn q u) ((p_mr pn q u) * 8 + 1)) + 1) (by omega) (by omega) (by omega) (by omega) (by omega) _) (cwV 3 hts gX4_add_X5_put rfl rfl rfl (by decide +kernel) ⟨Nat.le_of_ble_eq_true rfl, Nat.le_of_ble_eq_true rfl⟩) (kPreV hE hPc hDc (ci := 5) (q0 := 0) rfl rfl) rfl rfl hl.1 rfl (lv_room (Nat.le_of_ble_eq_true rfl)) dX4_add_26 ⟨Nat.zero_le _, Nat.zero_le _⟩) hP hD hS hA [1, 2] [0, 3, 4, 5] [0, 4, 5, 1, 2, 3] rfl rfl (by decide) (by decide) rfl (by decide) (fun H locs hP hD hS => ?_)
  refine lv_aload_n hx hb dX4_add_29 rfl (lv_at hl 1 rfl) ?_
  refine va_get (D := D) (ci := 4) (v := .ref p1) (C := RX4) (T := TX4) (N := 3) hx hb hts u4 hown hK hP 0 rfl rfl 0 (by decide) k0 (fun _ h9 => h9) rfl dX4_add_30 ?_
  refine lv_iload hx hb dX4_add_33 (lv_at hl 0 rfl) ?_
  refine lv_iconst (v := 2) hx hb dX4_add_35 (by decide) ?_
  refine lv_aload_n hx hb dX4_add_36 rfl (lv_at hl 1 rfl) ?_
  refine va_get (D := D) (ci := 4) (v := .ref p1) (C := RX4) (T := TX4) (N := 3) hx hb hts u4 hown hK hP 0 rfl rfl 0 (by decide) k0 (fun _ h9 => h9) rfl dX4_add_37 ?_
  refine lv_iload hx hb dX4_add_40 (lv_at hl 0 rfl) ?_
  refine lv_iconst (v := 2) hx hb dX4_add_42 (by decide) ?_
  have hPc := hP.sub (ws' := (wT I p1 p2 64 8 (upd (p_mp pn q u) ((p_mr pn q u) * 8 + 1) (((p_mp pn q u) ((p_mr pn q u) * 8 + 1)) + 1)))) [1, 2] rfl
  have hDc := hD.sub (ws' := (wT I p1 p2 64 8 (upd (p_mp pn q u) ((p_mr pn q u) * 8 + 1) (((p_mp pn q u) ((p_mr pn q u) * 8 + 1)) + 1)))) [1, 2] (by decide) rfl
  refine k_i (wr := [(p0, .inr (4, [.ref p1, .ref w0, .int (nI (p_mu pn q u))])), (w0, .inr (7, [.ref w1, .int kp, .int tl, .int tk])), (w1, .inr (5, [.int (nI 40), .int (nI 4), .ref w2])), (w2, .inl (I, 40 * 4, .inl wd))]) (ws' := (wPn I p0 p1 p2 w0 w1 w2 (upd (p_mp pn q u) ((p_mr pn q u) * 8 + 1) (((p_mp pn q u) ((p_mr pn q u) * 8 + 1)) + 1)) (nI (p_mu pn q u)) wd kp tl tk)) (va_runV (As := [.int (nI (p_mr pn q u)), .int 2]) (rest := [.int 2, .int (nI (p_mr pn q u)), .ref p1]) hF (c_X5_get l D I C Q p1 p2 64 8 (upd (p_mp pn q u) ((p_mr pn q u) * 8 + 1) (((p_mp pn q u) ((p_mr pn q u) * 8 + 1)) + 1)) (p_mr pn q u) 2 (by omega) (by omega) (by omega) (by omega) (by omega) _) (cwV 2 hts gX4_add_X5_get rfl rfl rfl (by decide +kernel) ⟨Nat.le_of_ble_eq_true rfl, Nat.le_of_ble_eq_true rfl⟩) (kPreV hE hPc hDc (ci := 5) (q0 := 0) rfl rfl) rfl rfl hl.1 rfl (lv_room (Nat.le_of_ble_eq_true rfl)) dX4_add_43 ⟨Nat.zero_le _, Nat.zero_le _⟩) hP hD hS hA [1, 2] [0, 3, 4, 5] [0, 4, 5, 1, 2, 3] rfl rfl (by decide) (by decide) rfl (by decide) (fun H locs hP hD hS => ?_)
  refine k_top (y := (p_mp pn q u) ((p_mr pn q u) * 8 + 2)) (pk_un (by omega)) ?_
  refine lv_iload_n hx hb dX4_add_46 rfl (lv_at hl 4 rfl) ?_
  refine lv_iadd hx hb dX4_add_47 ?_
  have hPc := hP.sub (ws' := (wT I p1 p2 64 8 (upd (p_mp pn q u) ((p_mr pn q u) * 8 + 1) (((p_mp pn q u) ((p_mr pn q u) * 8 + 1)) + 1)))) [1, 2] rfl
  have hDc := hD.sub (ws' := (wT I p1 p2 64 8 (upd (p_mp pn q u) ((p_mr pn q u) * 8 + 1) (((p_mp pn q u) ((p_mr pn q u) * 8 + 1)) + 1)))) [1, 2] (by decide) rfl
  refine k_v (wr := [(p0, .inr (4, [.ref p1, .ref w0, .int (nI (p_mu pn q u))])), (w0, .inr (7, [.ref w1, .int kp, .int tl, .int tk])), (w1, .inr (5, [.int (nI 40), .int (nI 4), .ref w2])), (w2, .inl (I, 40 * 4, .inl wd))]) (ws' := (wPn I p0 p1 p2 w0 w1 w2 (upd (upd (p_mp pn q u) ((p_mr pn q u) * 8 + 1) (((p_mp pn q u) ((p_mr pn q u) * 8 + 1)) + 1)) ((p_mr pn q u) * 8 + 2) (((p_mp pn q u) ((p_mr pn q u) * 8 + 2)) + am)) (nI (p_mu pn q u)) wd kp tl tk)) (va_runV (As := [.int (nI (p_mr pn q u)), .int 2, .int (((p_mp pn q u) ((p_mr pn q u) * 8 + 2)) + am)]) (rest := []) hF (c_X5_put l D I C Q p1 p2 64 8 (upd (p_mp pn q u) ((p_mr pn q u) * 8 + 1) (((p_mp pn q u) ((p_mr pn q u) * 8 + 1)) + 1)) (p_mr pn q u) 2 (((p_mp pn q u) ((p_mr pn q u) * 8 + 2)) + am) (by omega) (by omega) (by omega) (by omega) (by omega) _) (cwV 3 hts gX4_add_X5_put rfl rfl rfl (by decide +kernel) ⟨Nat.le_of_ble_eq_true rfl, Nat.le_of_ble_eq_true rfl⟩) (kPreV hE hPc hDc (ci := 5) (q0 := 0) rfl rfl) rfl rfl hl.1 rfl (lv_room (Nat.le_of_ble_eq_true rfl)) dX4_add_48 ⟨Nat.zero_le _, Nat.zero_le _⟩) hP hD hS hA [1, 2] [0, 3, 4, 5] [0, 4, 5, 1, 2, 3] rfl rfl (by decide) (by decide) rfl (by decide) (fun H locs hP hD hS => ?_)
  refine lv_aload_n hx hb dX4_add_51 rfl (lv_at hl 1 rfl) ?_
  refine va_get (D := D) (ci := 4) (v := .ref p1) (C := RX4) (T := TX4) (N := 3) hx hb hts u4 hown hK hP 0 rfl rfl 0 (by decide) k0 (fun _ h9 => h9) rfl dX4_add_52 ?_
  refine lv_iload hx hb dX4_add_55 (lv_at hl 0 rfl) ?_
  refine lv_iconst (v := 3) hx hb dX4_add_57 (by decide) ?_
  refine lv_aload_n hx hb dX4_add_58 rfl (lv_at hl 1 rfl) ?_
  refine va_get (D := D) (ci := 4) (v := .ref p1) (C := RX4) (T := TX4) (N := 3) hx hb hts u4 hown hK hP 0 rfl rfl 0 (by decide) k0 (fun _ h9 => h9) rfl dX4_add_59 ?_
  refine lv_iload hx hb dX4_add_62 (lv_at hl 0 rfl) ?_
  refine lv_iconst (v := 3) hx hb dX4_add_64 (by decide) ?_
  have hPc := hP.sub (ws' := (wT I p1 p2 64 8 (upd (upd (p_mp pn q u) ((p_mr pn q u) * 8 + 1) (((p_mp pn q u) ((p_mr pn q u) * 8 + 1)) + 1)) ((p_mr pn q u) * 8 + 2) (((p_mp pn q u) ((p_mr pn q u) * 8 + 2)) + am)))) [1, 2] rfl
  have hDc := hD.sub (ws' := (wT I p1 p2 64 8 (upd (upd (p_mp pn q u) ((p_mr pn q u) * 8 + 1) (((p_mp pn q u) ((p_mr pn q u) * 8 + 1)) + 1)) ((p_mr pn q u) * 8 + 2) (((p_mp pn q u) ((p_mr pn q u) * 8 + 2)) + am)))) [1, 2] (by decide) rfl
  refine k_i (wr := [(p0, .inr (4, [.ref p1, .ref w0, .int (nI (p_mu pn q u))])), (w0, .inr (7, [.ref w1, .int kp, .int tl, .int tk])), (w1, .inr (5, [.int (nI 40), .int (nI 4), .ref w2])), (w2, .inl (I, 40 * 4, .inl wd))]) (ws' := (wPn I p0 p1 p2 w0 w1 w2 (upd (upd (p_mp pn q u) ((p_mr pn q u) * 8 + 1) (((p_mp pn q u) ((p_mr pn q u) * 8 + 1)) + 1)) ((p_mr pn q u) * 8 + 2) (((p_mp pn q u) ((p_mr pn q u) * 8 + 2)) + am)) (nI (p_mu pn q u)) wd kp tl tk)) (va_runV (As := [.int (nI (p_mr pn q u)), .int 3]) (rest := [.int 3, .int (nI (p_mr pn q u)), .ref p1]) hF (c_X5_get l D I C Q p1 p2 64 8 (upd (upd (p_mp pn q u) ((p_mr pn q u) * 8 + 1) (((p_mp pn q u) ((p_mr pn q u) * 8 + 1)) + 1)) ((p_mr pn q u) * 8 + 2) (((p_mp pn q u) ((p_mr pn q u) * 8 + 2)) + am)) (p_mr pn q u) 3 (by omega) (by omega) (by omega) (by omega) (by omega) _) (cwV 2 hts gX4_add_X5_get rfl rfl rfl (by decide +kernel) ⟨Nat.le_of_ble_eq_true rfl, Nat.le_of_ble_eq_true rfl⟩) (kPreV hE hPc hDc (ci := 5) (q0 := 0) rfl rfl) rfl rfl hl.1 rfl (lv_room (Nat.le_of_ble_eq_true rfl)) dX4_add_65 ⟨Nat.zero_le _, Nat.zero_le _⟩) hP hD hS hA [1, 2] [0, 3, 4, 5] [0, 4, 5, 1, 2, 3] rfl rfl (by decide) (by decide) rfl (by decide) (fun H locs hP hD hS => ?_)
  refine k_top (y := (p_mp pn q u) ((p_mr pn q u) * 8 + 3)) ((pk_un (by omega)).trans (pk_un (by omega))) ?_
  refine lv_iconst (v := 1) hx hb dX4_add_68 (by decide) ?_
  refine lv_iload_n hx hb dX4_add_69 rfl (lv_at hl 3 rfl) ?_
  refine lv_ishl hx hb dX4_add_70 ?_
  refine lv_ior hx hb dX4_add_71 ?_
  have hPc := hP.sub (ws' := (wT I p1 p2 64 8 (upd (upd (p_mp pn q u) ((p_mr pn q u) * 8 + 1) (((p_mp pn q u) ((p_mr pn q u) * 8 + 1)) + 1)) ((p_mr pn q u) * 8 + 2) (((p_mp pn q u) ((p_mr pn q u) * 8 + 2)) + am)))) [1, 2] rfl
  have hDc := hD.sub (ws' := (wT I p1 p2 64 8 (upd (upd (p_mp pn q u) ((p_mr pn q u) * 8 + 1) (((p_mp pn q u) ((p_mr pn q u) * 8 + 1)) + 1)) ((p_mr pn q u) * 8 + 2) (((p_mp pn q u) ((p_mr pn q u) * 8 + 2)) + am)))) [1, 2] (by decide) rfl
  refine k_v (wr := [(p0, .inr (4, [.ref p1, .ref w0, .int (nI (p_mu pn q u))])), (w0, .inr (7, [.ref w1, .int kp, .int tl, .int tk])), (w1, .inr (5, [.int (nI 40), .int (nI 4), .ref w2])), (w2, .inl (I, 40 * 4, .inl wd))]) (ws' := (wPn I p0 p1 p2 w0 w1 w2 (upd (upd (upd (p_mp pn q u) ((p_mr pn q u) * 8 + 1) (((p_mp pn q u) ((p_mr pn q u) * 8 + 1)) + 1)) ((p_mr pn q u) * 8 + 2) (((p_mp pn q u) ((p_mr pn q u) * 8 + 2)) + am)) ((p_mr pn q u) * 8 + 3) (((p_mp pn q u) ((p_mr pn q u) * 8 + 3)) ||| ((1 : Int32) <<< (key &&& 31)))) (nI (p_mu pn q u)) wd kp tl tk)) (va_runV (As := [.int (nI (p_mr pn q u)), .int 3, .int (((p_mp pn q u) ((p_mr pn q u) * 8 + 3)) ||| ((1 : Int32) <<< (key &&& 31)))]) (rest := []) hF (c_X5_put l D I C Q p1 p2 64 8 (upd (upd (p_mp pn q u) ((p_mr pn q u) * 8 + 1) (((p_mp pn q u) ((p_mr pn q u) * 8 + 1)) + 1)) ((p_mr pn q u) * 8 + 2) (((p_mp pn q u) ((p_mr pn q u) * 8 + 2)) + am)) (p_mr pn q u) 3 (((p_mp pn q u) ((p_mr pn q u) * 8 + 3)) ||| ((1 : Int32) <<< (key &&& 31))) (by omega) (by omega) (by omega) (by omega) (by omega) _) (cwV 3 hts gX4_add_X5_put rfl rfl rfl (by decide +kernel) ⟨Nat.le_of_ble_eq_true rfl, Nat.le_of_ble_eq_true rfl⟩) (kPreV hE hPc hDc (ci := 5) (q0 := 0) rfl rfl) rfl rfl hl.1 rfl (lv_room (Nat.le_of_ble_eq_true rfl)) dX4_add_72 ⟨Nat.zero_le _, Nat.zero_le _⟩) hP hD hS hA [1, 2] [0, 3, 4, 5] [0, 4, 5, 1, 2, 3] rfl rfl (by decide) (by decide) rfl (by decide) (fun H locs hP hD hS => ?_)
  exact hend _ _ _ _ _ hP hD hS dX4_add_75 rfl
set_option maxHeartbeats 400000 in
set_option maxRecDepth 100000 in
theorem c_X4_reopen (l : Launch) (D : va_G) (I C Q : ClassId) (p0 p1 p2 w0 w1 w2 : Nat) (pn : Nat → Int32) (u : Nat) (wd : Nat → Int32) (w : Nat) (tl : Int32) (tk : Int32) (q : Int32) (ca : Int32) (hu64 : u ≤ 64) (hw40 : w ≤ 40) (hcap : ¬ p_rk pn q u < u → u < 64) : KV l D (tyL I C Q) yX4_reopen wsX4_reopen { frames := 4, cells := 0, slots := 0, locals := 106 } [.ref p0, .int q, .int ca] (wPn I p0 p1 p2 w0 w1 w2 pn (nI u) wd (nI w) tl tk) (wPn I p0 p1 p2 w0 w1 w2 ((c_reo (pn, wd, w, tk) u q ca).1) (nI (p_mu pn q u)) ((c_reo (pn, wd, w, tk) u q ca).2.1) (nI (c_reo (pn, wd, w, tk) u q ca).2.2.1) tl ((c_reo (pn, wd, w, tk) u q ca).2.2.2)) := by
  have hmr := p_mr_lt hu64 hcap
  refine KV.of (cc := cX4_reopen) (maxL := 4) (own := RX4) (by decide) rfl rfl (Nat.le_of_ble_eq_true rfl) ?_
  intro p e s m below meth c A Q0 ls hx hb hml hown hts hE hA hP hD hS hl hend
  have hK := hE.1
  have hF : CallFix p m c cX4_reopen 4 s [.ref p0, .int q, .int ca].toArray wsX4_reopen RX4 := ⟨hx, hb, hml, hown, hts⟩
  have k0 := hts (.fieldLink RX4 16 "LateExcuses$Panes" "rows" "LLateExcuses$Table;") (List.mem_of_getElem? (i := 1) rfl)
  have u4 : ∀ w ∈ u_ws RX4 TX4 3, w ∈ wsX4_reopen := by decide +kernel
  have hl : lv_has ls 4 [(0, .ref p0), (1, .int q), (2, .int ca)] := hl
  refine lv_aload_n hx hb dX4_reopen_0 rfl (lv_at hl 0 rfl) ?_
  refine lv_iload_n hx hb dX4_reopen_1 rfl (lv_at hl 1 rfl) ?_
  refine k_iF (va_runV (As := [.int q]) (rest := []) hF (c_X4_rowMadeFor l D I C Q p0 p1 p2 w0 w1 w2 pn u wd (nI w) tl tk q hu64 hcap _) (cwV 1 hts gX4_reopen_X4_rowMadeFor rfl rfl rfl (by decide +kernel) ⟨Nat.le_of_ble_eq_true rfl, Nat.le_of_ble_eq_true rfl⟩) (kPreV hE hP hD (ci := 4) (q0 := 0) rfl rfl) rfl rfl hl.1 rfl (lv_room (Nat.le_of_ble_eq_true rfl)) dX4_reopen_2 ⟨Nat.zero_le _, Nat.zero_le _⟩) hD hS hA (fun H locs hP hD hS => ?_)
  have hP : va_P D vwCl (wPn I p0 p1 p2 w0 w1 w2 (p_mp pn q u) (nI (p_mu pn q u)) wd (nI w) tl tk) H := hP
  have hD : va_D A (wPn I p0 p1 p2 w0 w1 w2 (p_mp pn q u) (nI (p_mu pn q u)) wd (nI w) tl tk) := hD
  refine lv_istore_n (lv' := [(3, .int (nI (p_mr pn q u))), (0, .ref p0), (1, .int q), (2, .int ca)]) hx hb dX4_reopen_5 rfl hl (by decide) rfl (fun ls hl => ?_)
  refine lv_aload_n hx hb dX4_reopen_6 rfl (lv_at hl 1 rfl) ?_
  refine lv_iload_n hx hb dX4_reopen_7 rfl (lv_at hl 0 rfl) ?_
  by_cases hst : p_st (p_mp pn q u) (p_mr pn q u) = 0
  · refine k_vF (va_runV (As := [.int (nI (p_mr pn q u))]) (rest := []) hF (c_X4_takeBackN l D I C Q p0 p1 p2 w0 w1 w2 (p_mp pn q u) (nI (p_mu pn q u)) wd (nI w) tl tk (p_mr pn q u) (by omega) hst _) (cwV 1 hts gX4_reopen_X4_takeBack rfl rfl rfl (by decide +kernel) ⟨Nat.le_of_ble_eq_true rfl, Nat.le_of_ble_eq_true rfl⟩) (kPreV hE hP hD (ci := 4) (q0 := 0) rfl rfl) rfl rfl hl.1 rfl (lv_room (Nat.le_of_ble_eq_true rfl)) dX4_reopen_8 ⟨Nat.zero_le _, Nat.zero_le _⟩) hD hS hA (fun H locs hP hD hS => ?_)
    refine lv_aload_n hx hb dX4_reopen_11 rfl (lv_at hl 1 rfl) ?_
    refine va_get (D := D) (ci := 4) (v := .ref p1) (C := RX4) (T := TX4) (N := 3) hx hb hts u4 hown hK hP 0 rfl rfl 0 (by decide) k0 (fun _ h9 => h9) rfl dX4_reopen_12 ?_
    refine lv_iload_n hx hb dX4_reopen_15 rfl (lv_at hl 0 rfl) ?_
    refine lv_iconst (v := 0) hx hb dX4_reopen_16 (by decide) ?_
    refine lv_iconst (v := 2) hx hb dX4_reopen_17 (by decide) ?_
    have hPc := hP.sub (ws' := (wT I p1 p2 64 8 (p_mp pn q u))) [1, 2] rfl
    have hDc := hD.sub (ws' := (wT I p1 p2 64 8 (p_mp pn q u))) [1, 2] (by decide) rfl
    refine k_v (wr := [(p0, .inr (4, [.ref p1, .ref w0, .int (nI (p_mu pn q u))])), (w0, .inr (7, [.ref w1, .int (nI w), .int tl, .int tk])), (w1, .inr (5, [.int (nI 40), .int (nI 4), .ref w2])), (w2, .inl (I, 40 * 4, .inl wd))]) (ws' := (wPn I p0 p1 p2 w0 w1 w2 (upd (p_mp pn q u) ((p_mr pn q u) * 8 + 0) 2) (nI (p_mu pn q u)) wd (nI w) tl tk)) (va_runV (As := [.int (nI (p_mr pn q u)), .int 0, .int 2]) (rest := []) hF (c_X5_put l D I C Q p1 p2 64 8 (p_mp pn q u) (p_mr pn q u) 0 2 (by omega) (by omega) (by omega) (by omega) (by omega) _) (cwV 3 hts gX4_reopen_X5_put rfl rfl rfl (by decide +kernel) ⟨Nat.le_of_ble_eq_true rfl, Nat.le_of_ble_eq_true rfl⟩) (kPreV hE hPc hDc (ci := 5) (q0 := 0) rfl rfl) rfl rfl hl.1 rfl (lv_room (Nat.le_of_ble_eq_true rfl)) dX4_reopen_18 ⟨Nat.zero_le _, Nat.zero_le _⟩) hP hD hS hA [1, 2] [0, 3, 4, 5] [0, 4, 5, 1, 2, 3] rfl rfl (by decide) (by decide) rfl (by decide) (fun H locs hP hD hS => ?_)
    refine lv_aload_n hx hb dX4_reopen_21 rfl (lv_at hl 1 rfl) ?_
    refine va_get (D := D) (ci := 4) (v := .ref p1) (C := RX4) (T := TX4) (N := 3) hx hb hts u4 hown hK hP 0 rfl rfl 0 (by decide) k0 (fun _ h9 => h9) rfl dX4_reopen_22 ?_
    refine lv_iload_n hx hb dX4_reopen_25 rfl (lv_at hl 0 rfl) ?_
    refine lv_iconst (v := 4) hx hb dX4_reopen_26 (by decide) ?_
    refine lv_iload_n hx hb dX4_reopen_27 rfl (lv_at hl 3 rfl) ?_
    have hPc := hP.sub (ws' := (wT I p1 p2 64 8 (upd (p_mp pn q u) ((p_mr pn q u) * 8 + 0) 2))) [1, 2] rfl
    have hDc := hD.sub (ws' := (wT I p1 p2 64 8 (upd (p_mp pn q u) ((p_mr pn q u) * 8 + 0) 2))) [1, 2] (by decide) rfl
    refine k_v (wr := [(p0, .inr (4, [.ref p1, .ref w0, .int (nI (p_mu pn q u))])), (w0, .inr (7, [.ref w1, .int (nI w), .int tl, .int tk])), (w1, .inr (5, [.int (nI 40), .int (nI 4), .ref w2])), (w2, .inl (I, 40 * 4, .inl wd))]) (ws' := (wPn I p0 p1 p2 w0 w1 w2 (upd (upd (p_mp pn q u) ((p_mr pn q u) * 8 + 0) 2) ((p_mr pn q u) * 8 + 4) ca) (nI (p_mu pn q u)) wd (nI w) tl tk)) (va_runV (As := [.int (nI (p_mr pn q u)), .int 4, .int ca]) (rest := []) hF (c_X5_put l D I C Q p1 p2 64 8 (upd (p_mp pn q u) ((p_mr pn q u) * 8 + 0) 2) (p_mr pn q u) 4 ca (by omega) (by omega) (by omega) (by omega) (by omega) _) (cwV 3 hts gX4_reopen_X5_put rfl rfl rfl (by decide +kernel) ⟨Nat.le_of_ble_eq_true rfl, Nat.le_of_ble_eq_true rfl⟩) (kPreV hE hPc hDc (ci := 5) (q0 := 0) rfl rfl) rfl rfl hl.1 rfl (lv_room (Nat.le_of_ble_eq_true rfl)) dX4_reopen_28 ⟨Nat.zero_le _, Nat.zero_le _⟩) hP hD hS hA [1, 2] [0, 3, 4, 5] [0, 4, 5, 1, 2, 3] rfl rfl (by decide) (by decide) rfl (by decide) (fun H locs hP hD hS => ?_)
    exact hend _ _ _ _ _ hP hD hS dX4_reopen_31 (by simp only [c_reo, p_take, if_pos hst])
  · refine k_vF (va_runV (As := [.int (nI (p_mr pn q u))]) (rest := []) hF (c_X4_takeBackY l D I C Q p0 p1 p2 w0 w1 w2 (p_mp pn q u) (nI (p_mu pn q u)) wd w tl tk (p_mr pn q u) hw40 (by omega) hst _) (cwV 1 hts gX4_reopen_X4_takeBack rfl rfl rfl (by decide +kernel) ⟨Nat.le_of_ble_eq_true rfl, Nat.le_of_ble_eq_true rfl⟩) (kPreV hE hP hD (ci := 4) (q0 := 0) rfl rfl) rfl rfl hl.1 rfl (lv_room (Nat.le_of_ble_eq_true rfl)) dX4_reopen_8 ⟨Nat.zero_le _, Nat.zero_le _⟩) hD hS hA (fun H locs hP hD hS => ?_)
    have hP : va_P D vwCl (wPn I p0 p1 p2 w0 w1 w2 (upd (p_mp pn q u) ((p_mr pn q u) * 8 + 6) ((p_mp pn q u) ((p_mr pn q u) * 8 + 6) + 1)) (nI (p_mu pn q u)) (w_add wd w 1 ((p_mp pn q u) ((p_mr pn q u) * 8 + 7)) ((p_mp pn q u) ((p_mr pn q u) * 8 + 1)) ((p_mp pn q u) ((p_mr pn q u) * 8 + 2))) (nI (w_n w)) tl (tk + 1)) H := hP
    have hD : va_D A (wPn I p0 p1 p2 w0 w1 w2 (upd (p_mp pn q u) ((p_mr pn q u) * 8 + 6) ((p_mp pn q u) ((p_mr pn q u) * 8 + 6) + 1)) (nI (p_mu pn q u)) (w_add wd w 1 ((p_mp pn q u) ((p_mr pn q u) * 8 + 7)) ((p_mp pn q u) ((p_mr pn q u) * 8 + 1)) ((p_mp pn q u) ((p_mr pn q u) * 8 + 2))) (nI (w_n w)) tl (tk + 1)) := hD
    refine lv_aload_n hx hb dX4_reopen_11 rfl (lv_at hl 1 rfl) ?_
    refine va_get (D := D) (ci := 4) (v := .ref p1) (C := RX4) (T := TX4) (N := 3) hx hb hts u4 hown hK hP 0 rfl rfl 0 (by decide) k0 (fun _ h9 => h9) rfl dX4_reopen_12 ?_
    refine lv_iload_n hx hb dX4_reopen_15 rfl (lv_at hl 0 rfl) ?_
    refine lv_iconst (v := 0) hx hb dX4_reopen_16 (by decide) ?_
    refine lv_iconst (v := 2) hx hb dX4_reopen_17 (by decide) ?_
    have hPc := hP.sub (ws' := (wT I p1 p2 64 8 (upd (p_mp pn q u) ((p_mr pn q u) * 8 + 6) ((p_mp pn q u) ((p_mr pn q u) * 8 + 6) + 1)))) [1, 2] rfl
    have hDc := hD.sub (ws' := (wT I p1 p2 64 8 (upd (p_mp pn q u) ((p_mr pn q u) * 8 + 6) ((p_mp pn q u) ((p_mr pn q u) * 8 + 6) + 1)))) [1, 2] (by decide) rfl
    refine k_v (wr := [(p0, .inr (4, [.ref p1, .ref w0, .int (nI (p_mu pn q u))])), (w0, .inr (7, [.ref w1, .int (nI (w_n w)), .int tl, .int (tk + 1)])), (w1, .inr (5, [.int (nI 40), .int (nI 4), .ref w2])), (w2, .inl (I, 40 * 4, .inl (w_add wd w 1 ((p_mp pn q u) ((p_mr pn q u) * 8 + 7)) ((p_mp pn q u) ((p_mr pn q u) * 8 + 1)) ((p_mp pn q u) ((p_mr pn q u) * 8 + 2)))))]) (ws' := (wPn I p0 p1 p2 w0 w1 w2 (upd (upd (p_mp pn q u) ((p_mr pn q u) * 8 + 6) ((p_mp pn q u) ((p_mr pn q u) * 8 + 6) + 1)) ((p_mr pn q u) * 8 + 0) 2) (nI (p_mu pn q u)) (w_add wd w 1 ((p_mp pn q u) ((p_mr pn q u) * 8 + 7)) ((p_mp pn q u) ((p_mr pn q u) * 8 + 1)) ((p_mp pn q u) ((p_mr pn q u) * 8 + 2))) (nI (w_n w)) tl (tk + 1))) (va_runV (As := [.int (nI (p_mr pn q u)), .int 0, .int 2]) (rest := []) hF (c_X5_put l D I C Q p1 p2 64 8 (upd (p_mp pn q u) ((p_mr pn q u) * 8 + 6) ((p_mp pn q u) ((p_mr pn q u) * 8 + 6) + 1)) (p_mr pn q u) 0 2 (by omega) (by omega) (by omega) (by omega) (by omega) _) (cwV 3 hts gX4_reopen_X5_put rfl rfl rfl (by decide +kernel) ⟨Nat.le_of_ble_eq_true rfl, Nat.le_of_ble_eq_true rfl⟩) (kPreV hE hPc hDc (ci := 5) (q0 := 0) rfl rfl) rfl rfl hl.1 rfl (lv_room (Nat.le_of_ble_eq_true rfl)) dX4_reopen_18 ⟨Nat.zero_le _, Nat.zero_le _⟩) hP hD hS hA [1, 2] [0, 3, 4, 5] [0, 4, 5, 1, 2, 3] rfl rfl (by decide) (by decide) rfl (by decide) (fun H locs hP hD hS => ?_)
    refine lv_aload_n hx hb dX4_reopen_21 rfl (lv_at hl 1 rfl) ?_
    refine va_get (D := D) (ci := 4) (v := .ref p1) (C := RX4) (T := TX4) (N := 3) hx hb hts u4 hown hK hP 0 rfl rfl 0 (by decide) k0 (fun _ h9 => h9) rfl dX4_reopen_22 ?_
    refine lv_iload_n hx hb dX4_reopen_25 rfl (lv_at hl 0 rfl) ?_
    refine lv_iconst (v := 4) hx hb dX4_reopen_26 (by decide) ?_
    refine lv_iload_n hx hb dX4_reopen_27 rfl (lv_at hl 3 rfl) ?_
    have hPc := hP.sub (ws' := (wT I p1 p2 64 8 (upd (upd (p_mp pn q u) ((p_mr pn q u) * 8 + 6) ((p_mp pn q u) ((p_mr pn q u) * 8 + 6) + 1)) ((p_mr pn q u) * 8 + 0) 2))) [1, 2] rfl
    have hDc := hD.sub (ws' := (wT I p1 p2 64 8 (upd (upd (p_mp pn q u) ((p_mr pn q u) * 8 + 6) ((p_mp pn q u) ((p_mr pn q u) * 8 + 6) + 1)) ((p_mr pn q u) * 8 + 0) 2))) [1, 2] (by decide) rfl
    refine k_v (wr := [(p0, .inr (4, [.ref p1, .ref w0, .int (nI (p_mu pn q u))])), (w0, .inr (7, [.ref w1, .int (nI (w_n w)), .int tl, .int (tk + 1)])), (w1, .inr (5, [.int (nI 40), .int (nI 4), .ref w2])), (w2, .inl (I, 40 * 4, .inl (w_add wd w 1 ((p_mp pn q u) ((p_mr pn q u) * 8 + 7)) ((p_mp pn q u) ((p_mr pn q u) * 8 + 1)) ((p_mp pn q u) ((p_mr pn q u) * 8 + 2)))))]) (ws' := (wPn I p0 p1 p2 w0 w1 w2 (upd (upd (upd (p_mp pn q u) ((p_mr pn q u) * 8 + 6) ((p_mp pn q u) ((p_mr pn q u) * 8 + 6) + 1)) ((p_mr pn q u) * 8 + 0) 2) ((p_mr pn q u) * 8 + 4) ca) (nI (p_mu pn q u)) (w_add wd w 1 ((p_mp pn q u) ((p_mr pn q u) * 8 + 7)) ((p_mp pn q u) ((p_mr pn q u) * 8 + 1)) ((p_mp pn q u) ((p_mr pn q u) * 8 + 2))) (nI (w_n w)) tl (tk + 1))) (va_runV (As := [.int (nI (p_mr pn q u)), .int 4, .int ca]) (rest := []) hF (c_X5_put l D I C Q p1 p2 64 8 (upd (upd (p_mp pn q u) ((p_mr pn q u) * 8 + 6) ((p_mp pn q u) ((p_mr pn q u) * 8 + 6) + 1)) ((p_mr pn q u) * 8 + 0) 2) (p_mr pn q u) 4 ca (by omega) (by omega) (by omega) (by omega) (by omega) _) (cwV 3 hts gX4_reopen_X5_put rfl rfl rfl (by decide +kernel) ⟨Nat.le_of_ble_eq_true rfl, Nat.le_of_ble_eq_true rfl⟩) (kPreV hE hPc hDc (ci := 5) (q0 := 0) rfl rfl) rfl rfl hl.1 rfl (lv_room (Nat.le_of_ble_eq_true rfl)) dX4_reopen_28 ⟨Nat.zero_le _, Nat.zero_le _⟩) hP hD hS hA [1, 2] [0, 3, 4, 5] [0, 4, 5, 1, 2, 3] rfl rfl (by decide) (by decide) rfl (by decide) (fun H locs hP hD hS => ?_)
    exact hend _ _ _ _ _ hP hD hS dX4_reopen_31 (by simp only [c_reo, p_take, if_neg hst])
set_option maxHeartbeats 400000 in
set_option maxRecDepth 100000 in
theorem c_X4_takeBackWord (l : Launch) (D : va_G) (I C Q : ClassId) (p0 p1 p2 w0 w1 w2 : Nat) (pn : Nat → Int32) (u : Nat) (wd : Nat → Int32) (w : Nat) (tl : Int32) (tk : Int32) (q : Int32) (hu64 : u ≤ 64) (hw40 : w ≤ 40) : KV l D (tyL I C Q) yX4_takeBackWord wsX4_takeBackWord { frames := 4, cells := 0, slots := 0, locals := 106 } [.ref p0, .int q] (wPn I p0 p1 p2 w0 w1 w2 pn (nI u) wd (nI w) tl tk) (wPn I p0 p1 p2 w0 w1 w2 ((p_takeQ (pn, wd, w, tk) q u).1) (nI u) ((p_takeQ (pn, wd, w, tk) q u).2.1) (nI (p_takeQ (pn, wd, w, tk) q u).2.2.1) tl ((p_takeQ (pn, wd, w, tk) q u).2.2.2)) := by
  refine KV.of (cc := cX4_takeBackWord) (maxL := 2) (own := RX4) (by decide) rfl rfl (Nat.le_of_ble_eq_true rfl) ?_
  intro p e s m below meth c A Q0 ls hx hb hml hown hts hE hA hP hD hS hl hend
  have hK := hE.1
  have hF : CallFix p m c cX4_takeBackWord 2 s [.ref p0, .int q].toArray wsX4_takeBackWord RX4 := ⟨hx, hb, hml, hown, hts⟩
  have hl : lv_has ls 2 [(0, .ref p0), (1, .int q)] := hl
  refine lv_aload_n hx hb dX4_takeBackWord_0 rfl (lv_at hl 0 rfl) ?_
  refine lv_aload_n hx hb dX4_takeBackWord_1 rfl (lv_at hl 0 rfl) ?_
  refine lv_iload_n hx hb dX4_takeBackWord_2 rfl (lv_at hl 1 rfl) ?_
  refine k_iF (va_runV (As := [.int q]) (rest := [.ref p0]) hF (c_X4_rowOf l D I C Q p0 p1 p2 w0 w1 w2 pn u wd (nI w) tl tk q hu64 _) (cwV 1 hts gX4_takeBackWord_X4_rowOf rfl rfl rfl (by decide +kernel) ⟨Nat.le_of_ble_eq_true rfl, Nat.le_of_ble_eq_true rfl⟩) (kPreV hE hP hD (ci := 4) (q0 := 0) rfl rfl) rfl rfl hl.1 rfl (lv_room (Nat.le_of_ble_eq_true rfl)) dX4_takeBackWord_3 ⟨Nat.zero_le _, Nat.zero_le _⟩) hD hS hA (fun H locs hP hD hS => ?_)
  rcases (show (p_rk pn q u < u ∧ p_st pn (p_rk pn q u) = 0) ∨ (p_rk pn q u < u ∧ ¬ p_st pn (p_rk pn q u) = 0) ∨ ¬ p_rk pn q u < u from (Classical.em (p_rk pn q u < u)).elim (fun h => (Classical.em (p_st pn (p_rk pn q u) = 0)).elim (fun g => Or.inl ⟨h, g⟩) (fun g => Or.inr (Or.inl ⟨h, g⟩))) (fun h => Or.inr (Or.inr h))) with ⟨hlt, hst⟩ | ⟨hlt, hst⟩ | hlt
  · refine k_top (if_pos hlt : p_row pn q u = _) ?_
    refine k_vF (va_runV (As := [.int (nI (p_rk pn q u))]) (rest := []) hF (c_X4_takeBackN l D I C Q p0 p1 p2 w0 w1 w2 pn (nI u) wd (nI w) tl tk (p_rk pn q u) (by omega) hst _) (cwV 1 hts gX4_takeBackWord_X4_takeBack rfl rfl rfl (by decide +kernel) ⟨Nat.le_of_ble_eq_true rfl, Nat.le_of_ble_eq_true rfl⟩) (kPreV hE hP hD (ci := 4) (q0 := 0) rfl rfl) rfl rfl hl.1 rfl (lv_room (Nat.le_of_ble_eq_true rfl)) dX4_takeBackWord_6 ⟨Nat.zero_le _, Nat.zero_le _⟩) hD hS hA (fun H locs hP hD hS => ?_)
    exact hend _ _ _ _ _ hP hD hS dX4_takeBackWord_9 (by simp only [p_takeQ, p_take, if_pos hlt, if_pos hst])
  · refine k_top (if_pos hlt : p_row pn q u = _) ?_
    refine k_vF (va_runV (As := [.int (nI (p_rk pn q u))]) (rest := []) hF (c_X4_takeBackY l D I C Q p0 p1 p2 w0 w1 w2 pn (nI u) wd w tl tk (p_rk pn q u) hw40 (by omega) hst _) (cwV 1 hts gX4_takeBackWord_X4_takeBack rfl rfl rfl (by decide +kernel) ⟨Nat.le_of_ble_eq_true rfl, Nat.le_of_ble_eq_true rfl⟩) (kPreV hE hP hD (ci := 4) (q0 := 0) rfl rfl) rfl rfl hl.1 rfl (lv_room (Nat.le_of_ble_eq_true rfl)) dX4_takeBackWord_6 ⟨Nat.zero_le _, Nat.zero_le _⟩) hD hS hA (fun H locs hP hD hS => ?_)
    have hP : va_P D vwCl (wPn I p0 p1 p2 w0 w1 w2 (upd pn ((p_rk pn q u) * 8 + 6) (pn ((p_rk pn q u) * 8 + 6) + 1)) (nI u) (w_add wd w 1 (pn ((p_rk pn q u) * 8 + 7)) (pn ((p_rk pn q u) * 8 + 1)) (pn ((p_rk pn q u) * 8 + 2))) (nI (w_n w)) tl (tk + 1)) H := hP
    have hD : va_D A (wPn I p0 p1 p2 w0 w1 w2 (upd pn ((p_rk pn q u) * 8 + 6) (pn ((p_rk pn q u) * 8 + 6) + 1)) (nI u) (w_add wd w 1 (pn ((p_rk pn q u) * 8 + 7)) (pn ((p_rk pn q u) * 8 + 1)) (pn ((p_rk pn q u) * 8 + 2))) (nI (w_n w)) tl (tk + 1)) := hD
    exact hend _ _ _ _ _ hP hD hS dX4_takeBackWord_9 (by simp only [p_takeQ, p_take, if_pos hlt, if_neg hst])
  · refine k_top (if_neg hlt : p_row pn q u = _) ?_
    refine k_vF (va_runV (As := [.int (-1)]) (rest := []) hF (c_X4_takeBackX l D I C Q p0 p1 p2 w0 w1 w2 pn (nI u) wd (nI w) tl tk (-1) (by decide) _) (cwV 1 hts gX4_takeBackWord_X4_takeBack rfl rfl rfl (by decide +kernel) ⟨Nat.le_of_ble_eq_true rfl, Nat.le_of_ble_eq_true rfl⟩) (kPreV hE hP hD (ci := 4) (q0 := 0) rfl rfl) rfl rfl hl.1 rfl (lv_room (Nat.le_of_ble_eq_true rfl)) dX4_takeBackWord_6 ⟨Nat.zero_le _, Nat.zero_le _⟩) hD hS hA (fun H locs hP hD hS => ?_)
    exact hend _ _ _ _ _ hP hD hS dX4_takeBackWord_9 (by simp only [p_takeQ, if_neg hlt])
set_option maxHeartbeats 400000 in
set_option maxRecDepth 100000 in
theorem c_X4_shutAndClose (l : Launch) (D : va_G) (I C Q : ClassId) (p0 p1 p2 w0 w1 w2 : Nat) (pn : Nat → Int32) (u : Nat) (wd : Nat → Int32) (w : Nat) (tl : Int32) (tk : Int32) (lb : Int32) (ls2 : Int32) (wm : Int32) (hu64 : u ≤ 64) (hw40 : w ≤ 40) : KV l D (tyL I C Q) yX4_shutAndClose wsX4_shutAndClose { frames := 4, cells := 0, slots := 0, locals := 106 } [.ref p0, .int lb, .int ls2, .int wm] (wPn I p0 p1 p2 w0 w1 w2 pn (nI u) wd (nI w) tl tk) (wPn I p0 p1 p2 w0 w1 w2 ((p_scR lb ls2 wm u (pn, wd, w, tl)).1) (nI u) ((p_scR lb ls2 wm u (pn, wd, w, tl)).2.1) (nI (p_scR lb ls2 wm u (pn, wd, w, tl)).2.2.1) ((p_scR lb ls2 wm u (pn, wd, w, tl)).2.2.2) tk) := by
  refine KV.of (cc := cX4_shutAndClose) (maxL := 6) (own := RX4) (by decide) rfl rfl (Nat.le_of_ble_eq_true rfl) ?_
  intro p e s m below meth c A Q0 ls hx hb hml hown hts hE hA hP hD hS hl hend
  have hK := hE.1
  have hF : CallFix p m c cX4_shutAndClose 6 s [.ref p0, .int lb, .int ls2, .int wm].toArray wsX4_shutAndClose RX4 := ⟨hx, hb, hml, hown, hts⟩
  have k0 := hts (.fieldLink RX4 34 "LateExcuses$Panes" "used" "I") (List.mem_of_getElem? (i := 1) rfl)
  have k1 := hts (.fieldLink RX4 16 "LateExcuses$Panes" "rows" "LLateExcuses$Table;") (List.mem_of_getElem? (i := 2) rfl)
  have k2 := hts (.static yX8_isWithin) (List.mem_of_getElem? (i := 11) rfl)
  have k3 := hts (.initialized RX8) (List.mem_of_getElem? (i := 12) rfl)
  have u4 : ∀ w ∈ u_ws RX4 TX4 3, w ∈ wsX4_shutAndClose := by decide +kernel
  have hl : lv_has ls 6 [(0, .ref p0), (1, .int lb), (2, .int ls2), (3, .int wm)] := hl
  refine lv_iconst (v := 0) hx hb dX4_shutAndClose_0 (by decide) ?_
  refine lv_istore (lv' := [(4, .int 0), (0, .ref p0), (1, .int lb), (2, .int ls2), (3, .int wm)]) hx hb dX4_shutAndClose_1 hl (by decide) rfl (fun ls hl => ?_)
  have loop3 : ∀ (n : Nat) (k : Nat) (S : PW), (k + n = u) → (S.2.2.1 ≤ 40) → ∀ (H : Heap) (locs : List Loc) (ls : Array Slot), va_P D vwCl (wPn I p0 p1 p2 w0 w1 w2 S.1 (nI u) S.2.1 (nI S.2.2.1) S.2.2.2 tk) H → va_D A (wPn I p0 p1 p2 w0 w1 w2 S.1 (nI u) S.2.1 (nI S.2.2.1) S.2.2.2 tk) → va_S A s.heap H locs → lv_has ls 6 [(0, .ref p0), (1, .int lb), (2, .int ls2), (3, .int wm), (4, .int (nI k))] → (p_scL lb ls2 wm n k S = (p_scR lb ls2 wm u (pn, wd, w, tl))) → W p l e ({ frames := 4, cells := 0, slots := 0, locals := 106 } : Room) s m [.ref p0, .int lb, .int ls2, .int wm].toArray below meth c H locs 0 0 Q0 (F0 m 3 ls []) := by
    intro n
    induction n with
    | zero =>
      intro k S hk hSw H locs ls hP hD hS hl hr
      refine lv_iload hx hb dX4_shutAndClose_3 (lv_at hl 4 rfl) ?_
      refine lv_aload_n hx hb dX4_shutAndClose_5 rfl (lv_at hl 0 rfl) ?_
      refine va_get (D := D) (ci := 4) (v := .int (nI u)) (C := RX4) (T := TX4) (N := 3) hx hb hts u4 hown hK hP 0 rfl rfl 2 (by decide) k0 (fun _ h9 => h9) rfl dX4_shutAndClose_6 ?_
      refine lv_icmp_ge (tgt := 102) hx hb dX4_shutAndClose_9 (by decide) (fun c_9 => ?_) (fun c_9 => ?_)
      · exact hend _ _ _ _ _ hP hD hS dX4_shutAndClose_102 (by rw [← hr]; rfl)
      · exact absurd ((nI_leI (a := u) (b := k) (by omega) (by omega)).mpr (by omega)) c_9
    | succ n ih =>
      intro k S hk hSw H locs ls hP hD hS hl hr
      refine lv_iload hx hb dX4_shutAndClose_3 (lv_at hl 4 rfl) ?_
      refine lv_aload_n hx hb dX4_shutAndClose_5 rfl (lv_at hl 0 rfl) ?_
      refine va_get (D := D) (ci := 4) (v := .int (nI u)) (C := RX4) (T := TX4) (N := 3) hx hb hts u4 hown hK hP 0 rfl rfl 2 (by decide) k0 (fun _ h9 => h9) rfl dX4_shutAndClose_6 ?_
      refine lv_icmp_ge (tgt := 102) hx hb dX4_shutAndClose_9 (by decide) (fun c_9 => ?_) (fun c_9 => ?_)
      · exact absurd ((nI_leI (a := u) (b := k) (by omega) (by omega)).mp c_9) (by omega)
      · refine lv_aload_n hx hb dX4_shutAndClose_12 rfl (lv_at hl 0 rfl) ?_
        refine va_get (D := D) (ci := 4) (v := .ref p1) (C := RX4) (T := TX4) (N := 3) hx hb hts u4 hown hK hP 0 rfl rfl 0 (by decide) k1 (fun _ h9 => h9) rfl dX4_shutAndClose_13 ?_
        refine lv_iload hx hb dX4_shutAndClose_16 (lv_at hl 4 rfl) ?_
        refine lv_iconst (v := 0) hx hb dX4_shutAndClose_18 (by decide) ?_
        have hPc := hP.sub (ws' := (wT I p1 p2 64 8 S.1)) [1, 2] rfl
        have hDc := hD.sub (ws' := (wT I p1 p2 64 8 S.1)) [1, 2] (by decide) rfl
        refine k_i (wr := [(p0, .inr (4, [.ref p1, .ref w0, .int (nI u)])), (w0, .inr (7, [.ref w1, .int (nI S.2.2.1), .int S.2.2.2, .int tk])), (w1, .inr (5, [.int (nI 40), .int (nI 4), .ref w2])), (w2, .inl (I, 40 * 4, .inl S.2.1))]) (ws' := (wPn I p0 p1 p2 w0 w1 w2 S.1 (nI u) S.2.1 (nI S.2.2.1) S.2.2.2 tk)) (va_runV (As := [.int (nI k), .int 0]) (rest := []) hF (c_X5_get l D I C Q p1 p2 64 8 S.1 k 0 (by omega) (by omega) (by omega) (by omega) (by omega) _) (cwV 2 hts gX4_shutAndClose_X5_get rfl rfl rfl (by decide +kernel) ⟨Nat.le_of_ble_eq_true rfl, Nat.le_of_ble_eq_true rfl⟩) (kPreV hE hPc hDc (ci := 5) (q0 := 0) rfl rfl) rfl rfl hl.1 rfl (lv_room (Nat.le_of_ble_eq_true rfl)) dX4_shutAndClose_19 ⟨Nat.zero_le _, Nat.zero_le _⟩) hP hD hS hA [1, 2] [0, 3, 4, 5] [0, 4, 5, 1, 2, 3] rfl rfl (by decide) (by decide) rfl (by decide) (fun H locs hP hD hS => ?_)
        refine lv_istore (lv' := [(5, .int (S.1 (k * 8 + 0))), (0, .ref p0), (1, .int lb), (2, .int ls2), (3, .int wm), (4, .int (nI k))]) hx hb dX4_shutAndClose_22 hl (by decide) rfl (fun ls hl => ?_)
        refine lv_iload hx hb dX4_shutAndClose_24 (lv_at hl 0 rfl) ?_
        refine lv_if_ne (tgt := 59) hx hb dX4_shutAndClose_26 (by decide) (fun c_26 => ?_) (fun c_26 => ?_)
        · refine lv_iload hx hb dX4_shutAndClose_59 (lv_at hl 0 rfl) ?_
          refine lv_iconst (v := 2) hx hb dX4_shutAndClose_61 (by decide) ?_
          refine lv_icmp_ne (tgt := 96) hx hb dX4_shutAndClose_62 (by decide) (fun c_62 => ?_) (fun c_62 => ?_)
          · have hst : (p_scstep lb ls2 wm S k) = (S.1, S.2.1, S.2.2.1, S.2.2.2) := by simp +decide only [p_scstep, p_tell, c_26, c_62, if_true, if_false, not_true_eq_false, not_false_eq_true, and_self, and_true, true_and, and_false, false_and, kn01, kn10, kn02, kn20, kn12, kn21, eq_self]
            have hP : va_P D vwCl (wPn I p0 p1 p2 w0 w1 w2 ((p_scstep lb ls2 wm S k).1) (nI u) ((p_scstep lb ls2 wm S k).2.1) (nI (p_scstep lb ls2 wm S k).2.2.1) ((p_scstep lb ls2 wm S k).2.2.2) tk) H := by rw [hst]; exact hP
            have hD : va_D A (wPn I p0 p1 p2 w0 w1 w2 ((p_scstep lb ls2 wm S k).1) (nI u) ((p_scstep lb ls2 wm S k).2.1) (nI (p_scstep lb ls2 wm S k).2.2.1) ((p_scstep lb ls2 wm S k).2.2.2) tk) := by rw [hst]; exact hD
            refine lv_iinc (v := nI (k + 1)) (lv' := [(4, .int (nI (k + 1))), (5, .int (S.1 (k * 8 + 0))), (0, .ref p0), (1, .int lb), (2, .int ls2), (3, .int wm)]) hx hb dX4_shutAndClose_96 hl (k := 5) rfl (nI_inc k) (by decide) rfl (fun ls hl => ?_)
            refine lv_goto (tgt := 3) hx hb dX4_shutAndClose_99 (by decide) ?_
            exact ih (k + 1) (p_scstep lb ls2 wm S k) (by omega) (p_scstep_w hSw) _ _ _ hP hD hS (lv_sub hl [2, 3, 4, 5, 0] rfl) (by rw [← hr]; rfl)
          · refine lv_aload_n hx hb dX4_shutAndClose_65 rfl (lv_at hl 1 rfl) ?_
            refine va_get (D := D) (ci := 4) (v := .ref p1) (C := RX4) (T := TX4) (N := 3) hx hb hts u4 hown hK hP 0 rfl rfl 0 (by decide) k1 (fun _ h9 => h9) rfl dX4_shutAndClose_66 ?_
            refine lv_iload hx hb dX4_shutAndClose_69 (lv_at hl 5 rfl) ?_
            refine lv_iconst (v := 4) hx hb dX4_shutAndClose_71 (by decide) ?_
            have hPc := hP.sub (ws' := (wT I p1 p2 64 8 S.1)) [1, 2] rfl
            have hDc := hD.sub (ws' := (wT I p1 p2 64 8 S.1)) [1, 2] (by decide) rfl
            refine k_i (wr := [(p0, .inr (4, [.ref p1, .ref w0, .int (nI u)])), (w0, .inr (7, [.ref w1, .int (nI S.2.2.1), .int S.2.2.2, .int tk])), (w1, .inr (5, [.int (nI 40), .int (nI 4), .ref w2])), (w2, .inl (I, 40 * 4, .inl S.2.1))]) (ws' := (wPn I p0 p1 p2 w0 w1 w2 S.1 (nI u) S.2.1 (nI S.2.2.1) S.2.2.2 tk)) (va_runV (As := [.int (nI k), .int 4]) (rest := []) hF (c_X5_get l D I C Q p1 p2 64 8 S.1 k 4 (by omega) (by omega) (by omega) (by omega) (by omega) _) (cwV 2 hts gX4_shutAndClose_X5_get rfl rfl rfl (by decide +kernel) ⟨Nat.le_of_ble_eq_true rfl, Nat.le_of_ble_eq_true rfl⟩) (kPreV hE hPc hDc (ci := 5) (q0 := 0) rfl rfl) rfl rfl hl.1 rfl (lv_room (Nat.le_of_ble_eq_true rfl)) dX4_shutAndClose_72 ⟨Nat.zero_le _, Nat.zero_le _⟩) hP hD hS hA [1, 2] [0, 3, 4, 5] [0, 4, 5, 1, 2, 3] rfl rfl (by decide) (by decide) rfl (by decide) (fun H locs hP hD hS => ?_)
            refine lv_iload_n hx hb dX4_shutAndClose_75 rfl (lv_at hl 4 rfl) ?_
            refine lv_icmp_gt (tgt := 96) hx hb dX4_shutAndClose_76 (by decide) (fun c_76 => ?_) (fun c_76 => ?_)
            · have hst : (p_scstep lb ls2 wm S k) = (S.1, S.2.1, S.2.2.1, S.2.2.2) := by simp +decide only [p_scstep, p_tell, c_26, c_62, c_76, if_true, if_false, not_true_eq_false, not_false_eq_true, and_self, and_true, true_and, and_false, false_and, kn01, kn10, kn02, kn20, kn12, kn21, eq_self]
              have hP : va_P D vwCl (wPn I p0 p1 p2 w0 w1 w2 ((p_scstep lb ls2 wm S k).1) (nI u) ((p_scstep lb ls2 wm S k).2.1) (nI (p_scstep lb ls2 wm S k).2.2.1) ((p_scstep lb ls2 wm S k).2.2.2) tk) H := by rw [hst]; exact hP
              have hD : va_D A (wPn I p0 p1 p2 w0 w1 w2 ((p_scstep lb ls2 wm S k).1) (nI u) ((p_scstep lb ls2 wm S k).2.1) (nI (p_scstep lb ls2 wm S k).2.2.1) ((p_scstep lb ls2 wm S k).2.2.2) tk) := by rw [hst]; exact hD
              refine lv_iinc (v := nI (k + 1)) (lv' := [(4, .int (nI (k + 1))), (5, .int (S.1 (k * 8 + 0))), (0, .ref p0), (1, .int lb), (2, .int ls2), (3, .int wm)]) hx hb dX4_shutAndClose_96 hl (k := 5) rfl (nI_inc k) (by decide) rfl (fun ls hl => ?_)
              refine lv_goto (tgt := 3) hx hb dX4_shutAndClose_99 (by decide) ?_
              exact ih (k + 1) (p_scstep lb ls2 wm S k) (by omega) (p_scstep_w hSw) _ _ _ hP hD hS (lv_sub hl [2, 3, 4, 5, 0] rfl) (by rw [← hr]; rfl)
            · refine lv_aload_n hx hb dX4_shutAndClose_79 rfl (lv_at hl 1 rfl) ?_
              refine va_get (D := D) (ci := 4) (v := .ref p1) (C := RX4) (T := TX4) (N := 3) hx hb hts u4 hown hK hP 0 rfl rfl 0 (by decide) k1 (fun _ h9 => h9) rfl dX4_shutAndClose_80 ?_
              refine lv_iload hx hb dX4_shutAndClose_83 (lv_at hl 5 rfl) ?_
              refine lv_iconst (v := 0) hx hb dX4_shutAndClose_85 (by decide) ?_
              refine lv_iconst (v := 3) hx hb dX4_shutAndClose_86 (by decide) ?_
              have hPc := hP.sub (ws' := (wT I p1 p2 64 8 S.1)) [1, 2] rfl
              have hDc := hD.sub (ws' := (wT I p1 p2 64 8 S.1)) [1, 2] (by decide) rfl
              refine k_v (wr := [(p0, .inr (4, [.ref p1, .ref w0, .int (nI u)])), (w0, .inr (7, [.ref w1, .int (nI S.2.2.1), .int S.2.2.2, .int tk])), (w1, .inr (5, [.int (nI 40), .int (nI 4), .ref w2])), (w2, .inl (I, 40 * 4, .inl S.2.1))]) (ws' := (wPn I p0 p1 p2 w0 w1 w2 (upd S.1 (k * 8 + 0) 3) (nI u) S.2.1 (nI S.2.2.1) S.2.2.2 tk)) (va_runV (As := [.int (nI k), .int 0, .int 3]) (rest := []) hF (c_X5_put l D I C Q p1 p2 64 8 S.1 k 0 3 (by omega) (by omega) (by omega) (by omega) (by omega) _) (cwV 3 hts gX4_shutAndClose_X5_put rfl rfl rfl (by decide +kernel) ⟨Nat.le_of_ble_eq_true rfl, Nat.le_of_ble_eq_true rfl⟩) (kPreV hE hPc hDc (ci := 5) (q0 := 0) rfl rfl) rfl rfl hl.1 rfl (lv_room (Nat.le_of_ble_eq_true rfl)) dX4_shutAndClose_87 ⟨Nat.zero_le _, Nat.zero_le _⟩) hP hD hS hA [1, 2] [0, 3, 4, 5] [0, 4, 5, 1, 2, 3] rfl rfl (by decide) (by decide) rfl (by decide) (fun H locs hP hD hS => ?_)
              refine lv_aload_n hx hb dX4_shutAndClose_90 rfl (lv_at hl 1 rfl) ?_
              refine lv_iload hx hb dX4_shutAndClose_91 (lv_at hl 5 rfl) ?_
              refine k_vF (va_runV (As := [.int (nI k)]) (rest := []) hF (c_X4_tellWord l D I C Q p0 p1 p2 w0 w1 w2 (upd S.1 (k * 8 + 0) 3) (nI u) S.2.1 S.2.2.1 S.2.2.2 tk k hSw (by omega) _) (cwV 1 hts gX4_shutAndClose_X4_tellWord rfl rfl rfl (by decide +kernel) ⟨Nat.le_of_ble_eq_true rfl, Nat.le_of_ble_eq_true rfl⟩) (kPreV hE hP hD (ci := 4) (q0 := 0) rfl rfl) rfl rfl hl.1 rfl (lv_room (Nat.le_of_ble_eq_true rfl)) dX4_shutAndClose_93 ⟨Nat.zero_le _, Nat.zero_le _⟩) hD hS hA (fun H locs hP hD hS => ?_)
              have hP : va_P D vwCl (wPn I p0 p1 p2 w0 w1 w2 (upd (upd S.1 (k * 8 + 0) 3) (k * 8 + 5) ((upd S.1 (k * 8 + 0) 3) (k * 8 + 5) + 1)) (nI u) (w_add S.2.1 S.2.2.1 0 ((upd S.1 (k * 8 + 0) 3) (k * 8 + 7)) ((upd S.1 (k * 8 + 0) 3) (k * 8 + 1)) ((upd S.1 (k * 8 + 0) 3) (k * 8 + 2))) (nI (w_n S.2.2.1)) (S.2.2.2 + 1) tk) H := hP
              have hD : va_D A (wPn I p0 p1 p2 w0 w1 w2 (upd (upd S.1 (k * 8 + 0) 3) (k * 8 + 5) ((upd S.1 (k * 8 + 0) 3) (k * 8 + 5) + 1)) (nI u) (w_add S.2.1 S.2.2.1 0 ((upd S.1 (k * 8 + 0) 3) (k * 8 + 7)) ((upd S.1 (k * 8 + 0) 3) (k * 8 + 1)) ((upd S.1 (k * 8 + 0) 3) (k * 8 + 2))) (nI (w_n S.2.2.1)) (S.2.2.2 + 1) tk) := hD
              have hst : (p_scstep lb ls2 wm S k) = (upd (upd S.1 (k * 8 + 0) 3) (k * 8 + 5) ((upd S.1 (k * 8 + 0) 3) (k * 8 + 5) + 1), w_add S.2.1 S.2.2.1 0 ((upd S.1 (k * 8 + 0) 3) (k * 8 + 7)) ((upd S.1 (k * 8 + 0) 3) (k * 8 + 1)) ((upd S.1 (k * 8 + 0) 3) (k * 8 + 2)), w_n S.2.2.1, S.2.2.2 + 1) := by simp +decide only [p_scstep, p_tell, c_26, c_62, c_76, if_true, if_false, not_true_eq_false, not_false_eq_true, and_self, and_true, true_and, and_false, false_and, kn01, kn10, kn02, kn20, kn12, kn21, eq_self]
              have hP : va_P D vwCl (wPn I p0 p1 p2 w0 w1 w2 ((p_scstep lb ls2 wm S k).1) (nI u) ((p_scstep lb ls2 wm S k).2.1) (nI (p_scstep lb ls2 wm S k).2.2.1) ((p_scstep lb ls2 wm S k).2.2.2) tk) H := by rw [hst]; exact hP
              have hD : va_D A (wPn I p0 p1 p2 w0 w1 w2 ((p_scstep lb ls2 wm S k).1) (nI u) ((p_scstep lb ls2 wm S k).2.1) (nI (p_scstep lb ls2 wm S k).2.2.1) ((p_scstep lb ls2 wm S k).2.2.2) tk) := by rw [hst]; exact hD
              refine lv_iinc (v := nI (k + 1)) (lv' := [(4, .int (nI (k + 1))), (5, .int (S.1 (k * 8 + 0))), (0, .ref p0), (1, .int lb), (2, .int ls2), (3, .int wm)]) hx hb dX4_shutAndClose_96 hl (k := 5) rfl (nI_inc k) (by decide) rfl (fun ls hl => ?_)
              refine lv_goto (tgt := 3) hx hb dX4_shutAndClose_99 (by decide) ?_
              exact ih (k + 1) (p_scstep lb ls2 wm S k) (by omega) (p_scstep_w hSw) _ _ _ hP hD hS (lv_sub hl [2, 3, 4, 5, 0] rfl) (by rw [← hr]; rfl)
        · refine lv_aload_n hx hb dX4_shutAndClose_29 rfl (lv_at hl 1 rfl) ?_
          refine va_get (D := D) (ci := 4) (v := .ref p1) (C := RX4) (T := TX4) (N := 3) hx hb hts u4 hown hK hP 0 rfl rfl 0 (by decide) k1 (fun _ h9 => h9) rfl dX4_shutAndClose_30 ?_
          refine lv_iload hx hb dX4_shutAndClose_33 (lv_at hl 5 rfl) ?_
          refine lv_bipush (v := 7) hx hb dX4_shutAndClose_35 (by decide) ?_
          have hPc := hP.sub (ws' := (wT I p1 p2 64 8 S.1)) [1, 2] rfl
          have hDc := hD.sub (ws' := (wT I p1 p2 64 8 S.1)) [1, 2] (by decide) rfl
          refine k_i (wr := [(p0, .inr (4, [.ref p1, .ref w0, .int (nI u)])), (w0, .inr (7, [.ref w1, .int (nI S.2.2.1), .int S.2.2.2, .int tk])), (w1, .inr (5, [.int (nI 40), .int (nI 4), .ref w2])), (w2, .inl (I, 40 * 4, .inl S.2.1))]) (ws' := (wPn I p0 p1 p2 w0 w1 w2 S.1 (nI u) S.2.1 (nI S.2.2.1) S.2.2.2 tk)) (va_runV (As := [.int (nI k), .int 7]) (rest := []) hF (c_X5_get l D I C Q p1 p2 64 8 S.1 k 7 (by omega) (by omega) (by omega) (by omega) (by omega) _) (cwV 2 hts gX4_shutAndClose_X5_get rfl rfl rfl (by decide +kernel) ⟨Nat.le_of_ble_eq_true rfl, Nat.le_of_ble_eq_true rfl⟩) (kPreV hE hPc hDc (ci := 5) (q0 := 0) rfl rfl) rfl rfl hl.1 rfl (lv_room (Nat.le_of_ble_eq_true rfl)) dX4_shutAndClose_37 ⟨Nat.zero_le _, Nat.zero_le _⟩) hP hD hS hA [1, 2] [0, 3, 4, 5] [0, 4, 5, 1, 2, 3] rfl rfl (by decide) (by decide) rfl (by decide) (fun H locs hP hD hS => ?_)
          refine lv_iload_n hx hb dX4_shutAndClose_40 rfl (lv_at hl 2 rfl) ?_
          refine lv_iconst (v := 1) hx hb dX4_shutAndClose_41 (by decide) ?_
          refine lv_iadd hx hb dX4_shutAndClose_42 ?_
          refine lv_iload_n hx hb dX4_shutAndClose_43 rfl (lv_at hl 3 rfl) ?_
          refine k_i0 (va_runSN (As := [.int (S.1 (k * 8 + 7)), .int (lb + 1), .int ls2]) (rest := []) hF (c_X8_isWithin l D I C Q (S.1 (k * 8 + 7)) (lb + 1) ls2 _) ⟨va_cnB 3 hts gX4_shutAndClose_X8_isWithin_n68 rfl rfl rfl (hE.nest 9 rfl) k3 (by decide +kernel) ⟨Nat.le_of_ble_eq_true rfl, Nat.le_of_ble_eq_true rfl⟩, k2, trivial⟩ (kPreS hE k_P0 (k_D0 (A := A))) rfl rfl hl.1 rfl (lv_room (Nat.le_of_ble_eq_true rfl)) dX4_shutAndClose_44 ⟨Nat.zero_le _, Nat.zero_le _⟩) hP hS hA (fun H locs hP hS => ?_)
          refine lv_if_eq (tgt := 96) hx hb dX4_shutAndClose_47 (by decide) (fun c_47 => ?_) (fun c_47 => ?_)
          · have hst : (p_scstep lb ls2 wm S k) = (S.1, S.2.1, S.2.2.1, S.2.2.2) := by simp +decide only [p_scstep, p_tell, c_26, c_47, if_true, if_false, not_true_eq_false, not_false_eq_true, and_self, and_true, true_and, and_false, false_and, kn01, kn10, kn02, kn20, kn12, kn21, eq_self]
            have hP : va_P D vwCl (wPn I p0 p1 p2 w0 w1 w2 ((p_scstep lb ls2 wm S k).1) (nI u) ((p_scstep lb ls2 wm S k).2.1) (nI (p_scstep lb ls2 wm S k).2.2.1) ((p_scstep lb ls2 wm S k).2.2.2) tk) H := by rw [hst]; exact hP
            have hD : va_D A (wPn I p0 p1 p2 w0 w1 w2 ((p_scstep lb ls2 wm S k).1) (nI u) ((p_scstep lb ls2 wm S k).2.1) (nI (p_scstep lb ls2 wm S k).2.2.1) ((p_scstep lb ls2 wm S k).2.2.2) tk) := by rw [hst]; exact hD
            refine lv_iinc (v := nI (k + 1)) (lv' := [(4, .int (nI (k + 1))), (5, .int (S.1 (k * 8 + 0))), (0, .ref p0), (1, .int lb), (2, .int ls2), (3, .int wm)]) hx hb dX4_shutAndClose_96 hl (k := 5) rfl (nI_inc k) (by decide) rfl (fun ls hl => ?_)
            refine lv_goto (tgt := 3) hx hb dX4_shutAndClose_99 (by decide) ?_
            exact ih (k + 1) (p_scstep lb ls2 wm S k) (by omega) (p_scstep_w hSw) _ _ _ hP hD hS (lv_sub hl [2, 3, 4, 5, 0] rfl) (by rw [← hr]; rfl)
          · refine lv_aload_n hx hb dX4_shutAndClose_50 rfl (lv_at hl 1 rfl) ?_
            refine lv_iload hx hb dX4_shutAndClose_51 (lv_at hl 5 rfl) ?_
            refine k_vF (va_runV (As := [.int (nI k)]) (rest := []) hF (c_X4_tellWord l D I C Q p0 p1 p2 w0 w1 w2 S.1 (nI u) S.2.1 S.2.2.1 S.2.2.2 tk k hSw (by omega) _) (cwV 1 hts gX4_shutAndClose_X4_tellWord rfl rfl rfl (by decide +kernel) ⟨Nat.le_of_ble_eq_true rfl, Nat.le_of_ble_eq_true rfl⟩) (kPreV hE hP hD (ci := 4) (q0 := 0) rfl rfl) rfl rfl hl.1 rfl (lv_room (Nat.le_of_ble_eq_true rfl)) dX4_shutAndClose_53 ⟨Nat.zero_le _, Nat.zero_le _⟩) hD hS hA (fun H locs hP hD hS => ?_)
            have hP : va_P D vwCl (wPn I p0 p1 p2 w0 w1 w2 (upd S.1 (k * 8 + 5) (S.1 (k * 8 + 5) + 1)) (nI u) (w_add S.2.1 S.2.2.1 0 (S.1 (k * 8 + 7)) (S.1 (k * 8 + 1)) (S.1 (k * 8 + 2))) (nI (w_n S.2.2.1)) (S.2.2.2 + 1) tk) H := hP
            have hD : va_D A (wPn I p0 p1 p2 w0 w1 w2 (upd S.1 (k * 8 + 5) (S.1 (k * 8 + 5) + 1)) (nI u) (w_add S.2.1 S.2.2.1 0 (S.1 (k * 8 + 7)) (S.1 (k * 8 + 1)) (S.1 (k * 8 + 2))) (nI (w_n S.2.2.1)) (S.2.2.2 + 1) tk) := hD
            refine lv_goto (tgt := 96) hx hb dX4_shutAndClose_56 (by decide) ?_
            have hst : (p_scstep lb ls2 wm S k) = (upd S.1 (k * 8 + 5) (S.1 (k * 8 + 5) + 1), w_add S.2.1 S.2.2.1 0 (S.1 (k * 8 + 7)) (S.1 (k * 8 + 1)) (S.1 (k * 8 + 2)), w_n S.2.2.1, S.2.2.2 + 1) := by simp +decide only [p_scstep, p_tell, c_26, c_47, if_true, if_false, not_true_eq_false, not_false_eq_true, and_self, and_true, true_and, and_false, false_and, kn01, kn10, kn02, kn20, kn12, kn21, eq_self]
            have hP : va_P D vwCl (wPn I p0 p1 p2 w0 w1 w2 ((p_scstep lb ls2 wm S k).1) (nI u) ((p_scstep lb ls2 wm S k).2.1) (nI (p_scstep lb ls2 wm S k).2.2.1) ((p_scstep lb ls2 wm S k).2.2.2) tk) H := by rw [hst]; exact hP
            have hD : va_D A (wPn I p0 p1 p2 w0 w1 w2 ((p_scstep lb ls2 wm S k).1) (nI u) ((p_scstep lb ls2 wm S k).2.1) (nI (p_scstep lb ls2 wm S k).2.2.1) ((p_scstep lb ls2 wm S k).2.2.2) tk) := by rw [hst]; exact hD
            refine lv_iinc (v := nI (k + 1)) (lv' := [(4, .int (nI (k + 1))), (5, .int (S.1 (k * 8 + 0))), (0, .ref p0), (1, .int lb), (2, .int ls2), (3, .int wm)]) hx hb dX4_shutAndClose_96 hl (k := 5) rfl (nI_inc k) (by decide) rfl (fun ls hl => ?_)
            refine lv_goto (tgt := 3) hx hb dX4_shutAndClose_99 (by decide) ?_
            exact ih (k + 1) (p_scstep lb ls2 wm S k) (by omega) (p_scstep_w hSw) _ _ _ hP hD hS (lv_sub hl [2, 3, 4, 5, 0] rfl) (by rw [← hr]; rfl)
  exact loop3 u 0 (pn, wd, w, tl) (by omega) hw40 _ _ _ hP hD hS (lv_sub hl [1, 2, 3, 4, 0] rfl) rfl
