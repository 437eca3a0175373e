set_option maxHeartbeats 400000 in
set_option maxRecDepth 100000 in
theorem c_X8_filedB (l : Launch) (D : va_G) (I C Q : ClassId) (y0 c0 e0 e1 e2 p0 p1 p2 w0 w1 w2 g0 g1 g2 x0 x1 h0 h1 : Nat) (ev : Nat → Int32) (dbl : Int32) (pn : Nat → Int32) (us : Int32) (wd : Nat → Int32) (kp : Int32) (tl : Int32) (tk : Int32) (cb : Nat → Int32) (sz : Int32) (lg : Int32) (gr : Int32) (wt : Int32) (lt : Int32) (mv : Int32) (sg : Nat → Int32) (xl : Int32) (xp : Int32) (xn : Int32) (xi : Int32) (xt : Int32) (xk : Int32) (xa : Int32) (xe : Int32) (xf : Int32) (xr : Int32) (ol : Int32) (ns : Int32) (fp : Nat → Option Nat) (x : Int32) (w : Int32) (hbad : m_isIn x 0 2 = 0 ∨ m_isIn w 0 3 = 0) : KI l D (tyL I C Q) yX8_filed wsX8_filed { frames := 1, cells := 0, slots := 0, locals := 22 } [.ref y0, .int x, .int w] (wL I C Q y0 c0 e0 e1 e2 p0 p1 p2 w0 w1 w2 g0 g1 g2 x0 x1 h0 h1 ev dbl pn us wd kp tl tk cb sz lg gr wt lt mv sg xl xp xn xi xt xk xa xe xf xr ol ns fp) (wL I C Q y0 c0 e0 e1 e2 p0 p1 p2 w0 w1 w2 g0 g1 g2 x0 x1 h0 h1 ev dbl pn us wd kp tl tk cb sz lg gr wt lt mv sg xl xp xn xi xt xk xa xe xf xr ol ns fp) (-1000001) := by
  refine KI.of (cc := cX8_filed) (maxL := 3) (rt := .int) (own := RX8) (by decide) rfl rfl (Nat.le_of_ble_eq_true rfl) ?_
  intro p e s m below meth c A Q0 ls hx hb hml hown hts hE hA hP hD hS hl hend
  have hK := hE.1
  have hF : CallFix p m c cX8_filed 3 s [.ref y0, .int x, .int w].toArray wsX8_filed RX8 := ⟨hx, hb, hml, hown, hts⟩
  have k0 := hts (.constant RX8 34 (-1000001)) (List.mem_of_getElem? (i := 1) rfl)
  have hl : lv_has ls 3 [(0, .ref y0), (1, .int x), (2, .int w)] := hl
  refine lv_iload_n hx hb dX8_filed_0 rfl (lv_at hl 1 rfl) ?_
  refine lv_iconst (v := 0) hx hb dX8_filed_1 (by decide) ?_
  refine lv_iconst (v := 2) hx hb dX8_filed_2 (by decide) ?_
  refine k_i0 (va_runS (As := [.int x, .int 0, .int 2]) (rest := []) hF (c_X8_isWithin l D I C Q x 0 2 _) (va_cwS 3 hts gX8_filed_X8_isWithin rfl rfl rfl (by decide +kernel) ⟨Nat.le_of_ble_eq_true rfl, Nat.le_of_ble_eq_true rfl⟩) (kPreS hE k_P0 (k_D0 (A := A))) rfl rfl hl.1 rfl (lv_room (Nat.le_of_ble_eq_true rfl)) dX8_filed_3 ⟨Nat.zero_le _, Nat.zero_le _⟩) hP hS hA (fun H locs hP hS => ?_)
  refine lv_if_eq (tgt := 18) hx hb dX8_filed_6 (by decide) (fun c_6 => ?_) (fun c_6 => ?_)
  · refine lv_ldc (v := (-1000001)) hx hb hown k0 dX8_filed_18 ?_
    exact hend _ _ _ _ _ _ hP hD hS dX8_filed_20 rfl rfl rfl
  · refine lv_iload_n hx hb dX8_filed_9 rfl (lv_at hl 2 rfl) ?_
    refine lv_iconst (v := 0) hx hb dX8_filed_10 (by decide) ?_
    refine lv_iconst (v := 3) hx hb dX8_filed_11 (by decide) ?_
    refine k_i0 (va_runS (As := [.int w, .int 0, .int 3]) (rest := []) hF (c_X8_isWithin l D I C Q w 0 3 _) (va_cwS 3 hts gX8_filed_X8_isWithin rfl rfl rfl (by decide +kernel) ⟨Nat.le_of_ble_eq_true rfl, Nat.le_of_ble_eq_true rfl⟩) (kPreS hE k_P0 (k_D0 (A := A))) rfl rfl hl.1 rfl (lv_room (Nat.le_of_ble_eq_true rfl)) dX8_filed_12 ⟨Nat.zero_le _, Nat.zero_le _⟩) hP hS hA (fun H locs hP hS => ?_)
    refine lv_if_ne (tgt := 21) hx hb dX8_filed_15 (by decide) (fun c_15 => ?_) (fun c_15 => ?_)
    · exact (hbad.elim c_6 c_15).elim
    · refine lv_ldc (v := (-1000001)) hx hb hown k0 dX8_filed_18 ?_
      exact hend _ _ _ _ _ _ hP hD hS dX8_filed_20 rfl rfl rfl
set_option maxHeartbeats 400000 in
set_option maxRecDepth 100000 in
theorem c_X8_filedO (l : Launch) (D : va_G) (I C Q : ClassId) (y0 c0 e0 e1 e2 p0 p1 p2 w0 w1 w2 g0 g1 g2 x0 x1 h0 h1 : Nat) (ev : Nat → Int32) (dbl : Int32) (pn : Nat → Int32) (us : Int32) (wd : Nat → Int32) (kp : Int32) (tl : Int32) (tk : Int32) (cb : Nat → Int32) (sz : Int32) (lg : Int32) (gr : Int32) (wt : Int32) (lt : Int32) (mv : Int32) (sg : Nat → Int32) (xl : Int32) (xp : Int32) (xn : Int32) (xi : Int32) (xt : Int32) (xk : Int32) (xa : Int32) (xe : Int32) (xf : Int32) (xr : Int32) (ol : Int32) (ns : Int32) (fp : Nat → Option Nat) (c1 : Nat) (pl : Nat) (hok : ¬ m_isIn (nI c1) 0 2 = 0) (hok2 : ¬ m_isIn (nI pl) 0 3 = 0) (hc3 : c1 < 3) (hp : pl < 4) : KI l D (tyL I C Q) yX8_filed wsX8_filed { frames := 2, cells := 0, slots := 0, locals := 45 } [.ref y0, .int (nI c1), .int (nI pl)] (wL I C Q y0 c0 e0 e1 e2 p0 p1 p2 w0 w1 w2 g0 g1 g2 x0 x1 h0 h1 ev dbl pn us wd kp tl tk cb sz lg gr wt lt mv sg xl xp xn xi xt xk xa xe xf xr ol ns fp) (wL I C Q y0 c0 e0 e1 e2 p0 p1 p2 w0 w1 w2 g0 g1 g2 x0 x1 h0 h1 ev dbl pn us wd kp tl tk cb sz lg gr wt lt mv sg xl xp xn xi xt xk xa xe xf xr ol ns fp) (g_rd cb c1 pl) := by
  refine KI.of (cc := cX8_filed) (maxL := 3) (rt := .int) (own := RX8) (by decide) rfl rfl (Nat.le_of_ble_eq_true rfl) ?_
  intro p e s m below meth c A Q0 ls hx hb hml hown hts hE hA hP hD hS hl hend
  have hK := hE.1
  have hF : CallFix p m c cX8_filed 3 s [.ref y0, .int (nI c1), .int (nI pl)].toArray wsX8_filed RX8 := ⟨hx, hb, hml, hown, hts⟩
  have k0 := hts (.fieldLink RX8 10 "LateExcuses" "court" "LLateExcuses$Court;") (List.mem_of_getElem? (i := 2) rfl)
  have u8 : ∀ w ∈ u_ws RX8 TX8 3, w ∈ wsX8_filed := by decide +kernel
  have hl : lv_has ls 3 [(0, .ref y0), (1, .int (nI c1)), (2, .int (nI pl))] := hl
  refine lv_iload_n hx hb dX8_filed_0 rfl (lv_at hl 1 rfl) ?_
  refine lv_iconst (v := 0) hx hb dX8_filed_1 (by decide) ?_
  refine lv_iconst (v := 2) hx hb dX8_filed_2 (by decide) ?_
  refine k_i0 (va_runS (As := [.int (nI c1), .int 0, .int 2]) (rest := []) hF (c_X8_isWithin l D I C Q (nI c1) 0 2 _) (va_cwS 3 hts gX8_filed_X8_isWithin rfl rfl rfl (by decide +kernel) ⟨Nat.le_of_ble_eq_true rfl, Nat.le_of_ble_eq_true rfl⟩) (kPreS hE k_P0 (k_D0 (A := A))) rfl rfl hl.1 rfl (lv_room (Nat.le_of_ble_eq_true rfl)) dX8_filed_3 ⟨Nat.zero_le _, Nat.zero_le _⟩) hP hS hA (fun H locs hP hS => ?_)
  refine lv_if_eq (tgt := 18) hx hb dX8_filed_6 (by decide) (fun c_6 => ?_) (fun c_6 => ?_)
  · exact absurd c_6 hok
  · refine lv_iload_n hx hb dX8_filed_9 rfl (lv_at hl 2 rfl) ?_
    refine lv_iconst (v := 0) hx hb dX8_filed_10 (by decide) ?_
    refine lv_iconst (v := 3) hx hb dX8_filed_11 (by decide) ?_
    refine k_i0 (va_runS (As := [.int (nI pl), .int 0, .int 3]) (rest := []) hF (c_X8_isWithin l D I C Q (nI pl) 0 3 _) (va_cwS 3 hts gX8_filed_X8_isWithin rfl rfl rfl (by decide +kernel) ⟨Nat.le_of_ble_eq_true rfl, Nat.le_of_ble_eq_true rfl⟩) (kPreS hE k_P0 (k_D0 (A := A))) rfl rfl hl.1 rfl (lv_room (Nat.le_of_ble_eq_true rfl)) dX8_filed_12 ⟨Nat.zero_le _, Nat.zero_le _⟩) hP hS hA (fun H locs hP hS => ?_)
    refine lv_if_ne (tgt := 21) hx hb dX8_filed_15 (by decide) (fun c_15 => ?_) (fun c_15 => ?_)
    · refine lv_aload_n hx hb dX8_filed_21 rfl (lv_at hl 0 rfl) ?_
      refine va_get (D := D) (ci := 8) (v := .ref c0) (C := RX8) (T := TX8) (N := 3) hx hb hts u8 hown hK hP 0 rfl rfl 0 (by decide) k0 (fun _ h9 => h9) rfl dX8_filed_22 ?_
      have hPc := hP.sub (ws' := (wC I c0 e0 e1 e2 p0 p1 p2 w0 w1 w2 g0 g1 g2 ev dbl pn us wd kp tl tk cb sz lg gr wt lt mv)) [1, 2, 3, 4, 5, 6, 7, 8, 9, 10, 11, 12, 13] rfl
      have hDc := hD.sub (ws' := (wC I c0 e0 e1 e2 p0 p1 p2 w0 w1 w2 g0 g1 g2 ev dbl pn us wd kp tl tk cb sz lg gr wt lt mv)) [1, 2, 3, 4, 5, 6, 7, 8, 9, 10, 11, 12, 13] (by decide) rfl
      refine k_r (wr := [(y0, .inr (8, [.ref c0, .ref h0, .ref x0])), (x0, .inr (6, [.ref x1, .int xl, .int xp, .int xn, .int xi, .int xt, .int xk, .int xa, .int xe, .int xf, .int xr])), (x1, .inl (C, 80, .inl sg)), (h0, .inr (3, [.ref h1, .int ol, .int ns])), (h1, .inl (Q, 4, .inr (.inr (.inr (.inr fp)))))]) (ws' := (wL I C Q y0 c0 e0 e1 e2 p0 p1 p2 w0 w1 w2 g0 g1 g2 x0 x1 h0 h1 ev dbl pn us wd kp tl tk cb sz lg gr wt lt mv sg xl xp xn xi xt xk xa xe xf xr ol ns fp)) (va_runV (As := []) (rest := []) hF (c_X1_cabinets l D I C Q c0 e0 e1 e2 p0 p1 p2 w0 w1 w2 g0 g1 g2 ev dbl pn us wd kp tl tk cb sz lg gr wt lt mv _) (cwV 0 hts gX8_filed_X1_cabinets rfl rfl rfl (by decide +kernel) ⟨Nat.le_of_ble_eq_true rfl, Nat.le_of_ble_eq_true rfl⟩) (kPreV hE hPc hDc (ci := 1) (q0 := 0) rfl rfl) rfl rfl hl.1 rfl (lv_room (Nat.le_of_ble_eq_true rfl)) dX8_filed_25 ⟨Nat.zero_le _, Nat.zero_le _⟩) hP hD hS hA [1, 2, 3, 4, 5, 6, 7, 8, 9, 10, 11, 12, 13] [0, 14, 15, 16, 17] [0, 5, 6, 7, 8, 9, 10, 11, 12, 13, 14, 15, 16, 17, 1, 2, 3, 4] rfl rfl (by decide) (by decide) rfl (by decide) (fun H locs hP hD hS => ?_)
      refine lv_iload_n hx hb dX8_filed_28 rfl (lv_at hl 1 rfl) ?_
      refine lv_iload_n hx hb dX8_filed_29 rfl (lv_at hl 2 rfl) ?_
      have hPc := hP.sub (ws' := (wCb I g0 g1 g2 cb)) [11, 12, 13] rfl
      have hDc := hD.sub (ws' := (wCb I g0 g1 g2 cb)) [11, 12, 13] (by decide) rfl
      refine k_i (wr := [(y0, .inr (8, [.ref c0, .ref h0, .ref x0])), (c0, .inr (1, [.ref e0, .ref p0, .ref g0, .int sz, .int lg, .int gr, .int wt, .int lt, .int mv])), (e0, .inr (2, [.ref e1, .int dbl])), (e1, .inr (5, [.int (nI 64), .int (nI 7), .ref e2])), (e2, .inl (I, 64 * 7, .inl ev)), (p0, .inr (4, [.ref p1, .ref w0, .int us])), (p1, .inr (5, [.int (nI 64), .int (nI 8), .ref p2])), (p2, .inl (I, 64 * 8, .inl pn)), (w0, .inr (7, [.ref w1, .int kp, .int tl, .int tk])), (w1, .inr (5, [.int (nI 40), .int (nI 4), .ref w2])), (w2, .inl (I, 40 * 4, .inl wd)), (x0, .inr (6, [.ref x1, .int xl, .int xp, .int xn, .int xi, .int xt, .int xk, .int xa, .int xe, .int xf, .int xr])), (x1, .inl (C, 80, .inl sg)), (h0, .inr (3, [.ref h1, .int ol, .int ns])), (h1, .inl (Q, 4, .inr (.inr (.inr (.inr fp)))))]) (ws' := (wL I C Q y0 c0 e0 e1 e2 p0 p1 p2 w0 w1 w2 g0 g1 g2 x0 x1 h0 h1 ev dbl pn us wd kp tl tk cb sz lg gr wt lt mv sg xl xp xn xi xt xk xa xe xf xr ol ns fp)) (va_runV (As := [.int (nI c1), .int (nI pl)]) (rest := []) hF (c_X0_read l D I C Q g0 g1 g2 cb c1 pl hc3 hp _) (cwV 2 hts gX8_filed_X0_read rfl rfl rfl (by decide +kernel) ⟨Nat.le_of_ble_eq_true rfl, Nat.le_of_ble_eq_true rfl⟩) (kPreV hE hPc hDc (ci := 0) (q0 := 0) rfl rfl) rfl rfl hl.1 rfl (lv_room (Nat.le_of_ble_eq_true rfl)) dX8_filed_30 ⟨Nat.zero_le _, Nat.zero_le _⟩) hP hD hS hA [11, 12, 13] [0, 1, 2, 3, 4, 5, 6, 7, 8, 9, 10, 14, 15, 16, 17] [0, 1, 2, 3, 4, 5, 6, 7, 8, 9, 10, 15, 16, 17, 11, 12, 13, 14] rfl rfl (by decide) (by decide) rfl (by decide) (fun H locs hP hD hS => ?_)
      exact hend _ _ _ _ _ _ hP hD hS dX8_filed_33 rfl rfl rfl
    · exact absurd c_15 hok2
set_option maxHeartbeats 400000 in
set_option maxRecDepth 100000 in
theorem c_X8_countB (l : Launch) (D : va_G) (I C Q : ClassId) (y0 c0 e0 e1 e2 p0 p1 p2 w0 w1 w2 g0 g1 g2 x0 x1 h0 h1 : Nat) (ev : Nat → Int32) (dbl : Int32) (pn : Nat → Int32) (us : Int32) (wd : Nat → Int32) (kp : Int32) (tl : Int32) (tk : Int32) (cb : Nat → Int32) (sz : Int32) (lg : Int32) (gr : Int32) (wt : Int32) (lt : Int32) (mv : Int32) (sg : Nat → Int32) (xl : Int32) (xp : Int32) (xn : Int32) (xi : Int32) (xt : Int32) (xk : Int32) (xa : Int32) (xe : Int32) (xf : Int32) (xr : Int32) (ol : Int32) (ns : Int32) (fp : Nat → Option Nat) (x : Int32) (hbad : m_isIn x 20 22 = 0) (hbad2 : x < 0 ∨ 13 < x) : KI l D (tyL I C Q) yX8_count wsX8_count { frames := 1, cells := 0, slots := 0, locals := 22 } [.ref y0, .int x] (wL I C Q y0 c0 e0 e1 e2 p0 p1 p2 w0 w1 w2 g0 g1 g2 x0 x1 h0 h1 ev dbl pn us wd kp tl tk cb sz lg gr wt lt mv sg xl xp xn xi xt xk xa xe xf xr ol ns fp) (wL I C Q y0 c0 e0 e1 e2 p0 p1 p2 w0 w1 w2 g0 g1 g2 x0 x1 h0 h1 ev dbl pn us wd kp tl tk cb sz lg gr wt lt mv sg xl xp xn xi xt xk xa xe xf xr ol ns fp) (-1000001) := by
  refine KI.of (cc := cX8_count) (maxL := 2) (rt := .int) (own := RX8) (by decide) rfl rfl (Nat.le_of_ble_eq_true rfl) ?_
  intro p e s m below meth c A Q0 ls hx hb hml hown hts hE hA hP hD hS hl hend
  have hK := hE.1
  have hF : CallFix p m c cX8_count 2 s [.ref y0, .int x].toArray wsX8_count RX8 := ⟨hx, hb, hml, hown, hts⟩
  have k0 := hts (.fieldLink RX8 10 "LateExcuses" "court" "LLateExcuses$Court;") (List.mem_of_getElem? (i := 1) rfl)
  have u8 : ∀ w ∈ u_ws RX8 TX8 3, w ∈ wsX8_count := by decide +kernel
  have hl : lv_has ls 2 [(0, .ref y0), (1, .int x)] := hl
  refine lv_iload_n hx hb dX8_count_0 rfl (lv_at hl 1 rfl) ?_
  refine lv_bipush (v := 20) hx hb dX8_count_1 (by decide) ?_
  refine lv_bipush (v := 22) hx hb dX8_count_3 (by decide) ?_
  refine k_i0 (va_runS (As := [.int x, .int 20, .int 22]) (rest := []) hF (c_X8_isWithin l D I C Q x 20 22 _) (va_cwS 3 hts gX8_count_X8_isWithin rfl rfl rfl (by decide +kernel) ⟨Nat.le_of_ble_eq_true rfl, Nat.le_of_ble_eq_true rfl⟩) (kPreS hE k_P0 (k_D0 (A := A))) rfl rfl hl.1 rfl (lv_room (Nat.le_of_ble_eq_true rfl)) dX8_count_5 ⟨Nat.zero_le _, Nat.zero_le _⟩) hP hS hA (fun H locs hP hS => ?_)
  refine lv_if_eq (tgt := 23) hx hb dX8_count_8 (by decide) (fun c_8 => ?_) (fun c_8 => ?_)
  · refine lv_iload_n hx hb dX8_count_23 rfl (lv_at hl 1 rfl) ?_
    refine lv_tableOut (tgt := 137) hx hb dX8_count_24 (k_swOut (a := 7) (b := 13) (lo := 7) (hi := 13) (by decide) (by decide) (k_lt7 hbad2)) (by decide) ?_
    refine lv_aload_n hx hb dX8_count_137 rfl (lv_at hl 0 rfl) ?_
    refine va_get (D := D) (ci := 8) (v := .ref c0) (C := RX8) (T := TX8) (N := 3) hx hb hts u8 hown hK hP 0 rfl rfl 0 (by decide) k0 (fun _ h9 => h9) rfl dX8_count_138 ?_
    refine lv_iload_n hx hb dX8_count_141 rfl (lv_at hl 1 rfl) ?_
    have hPc := hP.sub (ws' := (wC I c0 e0 e1 e2 p0 p1 p2 w0 w1 w2 g0 g1 g2 ev dbl pn us wd kp tl tk cb sz lg gr wt lt mv)) [1, 2, 3, 4, 5, 6, 7, 8, 9, 10, 11, 12, 13] rfl
    have hDc := hD.sub (ws' := (wC I c0 e0 e1 e2 p0 p1 p2 w0 w1 w2 g0 g1 g2 ev dbl pn us wd kp tl tk cb sz lg gr wt lt mv)) [1, 2, 3, 4, 5, 6, 7, 8, 9, 10, 11, 12, 13] (by decide) rfl
    refine k_i (wr := [(y0, .inr (8, [.ref c0, .ref h0, .ref x0])), (x0, .inr (6, [.ref x1, .int xl, .int xp, .int xn, .int xi, .int xt, .int xk, .int xa, .int xe, .int xf, .int xr])), (x1, .inl (C, 80, .inl sg)), (h0, .inr (3, [.ref h1, .int ol, .int ns])), (h1, .inl (Q, 4, .inr (.inr (.inr (.inr fp)))))]) (ws' := (wL I C Q y0 c0 e0 e1 e2 p0 p1 p2 w0 w1 w2 g0 g1 g2 x0 x1 h0 h1 ev dbl pn us wd kp tl tk cb sz lg gr wt lt mv sg xl xp xn xi xt xk xa xe xf xr ol ns fp)) (va_runV (As := [.int x]) (rest := []) hF (c_X1_numberB l D I C Q c0 e0 e1 e2 p0 p1 p2 w0 w1 w2 g0 g1 g2 ev dbl pn us wd kp tl tk cb sz lg gr wt lt mv x (Or.inl (k_lt11 hbad2)) _) (cwV 1 hts gX8_count_X1_number rfl rfl rfl (by decide +kernel) ⟨Nat.le_of_ble_eq_true rfl, Nat.le_of_ble_eq_true rfl⟩) (kPreV hE hPc hDc (ci := 1) (q0 := 0) rfl rfl) rfl rfl hl.1 rfl (lv_room (Nat.le_of_ble_eq_true rfl)) dX8_count_142 ⟨Nat.zero_le _, Nat.zero_le _⟩) hP hD hS hA [1, 2, 3, 4, 5, 6, 7, 8, 9, 10, 11, 12, 13] [0, 14, 15, 16, 17] [0, 5, 6, 7, 8, 9, 10, 11, 12, 13, 14, 15, 16, 17, 1, 2, 3, 4] rfl rfl (by decide) (by decide) rfl (by decide) (fun H locs hP hD hS => ?_)
    exact hend _ _ _ _ _ _ hP hD hS dX8_count_145 rfl rfl rfl
  · exact absurd hbad c_8
