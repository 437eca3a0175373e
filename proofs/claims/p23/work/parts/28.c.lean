set_option maxHeartbeats 400000 in
set_option maxRecDepth 100000 in
theorem c_X8_nextPaneO (l : Launch) (D : va_G) (I C Q : ClassId) (y0 c0 e0 e1 e2 p0 p1 p2 w0 w1 w2 g0 g1 g2 x0 x1 h0 h1 : Nat) (ev : Nat → Int32) (dbl : Int32) (pn : Nat → Int32) (u : Nat) (wd : Nat → Int32) (kp : Int32) (tl : Int32) (tk : Int32) (cb : Nat → Int32) (sz : Int32) (lg : Int32) (gr : Int32) (wt : Int32) (lt : Int32) (mv : Int32) (sg : Nat → Int32) (xl : Int32) (xp : Int32) (xn : Int32) (xi : Int32) (xt : Int32) (xk : Int32) (xa : Int32) (xe : Int32) (xf : Int32) (xr : Int32) (ol : Int32) (ns : Int32) (fp : Nat → Option Nat) (q : Int32) (hu64 : u ≤ 64) (hok : ¬ m_isIn q (-1) 1999 = 0) : KI l D (tyL I C Q) yX8_nextPane wsX8_nextPane { frames := 3, cells := 0, slots := 0, locals := 67 } [.ref y0, .int q] (wL I C Q y0 c0 e0 e1 e2 p0 p1 p2 w0 w1 w2 g0 g1 g2 x0 x1 h0 h1 ev dbl pn (nI u) wd kp tl tk cb sz lg gr wt lt mv sg xl xp xn xi xt xk xa xe xf xr ol ns fp) (wL I C Q y0 c0 e0 e1 e2 p0 p1 p2 w0 w1 w2 g0 g1 g2 x0 x1 h0 h1 ev dbl pn (nI u) wd kp tl tk cb sz lg gr wt lt mv sg xl xp xn xi xt xk xa xe xf xr ol ns fp) (p_beh pn q u) := by
  refine KI.of (cc := cX8_nextPane) (maxL := 2) (rt := .int) (own := RX8) (by decide) rfl rfl (Nat.le_of_ble_eq_true rfl) ?_
  intro p e s m below meth c A Q0 ls hx hb hml hown hts hE hA hP hD hS hl hend
  have hK := hE.1
  have hF : CallFix p m c cX8_nextPane 2 s [.ref y0, .int q].toArray wsX8_nextPane RX8 := ⟨hx, hb, hml, hown, hts⟩
  have k0 := hts (.fieldLink RX8 10 "LateExcuses" "court" "LLateExcuses$Court;") (List.mem_of_getElem? (i := 2) rfl)
  have u8 : ∀ w ∈ u_ws RX8 TX8 3, w ∈ wsX8_nextPane := by decide +kernel
  have hl : lv_has ls 2 [(0, .ref y0), (1, .int q)] := hl
  refine lv_iload_n hx hb dX8_nextPane_0 rfl (lv_at hl 1 rfl) ?_
  refine lv_iconst (v := (-1)) hx hb dX8_nextPane_1 (by decide) ?_
  refine lv_sipush (v := 1999) hx hb dX8_nextPane_2 (by decide) ?_
  refine k_i0 (va_runS (As := [.int q, .int (-1), .int 1999]) (rest := []) hF (c_X8_isWithin l D I C Q q (-1) 1999 _) (va_cwS 3 hts gX8_nextPane_X8_isWithin rfl rfl rfl (by decide +kernel) ⟨Nat.le_of_ble_eq_true rfl, Nat.le_of_ble_eq_true rfl⟩) (kPreS hE k_P0 (k_D0 (A := A))) rfl rfl hl.1 rfl (lv_room (Nat.le_of_ble_eq_true rfl)) dX8_nextPane_5 ⟨Nat.zero_le _, Nat.zero_le _⟩) hP hS hA (fun H locs hP hS => ?_)
  refine lv_if_ne (tgt := 14) hx hb dX8_nextPane_8 (by decide) (fun c_8 => ?_) (fun c_8 => ?_)
  · refine lv_aload_n hx hb dX8_nextPane_14 rfl (lv_at hl 0 rfl) ?_
    refine va_get (D := D) (ci := 8) (v := .ref c0) (C := RX8) (T := TX8) (N := 3) hx hb hts u8 hown hK hP 0 rfl rfl 0 (by decide) k0 (fun _ h9 => h9) rfl dX8_nextPane_15 ?_
    have hPc := hP.sub (ws' := (wC I c0 e0 e1 e2 p0 p1 p2 w0 w1 w2 g0 g1 g2 ev dbl pn (nI u) wd kp tl tk cb sz lg gr wt lt mv)) [1, 2, 3, 4, 5, 6, 7, 8, 9, 10, 11, 12, 13] rfl
    have hDc := hD.sub (ws' := (wC I c0 e0 e1 e2 p0 p1 p2 w0 w1 w2 g0 g1 g2 ev dbl pn (nI u) wd kp tl tk cb sz lg gr wt lt mv)) [1, 2, 3, 4, 5, 6, 7, 8, 9, 10, 11, 12, 13] (by decide) rfl
    refine k_r (wr := [(y0, .inr (8, [.ref c0, .ref h0, .ref x0])), (x0, .inr (6, [.ref x1, .int xl, .int xp, .int xn, .int xi, .int xt, .int xk, .int xa, .int xe, .int xf, .int xr])), (x1, .inl (C, 80, .inl sg)), (h0, .inr (3, [.ref h1, .int ol, .int ns])), (h1, .inl (Q, 4, .inr (.inr (.inr (.inr fp)))))]) (ws' := (wL I C Q y0 c0 e0 e1 e2 p0 p1 p2 w0 w1 w2 g0 g1 g2 x0 x1 h0 h1 ev dbl pn (nI u) wd kp tl tk cb sz lg gr wt lt mv sg xl xp xn xi xt xk xa xe xf xr ol ns fp)) (va_runV (As := []) (rest := []) hF (c_X1_panes l D I C Q c0 e0 e1 e2 p0 p1 p2 w0 w1 w2 g0 g1 g2 ev dbl pn (nI u) wd kp tl tk cb sz lg gr wt lt mv _) (cwV 0 hts gX8_nextPane_X1_panes rfl rfl rfl (by decide +kernel) ⟨Nat.le_of_ble_eq_true rfl, Nat.le_of_ble_eq_true rfl⟩) (kPreV hE hPc hDc (ci := 1) (q0 := 0) rfl rfl) rfl rfl hl.1 rfl (lv_room (Nat.le_of_ble_eq_true rfl)) dX8_nextPane_18 ⟨Nat.zero_le _, Nat.zero_le _⟩) hP hD hS hA [1, 2, 3, 4, 5, 6, 7, 8, 9, 10, 11, 12, 13] [0, 14, 15, 16, 17] [0, 5, 6, 7, 8, 9, 10, 11, 12, 13, 14, 15, 16, 17, 1, 2, 3, 4] rfl rfl (by decide) (by decide) rfl (by decide) (fun H locs hP hD hS => ?_)
    refine lv_iload_n hx hb dX8_nextPane_21 rfl (lv_at hl 1 rfl) ?_
    have hPc := hP.sub (ws' := (wPn I p0 p1 p2 w0 w1 w2 pn (nI u) wd kp tl tk)) [5, 6, 7, 8, 9, 10] rfl
    have hDc := hD.sub (ws' := (wPn I p0 p1 p2 w0 w1 w2 pn (nI u) wd kp tl tk)) [5, 6, 7, 8, 9, 10] (by decide) rfl
    refine k_i (wr := [(y0, .inr (8, [.ref c0, .ref h0, .ref x0])), (c0, .inr (1, [.ref e0, .ref p0, .ref g0, .int sz, .int lg, .int gr, .int wt, .int lt, .int mv])), (e0, .inr (2, [.ref e1, .int dbl])), (e1, .inr (5, [.int (nI 64), .int (nI 7), .ref e2])), (e2, .inl (I, 64 * 7, .inl ev)), (g0, .inr (0, [.ref g1])), (g1, .inr (5, [.int (nI 3), .int (nI 5), .ref g2])), (g2, .inl (I, 3 * 5, .inl cb)), (x0, .inr (6, [.ref x1, .int xl, .int xp, .int xn, .int xi, .int xt, .int xk, .int xa, .int xe, .int xf, .int xr])), (x1, .inl (C, 80, .inl sg)), (h0, .inr (3, [.ref h1, .int ol, .int ns])), (h1, .inl (Q, 4, .inr (.inr (.inr (.inr fp)))))]) (ws' := (wL I C Q y0 c0 e0 e1 e2 p0 p1 p2 w0 w1 w2 g0 g1 g2 x0 x1 h0 h1 ev dbl pn (nI u) wd kp tl tk cb sz lg gr wt lt mv sg xl xp xn xi xt xk xa xe xf xr ol ns fp)) (va_runV (As := [.int q]) (rest := []) hF (c_X4_behind l D I C Q p0 p1 p2 w0 w1 w2 pn u wd kp tl tk q hu64 _) (cwV 1 hts gX8_nextPane_X4_behind rfl rfl rfl (by decide +kernel) ⟨Nat.le_of_ble_eq_true rfl, Nat.le_of_ble_eq_true rfl⟩) (kPreV hE hPc hDc (ci := 4) (q0 := 0) rfl rfl) rfl rfl hl.1 rfl (lv_room (Nat.le_of_ble_eq_true rfl)) dX8_nextPane_22 ⟨Nat.zero_le _, Nat.zero_le _⟩) hP hD hS hA [5, 6, 7, 8, 9, 10] [0, 1, 2, 3, 4, 11, 12, 13, 14, 15, 16, 17] [0, 1, 2, 3, 4, 12, 13, 14, 15, 16, 17, 5, 6, 7, 8, 9, 10, 11] rfl rfl (by decide) (by decide) rfl (by decide) (fun H locs hP hD hS => ?_)
    exact hend _ _ _ _ _ _ hP hD hS dX8_nextPane_25 rfl rfl rfl
  · exact absurd c_8 hok
set_option maxHeartbeats 400000 in
set_option maxRecDepth 100000 in
theorem c_X8_wordAtB (l : Launch) (D : va_G) (I C Q : ClassId) (y0 c0 e0 e1 e2 p0 p1 p2 w0 w1 w2 g0 g1 g2 x0 x1 h0 h1 : Nat) (ev : Nat → Int32) (dbl : Int32) (pn : Nat → Int32) (us : Int32) (wd : Nat → Int32) (kp : Int32) (tl : Int32) (tk : Int32) (cb : Nat → Int32) (sz : Int32) (lg : Int32) (gr : Int32) (wt : Int32) (lt : Int32) (mv : Int32) (sg : Nat → Int32) (xl : Int32) (xp : Int32) (xn : Int32) (xi : Int32) (xt : Int32) (xk : Int32) (xa : Int32) (xe : Int32) (xf : Int32) (xr : Int32) (ol : Int32) (ns : Int32) (fp : Nat → Option Nat) (x : Int32) (w : Int32) (hbad : x < 0 ∨ m_isIn w 0 3 = 0) : KI l D (tyL I C Q) yX8_wordAt wsX8_wordAt { frames := 1, cells := 0, slots := 0, locals := 22 } [.ref y0, .int x, .int w] (wL I C Q y0 c0 e0 e1 e2 p0 p1 p2 w0 w1 w2 g0 g1 g2 x0 x1 h0 h1 ev dbl pn us wd kp tl tk cb sz lg gr wt lt mv sg xl xp xn xi xt xk xa xe xf xr ol ns fp) (wL I C Q y0 c0 e0 e1 e2 p0 p1 p2 w0 w1 w2 g0 g1 g2 x0 x1 h0 h1 ev dbl pn us wd kp tl tk cb sz lg gr wt lt mv sg xl xp xn xi xt xk xa xe xf xr ol ns fp) (-1000001) := by
  refine KI.of (cc := cX8_wordAt) (maxL := 3) (rt := .int) (own := RX8) (by decide) rfl rfl (Nat.le_of_ble_eq_true rfl) ?_
  intro p e s m below meth c A Q0 ls hx hb hml hown hts hE hA hP hD hS hl hend
  have hK := hE.1
  have hF : CallFix p m c cX8_wordAt 3 s [.ref y0, .int x, .int w].toArray wsX8_wordAt RX8 := ⟨hx, hb, hml, hown, hts⟩
  have k0 := hts (.constant RX8 34 (-1000001)) (List.mem_of_getElem? (i := 1) rfl)
  have hl : lv_has ls 3 [(0, .ref y0), (1, .int x), (2, .int w)] := hl
  refine lv_iload_n hx hb dX8_wordAt_0 rfl (lv_at hl 1 rfl) ?_
  refine lv_if_lt (tgt := 13) hx hb dX8_wordAt_1 (by decide) (fun c_1 => ?_) (fun c_1 => ?_)
  · refine lv_ldc (v := (-1000001)) hx hb hown k0 dX8_wordAt_13 ?_
    exact hend _ _ _ _ _ _ hP hD hS dX8_wordAt_15 rfl rfl rfl
  · refine lv_iload_n hx hb dX8_wordAt_4 rfl (lv_at hl 2 rfl) ?_
    refine lv_iconst (v := 0) hx hb dX8_wordAt_5 (by decide) ?_
    refine lv_iconst (v := 3) hx hb dX8_wordAt_6 (by decide) ?_
    refine k_i0 (va_runS (As := [.int w, .int 0, .int 3]) (rest := []) hF (c_X8_isWithin l D I C Q w 0 3 _) (va_cwS 3 hts gX8_wordAt_X8_isWithin rfl rfl rfl (by decide +kernel) ⟨Nat.le_of_ble_eq_true rfl, Nat.le_of_ble_eq_true rfl⟩) (kPreS hE k_P0 (k_D0 (A := A))) rfl rfl hl.1 rfl (lv_room (Nat.le_of_ble_eq_true rfl)) dX8_wordAt_7 ⟨Nat.zero_le _, Nat.zero_le _⟩) hP hS hA (fun H locs hP hS => ?_)
    refine lv_if_ne (tgt := 16) hx hb dX8_wordAt_10 (by decide) (fun c_10 => ?_) (fun c_10 => ?_)
    · exact (hbad.elim c_1 c_10).elim
    · refine lv_ldc (v := (-1000001)) hx hb hown k0 dX8_wordAt_13 ?_
      exact hend _ _ _ _ _ _ hP hD hS dX8_wordAt_15 rfl rfl rfl
set_option maxHeartbeats 400000 in
set_option maxRecDepth 100000 in
theorem c_X8_wordAtO (l : Launch) (D : va_G) (I C Q : ClassId) (y0 c0 e0 e1 e2 p0 p1 p2 w0 w1 w2 g0 g1 g2 x0 x1 h0 h1 : Nat) (ev : Nat → Int32) (dbl : Int32) (pn : Nat → Int32) (us : Int32) (wd : Nat → Int32) (w : Nat) (tl : Int32) (tk : Int32) (cb : Nat → Int32) (sz : Int32) (lg : Int32) (gr : Int32) (wt : Int32) (lt : Int32) (mv : Int32) (sg : Nat → Int32) (xl : Int32) (xp : Int32) (xn : Int32) (xi : Int32) (xt : Int32) (xk : Int32) (xa : Int32) (xe : Int32) (xf : Int32) (xr : Int32) (ol : Int32) (ns : Int32) (fp : Nat → Option Nat) (ix : Nat) (c1 : Nat) (hw40 : w ≤ 40) (hix : ix < 2 ^ 31) (hc4 : c1 < 4) (hok : ¬ m_isIn (nI c1) 0 3 = 0) : KI l D (tyL I C Q) yX8_wordAt wsX8_wordAt { frames := 2, cells := 0, slots := 0, locals := 45 } [.ref y0, .int (nI ix), .int (nI c1)] (wL I C Q y0 c0 e0 e1 e2 p0 p1 p2 w0 w1 w2 g0 g1 g2 x0 x1 h0 h1 ev dbl pn us wd (nI w) tl tk cb sz lg gr wt lt mv sg xl xp xn xi xt xk xa xe xf xr ol ns fp) (wL I C Q y0 c0 e0 e1 e2 p0 p1 p2 w0 w1 w2 g0 g1 g2 x0 x1 h0 h1 ev dbl pn us wd (nI w) tl tk cb sz lg gr wt lt mv sg xl xp xn xi xt xk xa xe xf xr ol ns fp) (if w ≤ ix then -1000004 else wd (ix * 4 + c1)) := by
  refine KI.of (cc := cX8_wordAt) (maxL := 3) (rt := .int) (own := RX8) (by decide) rfl rfl (Nat.le_of_ble_eq_true rfl) ?_
  intro p e s m below meth c A Q0 ls hx hb hml hown hts hE hA hP hD hS hl hend
  have hK := hE.1
  have hF : CallFix p m c cX8_wordAt 3 s [.ref y0, .int (nI ix), .int (nI c1)].toArray wsX8_wordAt RX8 := ⟨hx, hb, hml, hown, hts⟩
  have k0 := hts (.fieldLink RX8 10 "LateExcuses" "court" "LLateExcuses$Court;") (List.mem_of_getElem? (i := 2) rfl)
  have u8 : ∀ w ∈ u_ws RX8 TX8 3, w ∈ wsX8_wordAt := by decide +kernel
  have hl : lv_has ls 3 [(0, .ref y0), (1, .int (nI ix)), (2, .int (nI c1))] := hl
  refine lv_iload_n hx hb dX8_wordAt_0 rfl (lv_at hl 1 rfl) ?_
  refine lv_if_lt (tgt := 13) hx hb dX8_wordAt_1 (by decide) (fun c_1 => ?_) (fun c_1 => ?_)
  · exact absurd c_1 (nI_pos (by omega))
  · refine lv_iload_n hx hb dX8_wordAt_4 rfl (lv_at hl 2 rfl) ?_
    refine lv_iconst (v := 0) hx hb dX8_wordAt_5 (by decide) ?_
    refine lv_iconst (v := 3) hx hb dX8_wordAt_6 (by decide) ?_
    refine k_i0 (va_runS (As := [.int (nI c1), .int 0, .int 3]) (rest := []) hF (c_X8_isWithin l D I C Q (nI c1) 0 3 _) (va_cwS 3 hts gX8_wordAt_X8_isWithin rfl rfl rfl (by decide +kernel) ⟨Nat.le_of_ble_eq_true rfl, Nat.le_of_ble_eq_true rfl⟩) (kPreS hE k_P0 (k_D0 (A := A))) rfl rfl hl.1 rfl (lv_room (Nat.le_of_ble_eq_true rfl)) dX8_wordAt_7 ⟨Nat.zero_le _, Nat.zero_le _⟩) hP hS hA (fun H locs hP hS => ?_)
    refine lv_if_ne (tgt := 16) hx hb dX8_wordAt_10 (by decide) (fun c_10 => ?_) (fun c_10 => ?_)
    · refine lv_aload_n hx hb dX8_wordAt_16 rfl (lv_at hl 0 rfl) ?_
      refine va_get (D := D) (ci := 8) (v := .ref c0) (C := RX8) (T := TX8) (N := 3) hx hb hts u8 hown hK hP 0 rfl rfl 0 (by decide) k0 (fun _ h9 => h9) rfl dX8_wordAt_17 ?_
      have hPc := hP.sub (ws' := (wC I c0 e0 e1 e2 p0 p1 p2 w0 w1 w2 g0 g1 g2 ev dbl pn us wd (nI w) tl tk cb sz lg gr wt lt mv)) [1, 2, 3, 4, 5, 6, 7, 8, 9, 10, 11, 12, 13] rfl
      have hDc := hD.sub (ws' := (wC I c0 e0 e1 e2 p0 p1 p2 w0 w1 w2 g0 g1 g2 ev dbl pn us wd (nI w) tl tk cb sz lg gr wt lt mv)) [1, 2, 3, 4, 5, 6, 7, 8, 9, 10, 11, 12, 13] (by decide) rfl
      refine k_r (wr := [(y0, .inr (8, [.ref c0, .ref h0, .ref x0])), (x0, .inr (6, [.ref x1, .int xl, .int xp, .int xn, .int xi, .int xt, .int xk, .int xa, .int xe, .int xf, .int xr])), (x1, .inl (C, 80, .inl sg)), (h0, .inr (3, [.ref h1, .int ol, .int ns])), (h1, .inl (Q, 4, .inr (.inr (.inr (.inr fp)))))]) (ws' := (wL I C Q y0 c0 e0 e1 e2 p0 p1 p2 w0 w1 w2 g0 g1 g2 x0 x1 h0 h1 ev dbl pn us wd (nI w) tl tk cb sz lg gr wt lt mv sg xl xp xn xi xt xk xa xe xf xr ol ns fp)) (va_runV (As := []) (rest := []) hF (c_X1_panes l D I C Q c0 e0 e1 e2 p0 p1 p2 w0 w1 w2 g0 g1 g2 ev dbl pn us wd (nI w) tl tk cb sz lg gr wt lt mv _) (cwV 0 hts gX8_wordAt_X1_panes rfl rfl rfl (by decide +kernel) ⟨Nat.le_of_ble_eq_true rfl, Nat.le_of_ble_eq_true rfl⟩) (kPreV hE hPc hDc (ci := 1) (q0 := 0) rfl rfl) rfl rfl hl.1 rfl (lv_room (Nat.le_of_ble_eq_true rfl)) dX8_wordAt_20 ⟨Nat.zero_le _, Nat.zero_le _⟩) hP hD hS hA [1, 2, 3, 4, 5, 6, 7, 8, 9, 10, 11, 12, 13] [0, 14, 15, 16, 17] [0, 5, 6, 7, 8, 9, 10, 11, 12, 13, 14, 15, 16, 17, 1, 2, 3, 4] rfl rfl (by decide) (by decide) rfl (by decide) (fun H locs hP hD hS => ?_)
      have hPc := hP.sub (ws' := (wPn I p0 p1 p2 w0 w1 w2 pn us wd (nI w) tl tk)) [5, 6, 7, 8, 9, 10] rfl
      have hDc := hD.sub (ws' := (wPn I p0 p1 p2 w0 w1 w2 pn us wd (nI w) tl tk)) [5, 6, 7, 8, 9, 10] (by decide) rfl
      refine k_r (wr := [(y0, .inr (8, [.ref c0, .ref h0, .ref x0])), (c0, .inr (1, [.ref e0, .ref p0, .ref g0, .int sz, .int lg, .int gr, .int wt, .int lt, .int mv])), (e0, .inr (2, [.ref e1, .int dbl])), (e1, .inr (5, [.int (nI 64), .int (nI 7), .ref e2])), (e2, .inl (I, 64 * 7, .inl ev)), (g0, .inr (0, [.ref g1])), (g1, .inr (5, [.int (nI 3), .int (nI 5), .ref g2])), (g2, .inl (I, 3 * 5, .inl cb)), (x0, .inr (6, [.ref x1, .int xl, .int xp, .int xn, .int xi, .int xt, .int xk, .int xa, .int xe, .int xf, .int xr])), (x1, .inl (C, 80, .inl sg)), (h0, .inr (3, [.ref h1, .int ol, .int ns])), (h1, .inl (Q, 4, .inr (.inr (.inr (.inr fp)))))]) (ws' := (wL I C Q y0 c0 e0 e1 e2 p0 p1 p2 w0 w1 w2 g0 g1 g2 x0 x1 h0 h1 ev dbl pn us wd (nI w) tl tk cb sz lg gr wt lt mv sg xl xp xn xi xt xk xa xe xf xr ol ns fp)) (va_runV (As := []) (rest := []) hF (c_X4_words l D I C Q p0 p1 p2 w0 w1 w2 pn us wd (nI w) tl tk _) (cwV 0 hts gX8_wordAt_X4_words rfl rfl rfl (by decide +kernel) ⟨Nat.le_of_ble_eq_true rfl, Nat.le_of_ble_eq_true rfl⟩) (kPreV hE hPc hDc (ci := 4) (q0 := 0) rfl rfl) rfl rfl hl.1 rfl (lv_room (Nat.le_of_ble_eq_true rfl)) dX8_wordAt_23 ⟨Nat.zero_le _, Nat.zero_le _⟩) hP hD hS hA [5, 6, 7, 8, 9, 10] [0, 1, 2, 3, 4, 11, 12, 13, 14, 15, 16, 17] [0, 1, 2, 3, 4, 12, 13, 14, 15, 16, 17, 5, 6, 7, 8, 9, 10, 11] rfl rfl (by decide) (by decide) rfl (by decide) (fun H locs hP hD hS => ?_)
      refine lv_iload_n hx hb dX8_wordAt_26 rfl (lv_at hl 1 rfl) ?_
      refine lv_iload_n hx hb dX8_wordAt_27 rfl (lv_at hl 2 rfl) ?_
      have hPc := hP.sub (ws' := (wWd I w0 w1 w2 wd (nI w) tl tk)) [8, 9, 10] rfl
      have hDc := hD.sub (ws' := (wWd I w0 w1 w2 wd (nI w) tl tk)) [8, 9, 10] (by decide) rfl
      refine k_i (wr := [(y0, .inr (8, [.ref c0, .ref h0, .ref x0])), (c0, .inr (1, [.ref e0, .ref p0, .ref g0, .int sz, .int lg, .int gr, .int wt, .int lt, .int mv])), (e0, .inr (2, [.ref e1, .int dbl])), (e1, .inr (5, [.int (nI 64), .int (nI 7), .ref e2])), (e2, .inl (I, 64 * 7, .inl ev)), (p0, .inr (4, [.ref p1, .ref w0, .int us])), (p1, .inr (5, [.int (nI 64), .int (nI 8), .ref p2])), (p2, .inl (I, 64 * 8, .inl pn)), (g0, .inr (0, [.ref g1])), (g1, .inr (5, [.int (nI 3), .int (nI 5), .ref g2])), (g2, .inl (I, 3 * 5, .inl cb)), (x0, .inr (6, [.ref x1, .int xl, .int xp, .int xn, .int xi, .int xt, .int xk, .int xa, .int xe, .int xf, .int xr])), (x1, .inl (C, 80, .inl sg)), (h0, .inr (3, [.ref h1, .int ol, .int ns])), (h1, .inl (Q, 4, .inr (.inr (.inr (.inr fp)))))]) (ws' := (wL I C Q y0 c0 e0 e1 e2 p0 p1 p2 w0 w1 w2 g0 g1 g2 x0 x1 h0 h1 ev dbl pn us wd (nI w) tl tk cb sz lg gr wt lt mv sg xl xp xn xi xt xk xa xe xf xr ol ns fp)) (va_runV (As := [.int (nI ix), .int (nI c1)]) (rest := []) hF (c_X7_read l D I C Q w0 w1 w2 wd w tl tk ix c1 hw40 hix hc4 _) (cwV 2 hts gX8_wordAt_X7_read rfl rfl rfl (by decide +kernel) ⟨Nat.le_of_ble_eq_true rfl, Nat.le_of_ble_eq_true rfl⟩) (kPreV hE hPc hDc (ci := 7) (q0 := 0) rfl rfl) rfl rfl hl.1 rfl (lv_room (Nat.le_of_ble_eq_true rfl)) dX8_wordAt_28 ⟨Nat.zero_le _, Nat.zero_le _⟩) hP hD hS hA [8, 9, 10] [0, 1, 2, 3, 4, 5, 6, 7, 11, 12, 13, 14, 15, 16, 17] [0, 1, 2, 3, 4, 5, 6, 7, 15, 16, 17, 8, 9, 10, 11, 12, 13, 14] rfl rfl (by decide) (by decide) rfl (by decide) (fun H locs hP hD hS => ?_)
      exact hend _ _ _ _ _ _ hP hD hS dX8_wordAt_31 rfl rfl rfl
    · exact absurd c_10 hok
set_option maxHeartbeats 400000 in
set_option maxRecDepth 100000 in
theorem c_X8_eventOfB (l : Launch) (D : va_G) (I C Q : ClassId) (y0 c0 e0 e1 e2 p0 p1 p2 w0 w1 w2 g0 g1 g2 x0 x1 h0 h1 : Nat) (ev : Nat → Int32) (dbl : Int32) (pn : Nat → Int32) (us : Int32) (wd : Nat → Int32) (kp : Int32) (tl : Int32) (tk : Int32) (cb : Nat → Int32) (sz : Int32) (lg : Int32) (gr : Int32) (wt : Int32) (lt : Int32) (mv : Int32) (sg : Nat → Int32) (xl : Int32) (xp : Int32) (xn : Int32) (xi : Int32) (xt : Int32) (xk : Int32) (xa : Int32) (xe : Int32) (xf : Int32) (xr : Int32) (ol : Int32) (ns : Int32) (fp : Nat → Option Nat) (x : Int32) (w : Int32) (hbad : m_isIn x 0 63 = 0 ∨ m_isIn w 0 5 = 0) : KI l D (tyL I C Q) yX8_eventOf wsX8_eventOf { frames := 1, cells := 0, slots := 0, locals := 22 } [.ref y0, .int x, .int w] (wL I C Q y0 c0 e0 e1 e2 p0 p1 p2 w0 w1 w2 g0 g1 g2 x0 x1 h0 h1 ev dbl pn us wd kp tl tk cb sz lg gr wt lt mv sg xl xp xn xi xt xk xa xe xf xr ol ns fp) (wL I C Q y0 c0 e0 e1 e2 p0 p1 p2 w0 w1 w2 g0 g1 g2 x0 x1 h0 h1 ev dbl pn us wd kp tl tk cb sz lg gr wt lt mv sg xl xp xn xi xt xk xa xe xf xr ol ns fp) (-1000001) := by
  refine KI.of (cc := cX8_eventOf) (maxL := 3) (rt := .int) (own := RX8) (by decide) rfl rfl (Nat.le_of_ble_eq_true rfl) ?_
  intro p e s m below meth c A Q0 ls hx hb hml hown hts hE hA hP hD hS hl hend
  have hK := hE.1
  have hF : CallFix p m c cX8_eventOf 3 s [.ref y0, .int x, .int w].toArray wsX8_eventOf RX8 := ⟨hx, hb, hml, hown, hts⟩
  have k0 := hts (.constant RX8 34 (-1000001)) (List.mem_of_getElem? (i := 1) rfl)
  have hl : lv_has ls 3 [(0, .ref y0), (1, .int x), (2, .int w)] := hl
  refine lv_iload_n hx hb dX8_eventOf_0 rfl (lv_at hl 1 rfl) ?_
  refine lv_iconst (v := 0) hx hb dX8_eventOf_1 (by decide) ?_
  refine lv_bipush (v := 63) hx hb dX8_eventOf_2 (by decide) ?_
  refine k_i0 (va_runS (As := [.int x, .int 0, .int 63]) (rest := []) hF (c_X8_isWithin l D I C Q x 0 63 _) (va_cwS 3 hts gX8_eventOf_X8_isWithin rfl rfl rfl (by decide +kernel) ⟨Nat.le_of_ble_eq_true rfl, Nat.le_of_ble_eq_true rfl⟩) (kPreS hE k_P0 (k_D0 (A := A))) rfl rfl hl.1 rfl (lv_room (Nat.le_of_ble_eq_true rfl)) dX8_eventOf_4 ⟨Nat.zero_le _, Nat.zero_le _⟩) hP hS hA (fun H locs hP hS => ?_)
  refine lv_if_eq (tgt := 19) hx hb dX8_eventOf_7 (by decide) (fun c_7 => ?_) (fun c_7 => ?_)
  · refine lv_ldc (v := (-1000001)) hx hb hown k0 dX8_eventOf_19 ?_
    exact hend _ _ _ _ _ _ hP hD hS dX8_eventOf_21 rfl rfl rfl
  · refine lv_iload_n hx hb dX8_eventOf_10 rfl (lv_at hl 2 rfl) ?_
    refine lv_iconst (v := 0) hx hb dX8_eventOf_11 (by decide) ?_
    refine lv_iconst (v := 5) hx hb dX8_eventOf_12 (by decide) ?_
    refine k_i0 (va_runS (As := [.int w, .int 0, .int 5]) (rest := []) hF (c_X8_isWithin l D I C Q w 0 5 _) (va_cwS 3 hts gX8_eventOf_X8_isWithin rfl rfl rfl (by decide +kernel) ⟨Nat.le_of_ble_eq_true rfl, Nat.le_of_ble_eq_true rfl⟩) (kPreS hE k_P0 (k_D0 (A := A))) rfl rfl hl.1 rfl (lv_room (Nat.le_of_ble_eq_true rfl)) dX8_eventOf_13 ⟨Nat.zero_le _, Nat.zero_le _⟩) hP hS hA (fun H locs hP hS => ?_)
    refine lv_if_ne (tgt := 22) hx hb dX8_eventOf_16 (by decide) (fun c_16 => ?_) (fun c_16 => ?_)
    · exact (hbad.elim c_7 c_16).elim
    · refine lv_ldc (v := (-1000001)) hx hb hown k0 dX8_eventOf_19 ?_
      exact hend _ _ _ _ _ _ hP hD hS dX8_eventOf_21 rfl rfl rfl
set_option maxHeartbeats 400000 in
set_option maxRecDepth 100000 in
theorem c_X8_eventOfO (l : Launch) (D : va_G) (I C Q : ClassId) (y0 c0 e0 e1 e2 p0 p1 p2 w0 w1 w2 g0 g1 g2 x0 x1 h0 h1 : Nat) (ev : Nat → Int32) (dbl : Int32) (pn : Nat → Int32) (us : Int32) (wd : Nat → Int32) (kp : Int32) (tl : Int32) (tk : Int32) (cb : Nat → Int32) (sz : Int32) (lg : Int32) (gr : Int32) (wt : Int32) (lt : Int32) (mv : Int32) (sg : Nat → Int32) (xl : Int32) (xp : Int32) (xn : Int32) (xi : Int32) (xt : Int32) (xk : Int32) (xa : Int32) (xe : Int32) (xf : Int32) (xr : Int32) (ol : Int32) (ns : Int32) (fp : Nat → Option Nat) (i : Nat) (w : Nat) (hi : i < 64) (hok : ¬ m_isIn (nI i) 0 63 = 0) (hok2 : ¬ m_isIn (nI w) 0 5 = 0) (hw : w < 7) : KI l D (tyL I C Q) yX8_eventOf wsX8_eventOf { frames := 3, cells := 0, slots := 0, locals := 66 } [.ref y0, .int (nI i), .int (nI w)] (wL I C Q y0 c0 e0 e1 e2 p0 p1 p2 w0 w1 w2 g0 g1 g2 x0 x1 h0 h1 ev dbl pn us wd kp tl tk cb sz lg gr wt lt mv sg xl xp xn xi xt xk xa xe xf xr ol ns fp) (wL I C Q y0 c0 e0 e1 e2 p0 p1 p2 w0 w1 w2 g0 g1 g2 x0 x1 h0 h1 ev dbl pn us wd kp tl tk cb sz lg gr wt lt mv sg xl xp xn xi xt xk xa xe xf xr ol ns fp) (e_rd ev i w) := by
  refine KI.of (cc := cX8_eventOf) (maxL := 3) (rt := .int) (own := RX8) (by decide) rfl rfl (Nat.le_of_ble_eq_true rfl) ?_
  intro p e s m below meth c A Q0 ls hx hb hml hown hts hE hA hP hD hS hl hend
  have hK := hE.1
  have hF : CallFix p m c cX8_eventOf 3 s [.ref y0, .int (nI i), .int (nI w)].toArray wsX8_eventOf RX8 := ⟨hx, hb, hml, hown, hts⟩
  have k0 := hts (.fieldLink RX8 10 "LateExcuses" "court" "LLateExcuses$Court;") (List.mem_of_getElem? (i := 2) rfl)
  have u8 : ∀ w ∈ u_ws RX8 TX8 3, w ∈ wsX8_eventOf := by decide +kernel
  have hl : lv_has ls 3 [(0, .ref y0), (1, .int (nI i)), (2, .int (nI w))] := hl
  refine lv_iload_n hx hb dX8_eventOf_0 rfl (lv_at hl 1 rfl) ?_
  refine lv_iconst (v := 0) hx hb dX8_eventOf_1 (by decide) ?_
  refine lv_bipush (v := 63) hx hb dX8_eventOf_2 (by decide) ?_
  refine k_i0 (va_runS (As := [.int (nI i), .int 0, .int 63]) (rest := []) hF (c_X8_isWithin l D I C Q (nI i) 0 63 _) (va_cwS 3 hts gX8_eventOf_X8_isWithin rfl rfl rfl (by decide +kernel) ⟨Nat.le_of_ble_eq_true rfl, Nat.le_of_ble_eq_true rfl⟩) (kPreS hE k_P0 (k_D0 (A := A))) rfl rfl hl.1 rfl (lv_room (Nat.le_of_ble_eq_true rfl)) dX8_eventOf_4 ⟨Nat.zero_le _, Nat.zero_le _⟩) hP hS hA (fun H locs hP hS => ?_)
  refine lv_if_eq (tgt := 19) hx hb dX8_eventOf_7 (by decide) (fun c_7 => ?_) (fun c_7 => ?_)
  · exact absurd c_7 hok
  · refine lv_iload_n hx hb dX8_eventOf_10 rfl (lv_at hl 2 rfl) ?_
    refine lv_iconst (v := 0) hx hb dX8_eventOf_11 (by decide) ?_
    refine lv_iconst (v := 5) hx hb dX8_eventOf_12 (by decide) ?_
    refine k_i0 (va_runS (As := [.int (nI w), .int 0, .int 5]) (rest := []) hF (c_X8_isWithin l D I C Q (nI w) 0 5 _) (va_cwS 3 hts gX8_eventOf_X8_isWithin rfl rfl rfl (by decide +kernel) ⟨Nat.le_of_ble_eq_true rfl, Nat.le_of_ble_eq_true rfl⟩) (kPreS hE k_P0 (k_D0 (A := A))) rfl rfl hl.1 rfl (lv_room (Nat.le_of_ble_eq_true rfl)) dX8_eventOf_13 ⟨Nat.zero_le _, Nat.zero_le _⟩) hP hS hA (fun H locs hP hS => ?_)
    refine lv_if_ne (tgt := 22) hx hb dX8_eventOf_16 (by decide) (fun c_16 => ?_) (fun c_16 => ?_)
    · refine lv_aload_n hx hb dX8_eventOf_22 rfl (lv_at hl 0 rfl) ?_
      refine va_get (D := D) (ci := 8) (v := .ref c0) (C := RX8) (T := TX8) (N := 3) hx hb hts u8 hown hK hP 0 rfl rfl 0 (by decide) k0 (fun _ h9 => h9) rfl dX8_eventOf_23 ?_
      have hPc := hP.sub (ws' := (wC I c0 e0 e1 e2 p0 p1 p2 w0 w1 w2 g0 g1 g2 ev dbl pn us wd kp tl tk cb sz lg gr wt lt mv)) [1, 2, 3, 4, 5, 6, 7, 8, 9, 10, 11, 12, 13] rfl
      have hDc := hD.sub (ws' := (wC I c0 e0 e1 e2 p0 p1 p2 w0 w1 w2 g0 g1 g2 ev dbl pn us wd kp tl tk cb sz lg gr wt lt mv)) [1, 2, 3, 4, 5, 6, 7, 8, 9, 10, 11, 12, 13] (by decide) rfl
      refine k_r (wr := [(y0, .inr (8, [.ref c0, .ref h0, .ref x0])), (x0, .inr (6, [.ref x1, .int xl, .int xp, .int xn, .int xi, .int xt, .int xk, .int xa, .int xe, .int xf, .int xr])), (x1, .inl (C, 80, .inl sg)), (h0, .inr (3, [.ref h1, .int ol, .int ns])), (h1, .inl (Q, 4, .inr (.inr (.inr (.inr fp)))))]) (ws' := (wL I C Q y0 c0 e0 e1 e2 p0 p1 p2 w0 w1 w2 g0 g1 g2 x0 x1 h0 h1 ev dbl pn us wd kp tl tk cb sz lg gr wt lt mv sg xl xp xn xi xt xk xa xe xf xr ol ns fp)) (va_runV (As := []) (rest := []) hF (c_X1_events l D I C Q c0 e0 e1 e2 p0 p1 p2 w0 w1 w2 g0 g1 g2 ev dbl pn us wd kp tl tk cb sz lg gr wt lt mv _) (cwV 0 hts gX8_eventOf_X1_events rfl rfl rfl (by decide +kernel) ⟨Nat.le_of_ble_eq_true rfl, Nat.le_of_ble_eq_true rfl⟩) (kPreV hE hPc hDc (ci := 1) (q0 := 0) rfl rfl) rfl rfl hl.1 rfl (lv_room (Nat.le_of_ble_eq_true rfl)) dX8_eventOf_26 ⟨Nat.zero_le _, Nat.zero_le _⟩) hP hD hS hA [1, 2, 3, 4, 5, 6, 7, 8, 9, 10, 11, 12, 13] [0, 14, 15, 16, 17] [0, 5, 6, 7, 8, 9, 10, 11, 12, 13, 14, 15, 16, 17, 1, 2, 3, 4] rfl rfl (by decide) (by decide) rfl (by decide) (fun H locs hP hD hS => ?_)
      refine lv_iload_n hx hb dX8_eventOf_29 rfl (lv_at hl 1 rfl) ?_
      refine lv_iload_n hx hb dX8_eventOf_30 rfl (lv_at hl 2 rfl) ?_
      have hPc := hP.sub (ws' := (wEv I e0 e1 e2 ev dbl)) [2, 3, 4] rfl
      have hDc := hD.sub (ws' := (wEv I e0 e1 e2 ev dbl)) [2, 3, 4] (by decide) rfl
      refine k_i (wr := [(y0, .inr (8, [.ref c0, .ref h0, .ref x0])), (c0, .inr (1, [.ref e0, .ref p0, .ref g0, .int sz, .int lg, .int gr, .int wt, .int lt, .int mv])), (p0, .inr (4, [.ref p1, .ref w0, .int us])), (p1, .inr (5, [.int (nI 64), .int (nI 8), .ref p2])), (p2, .inl (I, 64 * 8, .inl pn)), (w0, .inr (7, [.ref w1, .int kp, .int tl, .int tk])), (w1, .inr (5, [.int (nI 40), .int (nI 4), .ref w2])), (w2, .inl (I, 40 * 4, .inl wd)), (g0, .inr (0, [.ref g1])), (g1, .inr (5, [.int (nI 3), .int (nI 5), .ref g2])), (g2, .inl (I, 3 * 5, .inl cb)), (x0, .inr (6, [.ref x1, .int xl, .int xp, .int xn, .int xi, .int xt, .int xk, .int xa, .int xe, .int xf, .int xr])), (x1, .inl (C, 80, .inl sg)), (h0, .inr (3, [.ref h1, .int ol, .int ns])), (h1, .inl (Q, 4, .inr (.inr (.inr (.inr fp)))))]) (ws' := (wL I C Q y0 c0 e0 e1 e2 p0 p1 p2 w0 w1 w2 g0 g1 g2 x0 x1 h0 h1 ev dbl pn us wd kp tl tk cb sz lg gr wt lt mv sg xl xp xn xi xt xk xa xe xf xr ol ns fp)) (va_runV (As := [.int (nI i), .int (nI w)]) (rest := []) hF (c_X2_read l D I C Q e0 e1 e2 ev dbl i w hi hw _) (cwV 2 hts gX8_eventOf_X2_read rfl rfl rfl (by decide +kernel) ⟨Nat.le_of_ble_eq_true rfl, Nat.le_of_ble_eq_true rfl⟩) (kPreV hE hPc hDc (ci := 2) (q0 := 0) rfl rfl) rfl rfl hl.1 rfl (lv_room (Nat.le_of_ble_eq_true rfl)) dX8_eventOf_31 ⟨Nat.zero_le _, Nat.zero_le _⟩) hP hD hS hA [2, 3, 4] [0, 1, 5, 6, 7, 8, 9, 10, 11, 12, 13, 14, 15, 16, 17] [0, 1, 15, 16, 17, 2, 3, 4, 5, 6, 7, 8, 9, 10, 11, 12, 13, 14] rfl rfl (by decide) (by decide) rfl (by decide) (fun H locs hP hD hS => ?_)
      exact hend _ _ _ _ _ _ hP hD hS dX8_eventOf_34 rfl rfl rfl
    · exact absurd c_16 hok2
set_option maxHeartbeats 400000 in
set_option maxRecDepth 100000 in
theorem c_X8_judgeB (l : Launch) (D : va_G) (I C Q : ClassId) (y0 c0 e0 e1 e2 p0 p1 p2 w0 w1 w2 g0 g1 g2 x0 x1 h0 h1 : Nat) (ev : Nat → Int32) (dbl : Int32) (pn : Nat → Int32) (us : Int32) (wd : Nat → Int32) (kp : Int32) (tl : Int32) (tk : Int32) (cb : Nat → Int32) (sz : Int32) (lg : Int32) (gr : Int32) (wt : Int32) (lt : Int32) (mv : Int32) (sg : Nat → Int32) (xl : Int32) (xp : Int32) (xn : Int32) (xi : Int32) (xt : Int32) (xk : Int32) (xa : Int32) (xe : Int32) (xf : Int32) (xr : Int32) (ol : Int32) (ns : Int32) (fp : Nat → Option Nat) (t : Int32) (key : Int32) (x : Int32) (hbad : m_isIn t 0 1999 = 0 ∨ m_isIn key 0 5 = 0 ∨ m_isIn x 0 3 = 0) : KI l D (tyL I C Q) yX8_judge wsX8_judge { frames := 1, cells := 0, slots := 0, locals := 22 } [.ref y0, .int t, .int key, .int x] (wL I C Q y0 c0 e0 e1 e2 p0 p1 p2 w0 w1 w2 g0 g1 g2 x0 x1 h0 h1 ev dbl pn us wd kp tl tk cb sz lg gr wt lt mv sg xl xp xn xi xt xk xa xe xf xr ol ns fp) (wL I C Q y0 c0 e0 e1 e2 p0 p1 p2 w0 w1 w2 g0 g1 g2 x0 x1 h0 h1 ev dbl pn us wd kp tl tk cb sz lg gr wt lt mv sg xl xp xn xi xt xk xa xe xf xr ol ns fp) (-1000001) := by
  refine KI.of (cc := cX8_judge) (maxL := 5) (rt := .int) (own := RX8) (by decide) rfl rfl (Nat.le_of_ble_eq_true rfl) ?_
  intro p e s m below meth c A Q0 ls hx hb hml hown hts hE hA hP hD hS hl hend
  have hK := hE.1
  have hF : CallFix p m c cX8_judge 5 s [.ref y0, .int t, .int key, .int x].toArray wsX8_judge RX8 := ⟨hx, hb, hml, hown, hts⟩
  have k0 := hts (.constant RX8 34 (-1000001)) (List.mem_of_getElem? (i := 2) rfl)
  have hl : lv_has ls 5 [(0, .ref y0), (1, .int t), (2, .int key), (3, .int x)] := hl
  refine lv_iload_n hx hb dX8_judge_0 rfl (lv_at hl 1 rfl) ?_
  refine lv_iconst (v := 0) hx hb dX8_judge_1 (by decide) ?_
  refine lv_sipush (v := 1999) hx hb dX8_judge_2 (by decide) ?_
  refine k_i0 (va_runS (As := [.int t, .int 0, .int 1999]) (rest := []) hF (c_X8_isWithin l D I C Q t 0 1999 _) (va_cwS 3 hts gX8_judge_X8_isWithin rfl rfl rfl (by decide +kernel) ⟨Nat.le_of_ble_eq_true rfl, Nat.le_of_ble_eq_true rfl⟩) (kPreS hE k_P0 (k_D0 (A := A))) rfl rfl hl.1 rfl (lv_room (Nat.le_of_ble_eq_true rfl)) dX8_judge_5 ⟨Nat.zero_le _, Nat.zero_le _⟩) hP hS hA (fun H locs hP hS => ?_)
  refine lv_if_eq (tgt := 33) hx hb dX8_judge_8 (by decide) (fun c_8 => ?_) (fun c_8 => ?_)
  · refine lv_iconst (v := 0) hx hb dX8_judge_33 (by decide) ?_
    refine lv_istore (lv' := [(4, .int 0), (0, .ref y0), (1, .int t), (2, .int key), (3, .int x)]) hx hb dX8_judge_34 hl (by decide) rfl (fun ls hl => ?_)
    refine lv_iload hx hb dX8_judge_36 (lv_at hl 0 rfl) ?_
    refine lv_if_eq (tgt := 54) hx hb dX8_judge_38 (by decide) (fun c_38 => ?_) (fun c_38 => ?_)
    · refine lv_ldc (v := (-1000001)) hx hb hown k0 dX8_judge_54 ?_
      exact hend _ _ _ _ _ _ hP hD hS dX8_judge_56 rfl rfl rfl
    · exact (c_38 (by decide)).elim
  · refine lv_iload_n hx hb dX8_judge_11 rfl (lv_at hl 2 rfl) ?_
    refine lv_iconst (v := 0) hx hb dX8_judge_12 (by decide) ?_
    refine lv_iconst (v := 5) hx hb dX8_judge_13 (by decide) ?_
    refine k_i0 (va_runS (As := [.int key, .int 0, .int 5]) (rest := []) hF (c_X8_isWithin l D I C Q key 0 5 _) (va_cwS 3 hts gX8_judge_X8_isWithin rfl rfl rfl (by decide +kernel) ⟨Nat.le_of_ble_eq_true rfl, Nat.le_of_ble_eq_true rfl⟩) (kPreS hE k_P0 (k_D0 (A := A))) rfl rfl hl.1 rfl (lv_room (Nat.le_of_ble_eq_true rfl)) dX8_judge_14 ⟨Nat.zero_le _, Nat.zero_le _⟩) hP hS hA (fun H locs hP hS => ?_)
    refine lv_if_eq (tgt := 33) hx hb dX8_judge_17 (by decide) (fun c_17 => ?_) (fun c_17 => ?_)
    · refine lv_iconst (v := 0) hx hb dX8_judge_33 (by decide) ?_
      refine lv_istore (lv' := [(4, .int 0), (0, .ref y0), (1, .int t), (2, .int key), (3, .int x)]) hx hb dX8_judge_34 hl (by decide) rfl (fun ls hl => ?_)
      refine lv_iload hx hb dX8_judge_36 (lv_at hl 0 rfl) ?_
      refine lv_if_eq (tgt := 54) hx hb dX8_judge_38 (by decide) (fun c_38 => ?_) (fun c_38 => ?_)
      · refine lv_ldc (v := (-1000001)) hx hb hown k0 dX8_judge_54 ?_
        exact hend _ _ _ _ _ _ hP hD hS dX8_judge_56 rfl rfl rfl
      · exact (c_38 (by decide)).elim
    · refine lv_iload_n hx hb dX8_judge_20 rfl (lv_at hl 3 rfl) ?_
      refine lv_iconst (v := 0) hx hb dX8_judge_21 (by decide) ?_
      refine lv_iconst (v := 3) hx hb dX8_judge_22 (by decide) ?_
      refine k_i0 (va_runS (As := [.int x, .int 0, .int 3]) (rest := []) hF (c_X8_isWithin l D I C Q x 0 3 _) (va_cwS 3 hts gX8_judge_X8_isWithin rfl rfl rfl (by decide +kernel) ⟨Nat.le_of_ble_eq_true rfl, Nat.le_of_ble_eq_true rfl⟩) (kPreS hE k_P0 (k_D0 (A := A))) rfl rfl hl.1 rfl (lv_room (Nat.le_of_ble_eq_true rfl)) dX8_judge_23 ⟨Nat.zero_le _, Nat.zero_le _⟩) hP hS hA (fun H locs hP hS => ?_)
      refine lv_if_eq (tgt := 33) hx hb dX8_judge_26 (by decide) (fun c_26 => ?_) (fun c_26 => ?_)
      · refine lv_iconst (v := 0) hx hb dX8_judge_33 (by decide) ?_
        refine lv_istore (lv' := [(4, .int 0), (0, .ref y0), (1, .int t), (2, .int key), (3, .int x)]) hx hb dX8_judge_34 hl (by decide) rfl (fun ls hl => ?_)
        refine lv_iload hx hb dX8_judge_36 (lv_at hl 0 rfl) ?_
        refine lv_if_eq (tgt := 54) hx hb dX8_judge_38 (by decide) (fun c_38 => ?_) (fun c_38 => ?_)
        · refine lv_ldc (v := (-1000001)) hx hb hown k0 dX8_judge_54 ?_
          exact hend _ _ _ _ _ _ hP hD hS dX8_judge_56 rfl rfl rfl
        · exact (c_38 (by decide)).elim
      · exact (hbad.elim c_8 (fun h9 => h9.elim c_17 c_26)).elim
set_option maxHeartbeats 400000 in
set_option maxRecDepth 100000 in
theorem c_X8_judgeO (l : Launch) (D : va_G) (I C Q : ClassId) (y0 c0 e0 e1 e2 p0 p1 p2 w0 w1 w2 g0 g1 g2 x0 x1 h0 h1 : Nat) (ev : Nat → Int32) (dbl : Int32) (pn : Nat → Int32) (u : Nat) (wd : Nat → Int32) (kp : Int32) (tl : Int32) (tk : Int32) (cb : Nat → Int32) (z : Nat) (lg : Int32) (gr : Int32) (wt : Int32) (lt : Int32) (mv : Int32) (sg : Nat → Int32) (xl : Int32) (xp : Int32) (xn : Int32) (xi : Int32) (xt : Int32) (xk : Int32) (xa : Int32) (xe : Int32) (xf : Int32) (xr : Int32) (ol : Int32) (ns : Int32) (fp : Nat → Option Nat) (t : Nat) (key : Int32) (x : Int32) (hz0 : 0 < z) (hz1 : z ≤ 100) (hu64 : u ≤ 64) (ht : t < 2000) (hok1 : ¬ m_isIn (nI t) 0 1999 = 0) (hok2 : ¬ m_isIn key 0 5 = 0) (hok3 : ¬ m_isIn x 0 3 = 0) : KI l D (tyL I C Q) yX8_judge wsX8_judge { frames := 5, cells := 0, slots := 0, locals := 118 } [.ref y0, .int (nI t), .int key, .int x] (wL I C Q y0 c0 e0 e1 e2 p0 p1 p2 w0 w1 w2 g0 g1 g2 x0 x1 h0 h1 ev dbl pn (nI u) wd kp tl tk cb (nI z) lg gr wt lt mv sg xl xp xn xi xt xk xa xe xf xr ol ns fp) (wL I C Q y0 c0 e0 e1 e2 p0 p1 p2 w0 w1 w2 g0 g1 g2 x0 x1 h0 h1 ev dbl pn (nI u) wd kp tl tk cb (nI z) lg gr wt lt mv sg xl xp xn xi xt xk xa xe xf xr ol ns fp) (c_ver ev pn u cb wt z t key x) := by
  refine KI.of (cc := cX8_judge) (maxL := 5) (rt := .int) (own := RX8) (by decide) rfl rfl (Nat.le_of_ble_eq_true rfl) ?_
  intro p e s m below meth c A Q0 ls hx hb hml hown hts hE hA hP hD hS hl hend
  have hK := hE.1
  have hF : CallFix p m c cX8_judge 5 s [.ref y0, .int (nI t), .int key, .int x].toArray wsX8_judge RX8 := ⟨hx, hb, hml, hown, hts⟩
  have k0 := hts (.fieldLink RX8 10 "LateExcuses" "court" "LLateExcuses$Court;") (List.mem_of_getElem? (i := 1) rfl)
  have u8 : ∀ w ∈ u_ws RX8 TX8 3, w ∈ wsX8_judge := by decide +kernel
  have hl : lv_has ls 5 [(0, .ref y0), (1, .int (nI t)), (2, .int key), (3, .int x)] := hl
  refine lv_iload_n hx hb dX8_judge_0 rfl (lv_at hl 1 rfl) ?_
  refine lv_iconst (v := 0) hx hb dX8_judge_1 (by decide) ?_
  refine lv_sipush (v := 1999) hx hb dX8_judge_2 (by decide) ?_
  refine k_i0 (va_runS (As := [.int (nI t), .int 0, .int 1999]) (rest := []) hF (c_X8_isWithin l D I C Q (nI t) 0 1999 _) (va_cwS 3 hts gX8_judge_X8_isWithin rfl rfl rfl (by decide +kernel) ⟨Nat.le_of_ble_eq_true rfl, Nat.le_of_ble_eq_true rfl⟩) (kPreS hE k_P0 (k_D0 (A := A))) rfl rfl hl.1 rfl (lv_room (Nat.le_of_ble_eq_true rfl)) dX8_judge_5 ⟨Nat.zero_le _, Nat.zero_le _⟩) hP hS hA (fun H locs hP hS => ?_)
  refine lv_if_eq (tgt := 33) hx hb dX8_judge_8 (by decide) (fun c_8 => ?_) (fun c_8 => ?_)
  · exact absurd c_8 hok1
  · refine lv_iload_n hx hb dX8_judge_11 rfl (lv_at hl 2 rfl) ?_
    refine lv_iconst (v := 0) hx hb dX8_judge_12 (by decide) ?_
    refine lv_iconst (v := 5) hx hb dX8_judge_13 (by decide) ?_
    refine k_i0 (va_runS (As := [.int key, .int 0, .int 5]) (rest := []) hF (c_X8_isWithin l D I C Q key 0 5 _) (va_cwS 3 hts gX8_judge_X8_isWithin rfl rfl rfl (by decide +kernel) ⟨Nat.le_of_ble_eq_true rfl, Nat.le_of_ble_eq_true rfl⟩) (kPreS hE k_P0 (k_D0 (A := A))) rfl rfl hl.1 rfl (lv_room (Nat.le_of_ble_eq_true rfl)) dX8_judge_14 ⟨Nat.zero_le _, Nat.zero_le _⟩) hP hS hA (fun H locs hP hS => ?_)
    refine lv_if_eq (tgt := 33) hx hb dX8_judge_17 (by decide) (fun c_17 => ?_) (fun c_17 => ?_)
    · exact absurd c_17 hok2
    · refine lv_iload_n hx hb dX8_judge_20 rfl (lv_at hl 3 rfl) ?_
      refine lv_iconst (v := 0) hx hb dX8_judge_21 (by decide) ?_
      refine lv_iconst (v := 3) hx hb dX8_judge_22 (by decide) ?_
      refine k_i0 (va_runS (As := [.int x, .int 0, .int 3]) (rest := []) hF (c_X8_isWithin l D I C Q x 0 3 _) (va_cwS 3 hts gX8_judge_X8_isWithin rfl rfl rfl (by decide +kernel) ⟨Nat.le_of_ble_eq_true rfl, Nat.le_of_ble_eq_true rfl⟩) (kPreS hE k_P0 (k_D0 (A := A))) rfl rfl hl.1 rfl (lv_room (Nat.le_of_ble_eq_true rfl)) dX8_judge_23 ⟨Nat.zero_le _, Nat.zero_le _⟩) hP hS hA (fun H locs hP hS => ?_)
      refine lv_if_eq (tgt := 33) hx hb dX8_judge_26 (by decide) (fun c_26 => ?_) (fun c_26 => ?_)
      · exact absurd c_26 hok3
      · refine lv_iconst (v := 1) hx hb dX8_judge_29 (by decide) ?_
        refine lv_goto (tgt := 34) hx hb dX8_judge_30 (by decide) ?_
        refine lv_istore (lv' := [(4, .int 1), (0, .ref y0), (1, .int (nI t)), (2, .int key), (3, .int x)]) hx hb dX8_judge_34 hl (by decide) rfl (fun ls hl => ?_)
        refine lv_iload hx hb dX8_judge_36 (lv_at hl 0 rfl) ?_
        refine lv_if_eq (tgt := 54) hx hb dX8_judge_38 (by decide) (fun c_38 => ?_) (fun c_38 => ?_)
        · exact absurd c_38 (by decide)
        · refine lv_aload_n hx hb dX8_judge_41 rfl (lv_at hl 1 rfl) ?_
          refine va_get (D := D) (ci := 8) (v := .ref c0) (C := RX8) (T := TX8) (N := 3) hx hb hts u8 hown hK hP 0 rfl rfl 0 (by decide) k0 (fun _ h9 => h9) rfl dX8_judge_42 ?_
          refine lv_iload_n hx hb dX8_judge_45 rfl (lv_at hl 2 rfl) ?_
          refine lv_iload_n hx hb dX8_judge_46 rfl (lv_at hl 3 rfl) ?_
          refine lv_iload_n hx hb dX8_judge_47 rfl (lv_at hl 4 rfl) ?_
          have hPc := hP.sub (ws' := (wC I c0 e0 e1 e2 p0 p1 p2 w0 w1 w2 g0 g1 g2 ev dbl pn (nI u) wd kp tl tk cb (nI z) lg gr wt lt mv)) [1, 2, 3, 4, 5, 6, 7, 8, 9, 10, 11, 12, 13] rfl
          have hDc := hD.sub (ws' := (wC I c0 e0 e1 e2 p0 p1 p2 w0 w1 w2 g0 g1 g2 ev dbl pn (nI u) wd kp tl tk cb (nI z) lg gr wt lt mv)) [1, 2, 3, 4, 5, 6, 7, 8, 9, 10, 11, 12, 13] (by decide) rfl
          refine k_i (wr := [(y0, .inr (8, [.ref c0, .ref h0, .ref x0])), (x0, .inr (6, [.ref x1, .int xl, .int xp, .int xn, .int xi, .int xt, .int xk, .int xa, .int xe, .int xf, .int xr])), (x1, .inl (C, 80, .inl sg)), (h0, .inr (3, [.ref h1, .int ol, .int ns])), (h1, .inl (Q, 4, .inr (.inr (.inr (.inr fp)))))]) (ws' := (wL I C Q y0 c0 e0 e1 e2 p0 p1 p2 w0 w1 w2 g0 g1 g2 x0 x1 h0 h1 ev dbl pn (nI u) wd kp tl tk cb (nI z) lg gr wt lt mv sg xl xp xn xi xt xk xa xe xf xr ol ns fp)) (va_runV (As := [.int (nI t), .int key, .int x]) (rest := []) hF (c_X1_verdict l D I C Q c0 e0 e1 e2 p0 p1 p2 w0 w1 w2 g0 g1 g2 ev dbl pn u wd kp tl tk cb z lg gr wt lt mv t key x hz0 hz1 hu64 ht _) (cwV 3 hts gX8_judge_X1_verdict rfl rfl rfl (by decide +kernel) ⟨Nat.le_of_ble_eq_true rfl, Nat.le_of_ble_eq_true rfl⟩) (kPreV hE hPc hDc (ci := 1) (q0 := 0) rfl rfl) rfl rfl hl.1 rfl (lv_room (Nat.le_of_ble_eq_true rfl)) dX8_judge_48 ⟨Nat.zero_le _, Nat.zero_le _⟩) hP hD hS hA [1, 2, 3, 4, 5, 6, 7, 8, 9, 10, 11, 12, 13] [0, 14, 15, 16, 17] [0, 5, 6, 7, 8, 9, 10, 11, 12, 13, 14, 15, 16, 17, 1, 2, 3, 4] rfl rfl (by decide) (by decide) rfl (by decide) (fun H locs hP hD hS => ?_)
          refine lv_goto (tgt := 56) hx hb dX8_judge_51 (by decide) ?_
          exact hend _ _ _ _ _ _ hP hD hS dX8_judge_56 rfl rfl rfl
