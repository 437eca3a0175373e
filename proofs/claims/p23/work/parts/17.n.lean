set_option maxHeartbeats 400000 in
set_option maxRecDepth 100000 in
theorem c_X1_raiseWatermarkN (l : Launch) (D : va_G) (I C Q : ClassId) (c0 e0 e1 e2 p0 p1 p2 w0 w1 w2 g0 g1 g2 : Nat) (ev : Nat → Int32) (dbl : Int32) (pn : Nat → Int32) (us : Int32) (wd : Nat → Int32) (kp : Int32) (tl : Int32) (tk : Int32) (cb : Nat → Int32) (sz : Int32) (lg : Int32) (gr : Int32) (wt : Int32) (lt : Int32) (mv : Int32) (mk : Int32) (hle : mk ≤ wt) : KV l D (tyL I C Q) yX1_raiseWatermark wsX1_raiseWatermark { frames := 0, cells := 0, slots := 0, locals := 0 } [.ref c0, .int mk] (wC I c0 e0 e1 e2 p0 p1 p2 w0 w1 w2 g0 g1 g2 ev dbl pn us wd kp tl tk cb sz lg gr wt lt mv) (wC I c0 e0 e1 e2 p0 p1 p2 w0 w1 w2 g0 g1 g2 ev dbl pn us wd kp tl tk cb sz lg gr wt lt mv) := by
  refine KV.of (cc := cX1_raiseWatermark) (maxL := 3) (own := RX1) (by decide) rfl rfl (Nat.le_of_ble_eq_true rfl) ?_
  intro p e s m below meth c A Q0 ls hx hb hml hown hts hE hA hP hD hS hl hend
  have hK := hE.1
  have hF : CallFix p m c cX1_raiseWatermark 3 s [.ref c0, .int mk].toArray wsX1_raiseWatermark RX1 := ⟨hx, hb, hml, hown, hts⟩
  have k0 := hts (.fieldLink RX1 42 "LateExcuses$Court" "watermark" "I") (List.mem_of_getElem? (i := 1) rfl)
  have u1 : ∀ w ∈ u_ws RX1 TX1 9, w ∈ wsX1_raiseWatermark := by decide +kernel
  have hl : lv_has ls 3 [(0, .ref c0), (1, .int mk)] := hl
  refine lv_iload_n hx hb dX1_raiseWatermark_0 rfl (lv_at hl 1 rfl) ?_
  refine lv_aload_n hx hb dX1_raiseWatermark_1 rfl (lv_at hl 0 rfl) ?_
  refine va_get (D := D) (ci := 1) (v := .int wt) (C := RX1) (T := TX1) (N := 9) hx hb hts u1 hown hK hP 0 rfl rfl 6 (by decide) k0 (fun _ h9 => h9) rfl dX1_raiseWatermark_2 ?_
  refine lv_icmp_le (tgt := 44) hx hb dX1_raiseWatermark_5 (by decide) (fun c_5 => ?_) (fun c_5 => ?_)
  · exact hend _ _ _ _ _ hP hD hS dX1_raiseWatermark_44 rfl
  · exact absurd hle c_5
set_option maxHeartbeats 400000 in
set_option maxRecDepth 100000 in
theorem c_X1_raiseWatermarkY (l : Launch) (D : va_G) (I C Q : ClassId) (c0 e0 e1 e2 p0 p1 p2 w0 w1 w2 g0 g1 g2 : Nat) (ev : Nat → Int32) (dbl : Int32) (pn : Nat → Int32) (u : Nat) (wd : Nat → Int32) (w : Nat) (tl : Int32) (tk : Int32) (cb : Nat → Int32) (z : Nat) (lg : Int32) (gr : Int32) (wt : Int32) (lt : Int32) (mv : Int32) (mk : Int32) (hz0 : 0 < z) (hz1 : z ≤ 100) (hu64 : u ≤ 64) (hw40 : w ≤ 40) (hle : ¬ mk ≤ wt) : KV l D (tyL I C Q) yX1_raiseWatermark wsX1_raiseWatermark { frames := 5, cells := 0, slots := 0, locals := 131 } [.ref c0, .int mk] (wC I c0 e0 e1 e2 p0 p1 p2 w0 w1 w2 g0 g1 g2 ev dbl pn (nI u) wd (nI w) tl tk cb (nI z) lg gr wt lt mv) (wC I c0 e0 e1 e2 p0 p1 p2 w0 w1 w2 g0 g1 g2 ev dbl ((p_scR (c_lbs wt z) (mk / nI z - 1) mk u (pn, wd, w, tl)).1) (nI u) ((p_scR (c_lbs wt z) (mk / nI z - 1) mk u (pn, wd, w, tl)).2.1) (nI (p_scR (c_lbs wt z) (mk / nI z - 1) mk u (pn, wd, w, tl)).2.2.1) ((p_scR (c_lbs wt z) (mk / nI z - 1) mk u (pn, wd, w, tl)).2.2.2) tk cb (nI z) lg gr mk lt mv) := by
  refine KV.of (cc := cX1_raiseWatermark) (maxL := 3) (own := RX1) (by decide) rfl rfl (Nat.le_of_ble_eq_true rfl) ?_
  intro p e s m below meth c A Q0 ls hx hb hml hown hts hE hA hP hD hS hl hend
  have hK := hE.1
  have hF : CallFix p m c cX1_raiseWatermark 3 s [.ref c0, .int mk].toArray wsX1_raiseWatermark RX1 := ⟨hx, hb, hml, hown, hts⟩
  have k0 := hts (.fieldLink RX1 42 "LateExcuses$Court" "watermark" "I") (List.mem_of_getElem? (i := 1) rfl)
  have k1 := hts (.methodLink RX1 109 Lib.Math.max.name) (List.mem_of_getElem? (i := 2) rfl)
  have k2 := hts (.static Lib.Math.max.name) (List.mem_of_getElem? (i := 3) rfl)
  have k3 := hts (.initialized "java/lang/Math") (List.mem_of_getElem? (i := 4) rfl)
  have k4 := hts (.code Lib.Math.max.name Lib.Math.max.code 2 (some .int)) (List.mem_of_getElem? (i := 5) rfl)
  have k5 := hts (.fieldLink RX1 21 "LateExcuses$Court" "panes" "LLateExcuses$Panes;") (List.mem_of_getElem? (i := 6) rfl)
  have u1 : ∀ w ∈ u_ws RX1 TX1 9, w ∈ wsX1_raiseWatermark := by decide +kernel
  have hl : lv_has ls 3 [(0, .ref c0), (1, .int mk)] := hl
  refine lv_iload_n hx hb dX1_raiseWatermark_0 rfl (lv_at hl 1 rfl) ?_
  refine lv_aload_n hx hb dX1_raiseWatermark_1 rfl (lv_at hl 0 rfl) ?_
  refine va_get (D := D) (ci := 1) (v := .int wt) (C := RX1) (T := TX1) (N := 9) hx hb hts u1 hown hK hP 0 rfl rfl 6 (by decide) k0 (fun _ h9 => h9) rfl dX1_raiseWatermark_2 ?_
  refine lv_icmp_le (tgt := 44) hx hb dX1_raiseWatermark_5 (by decide) (fun c_5 => ?_) (fun c_5 => ?_)
  · exact absurd c_5 hle
  · refine lv_aload_n hx hb dX1_raiseWatermark_8 rfl (lv_at hl 0 rfl) ?_
    refine lv_iconst (v := 0) hx hb dX1_raiseWatermark_9 (by decide) ?_
    refine lv_aload_n hx hb dX1_raiseWatermark_10 rfl (lv_at hl 0 rfl) ?_
    refine va_get (D := D) (ci := 1) (v := .int wt) (C := RX1) (T := TX1) (N := 9) hx hb hts u1 hown hK hP 0 rfl rfl 6 (by decide) k0 (fun _ h9 => h9) rfl dX1_raiseWatermark_11 ?_
    refine va_mmax hx hb (hml.trans hl.1.symm) hown k1 k2 k3 k4 (Nat.le_of_ble_eq_true rfl) (Nat.le_of_ble_eq_true rfl) (Nat.zero_le _) (Nat.zero_le _) dX1_raiseWatermark_14 ?_
    refine k_iF (va_runV (As := [.int (if 0 < wt then wt else 0)]) (rest := []) hF (c_X1_paneAt l D I C Q c0 e0 e1 e2 p0 p1 p2 w0 w1 w2 g0 g1 g2 ev dbl pn (nI u) wd (nI w) tl tk cb z lg gr wt lt mv (if 0 < wt then wt else 0) hz0 hz1 _) (cwV 1 hts gX1_raiseWatermark_X1_paneAt rfl rfl rfl (by decide +kernel) ⟨Nat.le_of_ble_eq_true rfl, Nat.le_of_ble_eq_true rfl⟩) (kPreV hE hP hD (ci := 1) (q0 := 0) rfl rfl) rfl rfl hl.1 rfl (lv_room (Nat.le_of_ble_eq_true rfl)) dX1_raiseWatermark_17 ⟨Nat.zero_le _, Nat.zero_le _⟩) hD hS hA (fun H locs hP hD hS => ?_)
    refine lv_iconst (v := 1) hx hb dX1_raiseWatermark_20 (by decide) ?_
    refine lv_isub hx hb dX1_raiseWatermark_21 ?_
    refine lv_istore_n (lv' := [(2, .int (((if 0 < wt then wt else 0) / nI z) - 1)), (0, .ref c0), (1, .int mk)]) hx hb dX1_raiseWatermark_22 rfl hl (by decide) rfl (fun ls hl => ?_)
    refine lv_aload_n hx hb dX1_raiseWatermark_23 rfl (lv_at hl 1 rfl) ?_
    refine lv_iload_n hx hb dX1_raiseWatermark_24 rfl (lv_at hl 2 rfl) ?_
    refine va_put (D := D) (ci := 1) (v := .int mk) (ty := .int) (C := RX1) (T := TX1) (N := 9) hx hb hts u1 tyX1 tyX1_ok nmX1 hown hK hP hD hS 0 rfl rfl 6 (by decide) k0 (fun _ h9 => h9) rfl (by decide +kernel) rfl rfl (Nat.le_of_ble_eq_true rfl) dX1_raiseWatermark_25 (fun H locs hP hD hS => ?_)
    have hP : va_P D vwCl (wC I c0 e0 e1 e2 p0 p1 p2 w0 w1 w2 g0 g1 g2 ev dbl pn (nI u) wd (nI w) tl tk cb (nI z) lg gr mk lt mv) H := hP
    have hD : va_D A (wC I c0 e0 e1 e2 p0 p1 p2 w0 w1 w2 g0 g1 g2 ev dbl pn (nI u) wd (nI w) tl tk cb (nI z) lg gr mk lt mv) := hD
    refine lv_aload_n hx hb dX1_raiseWatermark_28 rfl (lv_at hl 1 rfl) ?_
    refine va_get (D := D) (ci := 1) (v := .ref p0) (C := RX1) (T := TX1) (N := 9) hx hb hts u1 hown hK hP 0 rfl rfl 1 (by decide) k5 (fun _ h9 => h9) rfl dX1_raiseWatermark_29 ?_
    refine lv_iload_n hx hb dX1_raiseWatermark_32 rfl (lv_at hl 0 rfl) ?_
    refine lv_aload_n hx hb dX1_raiseWatermark_33 rfl (lv_at hl 1 rfl) ?_
    refine lv_iload_n hx hb dX1_raiseWatermark_34 rfl (lv_at hl 2 rfl) ?_
    refine k_iF (va_runV (As := [.int mk]) (rest := [.int (((if 0 < wt then wt else 0) / nI z) - 1), .ref p0]) hF (c_X1_paneAt l D I C Q c0 e0 e1 e2 p0 p1 p2 w0 w1 w2 g0 g1 g2 ev dbl pn (nI u) wd (nI w) tl tk cb z lg gr mk lt mv mk hz0 hz1 _) (cwV 1 hts gX1_raiseWatermark_X1_paneAt rfl rfl rfl (by decide +kernel) ⟨Nat.le_of_ble_eq_true rfl, Nat.le_of_ble_eq_true rfl⟩) (kPreV hE hP hD (ci := 1) (q0 := 0) rfl rfl) rfl rfl hl.1 rfl (lv_room (Nat.le_of_ble_eq_true rfl)) dX1_raiseWatermark_35 ⟨Nat.zero_le _, Nat.zero_le _⟩) hD hS hA (fun H locs hP hD hS => ?_)
    refine lv_iconst (v := 1) hx hb dX1_raiseWatermark_38 (by decide) ?_
    refine lv_isub hx hb dX1_raiseWatermark_39 ?_
    refine lv_iload_n hx hb dX1_raiseWatermark_40 rfl (lv_at hl 2 rfl) ?_
    have hPc := hP.sub (ws' := (wPn I p0 p1 p2 w0 w1 w2 pn (nI u) wd (nI w) tl tk)) [4, 5, 6, 7, 8, 9] rfl
    have hDc := hD.sub (ws' := (wPn I p0 p1 p2 w0 w1 w2 pn (nI u) wd (nI w) tl tk)) [4, 5, 6, 7, 8, 9] (by decide) rfl
    refine k_v (wr := [(c0, .inr (1, [.ref e0, .ref p0, .ref g0, .int (nI z), .int lg, .int gr, .int mk, .int lt, .int mv])), (e0, .inr (2, [.ref e1, .int dbl])), (e1, .inr (5, [.int (nI 64), .int (nI 7), .ref e2])), (e2, .inl (I, 64 * 7, .inl ev)), (g0, .inr (0, [.ref g1])), (g1, .inr (5, [.int (nI 3), .int (nI 5), .ref g2])), (g2, .inl (I, 3 * 5, .inl cb))]) (ws' := (wC I c0 e0 e1 e2 p0 p1 p2 w0 w1 w2 g0 g1 g2 ev dbl ((p_scR (((if 0 < wt then wt else 0) / nI z) - 1) ((mk / nI z) - 1) mk u (pn, wd, w, tl)).1) (nI u) ((p_scR (((if 0 < wt then wt else 0) / nI z) - 1) ((mk / nI z) - 1) mk u (pn, wd, w, tl)).2.1) (nI (p_scR (((if 0 < wt then wt else 0) / nI z) - 1) ((mk / nI z) - 1) mk u (pn, wd, w, tl)).2.2.1) ((p_scR (((if 0 < wt then wt else 0) / nI z) - 1) ((mk / nI z) - 1) mk u (pn, wd, w, tl)).2.2.2) tk cb (nI z) lg gr mk lt mv)) (va_runV (As := [.int (((if 0 < wt then wt else 0) / nI z) - 1), .int ((mk / nI z) - 1), .int mk]) (rest := []) hF (c_X4_shutAndClose l D I C Q p0 p1 p2 w0 w1 w2 pn u wd w tl tk (((if 0 < wt then wt else 0) / nI z) - 1) ((mk / nI z) - 1) mk hu64 hw40 _) (cwV 3 hts gX1_raiseWatermark_X4_shutAndClose rfl rfl rfl (by decide +kernel) ⟨Nat.le_of_ble_eq_true rfl, Nat.le_of_ble_eq_true rfl⟩) (kPreV hE hPc hDc (ci := 4) (q0 := 0) rfl rfl) rfl rfl hl.1 rfl (lv_room (Nat.le_of_ble_eq_true rfl)) dX1_raiseWatermark_41 ⟨Nat.zero_le _, Nat.zero_le _⟩) hP hD hS hA [4, 5, 6, 7, 8, 9] [0, 1, 2, 3, 10, 11, 12] [0, 1, 2, 3, 7, 8, 9, 10, 11, 12, 4, 5, 6] rfl rfl (by decide) (by decide) rfl (by decide) (fun H locs hP hD hS => ?_)
    exact hend _ _ _ _ _ hP hD hS dX1_raiseWatermark_44 rfl
