set_option maxHeartbeats 400000 in
set_option maxRecDepth 100000 in
theorem c_X1_hasEvents (l : Launch) (D : va_G) (I C Q : ClassId) (c0 e0 e1 e2 p0 p1 p2 w0 w1 w2 g0 g1 g2 : Nat) (ev : Nat → Int32) (dbl : Int32) (pn : Nat → Int32) (us : Int32) (wd : Nat → Int32) (kp : Int32) (tl : Int32) (tk : Int32) (cb : Nat → Int32) (sz : Int32) (lg : Int32) (gr : Int32) (wt : Int32) (lt : Int32) (mv : Int32) : KI l D (tyL I C Q) yX1_hasEvents wsX1_hasEvents { frames := 3, cells := 0, slots := 0, locals := 71 } [.ref c0] (wC I c0 e0 e1 e2 p0 p1 p2 w0 w1 w2 g0 g1 g2 ev dbl pn us wd kp tl tk cb sz lg gr wt lt mv) (wC I c0 e0 e1 e2 p0 p1 p2 w0 w1 w2 g0 g1 g2 ev dbl pn us wd kp tl tk cb sz lg gr wt lt mv) (if e_wo ev 0 3 64 = 0 then 0 else 1) := by
  refine KI.of (cc := cX1_hasEvents) (maxL := 1) (rt := .boolean) (own := RX1) (by decide) rfl rfl (Nat.le_of_ble_eq_true rfl) ?_
  intro p e s m below meth c A Q0 ls hx hb hml hown hts hE hA hP hD hS hl hend
  have hK := hE.1
  have hF : CallFix p m c cX1_hasEvents 1 s [.ref c0].toArray wsX1_hasEvents RX1 := ⟨hx, hb, hml, hown, hts⟩
  have k0 := hts (.fieldLink RX1 12 "LateExcuses$Court" "events" "LLateExcuses$Events;") (List.mem_of_getElem? (i := 1) rfl)
  have u1 : ∀ w ∈ u_ws RX1 TX1 9, w ∈ wsX1_hasEvents := by decide +kernel
  have hl : lv_has ls 1 [(0, .ref c0)] := hl
  refine lv_aload_n hx hb dX1_hasEvents_0 rfl (lv_at hl 0 rfl) ?_
  refine va_get (D := D) (ci := 1) (v := .ref e0) (C := RX1) (T := TX1) (N := 9) hx hb hts u1 hown hK hP 0 rfl rfl 0 (by decide) k0 (fun _ h9 => h9) rfl dX1_hasEvents_1 ?_
  refine lv_iconst (v := 0) hx hb dX1_hasEvents_4 (by decide) ?_
  refine lv_iconst (v := 3) hx hb dX1_hasEvents_5 (by decide) ?_
  have hPc := hP.sub (ws' := (wEv I e0 e1 e2 ev dbl)) [1, 2, 3] rfl
  have hDc := hD.sub (ws' := (wEv I e0 e1 e2 ev dbl)) [1, 2, 3] (by decide) rfl
  refine k_i (wr := [(c0, .inr (1, [.ref e0, .ref p0, .ref g0, .int sz, .int lg, .int gr, .int wt, .int lt, .int mv])), (p0, .inr (4, [.ref p1, .ref w0, .int us])), (p1, .inr (5, [.int (nI 64), .int (nI 8), .ref p2])), (p2, .inl (I, 64 * 8, .inl pn)), (w0, .inr (7, [.ref w1, .int kp, .int tl, .int tk])), (w1, .inr (5, [.int (nI 40), .int (nI 4), .ref w2])), (w2, .inl (I, 40 * 4, .inl wd)), (g0, .inr (0, [.ref g1])), (g1, .inr (5, [.int (nI 3), .int (nI 5), .ref g2])), (g2, .inl (I, 3 * 5, .inl cb))]) (ws' := (wC I c0 e0 e1 e2 p0 p1 p2 w0 w1 w2 g0 g1 g2 ev dbl pn us wd kp tl tk cb sz lg gr wt lt mv)) (va_runV (As := [.int 0, .int 3]) (rest := []) hF (c_X2_withOutcome l D I C Q e0 e1 e2 ev dbl 0 3 _) (cwV 2 hts gX1_hasEvents_X2_withOutcome rfl rfl rfl (by decide +kernel) ⟨Nat.le_of_ble_eq_true rfl, Nat.le_of_ble_eq_true rfl⟩) (kPreV hE hPc hDc (ci := 2) (q0 := 0) rfl rfl) rfl rfl hl.1 rfl (lv_room (Nat.le_of_ble_eq_true rfl)) dX1_hasEvents_6 ⟨Nat.zero_le _, Nat.zero_le _⟩) hP hD hS hA [1, 2, 3] [0, 4, 5, 6, 7, 8, 9, 10, 11, 12] [0, 10, 11, 12, 1, 2, 3, 4, 5, 6, 7, 8, 9] rfl rfl (by decide) (by decide) rfl (by decide) (fun H locs hP hD hS => ?_)
  refine lv_if_le (tgt := 16) hx hb dX1_hasEvents_9 (by decide) (fun c_9 => ?_) (fun c_9 => ?_)
  · have h0 : e_wo ev 0 3 64 = 0 := e_wo_le c_9
    refine lv_iconst (v := 0) hx hb dX1_hasEvents_16 (by decide) ?_
    exact hend _ _ _ _ _ _ hP hD hS dX1_hasEvents_17 (by decide) rfl (by simp +decide only [h0, if_true, if_false, not_true_eq_false, not_false_eq_true, and_self, and_true, true_and, and_false, false_and, kn01, kn10, kn02, kn20, kn12, kn21, eq_self])
  · have h0 : ¬ e_wo ev 0 3 64 = 0 := fun h => c_9 (by rw [h]; decide)
    refine lv_iconst (v := 1) hx hb dX1_hasEvents_12 (by decide) ?_
    refine lv_goto (tgt := 17) hx hb dX1_hasEvents_13 (by decide) ?_
    exact hend _ _ _ _ _ _ hP hD hS dX1_hasEvents_17 (by decide) rfl (by simp +decide only [h0, if_true, if_false, not_true_eq_false, not_false_eq_true, and_self, and_true, true_and, and_false, false_and, kn01, kn10, kn02, kn20, kn12, kn21, eq_self])
set_option maxHeartbeats 400000 in
set_option maxRecDepth 100000 in
theorem c_X1_setting (l : Launch) (D : va_G) (I C Q : ClassId) (c0 e0 e1 e2 p0 p1 p2 w0 w1 w2 g0 g1 g2 : Nat) (ev : Nat → Int32) (dbl : Int32) (pn : Nat → Int32) (us : Int32) (wd : Nat → Int32) (kp : Int32) (tl : Int32) (tk : Int32) (cb : Nat → Int32) (sz : Int32) (lg : Int32) (gr : Int32) (wt : Int32) (lt : Int32) (mv : Int32) (x : Int32) : KI l D (tyL I C Q) yX1_setting wsX1_setting { frames := 0, cells := 0, slots := 0, locals := 0 } [.ref c0, .int x] (wC I c0 e0 e1 e2 p0 p1 p2 w0 w1 w2 g0 g1 g2 ev dbl pn us wd kp tl tk cb sz lg gr wt lt mv) (wC I c0 e0 e1 e2 p0 p1 p2 w0 w1 w2 g0 g1 g2 ev dbl pn us wd kp tl tk cb sz lg gr wt lt mv) (if x = 0 then sz else if x = 1 then lg else gr) := by
  refine KI.of (cc := cX1_setting) (maxL := 2) (rt := .int) (own := RX1) (by decide) rfl rfl (Nat.le_of_ble_eq_true rfl) ?_
  intro p e s m below meth c A Q0 ls hx hb hml hown hts hE hA hP hD hS hl hend
  have hK := hE.1
  have hF : CallFix p m c cX1_setting 2 s [.ref c0, .int x].toArray wsX1_setting RX1 := ⟨hx, hb, hml, hown, hts⟩
  have k0 := hts (.fieldLink RX1 39 "LateExcuses$Court" "grace" "I") (List.mem_of_getElem? (i := 3) rfl)
  have k1 := hts (.fieldLink RX1 36 "LateExcuses$Court" "lag" "I") (List.mem_of_getElem? (i := 2) rfl)
  have k2 := hts (.fieldLink RX1 32 "LateExcuses$Court" "size" "I") (List.mem_of_getElem? (i := 1) rfl)
  have u1 : ∀ w ∈ u_ws RX1 TX1 9, w ∈ wsX1_setting := by decide +kernel
  have hl : lv_has ls 2 [(0, .ref c0), (1, .int x)] := hl
  refine lv_iload_n hx hb dX1_setting_0 rfl (lv_at hl 1 rfl) ?_
  refine lv_if_ne (tgt := 9) hx hb dX1_setting_1 (by decide) (fun c_1 => ?_) (fun c_1 => ?_)
  · refine lv_iload_n hx hb dX1_setting_9 rfl (lv_at hl 1 rfl) ?_
    refine lv_iconst (v := 1) hx hb dX1_setting_10 (by decide) ?_
    refine lv_icmp_ne (tgt := 21) hx hb dX1_setting_11 (by decide) (fun c_11 => ?_) (fun c_11 => ?_)
    · refine lv_aload_n hx hb dX1_setting_21 rfl (lv_at hl 0 rfl) ?_
      refine va_get (D := D) (ci := 1) (v := .int gr) (C := RX1) (T := TX1) (N := 9) hx hb hts u1 hown hK hP 0 rfl rfl 5 (by decide) k0 (fun _ h9 => h9) rfl dX1_setting_22 ?_
      exact hend _ _ _ _ _ _ hP hD hS dX1_setting_25 rfl rfl (by simp +decide only [c_1, c_11, if_true, if_false, not_true_eq_false, not_false_eq_true, and_self, and_true, true_and, and_false, false_and, kn01, kn10, kn02, kn20, kn12, kn21, eq_self])
    · refine lv_aload_n hx hb dX1_setting_14 rfl (lv_at hl 0 rfl) ?_
      refine va_get (D := D) (ci := 1) (v := .int lg) (C := RX1) (T := TX1) (N := 9) hx hb hts u1 hown hK hP 0 rfl rfl 4 (by decide) k1 (fun _ h9 => h9) rfl dX1_setting_15 ?_
      refine lv_goto (tgt := 25) hx hb dX1_setting_18 (by decide) ?_
      exact hend _ _ _ _ _ _ hP hD hS dX1_setting_25 rfl rfl (by simp +decide only [c_1, c_11, if_true, if_false, not_true_eq_false, not_false_eq_true, and_self, and_true, true_and, and_false, false_and, kn01, kn10, kn02, kn20, kn12, kn21, eq_self])
  · refine lv_aload_n hx hb dX1_setting_4 rfl (lv_at hl 0 rfl) ?_
    refine va_get (D := D) (ci := 1) (v := .int sz) (C := RX1) (T := TX1) (N := 9) hx hb hts u1 hown hK hP 0 rfl rfl 3 (by decide) k2 (fun _ h9 => h9) rfl dX1_setting_5 ?_
    exact hend _ _ _ _ _ _ hP hD hS dX1_setting_8 rfl rfl (by simp +decide only [c_1, if_true, if_false, not_true_eq_false, not_false_eq_true, and_self, and_true, true_and, and_false, false_and, kn01, kn10, kn02, kn20, kn12, kn21, eq_self])
set_option maxHeartbeats 400000 in
set_option maxRecDepth 100000 in
theorem c_X1_changeSetting (l : Launch) (D : va_G) (I C Q : ClassId) (c0 e0 e1 e2 p0 p1 p2 w0 w1 w2 g0 g1 g2 : Nat) (ev : Nat → Int32) (dbl : Int32) (pn : Nat → Int32) (us : Int32) (wd : Nat → Int32) (kp : Int32) (tl : Int32) (tk : Int32) (cb : Nat → Int32) (sz : Int32) (lg : Int32) (gr : Int32) (wt : Int32) (lt : Int32) (mv : Int32) (x : Int32) (v : Int32) : KI l D (tyL I C Q) yX1_changeSetting wsX1_changeSetting { frames := 1, cells := 0, slots := 0, locals := 21 } [.ref c0, .int x, .int v] (wC I c0 e0 e1 e2 p0 p1 p2 w0 w1 w2 g0 g1 g2 ev dbl pn us wd kp tl tk cb sz lg gr wt lt mv) (wC I c0 e0 e1 e2 p0 p1 p2 w0 w1 w2 g0 g1 g2 ev dbl pn us wd kp tl tk cb (if x = 0 then v else sz) (if x = 0 then lg else if x = 1 then v else lg) (if x = 0 then gr else if x = 1 then gr else v) wt lt mv) (if x = 0 then sz else if x = 1 then lg else gr) := by
  refine KI.of (cc := cX1_changeSetting) (maxL := 4) (rt := .int) (own := RX1) (by decide) rfl rfl (Nat.le_of_ble_eq_true rfl) ?_
  intro p e s m below meth c A Q0 ls hx hb hml hown hts hE hA hP hD hS hl hend
  have hK := hE.1
  have hF : CallFix p m c cX1_changeSetting 4 s [.ref c0, .int x, .int v].toArray wsX1_changeSetting RX1 := ⟨hx, hb, hml, hown, hts⟩
  have k0 := hts (.fieldLink RX1 39 "LateExcuses$Court" "grace" "I") (List.mem_of_getElem? (i := 3) rfl)
  have k1 := hts (.fieldLink RX1 36 "LateExcuses$Court" "lag" "I") (List.mem_of_getElem? (i := 2) rfl)
  have k2 := hts (.fieldLink RX1 32 "LateExcuses$Court" "size" "I") (List.mem_of_getElem? (i := 1) rfl)
  have u1 : ∀ w ∈ u_ws RX1 TX1 9, w ∈ wsX1_changeSetting := by decide +kernel
  have hl : lv_has ls 4 [(0, .ref c0), (1, .int x), (2, .int v)] := hl
  refine lv_aload_n hx hb dX1_changeSetting_0 rfl (lv_at hl 0 rfl) ?_
  refine lv_iload_n hx hb dX1_changeSetting_1 rfl (lv_at hl 1 rfl) ?_
  refine k_iF (va_runV (As := [.int x]) (rest := []) hF (c_X1_setting l D I C Q c0 e0 e1 e2 p0 p1 p2 w0 w1 w2 g0 g1 g2 ev dbl pn us wd kp tl tk cb sz lg gr wt lt mv x _) (cwV 1 hts gX1_changeSetting_X1_setting rfl rfl rfl (by decide +kernel) ⟨Nat.le_of_ble_eq_true rfl, Nat.le_of_ble_eq_true rfl⟩) (kPreV hE hP hD (ci := 1) (q0 := 0) rfl rfl) rfl rfl hl.1 rfl (lv_room (Nat.le_of_ble_eq_true rfl)) dX1_changeSetting_2 ⟨Nat.zero_le _, Nat.zero_le _⟩) hD hS hA (fun H locs hP hD hS => ?_)
  refine lv_istore_n (lv' := [(3, .int (if x = 0 then sz else if x = 1 then lg else gr)), (0, .ref c0), (1, .int x), (2, .int v)]) hx hb dX1_changeSetting_5 rfl hl (by decide) rfl (fun ls hl => ?_)
  refine lv_iload_n hx hb dX1_changeSetting_6 rfl (lv_at hl 2 rfl) ?_
  refine lv_if_ne (tgt := 18) hx hb dX1_changeSetting_7 (by decide) (fun c_7 => ?_) (fun c_7 => ?_)
  · refine lv_iload_n hx hb dX1_changeSetting_18 rfl (lv_at hl 2 rfl) ?_
    refine lv_iconst (v := 1) hx hb dX1_changeSetting_19 (by decide) ?_
    refine lv_icmp_ne (tgt := 31) hx hb dX1_changeSetting_20 (by decide) (fun c_20 => ?_) (fun c_20 => ?_)
    · refine lv_aload_n hx hb dX1_changeSetting_31 rfl (lv_at hl 1 rfl) ?_
      refine lv_iload_n hx hb dX1_changeSetting_32 rfl (lv_at hl 3 rfl) ?_
      refine va_put (D := D) (ci := 1) (v := .int v) (ty := .int) (C := RX1) (T := TX1) (N := 9) hx hb hts u1 tyX1 tyX1_ok nmX1 hown hK hP hD hS 0 rfl rfl 5 (by decide) k0 (fun _ h9 => h9) rfl (by decide +kernel) rfl rfl (Nat.le_of_ble_eq_true rfl) dX1_changeSetting_33 (fun H locs hP hD hS => ?_)
      have hP : va_P D vwCl (wC I c0 e0 e1 e2 p0 p1 p2 w0 w1 w2 g0 g1 g2 ev dbl pn us wd kp tl tk cb sz lg v wt lt mv) H := hP
      have hD : va_D A (wC I c0 e0 e1 e2 p0 p1 p2 w0 w1 w2 g0 g1 g2 ev dbl pn us wd kp tl tk cb sz lg v wt lt mv) := hD
      refine lv_iload_n hx hb dX1_changeSetting_36 rfl (lv_at hl 0 rfl) ?_
      exact hend _ _ _ _ _ _ hP hD hS dX1_changeSetting_37 rfl (by simp +decide only [c_7, c_20, if_true, if_false, not_true_eq_false, not_false_eq_true, and_self, and_true, true_and, and_false, false_and, kn01, kn10, kn02, kn20, kn12, kn21, eq_self]) rfl
    · refine lv_aload_n hx hb dX1_changeSetting_23 rfl (lv_at hl 1 rfl) ?_
      refine lv_iload_n hx hb dX1_changeSetting_24 rfl (lv_at hl 3 rfl) ?_
      refine va_put (D := D) (ci := 1) (v := .int v) (ty := .int) (C := RX1) (T := TX1) (N := 9) hx hb hts u1 tyX1 tyX1_ok nmX1 hown hK hP hD hS 0 rfl rfl 4 (by decide) k1 (fun _ h9 => h9) rfl (by decide +kernel) rfl rfl (Nat.le_of_ble_eq_true rfl) dX1_changeSetting_25 (fun H locs hP hD hS => ?_)
      have hP : va_P D vwCl (wC I c0 e0 e1 e2 p0 p1 p2 w0 w1 w2 g0 g1 g2 ev dbl pn us wd kp tl tk cb sz v gr wt lt mv) H := hP
      have hD : va_D A (wC I c0 e0 e1 e2 p0 p1 p2 w0 w1 w2 g0 g1 g2 ev dbl pn us wd kp tl tk cb sz v gr wt lt mv) := hD
      refine lv_goto (tgt := 36) hx hb dX1_changeSetting_28 (by decide) ?_
      refine lv_iload_n hx hb dX1_changeSetting_36 rfl (lv_at hl 0 rfl) ?_
      exact hend _ _ _ _ _ _ hP hD hS dX1_changeSetting_37 rfl (by simp +decide only [c_7, c_20, if_true, if_false, not_true_eq_false, not_false_eq_true, and_self, and_true, true_and, and_false, false_and, kn01, kn10, kn02, kn20, kn12, kn21, eq_self]) rfl
  · refine lv_aload_n hx hb dX1_changeSetting_10 rfl (lv_at hl 1 rfl) ?_
    refine lv_iload_n hx hb dX1_changeSetting_11 rfl (lv_at hl 3 rfl) ?_
    refine va_put (D := D) (ci := 1) (v := .int v) (ty := .int) (C := RX1) (T := TX1) (N := 9) hx hb hts u1 tyX1 tyX1_ok nmX1 hown hK hP hD hS 0 rfl rfl 3 (by decide) k2 (fun _ h9 => h9) rfl (by decide +kernel) rfl rfl (Nat.le_of_ble_eq_true rfl) dX1_changeSetting_12 (fun H locs hP hD hS => ?_)
    have hP : va_P D vwCl (wC I c0 e0 e1 e2 p0 p1 p2 w0 w1 w2 g0 g1 g2 ev dbl pn us wd kp tl tk cb v lg gr wt lt mv) H := hP
    have hD : va_D A (wC I c0 e0 e1 e2 p0 p1 p2 w0 w1 w2 g0 g1 g2 ev dbl pn us wd kp tl tk cb v lg gr wt lt mv) := hD
    refine lv_goto (tgt := 36) hx hb dX1_changeSetting_15 (by decide) ?_
    refine lv_iload_n hx hb dX1_changeSetting_36 rfl (lv_at hl 0 rfl) ?_
    exact hend _ _ _ _ _ _ hP hD hS dX1_changeSetting_37 rfl (by simp +decide only [c_7, if_true, if_false, not_true_eq_false, not_false_eq_true, and_self, and_true, true_and, and_false, false_and, kn01, kn10, kn02, kn20, kn12, kn21, eq_self]) rfl
set_option maxHeartbeats 400000 in
set_option maxRecDepth 100000 in
theorem c_X1_canMoveBack (l : Launch) (D : va_G) (I C Q : ClassId) (c0 e0 e1 e2 p0 p1 p2 w0 w1 w2 g0 g1 g2 : Nat) (ev : Nat → Int32) (dbl : Int32) (pn : Nat → Int32) (us : Int32) (wd : Nat → Int32) (kp : Int32) (tl : Int32) (tk : Int32) (cb : Nat → Int32) (sz : Int32) (lg : Int32) (gr : Int32) (wt : Int32) (lt : Int32) (mv : Int32) : KI l D (tyL I C Q) yX1_canMoveBack wsX1_canMoveBack { frames := 0, cells := 0, slots := 0, locals := 0 } [.ref c0] (wC I c0 e0 e1 e2 p0 p1 p2 w0 w1 w2 g0 g1 g2 ev dbl pn us wd kp tl tk cb sz lg gr wt lt mv) (wC I c0 e0 e1 e2 p0 p1 p2 w0 w1 w2 g0 g1 g2 ev dbl pn us wd kp tl tk cb sz lg gr wt lt mv) (if mv = 0 then (if wt = -1 then 0 else 1) else 0) := by
  refine KI.of (cc := cX1_canMoveBack) (maxL := 1) (rt := .boolean) (own := RX1) (by decide) rfl rfl (Nat.le_of_ble_eq_true rfl) ?_
  intro p e s m below meth c A Q0 ls hx hb hml hown hts hE hA hP hD hS hl hend
  have hK := hE.1
  have hF : CallFix p m c cX1_canMoveBack 1 s [.ref c0].toArray wsX1_canMoveBack RX1 := ⟨hx, hb, hml, hown, hts⟩
  have k0 := hts (.fieldLink RX1 58 "LateExcuses$Court" "moved" "Z") (List.mem_of_getElem? (i := 1) rfl)
  have k1 := hts (.fieldLink RX1 42 "LateExcuses$Court" "watermark" "I") (List.mem_of_getElem? (i := 2) rfl)
  have u1 : ∀ w ∈ u_ws RX1 TX1 9, w ∈ wsX1_canMoveBack := by decide +kernel
  have hl : lv_has ls 1 [(0, .ref c0)] := hl
  refine lv_aload_n hx hb dX1_canMoveBack_0 rfl (lv_at hl 0 rfl) ?_
  refine va_get (D := D) (ci := 1) (v := .int mv) (C := RX1) (T := TX1) (N := 9) hx hb hts u1 hown hK hP 0 rfl rfl 8 (by decide) k0 (fun _ h9 => h9) rfl dX1_canMoveBack_1 ?_
  refine lv_if_ne (tgt := 19) hx hb dX1_canMoveBack_4 (by decide) (fun c_4 => ?_) (fun c_4 => ?_)
  · refine lv_iconst (v := 0) hx hb dX1_canMoveBack_19 (by decide) ?_
    exact hend _ _ _ _ _ _ hP hD hS dX1_canMoveBack_20 (by decide) rfl (by simp +decide only [c_4, if_true, if_false, not_true_eq_false, not_false_eq_true, and_self, and_true, true_and, and_false, false_and, kn01, kn10, kn02, kn20, kn12, kn21, eq_self])
  · refine lv_aload_n hx hb dX1_canMoveBack_7 rfl (lv_at hl 0 rfl) ?_
    refine va_get (D := D) (ci := 1) (v := .int wt) (C := RX1) (T := TX1) (N := 9) hx hb hts u1 hown hK hP 0 rfl rfl 6 (by decide) k1 (fun _ h9 => h9) rfl dX1_canMoveBack_8 ?_
    refine lv_iconst (v := (-1)) hx hb dX1_canMoveBack_11 (by decide) ?_
    refine lv_icmp_eq (tgt := 19) hx hb dX1_canMoveBack_12 (by decide) (fun c_12 => ?_) (fun c_12 => ?_)
    · refine lv_iconst (v := 0) hx hb dX1_canMoveBack_19 (by decide) ?_
      exact hend _ _ _ _ _ _ hP hD hS dX1_canMoveBack_20 (by decide) rfl (by simp +decide only [c_4, c_12, if_true, if_false, not_true_eq_false, not_false_eq_true, and_self, and_true, true_and, and_false, false_and, kn01, kn10, kn02, kn20, kn12, kn21, eq_self])
    · refine lv_iconst (v := 1) hx hb dX1_canMoveBack_15 (by decide) ?_
      refine lv_goto (tgt := 20) hx hb dX1_canMoveBack_16 (by decide) ?_
      exact hend _ _ _ _ _ _ hP hD hS dX1_canMoveBack_20 (by decide) rfl (by simp +decide only [c_4, c_12, if_true, if_false, not_true_eq_false, not_false_eq_true, and_self, and_true, true_and, and_false, false_and, kn01, kn10, kn02, kn20, kn12, kn21, eq_self])
