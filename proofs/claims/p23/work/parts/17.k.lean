set_option maxHeartbeats 400000 in
set_option maxRecDepth 100000 in
theorem c_X1_events (l : Launch) (D : va_G) (I C Q : ClassId) (c0 e0 e1 e2 p0 p1 p2 w0 w1 w2 g0 g1 g2 : Nat) (ev : Nat → Int32) (dbl : Int32) (pn : Nat → Int32) (us : Int32) (wd : Nat → Int32) (kp : Int32) (tl : Int32) (tk : Int32) (cb : Nat → Int32) (sz : Int32) (lg : Int32) (gr : Int32) (wt : Int32) (lt : Int32) (mv : Int32) : KR l D (tyL I C Q) yX1_events wsX1_events { frames := 0, cells := 0, slots := 0, locals := 0 } [.ref c0] (wC I c0 e0 e1 e2 p0 p1 p2 w0 w1 w2 g0 g1 g2 ev dbl pn us wd kp tl tk cb sz lg gr wt lt mv) (wC I c0 e0 e1 e2 p0 p1 p2 w0 w1 w2 g0 g1 g2 ev dbl pn us wd kp tl tk cb sz lg gr wt lt mv) e0 := by
  refine KR.of (cc := cX1_events) (maxL := 1) (rt := (.object "LateExcuses$Events")) (own := RX1) (by decide) rfl rfl (Nat.le_of_ble_eq_true rfl) (Or.inl ⟨_, rfl⟩) ?_
  intro p e s m below meth c A Q0 ls hx hb hml hown hts hE hA hP hD hS hl hend
  have hK := hE.1
  have hF : CallFix p m c cX1_events 1 s [.ref c0].toArray wsX1_events RX1 := ⟨hx, hb, hml, hown, hts⟩
  have k0 := hts (.fieldLink RX1 12 "LateExcuses$Court" "events" "LLateExcuses$Events;") (List.mem_of_getElem? (i := 1) rfl)
  have u1 : ∀ w ∈ u_ws RX1 TX1 9, w ∈ wsX1_events := by decide +kernel
  have hl : lv_has ls 1 [(0, .ref c0)] := hl
  refine lv_aload_n hx hb dX1_events_0 rfl (lv_at hl 0 rfl) ?_
  refine va_get (D := D) (ci := 1) (v := .ref e0) (C := RX1) (T := TX1) (N := 9) hx hb hts u1 hown hK hP 0 rfl rfl 0 (by decide) k0 (fun _ h9 => h9) rfl dX1_events_1 ?_
  exact hend _ _ _ _ _ _ hP hD hS dX1_events_4 rfl rfl
set_option maxHeartbeats 400000 in
set_option maxRecDepth 100000 in
theorem c_X1_panes (l : Launch) (D : va_G) (I C Q : ClassId) (c0 e0 e1 e2 p0 p1 p2 w0 w1 w2 g0 g1 g2 : Nat) (ev : Nat → Int32) (dbl : Int32) (pn : Nat → Int32) (us : Int32) (wd : Nat → Int32) (kp : Int32) (tl : Int32) (tk : Int32) (cb : Nat → Int32) (sz : Int32) (lg : Int32) (gr : Int32) (wt : Int32) (lt : Int32) (mv : Int32) : KR l D (tyL I C Q) yX1_panes wsX1_panes { frames := 0, cells := 0, slots := 0, locals := 0 } [.ref c0] (wC I c0 e0 e1 e2 p0 p1 p2 w0 w1 w2 g0 g1 g2 ev dbl pn us wd kp tl tk cb sz lg gr wt lt mv) (wC I c0 e0 e1 e2 p0 p1 p2 w0 w1 w2 g0 g1 g2 ev dbl pn us wd kp tl tk cb sz lg gr wt lt mv) p0 := by
  refine KR.of (cc := cX1_panes) (maxL := 1) (rt := (.object "LateExcuses$Panes")) (own := RX1) (by decide) rfl rfl (Nat.le_of_ble_eq_true rfl) (Or.inl ⟨_, rfl⟩) ?_
  intro p e s m below meth c A Q0 ls hx hb hml hown hts hE hA hP hD hS hl hend
  have hK := hE.1
  have hF : CallFix p m c cX1_panes 1 s [.ref c0].toArray wsX1_panes RX1 := ⟨hx, hb, hml, hown, hts⟩
  have k0 := hts (.fieldLink RX1 21 "LateExcuses$Court" "panes" "LLateExcuses$Panes;") (List.mem_of_getElem? (i := 1) rfl)
  have u1 : ∀ w ∈ u_ws RX1 TX1 9, w ∈ wsX1_panes := by decide +kernel
  have hl : lv_has ls 1 [(0, .ref c0)] := hl
  refine lv_aload_n hx hb dX1_panes_0 rfl (lv_at hl 0 rfl) ?_
  refine va_get (D := D) (ci := 1) (v := .ref p0) (C := RX1) (T := TX1) (N := 9) hx hb hts u1 hown hK hP 0 rfl rfl 1 (by decide) k0 (fun _ h9 => h9) rfl dX1_panes_1 ?_
  exact hend _ _ _ _ _ _ hP hD hS dX1_panes_4 rfl rfl
set_option maxHeartbeats 400000 in
set_option maxRecDepth 100000 in
theorem c_X1_cabinets (l : Launch) (D : va_G) (I C Q : ClassId) (c0 e0 e1 e2 p0 p1 p2 w0 w1 w2 g0 g1 g2 : Nat) (ev : Nat → Int32) (dbl : Int32) (pn : Nat → Int32) (us : Int32) (wd : Nat → Int32) (kp : Int32) (tl : Int32) (tk : Int32) (cb : Nat → Int32) (sz : Int32) (lg : Int32) (gr : Int32) (wt : Int32) (lt : Int32) (mv : Int32) : KR l D (tyL I C Q) yX1_cabinets wsX1_cabinets { frames := 0, cells := 0, slots := 0, locals := 0 } [.ref c0] (wC I c0 e0 e1 e2 p0 p1 p2 w0 w1 w2 g0 g1 g2 ev dbl pn us wd kp tl tk cb sz lg gr wt lt mv) (wC I c0 e0 e1 e2 p0 p1 p2 w0 w1 w2 g0 g1 g2 ev dbl pn us wd kp tl tk cb sz lg gr wt lt mv) g0 := by
  refine KR.of (cc := cX1_cabinets) (maxL := 1) (rt := (.object "LateExcuses$Cabinets")) (own := RX1) (by decide) rfl rfl (Nat.le_of_ble_eq_true rfl) (Or.inl ⟨_, rfl⟩) ?_
  intro p e s m below meth c A Q0 ls hx hb hml hown hts hE hA hP hD hS hl hend
  have hK := hE.1
  have hF : CallFix p m c cX1_cabinets 1 s [.ref c0].toArray wsX1_cabinets RX1 := ⟨hx, hb, hml, hown, hts⟩
  have k0 := hts (.fieldLink RX1 28 "LateExcuses$Court" "cabinets" "LLateExcuses$Cabinets;") (List.mem_of_getElem? (i := 1) rfl)
  have u1 : ∀ w ∈ u_ws RX1 TX1 9, w ∈ wsX1_cabinets := by decide +kernel
  have hl : lv_has ls 1 [(0, .ref c0)] := hl
  refine lv_aload_n hx hb dX1_cabinets_0 rfl (lv_at hl 0 rfl) ?_
  refine va_get (D := D) (ci := 1) (v := .ref g0) (C := RX1) (T := TX1) (N := 9) hx hb hts u1 hown hK hP 0 rfl rfl 2 (by decide) k0 (fun _ h9 => h9) rfl dX1_cabinets_1 ?_
  exact hend _ _ _ _ _ _ hP hD hS dX1_cabinets_4 rfl rfl
set_option maxHeartbeats 400000 in
set_option maxRecDepth 100000 in
theorem c_X1_paneAt (l : Launch) (D : va_G) (I C Q : ClassId) (c0 e0 e1 e2 p0 p1 p2 w0 w1 w2 g0 g1 g2 : Nat) (ev : Nat → Int32) (dbl : Int32) (pn : Nat → Int32) (us : Int32) (wd : Nat → Int32) (kp : Int32) (tl : Int32) (tk : Int32) (cb : Nat → Int32) (z : Nat) (lg : Int32) (gr : Int32) (wt : Int32) (lt : Int32) (mv : Int32) (t : Int32) (hz0 : 0 < z) (hz1 : z ≤ 100) : KI l D (tyL I C Q) yX1_paneAt wsX1_paneAt { frames := 0, cells := 0, slots := 0, locals := 0 } [.ref c0, .int t] (wC I c0 e0 e1 e2 p0 p1 p2 w0 w1 w2 g0 g1 g2 ev dbl pn us wd kp tl tk cb (nI z) lg gr wt lt mv) (wC I c0 e0 e1 e2 p0 p1 p2 w0 w1 w2 g0 g1 g2 ev dbl pn us wd kp tl tk cb (nI z) lg gr wt lt mv) (t / nI z) := by
  refine KI.of (cc := cX1_paneAt) (maxL := 2) (rt := .int) (own := RX1) (by decide) rfl rfl (Nat.le_of_ble_eq_true rfl) ?_
  intro p e s m below meth c A Q0 ls hx hb hml hown hts hE hA hP hD hS hl hend
  have hK := hE.1
  have hF : CallFix p m c cX1_paneAt 2 s [.ref c0, .int t].toArray wsX1_paneAt RX1 := ⟨hx, hb, hml, hown, hts⟩
  have k0 := hts (.fieldLink RX1 32 "LateExcuses$Court" "size" "I") (List.mem_of_getElem? (i := 1) rfl)
  have u1 : ∀ w ∈ u_ws RX1 TX1 9, w ∈ wsX1_paneAt := by decide +kernel
  have hl : lv_has ls 2 [(0, .ref c0), (1, .int t)] := hl
  refine lv_aload_n hx hb dX1_paneAt_0 rfl (lv_at hl 0 rfl) ?_
  refine va_get (D := D) (ci := 1) (v := .int (nI z)) (C := RX1) (T := TX1) (N := 9) hx hb hts u1 hown hK hP 0 rfl rfl 3 (by decide) k0 (fun _ h9 => h9) rfl dX1_paneAt_1 ?_
  refine lv_if_le (tgt := 16) hx hb dX1_paneAt_4 (by decide) (fun c_4 => ?_) (fun c_4 => ?_)
  · exact absurd c_4 (nI_nle hz0 (by omega))
  · refine lv_iload_n hx hb dX1_paneAt_7 rfl (lv_at hl 1 rfl) ?_
    refine lv_aload_n hx hb dX1_paneAt_8 rfl (lv_at hl 0 rfl) ?_
    refine va_get (D := D) (ci := 1) (v := .int (nI z)) (C := RX1) (T := TX1) (N := 9) hx hb hts u1 hown hK hP 0 rfl rfl 3 (by decide) k0 (fun _ h9 => h9) rfl dX1_paneAt_9 ?_
    refine lv_idiv hx hb dX1_paneAt_12 (nI_ne0 hz0 (by omega)) ?_
    refine lv_goto (tgt := 17) hx hb dX1_paneAt_13 (by decide) ?_
    exact hend _ _ _ _ _ _ hP hD hS dX1_paneAt_17 rfl rfl rfl
set_option maxHeartbeats 400000 in
set_option maxRecDepth 100000 in
theorem c_X1_paneAtN (l : Launch) (D : va_G) (I C Q : ClassId) (c0 e0 e1 e2 p0 p1 p2 w0 w1 w2 g0 g1 g2 : Nat) (ev : Nat → Int32) (dbl : Int32) (pn : Nat → Int32) (us : Int32) (wd : Nat → Int32) (kp : Int32) (tl : Int32) (tk : Int32) (cb : Nat → Int32) (z : Nat) (lg : Int32) (gr : Int32) (wt : Int32) (lt : Int32) (mv : Int32) (t : Nat) (hz0 : 0 < z) (hz1 : z ≤ 100) (ht : t < 2000) : KI l D (tyL I C Q) yX1_paneAt wsX1_paneAt { frames := 0, cells := 0, slots := 0, locals := 0 } [.ref c0, .int (nI t)] (wC I c0 e0 e1 e2 p0 p1 p2 w0 w1 w2 g0 g1 g2 ev dbl pn us wd kp tl tk cb (nI z) lg gr wt lt mv) (wC I c0 e0 e1 e2 p0 p1 p2 w0 w1 w2 g0 g1 g2 ev dbl pn us wd kp tl tk cb (nI z) lg gr wt lt mv) (nI (t / z)) := by
  refine KI.of (cc := cX1_paneAt) (maxL := 2) (rt := .int) (own := RX1) (by decide) rfl rfl (Nat.le_of_ble_eq_true rfl) ?_
  intro p e s m below meth c A Q0 ls hx hb hml hown hts hE hA hP hD hS hl hend
  have hK := hE.1
  have hF : CallFix p m c cX1_paneAt 2 s [.ref c0, .int (nI t)].toArray wsX1_paneAt RX1 := ⟨hx, hb, hml, hown, hts⟩
  have k0 := hts (.fieldLink RX1 32 "LateExcuses$Court" "size" "I") (List.mem_of_getElem? (i := 1) rfl)
  have u1 : ∀ w ∈ u_ws RX1 TX1 9, w ∈ wsX1_paneAt := by decide +kernel
  have hl : lv_has ls 2 [(0, .ref c0), (1, .int (nI t))] := hl
  refine lv_aload_n hx hb dX1_paneAt_0 rfl (lv_at hl 0 rfl) ?_
  refine va_get (D := D) (ci := 1) (v := .int (nI z)) (C := RX1) (T := TX1) (N := 9) hx hb hts u1 hown hK hP 0 rfl rfl 3 (by decide) k0 (fun _ h9 => h9) rfl dX1_paneAt_1 ?_
  refine lv_if_le (tgt := 16) hx hb dX1_paneAt_4 (by decide) (fun c_4 => ?_) (fun c_4 => ?_)
  · exact absurd c_4 (nI_nle hz0 (by omega))
  · refine lv_iload_n hx hb dX1_paneAt_7 rfl (lv_at hl 1 rfl) ?_
    refine lv_aload_n hx hb dX1_paneAt_8 rfl (lv_at hl 0 rfl) ?_
    refine va_get (D := D) (ci := 1) (v := .int (nI z)) (C := RX1) (T := TX1) (N := 9) hx hb hts u1 hown hK hP 0 rfl rfl 3 (by decide) k0 (fun _ h9 => h9) rfl dX1_paneAt_9 ?_
    refine k_idiv (v := nI (t / z)) hx hb dX1_paneAt_12 (k_divN (by omega) hz0 (by omega)) ?_
    refine lv_goto (tgt := 17) hx hb dX1_paneAt_13 (by decide) ?_
    exact hend _ _ _ _ _ _ hP hD hS dX1_paneAt_17 rfl rfl rfl
set_option maxHeartbeats 400000 in
set_option maxRecDepth 100000 in
theorem c_X1_endOf (l : Launch) (D : va_G) (I C Q : ClassId) (c0 e0 e1 e2 p0 p1 p2 w0 w1 w2 g0 g1 g2 : Nat) (ev : Nat → Int32) (dbl : Int32) (pn : Nat → Int32) (us : Int32) (wd : Nat → Int32) (kp : Int32) (tl : Int32) (tk : Int32) (cb : Nat → Int32) (z : Nat) (lg : Int32) (gr : Int32) (wt : Int32) (lt : Int32) (mv : Int32) (q : Int32) : KI l D (tyL I C Q) yX1_endOf wsX1_endOf { frames := 0, cells := 0, slots := 0, locals := 0 } [.ref c0, .int q] (wC I c0 e0 e1 e2 p0 p1 p2 w0 w1 w2 g0 g1 g2 ev dbl pn us wd kp tl tk cb (nI z) lg gr wt lt mv) (wC I c0 e0 e1 e2 p0 p1 p2 w0 w1 w2 g0 g1 g2 ev dbl pn us wd kp tl tk cb (nI z) lg gr wt lt mv) ((q + 1) * nI z) := by
  refine KI.of (cc := cX1_endOf) (maxL := 2) (rt := .int) (own := RX1) (by decide) rfl rfl (Nat.le_of_ble_eq_true rfl) ?_
  intro p e s m below meth c A Q0 ls hx hb hml hown hts hE hA hP hD hS hl hend
  have hK := hE.1
  have hF : CallFix p m c cX1_endOf 2 s [.ref c0, .int q].toArray wsX1_endOf RX1 := ⟨hx, hb, hml, hown, hts⟩
  have k0 := hts (.fieldLink RX1 32 "LateExcuses$Court" "size" "I") (List.mem_of_getElem? (i := 1) rfl)
  have u1 : ∀ w ∈ u_ws RX1 TX1 9, w ∈ wsX1_endOf := by decide +kernel
  have hl : lv_has ls 2 [(0, .ref c0), (1, .int q)] := hl
  refine lv_iload_n hx hb dX1_endOf_0 rfl (lv_at hl 1 rfl) ?_
  refine lv_iconst (v := 1) hx hb dX1_endOf_1 (by decide) ?_
  refine lv_iadd hx hb dX1_endOf_2 ?_
  refine lv_aload_n hx hb dX1_endOf_3 rfl (lv_at hl 0 rfl) ?_
  refine va_get (D := D) (ci := 1) (v := .int (nI z)) (C := RX1) (T := TX1) (N := 9) hx hb hts u1 hown hK hP 0 rfl rfl 3 (by decide) k0 (fun _ h9 => h9) rfl dX1_endOf_4 ?_
  refine lv_imul hx hb dX1_endOf_7 ?_
  exact hend _ _ _ _ _ _ hP hD hS dX1_endOf_8 rfl rfl rfl
set_option maxHeartbeats 400000 in
set_option maxRecDepth 100000 in
theorem c_X1_hasTimes (l : Launch) (D : va_G) (I C Q : ClassId) (c0 e0 e1 e2 p0 p1 p2 w0 w1 w2 g0 g1 g2 : Nat) (ev : Nat → Int32) (dbl : Int32) (pn : Nat → Int32) (us : Int32) (wd : Nat → Int32) (kp : Int32) (tl : Int32) (tk : Int32) (cb : Nat → Int32) (z : Nat) (lg : Int32) (gr : Int32) (wt : Int32) (lt : Int32) (mv : Int32) (q : Int32) : KI l D (tyL I C Q) yX1_hasTimes wsX1_hasTimes { frames := 1, cells := 0, slots := 0, locals := 22 } [.ref c0, .int q] (wC I c0 e0 e1 e2 p0 p1 p2 w0 w1 w2 g0 g1 g2 ev dbl pn us wd kp tl tk cb (nI z) lg gr wt lt mv) (wC I c0 e0 e1 e2 p0 p1 p2 w0 w1 w2 g0 g1 g2 ev dbl pn us wd kp tl tk cb (nI z) lg gr wt lt mv) (if m_isIn q 0 1999 = 0 then 0 else if 1999 < q * nI z then 0 else 1) := by
  refine KI.of (cc := cX1_hasTimes) (maxL := 2) (rt := .boolean) (own := RX1) (by decide) rfl rfl (Nat.le_of_ble_eq_true rfl) ?_
  intro p e s m below meth c A Q0 ls hx hb hml hown hts hE hA hP hD hS hl hend
  have hK := hE.1
  have hF : CallFix p m c cX1_hasTimes 2 s [.ref c0, .int q].toArray wsX1_hasTimes RX1 := ⟨hx, hb, hml, hown, hts⟩
  have k0 := hts (.static yX8_isWithin) (List.mem_of_getElem? (i := 2) rfl)
  have k1 := hts (.initialized RX8) (List.mem_of_getElem? (i := 3) rfl)
  have k2 := hts (.fieldLink RX1 32 "LateExcuses$Court" "size" "I") (List.mem_of_getElem? (i := 1) rfl)
  have u1 : ∀ w ∈ u_ws RX1 TX1 9, w ∈ wsX1_hasTimes := by decide +kernel
  have hl : lv_has ls 2 [(0, .ref c0), (1, .int q)] := hl
  refine lv_iload_n hx hb dX1_hasTimes_0 rfl (lv_at hl 1 rfl) ?_
  refine lv_iconst (v := 0) hx hb dX1_hasTimes_1 (by decide) ?_
  refine lv_sipush (v := 1999) hx hb dX1_hasTimes_2 (by decide) ?_
  refine k_i0 (va_runSN (As := [.int q, .int 0, .int 1999]) (rest := []) hF (c_X8_isWithin l D I C Q q 0 1999 _) ⟨va_cnB 3 hts gX1_hasTimes_X8_isWithin_n75 rfl rfl rfl (hE.nest 6 rfl) k1 (by decide +kernel) ⟨Nat.le_of_ble_eq_true rfl, Nat.le_of_ble_eq_true rfl⟩, k0, trivial⟩ (kPreS hE k_P0 (k_D0 (A := A))) rfl rfl hl.1 rfl (lv_room (Nat.le_of_ble_eq_true rfl)) dX1_hasTimes_5 ⟨Nat.zero_le _, Nat.zero_le _⟩) hP hS hA (fun H locs hP hS => ?_)
  refine lv_if_eq (tgt := 27) hx hb dX1_hasTimes_8 (by decide) (fun c_8 => ?_) (fun c_8 => ?_)
  · refine lv_iconst (v := 0) hx hb dX1_hasTimes_27 (by decide) ?_
    exact hend _ _ _ _ _ _ hP hD hS dX1_hasTimes_28 (by decide) rfl (by simp +decide only [c_8, if_true, if_false, not_true_eq_false, not_false_eq_true, and_self, and_true, true_and, and_false, false_and, kn01, kn10, kn02, kn20, kn12, kn21, eq_self])
  · refine lv_iload_n hx hb dX1_hasTimes_11 rfl (lv_at hl 1 rfl) ?_
    refine lv_aload_n hx hb dX1_hasTimes_12 rfl (lv_at hl 0 rfl) ?_
    refine va_get (D := D) (ci := 1) (v := .int (nI z)) (C := RX1) (T := TX1) (N := 9) hx hb hts u1 hown hK hP 0 rfl rfl 3 (by decide) k2 (fun _ h9 => h9) rfl dX1_hasTimes_13 ?_
    refine lv_imul hx hb dX1_hasTimes_16 ?_
    refine lv_sipush (v := 1999) hx hb dX1_hasTimes_17 (by decide) ?_
    refine lv_icmp_gt (tgt := 27) hx hb dX1_hasTimes_20 (by decide) (fun c_20 => ?_) (fun c_20 => ?_)
    · refine lv_iconst (v := 0) hx hb dX1_hasTimes_27 (by decide) ?_
      exact hend _ _ _ _ _ _ hP hD hS dX1_hasTimes_28 (by decide) rfl (by simp +decide only [c_8, c_20, if_true, if_false, not_true_eq_false, not_false_eq_true, and_self, and_true, true_and, and_false, false_and, kn01, kn10, kn02, kn20, kn12, kn21, eq_self])
    · refine lv_iconst (v := 1) hx hb dX1_hasTimes_23 (by decide) ?_
      refine lv_goto (tgt := 28) hx hb dX1_hasTimes_24 (by decide) ?_
      exact hend _ _ _ _ _ _ hP hD hS dX1_hasTimes_28 (by decide) rfl (by simp +decide only [c_8, c_20, if_true, if_false, not_true_eq_false, not_false_eq_true, and_self, and_true, true_and, and_false, false_and, kn01, kn10, kn02, kn20, kn12, kn21, eq_self])
