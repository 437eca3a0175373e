set_option maxHeartbeats 400000 in
set_option maxRecDepth 100000 in
theorem c_X1_stateOf (l : Launch) (D : va_G) (I C Q : ClassId) (c0 e0 e1 e2 p0 p1 p2 w0 w1 w2 g0 g1 g2 : Nat) (ev : Nat → Int32) (dbl : Int32) (pn : Nat → Int32) (u : Nat) (wd : Nat → Int32) (kp : Int32) (tl : Int32) (tk : Int32) (cb : Nat → Int32) (z : Nat) (lg : Int32) (gr : Int32) (wt : Int32) (lt : Int32) (mv : Int32) (q : Int32) (hu64 : u ≤ 64) : KI l D (tyL I C Q) yX1_stateOf wsX1_stateOf { frames := 3, cells := 0, slots := 0, locals := 67 } [.ref c0, .int q] (wC I c0 e0 e1 e2 p0 p1 p2 w0 w1 w2 g0 g1 g2 ev dbl pn (nI u) wd kp tl tk cb (nI z) lg gr wt lt mv) (wC I c0 e0 e1 e2 p0 p1 p2 w0 w1 w2 g0 g1 g2 ev dbl pn (nI u) wd kp tl tk cb (nI z) lg gr wt lt mv) (c_state pn u q wt z) := by
  refine KI.of (cc := cX1_stateOf) (maxL := 3) (rt := .int) (own := RX1) (by decide) rfl rfl (Nat.le_of_ble_eq_true rfl) ?_
  intro p e s m below meth c A Q0 ls hx hb hml hown hts hE hA hP hD hS hl hend
  have hK := hE.1
  have hF : CallFix p m c cX1_stateOf 3 s [.ref c0, .int q].toArray wsX1_stateOf RX1 := ⟨hx, hb, hml, hown, hts⟩
  have k0 := hts (.fieldLink RX1 21 "LateExcuses$Court" "panes" "LLateExcuses$Panes;") (List.mem_of_getElem? (i := 1) rfl)
  have k1 := hts (.fieldLink RX1 42 "LateExcuses$Court" "watermark" "I") (List.mem_of_getElem? (i := 2) rfl)
  have u1 : ∀ w ∈ u_ws RX1 TX1 9, w ∈ wsX1_stateOf := by decide +kernel
  have hl : lv_has ls 3 [(0, .ref c0), (1, .int q)] := hl
  refine lv_aload_n hx hb dX1_stateOf_0 rfl (lv_at hl 0 rfl) ?_
  refine va_get (D := D) (ci := 1) (v := .ref p0) (C := RX1) (T := TX1) (N := 9) hx hb hts u1 hown hK hP 0 rfl rfl 1 (by decide) k0 (fun _ h9 => h9) rfl dX1_stateOf_1 ?_
  refine lv_iload_n hx hb dX1_stateOf_4 rfl (lv_at hl 1 rfl) ?_
  refine lv_iconst (v := 0) hx hb dX1_stateOf_5 (by decide) ?_
  have hPc := hP.sub (ws' := (wPn I p0 p1 p2 w0 w1 w2 pn (nI u) wd kp tl tk)) [4, 5, 6, 7, 8, 9] rfl
  have hDc := hD.sub (ws' := (wPn I p0 p1 p2 w0 w1 w2 pn (nI u) wd kp tl tk)) [4, 5, 6, 7, 8, 9] (by decide) rfl
  refine k_i (wr := [(c0, .inr (1, [.ref e0, .ref p0, .ref g0, .int (nI z), .int lg, .int gr, .int wt, .int lt, .int mv])), (e0, .inr (2, [.ref e1, .int dbl])), (e1, .inr (5, [.int (nI 64), .int (nI 7), .ref e2])), (e2, .inl (I, 64 * 7, .inl ev)), (g0, .inr (0, [.ref g1])), (g1, .inr (5, [.int (nI 3), .int (nI 5), .ref g2])), (g2, .inl (I, 3 * 5, .inl cb))]) (ws' := (wC I c0 e0 e1 e2 p0 p1 p2 w0 w1 w2 g0 g1 g2 ev dbl pn (nI u) wd kp tl tk cb (nI z) lg gr wt lt mv)) (va_runV (As := [.int q, .int 0]) (rest := []) hF (c_X4_read l D I C Q p0 p1 p2 w0 w1 w2 pn u wd kp tl tk q 0 hu64 (by omega) _) (cwV 2 hts gX1_stateOf_X4_read rfl rfl rfl (by decide +kernel) ⟨Nat.le_of_ble_eq_true rfl, Nat.le_of_ble_eq_true rfl⟩) (kPreV hE hPc hDc (ci := 4) (q0 := 0) rfl rfl) rfl rfl hl.1 rfl (lv_room (Nat.le_of_ble_eq_true rfl)) dX1_stateOf_6 ⟨Nat.zero_le _, Nat.zero_le _⟩) hP hD hS hA [4, 5, 6, 7, 8, 9] [0, 1, 2, 3, 10, 11, 12] [0, 1, 2, 3, 7, 8, 9, 10, 11, 12, 4, 5, 6] rfl rfl (by decide) (by decide) rfl (by decide) (fun H locs hP hD hS => ?_)
  refine lv_istore_n (lv' := [(2, .int (p_rd pn q u 0)), (0, .ref c0), (1, .int q)]) hx hb dX1_stateOf_9 rfl hl (by decide) rfl (fun ls hl => ?_)
  refine lv_iload_n hx hb dX1_stateOf_10 rfl (lv_at hl 0 rfl) ?_
  refine lv_if_eq (tgt := 16) hx hb dX1_stateOf_11 (by decide) (fun c_11 => ?_) (fun c_11 => ?_)
  · refine lv_aload_n hx hb dX1_stateOf_16 rfl (lv_at hl 1 rfl) ?_
    refine va_get (D := D) (ci := 1) (v := .int wt) (C := RX1) (T := TX1) (N := 9) hx hb hts u1 hown hK hP 0 rfl rfl 6 (by decide) k1 (fun _ h9 => h9) rfl dX1_stateOf_17 ?_
    refine lv_aload_n hx hb dX1_stateOf_20 rfl (lv_at hl 1 rfl) ?_
    refine lv_iload_n hx hb dX1_stateOf_21 rfl (lv_at hl 2 rfl) ?_
    refine k_iF (va_runV (As := [.int q]) (rest := [.int wt]) hF (c_X1_endOf l D I C Q c0 e0 e1 e2 p0 p1 p2 w0 w1 w2 g0 g1 g2 ev dbl pn (nI u) wd kp tl tk cb z lg gr wt lt mv q _) (cwV 1 hts gX1_stateOf_X1_endOf rfl rfl rfl (by decide +kernel) ⟨Nat.le_of_ble_eq_true rfl, Nat.le_of_ble_eq_true rfl⟩) (kPreV hE hP hD (ci := 1) (q0 := 0) rfl rfl) rfl rfl hl.1 rfl (lv_room (Nat.le_of_ble_eq_true rfl)) dX1_stateOf_22 ⟨Nat.zero_le _, Nat.zero_le _⟩) hD hS hA (fun H locs hP hD hS => ?_)
    refine lv_icmp_ge (tgt := 32) hx hb dX1_stateOf_25 (by decide) (fun c_25 => ?_) (fun c_25 => ?_)
    · refine lv_iconst (v := 1) hx hb dX1_stateOf_32 (by decide) ?_
      exact hend _ _ _ _ _ _ hP hD hS dX1_stateOf_33 rfl rfl (by simp +decide only [c_state, c_11, c_25, if_true, if_false, not_true_eq_false, not_false_eq_true, and_self, and_true, true_and, and_false, false_and, kn01, kn10, kn02, kn20, kn12, kn21, eq_self])
    · refine lv_iconst (v := 0) hx hb dX1_stateOf_28 (by decide) ?_
      refine lv_goto (tgt := 33) hx hb dX1_stateOf_29 (by decide) ?_
      exact hend _ _ _ _ _ _ hP hD hS dX1_stateOf_33 rfl rfl (by simp +decide only [c_state, c_11, c_25, if_true, if_false, not_true_eq_false, not_false_eq_true, and_self, and_true, true_and, and_false, false_and, kn01, kn10, kn02, kn20, kn12, kn21, eq_self])
  · refine lv_iload_n hx hb dX1_stateOf_14 rfl (lv_at hl 0 rfl) ?_
    exact hend _ _ _ _ _ _ hP hD hS dX1_stateOf_15 rfl rfl (by simp +decide only [c_state, c_11, if_true, if_false, not_true_eq_false, not_false_eq_true, and_self, and_true, true_and, and_false, false_and, kn01, kn10, kn02, kn20, kn12, kn21, eq_self])
set_option maxHeartbeats 400000 in
set_option maxRecDepth 100000 in
theorem c_X1_lateBy (l : Launch) (D : va_G) (I C Q : ClassId) (c0 e0 e1 e2 p0 p1 p2 w0 w1 w2 g0 g1 g2 : Nat) (ev : Nat → Int32) (dbl : Int32) (pn : Nat → Int32) (us : Int32) (wd : Nat → Int32) (kp : Int32) (tl : Int32) (tk : Int32) (cb : Nat → Int32) (z : Nat) (lg : Int32) (gr : Int32) (wt : Int32) (lt : Int32) (mv : Int32) (q : Int32) : KI l D (tyL I C Q) yX1_lateBy wsX1_lateBy { frames := 1, cells := 0, slots := 0, locals := 21 } [.ref c0, .int q] (wC I c0 e0 e1 e2 p0 p1 p2 w0 w1 w2 g0 g1 g2 ev dbl pn us wd kp tl tk cb (nI z) lg gr wt lt mv) (wC I c0 e0 e1 e2 p0 p1 p2 w0 w1 w2 g0 g1 g2 ev dbl pn us wd kp tl tk cb (nI z) lg gr wt lt mv) (wt - (q + 1) * nI z + 1) := by
  refine KI.of (cc := cX1_lateBy) (maxL := 2) (rt := .int) (own := RX1) (by decide) rfl rfl (Nat.le_of_ble_eq_true rfl) ?_
  intro p e s m below meth c A Q0 ls hx hb hml hown hts hE hA hP hD hS hl hend
  have hK := hE.1
  have hF : CallFix p m c cX1_lateBy 2 s [.ref c0, .int q].toArray wsX1_lateBy RX1 := ⟨hx, hb, hml, hown, hts⟩
  have k0 := hts (.fieldLink RX1 42 "LateExcuses$Court" "watermark" "I") (List.mem_of_getElem? (i := 1) rfl)
  have u1 : ∀ w ∈ u_ws RX1 TX1 9, w ∈ wsX1_lateBy := by decide +kernel
  have hl : lv_has ls 2 [(0, .ref c0), (1, .int q)] := hl
  refine lv_aload_n hx hb dX1_lateBy_0 rfl (lv_at hl 0 rfl) ?_
  refine va_get (D := D) (ci := 1) (v := .int wt) (C := RX1) (T := TX1) (N := 9) hx hb hts u1 hown hK hP 0 rfl rfl 6 (by decide) k0 (fun _ h9 => h9) rfl dX1_lateBy_1 ?_
  refine lv_aload_n hx hb dX1_lateBy_4 rfl (lv_at hl 0 rfl) ?_
  refine lv_iload_n hx hb dX1_lateBy_5 rfl (lv_at hl 1 rfl) ?_
  refine k_iF (va_runV (As := [.int q]) (rest := [.int wt]) hF (c_X1_endOf l D I C Q c0 e0 e1 e2 p0 p1 p2 w0 w1 w2 g0 g1 g2 ev dbl pn us wd kp tl tk cb z lg gr wt lt mv q _) (cwV 1 hts gX1_lateBy_X1_endOf rfl rfl rfl (by decide +kernel) ⟨Nat.le_of_ble_eq_true rfl, Nat.le_of_ble_eq_true rfl⟩) (kPreV hE hP hD (ci := 1) (q0 := 0) rfl rfl) rfl rfl hl.1 rfl (lv_room (Nat.le_of_ble_eq_true rfl)) dX1_lateBy_6 ⟨Nat.zero_le _, Nat.zero_le _⟩) hD hS hA (fun H locs hP hD hS => ?_)
  refine lv_isub hx hb dX1_lateBy_9 ?_
  refine lv_iconst (v := 1) hx hb dX1_lateBy_10 (by decide) ?_
  refine lv_iadd hx hb dX1_lateBy_11 ?_
  exact hend _ _ _ _ _ _ hP hD hS dX1_lateBy_12 rfl rfl rfl
set_option maxHeartbeats 400000 in
set_option maxRecDepth 100000 in
theorem c_X1_isAcceptable (l : Launch) (D : va_G) (I C Q : ClassId) (c0 e0 e1 e2 p0 p1 p2 w0 w1 w2 g0 g1 g2 : Nat) (ev : Nat → Int32) (dbl : Int32) (pn : Nat → Int32) (us : Int32) (wd : Nat → Int32) (kp : Int32) (tl : Int32) (tk : Int32) (cb : Nat → Int32) (z : Nat) (lg : Int32) (gr : Int32) (wt : Int32) (lt : Int32) (mv : Int32) (t : Nat) (key : Int32) (x : Int32) (hz0 : 0 < z) (hz1 : z ≤ 100) (ht : t < 2000) : KI l D (tyL I C Q) yX1_isAcceptable wsX1_isAcceptable { frames := 3, cells := 0, slots := 0, locals := 69 } [.ref c0, .int (nI t), .int key, .int x] (wC I c0 e0 e1 e2 p0 p1 p2 w0 w1 w2 g0 g1 g2 ev dbl pn us wd kp tl tk cb (nI z) lg gr wt lt mv) (wC I c0 e0 e1 e2 p0 p1 p2 w0 w1 w2 g0 g1 g2 ev dbl pn us wd kp tl tk cb (nI z) lg gr wt lt mv) (c_acc ev wt z t key x) := by
  refine KI.of (cc := cX1_isAcceptable) (maxL := 5) (rt := .boolean) (own := RX1) (by decide) rfl rfl (Nat.le_of_ble_eq_true rfl) ?_
  intro p e s m below meth c A Q0 ls hx hb hml hown hts hE hA hP hD hS hl hend
  have hK := hE.1
  have hF : CallFix p m c cX1_isAcceptable 5 s [.ref c0, .int (nI t), .int key, .int x].toArray wsX1_isAcceptable RX1 := ⟨hx, hb, hml, hown, hts⟩
  have k0 := hts (.fieldLink RX1 12 "LateExcuses$Court" "events" "LLateExcuses$Events;") (List.mem_of_getElem? (i := 1) rfl)
  have u1 : ∀ w ∈ u_ws RX1 TX1 9, w ∈ wsX1_isAcceptable := by decide +kernel
  have hl : lv_has ls 5 [(0, .ref c0), (1, .int (nI t)), (2, .int key), (3, .int x)] := hl
  refine lv_aload_n hx hb dX1_isAcceptable_0 rfl (lv_at hl 0 rfl) ?_
  refine lv_aload_n hx hb dX1_isAcceptable_1 rfl (lv_at hl 0 rfl) ?_
  refine lv_iload_n hx hb dX1_isAcceptable_2 rfl (lv_at hl 1 rfl) ?_
  refine k_iF (va_runV (As := [.int (nI t)]) (rest := [.ref c0]) hF (c_X1_paneAtN l D I C Q c0 e0 e1 e2 p0 p1 p2 w0 w1 w2 g0 g1 g2 ev dbl pn us wd kp tl tk cb z lg gr wt lt mv t hz0 hz1 ht _) (cwV 1 hts gX1_isAcceptable_X1_paneAt rfl rfl rfl (by decide +kernel) ⟨Nat.le_of_ble_eq_true rfl, Nat.le_of_ble_eq_true rfl⟩) (kPreV hE hP hD (ci := 1) (q0 := 0) rfl rfl) rfl rfl hl.1 rfl (lv_room (Nat.le_of_ble_eq_true rfl)) dX1_isAcceptable_3 ⟨Nat.zero_le _, Nat.zero_le _⟩) hD hS hA (fun H locs hP hD hS => ?_)
  refine k_iF (va_runV (As := [.int (nI (t / z))]) (rest := []) hF (c_X1_lateBy l D I C Q c0 e0 e1 e2 p0 p1 p2 w0 w1 w2 g0 g1 g2 ev dbl pn us wd kp tl tk cb z lg gr wt lt mv (nI (t / z)) _) (cwV 1 hts gX1_isAcceptable_X1_lateBy rfl rfl rfl (by decide +kernel) ⟨Nat.le_of_ble_eq_true rfl, Nat.le_of_ble_eq_true rfl⟩) (kPreV hE hP hD (ci := 1) (q0 := 0) rfl rfl) rfl rfl hl.1 rfl (lv_room (Nat.le_of_ble_eq_true rfl)) dX1_isAcceptable_6 ⟨Nat.zero_le _, Nat.zero_le _⟩) hD hS hA (fun H locs hP hD hS => ?_)
  refine lv_istore (lv' := [(4, .int (wt - ((nI (t / z)) + 1) * nI z + 1)), (0, .ref c0), (1, .int (nI t)), (2, .int key), (3, .int x)]) hx hb dX1_isAcceptable_9 hl (by decide) rfl (fun ls hl => ?_)
  refine lv_iload_n hx hb dX1_isAcceptable_11 rfl (lv_at hl 4 rfl) ?_
  by_cases c_12 : x < 1 ∨ 3 < x
  · refine lv_tableOut (tgt := 91) hx hb dX1_isAcceptable_12 (k_swOut (by decide) (by decide) c_12) (by decide) ?_
    refine lv_iconst (v := 0) hx hb dX1_isAcceptable_91 (by decide) ?_
    exact hend _ _ _ _ _ _ hP hD hS dX1_isAcceptable_92 (by decide) rfl (c_acc_d c_12).symm
  · obtain ⟨j_12, hj1_12, hj2_12⟩ := k_swIn (lo := 1) (hi := 3) (n := 2) (by decide +kernel) (by decide) (by decide +kernel) (by decide) c_12
    match j_12, hj1_12, hj2_12 with
    | 0, _, e_12 =>
      have e_12 : x = 1 := e_12.trans (by decide +kernel)
      refine k_top e_12 ?_
      refine lv_tableIn (off := 28) (tgt := 40) hx hb dX1_isAcceptable_12 (by decide) (by decide) (by decide) (by decide) ?_
      refine lv_iload hx hb dX1_isAcceptable_40 (lv_at hl 0 rfl) ?_
      refine lv_bipush (v := 10) hx hb dX1_isAcceptable_42 (by decide) ?_
      refine lv_icmp_gt (tgt := 51) hx hb dX1_isAcceptable_44 (by decide) (fun c_44 => ?_) (fun c_44 => ?_)
      · refine lv_iconst (v := 0) hx hb dX1_isAcceptable_51 (by decide) ?_
        exact hend _ _ _ _ _ _ hP hD hS dX1_isAcceptable_52 (by decide) rfl (by rw [e_12]; simp +decide only [c_acc, c_44, if_true, if_false, not_true_eq_false, not_false_eq_true, and_self, and_true, true_and, and_false, false_and, kn01, kn10, kn02, kn20, kn12, kn21, eq_self])
      · refine lv_iconst (v := 1) hx hb dX1_isAcceptable_47 (by decide) ?_
        refine lv_goto (tgt := 52) hx hb dX1_isAcceptable_48 (by decide) ?_
        exact hend _ _ _ _ _ _ hP hD hS dX1_isAcceptable_52 (by decide) rfl (by rw [e_12]; simp +decide only [c_acc, c_44, if_true, if_false, not_true_eq_false, not_false_eq_true, and_self, and_true, true_and, and_false, false_and, kn01, kn10, kn02, kn20, kn12, kn21, eq_self])
    | 1, _, e_12 =>
      have e_12 : x = 2 := e_12.trans (by decide +kernel)
      refine k_top e_12 ?_
      refine lv_tableIn (off := 41) (tgt := 53) hx hb dX1_isAcceptable_12 (by decide) (by decide) (by decide) (by decide) ?_
      refine lv_iload hx hb dX1_isAcceptable_53 (lv_at hl 0 rfl) ?_
      refine lv_bipush (v := 40) hx hb dX1_isAcceptable_55 (by decide) ?_
      refine lv_icmp_gt (tgt := 75) hx hb dX1_isAcceptable_57 (by decide) (fun c_57 => ?_) (fun c_57 => ?_)
      · refine lv_iconst (v := 0) hx hb dX1_isAcceptable_75 (by decide) ?_
        exact hend _ _ _ _ _ _ hP hD hS dX1_isAcceptable_76 (by decide) rfl (by rw [e_12]; simp +decide only [c_acc, c_57, if_true, if_false, not_true_eq_false, not_false_eq_true, and_self, and_true, true_and, and_false, false_and, kn01, kn10, kn02, kn20, kn12, kn21, eq_self])
      · refine lv_aload_n hx hb dX1_isAcceptable_60 rfl (lv_at hl 1 rfl) ?_
        refine va_get (D := D) (ci := 1) (v := .ref e0) (C := RX1) (T := TX1) (N := 9) hx hb hts u1 hown hK hP 0 rfl rfl 0 (by decide) k0 (fun _ h9 => h9) rfl dX1_isAcceptable_61 ?_
        refine lv_iload_n hx hb dX1_isAcceptable_64 rfl (lv_at hl 3 rfl) ?_
        have hPc := hP.sub (ws' := (wEv I e0 e1 e2 ev dbl)) [1, 2, 3] rfl
        have hDc := hD.sub (ws' := (wEv I e0 e1 e2 ev dbl)) [1, 2, 3] (by decide) rfl
        refine k_i (wr := [(c0, .inr (1, [.ref e0, .ref p0, .ref g0, .int (nI z), .int lg, .int gr, .int wt, .int lt, .int mv])), (p0, .inr (4, [.ref p1, .ref w0, .int us])), (p1, .inr (5, [.int (nI 64), .int (nI 8), .ref p2])), (p2, .inl (I, 64 * 8, .inl pn)), (w0, .inr (7, [.ref w1, .int kp, .int tl, .int tk])), (w1, .inr (5, [.int (nI 40), .int (nI 4), .ref w2])), (w2, .inl (I, 40 * 4, .inl wd)), (g0, .inr (0, [.ref g1])), (g1, .inr (5, [.int (nI 3), .int (nI 5), .ref g2])), (g2, .inl (I, 3 * 5, .inl cb))]) (ws' := (wC I c0 e0 e1 e2 p0 p1 p2 w0 w1 w2 g0 g1 g2 ev dbl pn us wd kp tl tk cb (nI z) lg gr wt lt mv)) (va_runV (As := [.int key]) (rest := []) hF (c_X2_hadIllness l D I C Q e0 e1 e2 ev dbl key _) (cwV 1 hts gX1_isAcceptable_X2_hadIllness rfl rfl rfl (by decide +kernel) ⟨Nat.le_of_ble_eq_true rfl, Nat.le_of_ble_eq_true rfl⟩) (kPreV hE hPc hDc (ci := 2) (q0 := 0) rfl rfl) rfl rfl hl.1 rfl (lv_room (Nat.le_of_ble_eq_true rfl)) dX1_isAcceptable_65 ⟨Nat.zero_le _, Nat.zero_le _⟩) hP hD hS hA [1, 2, 3] [0, 4, 5, 6, 7, 8, 9, 10, 11, 12] [0, 10, 11, 12, 1, 2, 3, 4, 5, 6, 7, 8, 9] rfl rfl (by decide) (by decide) rfl (by decide) (fun H locs hP hD hS => ?_)
        refine lv_if_ne (tgt := 75) hx hb dX1_isAcceptable_68 (by decide) (fun c_68 => ?_) (fun c_68 => ?_)
        · refine lv_iconst (v := 0) hx hb dX1_isAcceptable_75 (by decide) ?_
          exact hend _ _ _ _ _ _ hP hD hS dX1_isAcceptable_76 (by decide) rfl (by rw [e_12]; simp +decide only [c_acc, c_57, c_68, if_true, if_false, not_true_eq_false, not_false_eq_true, and_self, and_true, true_and, and_false, false_and, kn01, kn10, kn02, kn20, kn12, kn21, eq_self])
        · refine lv_iconst (v := 1) hx hb dX1_isAcceptable_71 (by decide) ?_
          refine lv_goto (tgt := 76) hx hb dX1_isAcceptable_72 (by decide) ?_
          exact hend _ _ _ _ _ _ hP hD hS dX1_isAcceptable_76 (by decide) rfl (by rw [e_12]; simp +decide only [c_acc, c_57, c_68, if_true, if_false, not_true_eq_false, not_false_eq_true, and_self, and_true, true_and, and_false, false_and, kn01, kn10, kn02, kn20, kn12, kn21, eq_self])
    | 2, _, e_12 =>
      have e_12 : x = 3 := e_12.trans (by decide +kernel)
      refine k_top e_12 ?_
      refine lv_tableIn (off := 65) (tgt := 77) hx hb dX1_isAcceptable_12 (by decide) (by decide) (by decide) (by decide) ?_
      refine lv_iload_n hx hb dX1_isAcceptable_77 rfl (lv_at hl 2 rfl) ?_
      refine lv_bipush (v := 7) hx hb dX1_isAcceptable_78 (by decide) ?_
      refine k_irem (v := nI (t % 7)) hx hb dX1_isAcceptable_80 (k_remN (a := t) (b := 7) (by omega) (by omega) (by omega)) ?_
      refine lv_iconst (v := 5) hx hb dX1_isAcceptable_81 (by decide) ?_
      refine lv_icmp_lt (tgt := 89) hx hb dX1_isAcceptable_82 (by decide) (fun c_82 => ?_) (fun c_82 => ?_)
      · refine lv_iconst (v := 0) hx hb dX1_isAcceptable_89 (by decide) ?_
        exact hend _ _ _ _ _ _ hP hD hS dX1_isAcceptable_90 (by decide) rfl (by rw [e_12]; simp +decide only [c_acc, c_82, if_true, if_false, not_true_eq_false, not_false_eq_true, and_self, and_true, true_and, and_false, false_and, kn01, kn10, kn02, kn20, kn12, kn21, eq_self])
      · refine lv_iconst (v := 1) hx hb dX1_isAcceptable_85 (by decide) ?_
        refine lv_goto (tgt := 90) hx hb dX1_isAcceptable_86 (by decide) ?_
        exact hend _ _ _ _ _ _ hP hD hS dX1_isAcceptable_90 (by decide) rfl (by rw [e_12]; simp +decide only [c_acc, c_82, if_true, if_false, not_true_eq_false, not_false_eq_true, and_self, and_true, true_and, and_false, false_and, kn01, kn10, kn02, kn20, kn12, kn21, eq_self])
    | j + 3, h, _ => exact absurd h (by omega)
set_option maxHeartbeats 400000 in
set_option maxRecDepth 100000 in
theorem c_X1_verdict (l : Launch) (D : va_G) (I C Q : ClassId) (c0 e0 e1 e2 p0 p1 p2 w0 w1 w2 g0 g1 g2 : Nat) (ev : Nat → Int32) (dbl : Int32) (pn : Nat → Int32) (u : Nat) (wd : Nat → Int32) (kp : Int32) (tl : Int32) (tk : Int32) (cb : Nat → Int32) (z : Nat) (lg : Int32) (gr : Int32) (wt : Int32) (lt : Int32) (mv : Int32) (t : Nat) (key : Int32) (x : Int32) (hz0 : 0 < z) (hz1 : z ≤ 100) (hu64 : u ≤ 64) (ht : t < 2000) : KI l D (tyL I C Q) yX1_verdict wsX1_verdict { frames := 4, cells := 0, slots := 0, locals := 93 } [.ref c0, .int (nI t), .int key, .int x] (wC I c0 e0 e1 e2 p0 p1 p2 w0 w1 w2 g0 g1 g2 ev dbl pn (nI u) wd kp tl tk cb (nI z) lg gr wt lt mv) (wC I c0 e0 e1 e2 p0 p1 p2 w0 w1 w2 g0 g1 g2 ev dbl pn (nI u) wd kp tl tk cb (nI z) lg gr wt lt mv) (c_ver ev pn u cb wt z t key x) := by
  refine KI.of (cc := cX1_verdict) (maxL := 6) (rt := .int) (own := RX1) (by decide) rfl rfl (Nat.le_of_ble_eq_true rfl) ?_
  intro p e s m below meth c A Q0 ls hx hb hml hown hts hE hA hP hD hS hl hend
  have hK := hE.1
  have hF : CallFix p m c cX1_verdict 6 s [.ref c0, .int (nI t), .int key, .int x].toArray wsX1_verdict RX1 := ⟨hx, hb, hml, hown, hts⟩
  have k0 := hts (.fieldLink RX1 28 "LateExcuses$Court" "cabinets" "LLateExcuses$Cabinets;") (List.mem_of_getElem? (i := 1) rfl)
  have u1 : ∀ w ∈ u_ws RX1 TX1 9, w ∈ wsX1_verdict := by decide +kernel
  have hl : lv_has ls 6 [(0, .ref c0), (1, .int (nI t)), (2, .int key), (3, .int x)] := hl
  refine lv_aload_n hx hb dX1_verdict_0 rfl (lv_at hl 0 rfl) ?_
  refine lv_aload_n hx hb dX1_verdict_1 rfl (lv_at hl 0 rfl) ?_
  refine lv_iload_n hx hb dX1_verdict_2 rfl (lv_at hl 1 rfl) ?_
  refine k_iF (va_runV (As := [.int (nI t)]) (rest := [.ref c0]) hF (c_X1_paneAtN l D I C Q c0 e0 e1 e2 p0 p1 p2 w0 w1 w2 g0 g1 g2 ev dbl pn (nI u) wd kp tl tk cb z lg gr wt lt mv t hz0 hz1 ht _) (cwV 1 hts gX1_verdict_X1_paneAt rfl rfl rfl (by decide +kernel) ⟨Nat.le_of_ble_eq_true rfl, Nat.le_of_ble_eq_true rfl⟩) (kPreV hE hP hD (ci := 1) (q0 := 0) rfl rfl) rfl rfl hl.1 rfl (lv_room (Nat.le_of_ble_eq_true rfl)) dX1_verdict_3 ⟨Nat.zero_le _, Nat.zero_le _⟩) hD hS hA (fun H locs hP hD hS => ?_)
  refine k_iF (va_runV (As := [.int (nI (t / z))]) (rest := []) hF (c_X1_stateOf l D I C Q c0 e0 e1 e2 p0 p1 p2 w0 w1 w2 g0 g1 g2 ev dbl pn u wd kp tl tk cb z lg gr wt lt mv (nI (t / z)) hu64 _) (cwV 1 hts gX1_verdict_X1_stateOf rfl rfl rfl (by decide +kernel) ⟨Nat.le_of_ble_eq_true rfl, Nat.le_of_ble_eq_true rfl⟩) (kPreV hE hP hD (ci := 1) (q0 := 0) rfl rfl) rfl rfl hl.1 rfl (lv_room (Nat.le_of_ble_eq_true rfl)) dX1_verdict_6 ⟨Nat.zero_le _, Nat.zero_le _⟩) hD hS hA (fun H locs hP hD hS => ?_)
  refine lv_istore (lv' := [(4, .int (c_state pn u (nI (t / z)) wt z)), (0, .ref c0), (1, .int (nI t)), (2, .int key), (3, .int x)]) hx hb dX1_verdict_9 hl (by decide) rfl (fun ls hl => ?_)
  refine lv_iload hx hb dX1_verdict_11 (lv_at hl 0 rfl) ?_
  refine lv_iconst (v := 3) hx hb dX1_verdict_13 (by decide) ?_
  refine lv_icmp_ne (tgt := 19) hx hb dX1_verdict_14 (by decide) (fun c_14 => ?_) (fun c_14 => ?_)
  · refine lv_iload hx hb dX1_verdict_19 (lv_at hl 0 rfl) ?_
    refine lv_iconst (v := 1) hx hb dX1_verdict_21 (by decide) ?_
    refine lv_icmp_eq (tgt := 27) hx hb dX1_verdict_22 (by decide) (fun c_22 => ?_) (fun c_22 => ?_)
    · refine lv_aload_n hx hb dX1_verdict_27 rfl (lv_at hl 1 rfl) ?_
      refine lv_iload_n hx hb dX1_verdict_28 rfl (lv_at hl 2 rfl) ?_
      refine lv_iload_n hx hb dX1_verdict_29 rfl (lv_at hl 3 rfl) ?_
      refine lv_iload_n hx hb dX1_verdict_30 rfl (lv_at hl 4 rfl) ?_
      refine k_iF (va_runV (As := [.int (nI t), .int key, .int x]) (rest := []) hF (c_X1_isAcceptable l D I C Q c0 e0 e1 e2 p0 p1 p2 w0 w1 w2 g0 g1 g2 ev dbl pn (nI u) wd kp tl tk cb z lg gr wt lt mv t key x hz0 hz1 ht _) (cwV 3 hts gX1_verdict_X1_isAcceptable rfl rfl rfl (by decide +kernel) ⟨Nat.le_of_ble_eq_true rfl, Nat.le_of_ble_eq_true rfl⟩) (kPreV hE hP hD (ci := 1) (q0 := 0) rfl rfl) rfl rfl hl.1 rfl (lv_room (Nat.le_of_ble_eq_true rfl)) dX1_verdict_31 ⟨Nat.zero_le _, Nat.zero_le _⟩) hD hS hA (fun H locs hP hD hS => ?_)
      refine lv_if_eq (tgt := 52) hx hb dX1_verdict_34 (by decide) (fun c_34 => ?_) (fun c_34 => ?_)
      · refine lv_iconst (v := 0) hx hb dX1_verdict_52 (by decide) ?_
        refine lv_istore (lv' := [(5, .int 0), (4, .int (c_state pn u (nI (t / z)) wt z)), (0, .ref c0), (1, .int (nI t)), (2, .int key), (3, .int x)]) hx hb dX1_verdict_53 hl (by decide) rfl (fun ls hl => ?_)
        refine lv_iload hx hb dX1_verdict_55 (lv_at hl 0 rfl) ?_
        refine lv_if_eq (tgt := 64) hx hb dX1_verdict_57 (by decide) (fun c_57 => ?_) (fun c_57 => ?_)
        · refine lv_iconst (v := 2) hx hb dX1_verdict_64 (by decide) ?_
          exact hend _ _ _ _ _ _ hP hD hS dX1_verdict_65 rfl rfl (by simp +decide only [c_ver, c_14, c_22, c_34, c_57, if_true, if_false, not_true_eq_false, not_false_eq_true, and_self, and_true, true_and, and_false, false_and, kn01, kn10, kn02, kn20, kn12, kn21, eq_self])
        · exact (c_57 (by decide)).elim
      · refine lv_aload_n hx hb dX1_verdict_37 rfl (lv_at hl 1 rfl) ?_
        refine va_get (D := D) (ci := 1) (v := .ref g0) (C := RX1) (T := TX1) (N := 9) hx hb hts u1 hown hK hP 0 rfl rfl 2 (by decide) k0 (fun _ h9 => h9) rfl dX1_verdict_38 ?_
        refine lv_iload_n hx hb dX1_verdict_41 rfl (lv_at hl 4 rfl) ?_
        have hPc := hP.sub (ws' := (wCb I g0 g1 g2 cb)) [10, 11, 12] rfl
        have hDc := hD.sub (ws' := (wCb I g0 g1 g2 cb)) [10, 11, 12] (by decide) rfl
        refine k_i (wr := [(c0, .inr (1, [.ref e0, .ref p0, .ref g0, .int (nI z), .int lg, .int gr, .int wt, .int lt, .int mv])), (e0, .inr (2, [.ref e1, .int dbl])), (e1, .inr (5, [.int (nI 64), .int (nI 7), .ref e2])), (e2, .inl (I, 64 * 7, .inl ev)), (p0, .inr (4, [.ref p1, .ref w0, .int (nI u)])), (p1, .inr (5, [.int (nI 64), .int (nI 8), .ref p2])), (p2, .inl (I, 64 * 8, .inl pn)), (w0, .inr (7, [.ref w1, .int kp, .int tl, .int tk])), (w1, .inr (5, [.int (nI 40), .int (nI 4), .ref w2])), (w2, .inl (I, 40 * 4, .inl wd))]) (ws' := (wC I c0 e0 e1 e2 p0 p1 p2 w0 w1 w2 g0 g1 g2 ev dbl pn (nI u) wd kp tl tk cb (nI z) lg gr wt lt mv)) (va_runV (As := [.int x]) (rest := []) hF (c_X0_hasPlaceFor l D I C Q g0 g1 g2 cb x _) (cwV 1 hts gX1_verdict_X0_hasPlaceFor rfl rfl rfl (by decide +kernel) ⟨Nat.le_of_ble_eq_true rfl, Nat.le_of_ble_eq_true rfl⟩) (kPreV hE hPc hDc (ci := 0) (q0 := 0) rfl rfl) rfl rfl hl.1 rfl (lv_room (Nat.le_of_ble_eq_true rfl)) dX1_verdict_42 ⟨Nat.zero_le _, Nat.zero_le _⟩) hP hD hS hA [10, 11, 12] [0, 1, 2, 3, 4, 5, 6, 7, 8, 9] [0, 1, 2, 3, 4, 5, 6, 7, 8, 9, 10, 11, 12] rfl rfl (by decide) (by decide) rfl (by decide) (fun H locs hP hD hS => ?_)
        refine lv_if_eq (tgt := 52) hx hb dX1_verdict_45 (by decide) (fun c_45 => ?_) (fun c_45 => ?_)
        · refine lv_iconst (v := 0) hx hb dX1_verdict_52 (by decide) ?_
          refine lv_istore (lv' := [(5, .int 0), (4, .int (c_state pn u (nI (t / z)) wt z)), (0, .ref c0), (1, .int (nI t)), (2, .int key), (3, .int x)]) hx hb dX1_verdict_53 hl (by decide) rfl (fun ls hl => ?_)
          refine lv_iload hx hb dX1_verdict_55 (lv_at hl 0 rfl) ?_
          refine lv_if_eq (tgt := 64) hx hb dX1_verdict_57 (by decide) (fun c_57 => ?_) (fun c_57 => ?_)
          · refine lv_iconst (v := 2) hx hb dX1_verdict_64 (by decide) ?_
            exact hend _ _ _ _ _ _ hP hD hS dX1_verdict_65 rfl rfl (by simp +decide only [c_ver, c_14, c_22, c_34, c_45, c_57, if_true, if_false, not_true_eq_false, not_false_eq_true, and_self, and_true, true_and, and_false, false_and, kn01, kn10, kn02, kn20, kn12, kn21, eq_self])
          · exact (c_57 (by decide)).elim
        · refine lv_iconst (v := 1) hx hb dX1_verdict_48 (by decide) ?_
          refine lv_goto (tgt := 53) hx hb dX1_verdict_49 (by decide) ?_
          refine lv_istore (lv' := [(5, .int 1), (4, .int (c_state pn u (nI (t / z)) wt z)), (0, .ref c0), (1, .int (nI t)), (2, .int key), (3, .int x)]) hx hb dX1_verdict_53 hl (by decide) rfl (fun ls hl => ?_)
          refine lv_iload hx hb dX1_verdict_55 (lv_at hl 0 rfl) ?_
          refine lv_if_eq (tgt := 64) hx hb dX1_verdict_57 (by decide) (fun c_57 => ?_) (fun c_57 => ?_)
          · exact absurd c_57 (by decide)
          · refine lv_iconst (v := 1) hx hb dX1_verdict_60 (by decide) ?_
            refine lv_goto (tgt := 65) hx hb dX1_verdict_61 (by decide) ?_
            exact hend _ _ _ _ _ _ hP hD hS dX1_verdict_65 rfl rfl (by simp +decide only [c_ver, c_14, c_22, c_34, c_45, c_57, if_true, if_false, not_true_eq_false, not_false_eq_true, and_self, and_true, true_and, and_false, false_and, kn01, kn10, kn02, kn20, kn12, kn21, eq_self])
    · refine lv_iconst (v := 0) hx hb dX1_verdict_25 (by decide) ?_
      exact hend _ _ _ _ _ _ hP hD hS dX1_verdict_26 rfl rfl (by simp +decide only [c_ver, c_14, c_22, if_true, if_false, not_true_eq_false, not_false_eq_true, and_self, and_true, true_and, and_false, false_and, kn01, kn10, kn02, kn20, kn12, kn21, eq_self])
  · refine lv_iconst (v := 3) hx hb dX1_verdict_17 (by decide) ?_
    exact hend _ _ _ _ _ _ hP hD hS dX1_verdict_18 rfl rfl (by simp +decide only [c_ver, c_14, if_true, if_false, not_true_eq_false, not_false_eq_true, and_self, and_true, true_and, and_false, false_and, kn01, kn10, kn02, kn20, kn12, kn21, eq_self])
