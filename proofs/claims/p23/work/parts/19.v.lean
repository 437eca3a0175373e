set_option maxHeartbeats 400000 in
set_option maxRecDepth 100000 in
theorem c_X1_numberO (l : Launch) (D : va_G) (I C Q : ClassId) (c0 e0 e1 e2 p0 p1 p2 w0 w1 w2 g0 g1 g2 : Nat) (ev : Nat → Int32) (dbl : Int32) (pn : Nat → Int32) (us : Int32) (wd : Nat → Int32) (kp : Int32) (tl : Int32) (tk : Int32) (cb : Nat → Int32) (sz : Int32) (lg : Int32) (gr : Int32) (wt : Int32) (lt : Int32) (mv : Int32) (x : Int32) (hxx : x = 0 ∨ x = 1 ∨ x = 2 ∨ x = 3 ∨ x = 4 ∨ x = 5 ∨ x = 6 ∨ x = 11) : KI l D (tyL I C Q) yX1_number wsX1_number { frames := 3, cells := 0, slots := 0, locals := 71 } [.ref c0, .int x] (wC I c0 e0 e1 e2 p0 p1 p2 w0 w1 w2 g0 g1 g2 ev dbl pn us wd kp tl tk cb sz lg gr wt lt mv) (wC I c0 e0 e1 e2 p0 p1 p2 w0 w1 w2 g0 g1 g2 ev dbl pn us wd kp tl tk cb sz lg gr wt lt mv) (c_num ev dbl wt lt mv x) := by
  refine KI.of (cc := cX1_number) (maxL := 2) (rt := .int) (own := RX1) (by decide) rfl rfl (Nat.le_of_ble_eq_true rfl) ?_
  intro p e s m below meth c A Q0 ls hx hb hml hown hts hE hA hP hD hS hl hend
  have hK := hE.1
  have hF : CallFix p m c cX1_number 2 s [.ref c0, .int x].toArray wsX1_number RX1 := ⟨hx, hb, hml, hown, hts⟩
  have k0 := hts (.fieldLink RX1 12 "LateExcuses$Court" "events" "LLateExcuses$Events;") (List.mem_of_getElem? (i := 1) rfl)
  have k1 := hts (.fieldLink RX1 42 "LateExcuses$Court" "watermark" "I") (List.mem_of_getElem? (i := 2) rfl)
  have k2 := hts (.fieldLink RX1 45 "LateExcuses$Court" "latest" "I") (List.mem_of_getElem? (i := 3) rfl)
  have k3 := hts (.fieldLink RX1 58 "LateExcuses$Court" "moved" "Z") (List.mem_of_getElem? (i := 4) rfl)
  have u1 : ∀ w ∈ u_ws RX1 TX1 9, w ∈ wsX1_number := by decide +kernel
  have hl : lv_has ls 2 [(0, .ref c0), (1, .int x)] := hl
  refine lv_iload_n hx hb dX1_number_0 rfl (lv_at hl 1 rfl) ?_
  rcases hxx with rfl | rfl | rfl | rfl | rfl | rfl | rfl | rfl
  · refine lv_tableIn (off := 63) (tgt := 64) hx hb dX1_number_1 (by decide) (by decide) (by decide) (by decide) ?_
    refine lv_aload_n hx hb dX1_number_64 rfl (lv_at hl 0 rfl) ?_
    refine va_get (D := D) (ci := 1) (v := .ref e0) (C := RX1) (T := TX1) (N := 9) hx hb hts u1 hown hK hP 0 rfl rfl 0 (by decide) k0 (fun _ h9 => h9) rfl dX1_number_65 ?_
    refine lv_iconst (v := 0) hx hb dX1_number_68 (by decide) ?_
    refine lv_iconst (v := 3) hx hb dX1_number_69 (by decide) ?_
    have hPc := hP.sub (ws' := (wEv I e0 e1 e2 ev dbl)) [1, 2, 3] rfl
    have hDc := hD.sub (ws' := (wEv I e0 e1 e2 ev dbl)) [1, 2, 3] (by decide) rfl
    refine k_i (wr := [(c0, .inr (1, [.ref e0, .ref p0, .ref g0, .int sz, .int lg, .int gr, .int wt, .int lt, .int mv])), (p0, .inr (4, [.ref p1, .ref w0, .int us])), (p1, .inr (5, [.int (nI 64), .int (nI 8), .ref p2])), (p2, .inl (I, 64 * 8, .inl pn)), (w0, .inr (7, [.ref w1, .int kp, .int tl, .int tk])), (w1, .inr (5, [.int (nI 40), .int (nI 4), .ref w2])), (w2, .inl (I, 40 * 4, .inl wd)), (g0, .inr (0, [.ref g1])), (g1, .inr (5, [.int (nI 3), .int (nI 5), .ref g2])), (g2, .inl (I, 3 * 5, .inl cb))]) (ws' := (wC I c0 e0 e1 e2 p0 p1 p2 w0 w1 w2 g0 g1 g2 ev dbl pn us wd kp tl tk cb sz lg gr wt lt mv)) (va_runV (As := [.int 0, .int 3]) (rest := []) hF (c_X2_withOutcome l D I C Q e0 e1 e2 ev dbl 0 3 _) (cwV 2 hts gX1_number_X2_withOutcome rfl rfl rfl (by decide +kernel) ⟨Nat.le_of_ble_eq_true rfl, Nat.le_of_ble_eq_true rfl⟩) (kPreV hE hPc hDc (ci := 2) (q0 := 0) rfl rfl) rfl rfl hl.1 rfl (lv_room (Nat.le_of_ble_eq_true rfl)) dX1_number_70 ⟨Nat.zero_le _, Nat.zero_le _⟩) hP hD hS hA [1, 2, 3] [0, 4, 5, 6, 7, 8, 9, 10, 11, 12] [0, 10, 11, 12, 1, 2, 3, 4, 5, 6, 7, 8, 9] rfl rfl (by decide) (by decide) rfl (by decide) (fun H locs hP hD hS => ?_)
    exact hend _ _ _ _ _ _ hP hD hS dX1_number_73 rfl rfl (by simp +decide only [c_num, if_true, if_false, not_true_eq_false, not_false_eq_true, and_self, and_true, true_and, and_false, false_and, kn01, kn10, kn02, kn20, kn12, kn21, eq_self])
  · refine lv_tableIn (off := 73) (tgt := 74) hx hb dX1_number_1 (by decide) (by decide) (by decide) (by decide) ?_
    refine lv_aload_n hx hb dX1_number_74 rfl (lv_at hl 0 rfl) ?_
    refine va_get (D := D) (ci := 1) (v := .ref e0) (C := RX1) (T := TX1) (N := 9) hx hb hts u1 hown hK hP 0 rfl rfl 0 (by decide) k0 (fun _ h9 => h9) rfl dX1_number_75 ?_
    refine lv_iconst (v := 0) hx hb dX1_number_78 (by decide) ?_
    refine lv_iconst (v := 1) hx hb dX1_number_79 (by decide) ?_
    have hPc := hP.sub (ws' := (wEv I e0 e1 e2 ev dbl)) [1, 2, 3] rfl
    have hDc := hD.sub (ws' := (wEv I e0 e1 e2 ev dbl)) [1, 2, 3] (by decide) rfl
    refine k_i (wr := [(c0, .inr (1, [.ref e0, .ref p0, .ref g0, .int sz, .int lg, .int gr, .int wt, .int lt, .int mv])), (p0, .inr (4, [.ref p1, .ref w0, .int us])), (p1, .inr (5, [.int (nI 64), .int (nI 8), .ref p2])), (p2, .inl (I, 64 * 8, .inl pn)), (w0, .inr (7, [.ref w1, .int kp, .int tl, .int tk])), (w1, .inr (5, [.int (nI 40), .int (nI 4), .ref w2])), (w2, .inl (I, 40 * 4, .inl wd)), (g0, .inr (0, [.ref g1])), (g1, .inr (5, [.int (nI 3), .int (nI 5), .ref g2])), (g2, .inl (I, 3 * 5, .inl cb))]) (ws' := (wC I c0 e0 e1 e2 p0 p1 p2 w0 w1 w2 g0 g1 g2 ev dbl pn us wd kp tl tk cb sz lg gr wt lt mv)) (va_runV (As := [.int 0, .int 1]) (rest := []) hF (c_X2_withOutcome l D I C Q e0 e1 e2 ev dbl 0 1 _) (cwV 2 hts gX1_number_X2_withOutcome rfl rfl rfl (by decide +kernel) ⟨Nat.le_of_ble_eq_true rfl, Nat.le_of_ble_eq_true rfl⟩) (kPreV hE hPc hDc (ci := 2) (q0 := 0) rfl rfl) rfl rfl hl.1 rfl (lv_room (Nat.le_of_ble_eq_true rfl)) dX1_number_80 ⟨Nat.zero_le _, Nat.zero_le _⟩) hP hD hS hA [1, 2, 3] [0, 4, 5, 6, 7, 8, 9, 10, 11, 12] [0, 10, 11, 12, 1, 2, 3, 4, 5, 6, 7, 8, 9] rfl rfl (by decide) (by decide) rfl (by decide) (fun H locs hP hD hS => ?_)
    exact hend _ _ _ _ _ _ hP hD hS dX1_number_83 rfl rfl (by simp +decide only [c_num, if_true, if_false, not_true_eq_false, not_false_eq_true, and_self, and_true, true_and, and_false, false_and, kn01, kn10, kn02, kn20, kn12, kn21, eq_self])
  · refine lv_tableIn (off := 83) (tgt := 84) hx hb dX1_number_1 (by decide) (by decide) (by decide) (by decide) ?_
    refine lv_aload_n hx hb dX1_number_84 rfl (lv_at hl 0 rfl) ?_
    refine va_get (D := D) (ci := 1) (v := .ref e0) (C := RX1) (T := TX1) (N := 9) hx hb hts u1 hown hK hP 0 rfl rfl 0 (by decide) k0 (fun _ h9 => h9) rfl dX1_number_85 ?_
    refine lv_iconst (v := 1) hx hb dX1_number_88 (by decide) ?_
    refine lv_iconst (v := 1) hx hb dX1_number_89 (by decide) ?_
    have hPc := hP.sub (ws' := (wEv I e0 e1 e2 ev dbl)) [1, 2, 3] rfl
    have hDc := hD.sub (ws' := (wEv I e0 e1 e2 ev dbl)) [1, 2, 3] (by decide) rfl
    refine k_i (wr := [(c0, .inr (1, [.ref e0, .ref p0, .ref g0, .int sz, .int lg, .int gr, .int wt, .int lt, .int mv])), (p0, .inr (4, [.ref p1, .ref w0, .int us])), (p1, .inr (5, [.int (nI 64), .int (nI 8), .ref p2])), (p2, .inl (I, 64 * 8, .inl pn)), (w0, .inr (7, [.ref w1, .int kp, .int tl, .int tk])), (w1, .inr (5, [.int (nI 40), .int (nI 4), .ref w2])), (w2, .inl (I, 40 * 4, .inl wd)), (g0, .inr (0, [.ref g1])), (g1, .inr (5, [.int (nI 3), .int (nI 5), .ref g2])), (g2, .inl (I, 3 * 5, .inl cb))]) (ws' := (wC I c0 e0 e1 e2 p0 p1 p2 w0 w1 w2 g0 g1 g2 ev dbl pn us wd kp tl tk cb sz lg gr wt lt mv)) (va_runV (As := [.int 1, .int 1]) (rest := []) hF (c_X2_withOutcome l D I C Q e0 e1 e2 ev dbl 1 1 _) (cwV 2 hts gX1_number_X2_withOutcome rfl rfl rfl (by decide +kernel) ⟨Nat.le_of_ble_eq_true rfl, Nat.le_of_ble_eq_true rfl⟩) (kPreV hE hPc hDc (ci := 2) (q0 := 0) rfl rfl) rfl rfl hl.1 rfl (lv_room (Nat.le_of_ble_eq_true rfl)) dX1_number_90 ⟨Nat.zero_le _, Nat.zero_le _⟩) hP hD hS hA [1, 2, 3] [0, 4, 5, 6, 7, 8, 9, 10, 11, 12] [0, 10, 11, 12, 1, 2, 3, 4, 5, 6, 7, 8, 9] rfl rfl (by decide) (by decide) rfl (by decide) (fun H locs hP hD hS => ?_)
    exact hend _ _ _ _ _ _ hP hD hS dX1_number_93 rfl rfl (by simp +decide only [c_num, if_true, if_false, not_true_eq_false, not_false_eq_true, and_self, and_true, true_and, and_false, false_and, kn01, kn10, kn02, kn20, kn12, kn21, eq_self])
  · refine lv_tableIn (off := 93) (tgt := 94) hx hb dX1_number_1 (by decide) (by decide) (by decide) (by decide) ?_
    refine lv_aload_n hx hb dX1_number_94 rfl (lv_at hl 0 rfl) ?_
    refine va_get (D := D) (ci := 1) (v := .ref e0) (C := RX1) (T := TX1) (N := 9) hx hb hts u1 hown hK hP 0 rfl rfl 0 (by decide) k0 (fun _ h9 => h9) rfl dX1_number_95 ?_
    refine lv_iconst (v := 2) hx hb dX1_number_98 (by decide) ?_
    refine lv_iconst (v := 3) hx hb dX1_number_99 (by decide) ?_
    have hPc := hP.sub (ws' := (wEv I e0 e1 e2 ev dbl)) [1, 2, 3] rfl
    have hDc := hD.sub (ws' := (wEv I e0 e1 e2 ev dbl)) [1, 2, 3] (by decide) rfl
    refine k_i (wr := [(c0, .inr (1, [.ref e0, .ref p0, .ref g0, .int sz, .int lg, .int gr, .int wt, .int lt, .int mv])), (p0, .inr (4, [.ref p1, .ref w0, .int us])), (p1, .inr (5, [.int (nI 64), .int (nI 8), .ref p2])), (p2, .inl (I, 64 * 8, .inl pn)), (w0, .inr (7, [.ref w1, .int kp, .int tl, .int tk])), (w1, .inr (5, [.int (nI 40), .int (nI 4), .ref w2])), (w2, .inl (I, 40 * 4, .inl wd)), (g0, .inr (0, [.ref g1])), (g1, .inr (5, [.int (nI 3), .int (nI 5), .ref g2])), (g2, .inl (I, 3 * 5, .inl cb))]) (ws' := (wC I c0 e0 e1 e2 p0 p1 p2 w0 w1 w2 g0 g1 g2 ev dbl pn us wd kp tl tk cb sz lg gr wt lt mv)) (va_runV (As := [.int 2, .int 3]) (rest := []) hF (c_X2_withOutcome l D I C Q e0 e1 e2 ev dbl 2 3 _) (cwV 2 hts gX1_number_X2_withOutcome rfl rfl rfl (by decide +kernel) ⟨Nat.le_of_ble_eq_true rfl, Nat.le_of_ble_eq_true rfl⟩) (kPreV hE hPc hDc (ci := 2) (q0 := 0) rfl rfl) rfl rfl hl.1 rfl (lv_room (Nat.le_of_ble_eq_true rfl)) dX1_number_100 ⟨Nat.zero_le _, Nat.zero_le _⟩) hP hD hS hA [1, 2, 3] [0, 4, 5, 6, 7, 8, 9, 10, 11, 12] [0, 10, 11, 12, 1, 2, 3, 4, 5, 6, 7, 8, 9] rfl rfl (by decide) (by decide) rfl (by decide) (fun H locs hP hD hS => ?_)
    exact hend _ _ _ _ _ _ hP hD hS dX1_number_103 rfl rfl (by simp +decide only [c_num, if_true, if_false, not_true_eq_false, not_false_eq_true, and_self, and_true, true_and, and_false, false_and, kn01, kn10, kn02, kn20, kn12, kn21, eq_self])
  · refine lv_tableIn (off := 103) (tgt := 104) hx hb dX1_number_1 (by decide) (by decide) (by decide) (by decide) ?_
    refine lv_aload_n hx hb dX1_number_104 rfl (lv_at hl 0 rfl) ?_
    refine va_get (D := D) (ci := 1) (v := .ref e0) (C := RX1) (T := TX1) (N := 9) hx hb hts u1 hown hK hP 0 rfl rfl 0 (by decide) k0 (fun _ h9 => h9) rfl dX1_number_105 ?_
    have hPc := hP.sub (ws' := (wEv I e0 e1 e2 ev dbl)) [1, 2, 3] rfl
    have hDc := hD.sub (ws' := (wEv I e0 e1 e2 ev dbl)) [1, 2, 3] (by decide) rfl
    refine k_i (wr := [(c0, .inr (1, [.ref e0, .ref p0, .ref g0, .int sz, .int lg, .int gr, .int wt, .int lt, .int mv])), (p0, .inr (4, [.ref p1, .ref w0, .int us])), (p1, .inr (5, [.int (nI 64), .int (nI 8), .ref p2])), (p2, .inl (I, 64 * 8, .inl pn)), (w0, .inr (7, [.ref w1, .int kp, .int tl, .int tk])), (w1, .inr (5, [.int (nI 40), .int (nI 4), .ref w2])), (w2, .inl (I, 40 * 4, .inl wd)), (g0, .inr (0, [.ref g1])), (g1, .inr (5, [.int (nI 3), .int (nI 5), .ref g2])), (g2, .inl (I, 3 * 5, .inl cb))]) (ws' := (wC I c0 e0 e1 e2 p0 p1 p2 w0 w1 w2 g0 g1 g2 ev dbl pn us wd kp tl tk cb sz lg gr wt lt mv)) (va_runV (As := []) (rest := []) hF (c_X2_doubles l D I C Q e0 e1 e2 ev dbl _) (cwV 0 hts gX1_number_X2_doubles rfl rfl rfl (by decide +kernel) ⟨Nat.le_of_ble_eq_true rfl, Nat.le_of_ble_eq_true rfl⟩) (kPreV hE hPc hDc (ci := 2) (q0 := 0) rfl rfl) rfl rfl hl.1 rfl (lv_room (Nat.le_of_ble_eq_true rfl)) dX1_number_108 ⟨Nat.zero_le _, Nat.zero_le _⟩) hP hD hS hA [1, 2, 3] [0, 4, 5, 6, 7, 8, 9, 10, 11, 12] [0, 10, 11, 12, 1, 2, 3, 4, 5, 6, 7, 8, 9] rfl rfl (by decide) (by decide) rfl (by decide) (fun H locs hP hD hS => ?_)
    exact hend _ _ _ _ _ _ hP hD hS dX1_number_111 rfl rfl (by simp +decide only [c_num, if_true, if_false, not_true_eq_false, not_false_eq_true, and_self, and_true, true_and, and_false, false_and, kn01, kn10, kn02, kn20, kn12, kn21, eq_self])
  · refine lv_tableIn (off := 111) (tgt := 112) hx hb dX1_number_1 (by decide) (by decide) (by decide) (by decide) ?_
    refine lv_aload_n hx hb dX1_number_112 rfl (lv_at hl 0 rfl) ?_
    refine va_get (D := D) (ci := 1) (v := .int wt) (C := RX1) (T := TX1) (N := 9) hx hb hts u1 hown hK hP 0 rfl rfl 6 (by decide) k1 (fun _ h9 => h9) rfl dX1_number_113 ?_
    exact hend _ _ _ _ _ _ hP hD hS dX1_number_116 rfl rfl (by simp +decide only [c_num, if_true, if_false, not_true_eq_false, not_false_eq_true, and_self, and_true, true_and, and_false, false_and, kn01, kn10, kn02, kn20, kn12, kn21, eq_self])
  · refine lv_tableIn (off := 116) (tgt := 117) hx hb dX1_number_1 (by decide) (by decide) (by decide) (by decide) ?_
    refine lv_aload_n hx hb dX1_number_117 rfl (lv_at hl 0 rfl) ?_
    refine va_get (D := D) (ci := 1) (v := .int lt) (C := RX1) (T := TX1) (N := 9) hx hb hts u1 hown hK hP 0 rfl rfl 7 (by decide) k2 (fun _ h9 => h9) rfl dX1_number_118 ?_
    exact hend _ _ _ _ _ _ hP hD hS dX1_number_121 rfl rfl (by simp +decide only [c_num, if_true, if_false, not_true_eq_false, not_false_eq_true, and_self, and_true, true_and, and_false, false_and, kn01, kn10, kn02, kn20, kn12, kn21, eq_self])
  · refine lv_tableIn (off := 121) (tgt := 122) hx hb dX1_number_1 (by decide) (by decide) (by decide) (by decide) ?_
    refine lv_aload_n hx hb dX1_number_122 rfl (lv_at hl 0 rfl) ?_
    refine va_get (D := D) (ci := 1) (v := .int mv) (C := RX1) (T := TX1) (N := 9) hx hb hts u1 hown hK hP 0 rfl rfl 8 (by decide) k3 (fun _ h9 => h9) rfl dX1_number_123 ?_
    refine lv_if_eq (tgt := 133) hx hb dX1_number_126 (by decide) (fun c_126 => ?_) (fun c_126 => ?_)
    · refine lv_iconst (v := 0) hx hb dX1_number_133 (by decide) ?_
      exact hend _ _ _ _ _ _ hP hD hS dX1_number_134 rfl rfl (by simp +decide only [c_num, c_126, if_true, if_false, not_true_eq_false, not_false_eq_true, and_self, and_true, true_and, and_false, false_and, kn01, kn10, kn02, kn20, kn12, kn21, eq_self])
    · refine lv_iconst (v := 1) hx hb dX1_number_129 (by decide) ?_
      refine lv_goto (tgt := 134) hx hb dX1_number_130 (by decide) ?_
      exact hend _ _ _ _ _ _ hP hD hS dX1_number_134 rfl rfl (by simp +decide only [c_num, c_126, if_true, if_false, not_true_eq_false, not_false_eq_true, and_self, and_true, true_and, and_false, false_and, kn01, kn10, kn02, kn20, kn12, kn21, eq_self])
