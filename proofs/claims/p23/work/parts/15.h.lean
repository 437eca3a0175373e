set_option maxHeartbeats 400000 in
set_option maxRecDepth 100000 in
theorem c_X4_behind (l : Launch) (D : va_G) (I C Q : ClassId) (p0 p1 p2 w0 w1 w2 : Nat) (pn : Nat → Int32) (u : Nat) (wd : Nat → Int32) (kp : Int32) (tl : Int32) (tk : Int32) (q : Int32) (hu64 : u ≤ 64) : KI l D (tyL I C Q) yX4_behind wsX4_behind { frames := 2, cells := 0, slots := 0, locals := 45 } [.ref p0, .int q] (wPn I p0 p1 p2 w0 w1 w2 pn (nI u) wd kp tl tk) (wPn I p0 p1 p2 w0 w1 w2 pn (nI u) wd kp tl tk) (p_beh pn q u) := by
  have hrb := p_rb_le pn q u
  refine KI.of (cc := cX4_behind) (maxL := 3) (rt := .int) (own := RX4) (by decide) rfl rfl (Nat.le_of_ble_eq_true rfl) ?_
  intro p e s m below meth c A Q0 ls hx hb hml hown hts hE hA hP hD hS hl hend
  have hK := hE.1
  have hF : CallFix p m c cX4_behind 3 s [.ref p0, .int q].toArray wsX4_behind RX4 := ⟨hx, hb, hml, hown, hts⟩
  have k0 := hts (.fieldLink RX4 34 "LateExcuses$Panes" "used" "I") (List.mem_of_getElem? (i := 1) rfl)
  have k1 := hts (.constant RX4 57 (-1000004)) (List.mem_of_getElem? (i := 3) rfl)
  have k2 := hts (.fieldLink RX4 16 "LateExcuses$Panes" "rows" "LLateExcuses$Table;") (List.mem_of_getElem? (i := 2) rfl)
  have u4 : ∀ w ∈ u_ws RX4 TX4 3, w ∈ wsX4_behind := by decide +kernel
  have hl : lv_has ls 3 [(0, .ref p0), (1, .int q)] := hl
  refine lv_aload_n hx hb dX4_behind_0 rfl (lv_at hl 0 rfl) ?_
  refine lv_iload_n hx hb dX4_behind_1 rfl (lv_at hl 1 rfl) ?_
  refine k_iF (va_runV (As := [.int q]) (rest := []) hF (c_X4_rowBehind l D I C Q p0 p1 p2 w0 w1 w2 pn u wd kp tl tk q hu64 _) (cwV 1 hts gX4_behind_X4_rowBehind rfl rfl rfl (by decide +kernel) ⟨Nat.le_of_ble_eq_true rfl, Nat.le_of_ble_eq_true rfl⟩) (kPreV hE hP hD (ci := 4) (q0 := 0) rfl rfl) rfl rfl hl.1 rfl (lv_room (Nat.le_of_ble_eq_true rfl)) dX4_behind_2 ⟨Nat.zero_le _, Nat.zero_le _⟩) hD hS hA (fun H locs hP hD hS => ?_)
  refine lv_istore_n (lv' := [(2, .int (nI (p_rb pn q u))), (0, .ref p0), (1, .int q)]) hx hb dX4_behind_5 rfl hl (by decide) rfl (fun ls hl => ?_)
  refine lv_iload_n hx hb dX4_behind_6 rfl (lv_at hl 0 rfl) ?_
  refine lv_aload_n hx hb dX4_behind_7 rfl (lv_at hl 1 rfl) ?_
  refine va_get (D := D) (ci := 4) (v := .int (nI u)) (C := RX4) (T := TX4) (N := 3) hx hb hts u4 hown hK hP 0 rfl rfl 2 (by decide) k0 (fun _ h9 => h9) rfl dX4_behind_8 ?_
  refine lv_icmp_ge (tgt := 27) hx hb dX4_behind_11 (by decide) (fun c_11 => ?_) (fun c_11 => ?_)
  · have hle : ¬ p_rb pn q u < u := Nat.not_lt.mpr ((nI_leI (a := u) (b := p_rb pn q u) (by omega) (by omega)).mp c_11)
    refine lv_ldc (v := (-1000004)) hx hb hown k1 dX4_behind_27 ?_
    exact hend _ _ _ _ _ _ hP hD hS dX4_behind_29 rfl rfl (by simp +decide only [p_beh, hle, if_true, if_false, not_true_eq_false, not_false_eq_true, and_self, and_true, true_and, and_false, false_and, kn01, kn10, kn02, kn20, kn12, kn21, eq_self])
  · have hle : p_rb pn q u < u := Nat.lt_of_not_le (fun h => c_11 ((nI_leI (a := u) (b := p_rb pn q u) (by omega) (by omega)).mpr h))
    refine lv_aload_n hx hb dX4_behind_14 rfl (lv_at hl 1 rfl) ?_
    refine va_get (D := D) (ci := 4) (v := .ref p1) (C := RX4) (T := TX4) (N := 3) hx hb hts u4 hown hK hP 0 rfl rfl 0 (by decide) k2 (fun _ h9 => h9) rfl dX4_behind_15 ?_
    refine lv_iload_n hx hb dX4_behind_18 rfl (lv_at hl 0 rfl) ?_
    refine lv_bipush (v := 7) hx hb dX4_behind_19 (by decide) ?_
    have hPc := hP.sub (ws' := (wT I p1 p2 64 8 pn)) [1, 2] rfl
    have hDc := hD.sub (ws' := (wT I p1 p2 64 8 pn)) [1, 2] (by decide) rfl
    refine k_i (wr := [(p0, .inr (4, [.ref p1, .ref w0, .int (nI u)])), (w0, .inr (7, [.ref w1, .int kp, .int tl, .int tk])), (w1, .inr (5, [.int (nI 40), .int (nI 4), .ref w2])), (w2, .inl (I, 40 * 4, .inl wd))]) (ws' := (wPn I p0 p1 p2 w0 w1 w2 pn (nI u) wd kp tl tk)) (va_runV (As := [.int (nI (p_rb pn q u)), .int 7]) (rest := []) hF (c_X5_get l D I C Q p1 p2 64 8 pn (p_rb pn q u) 7 (by omega) (by omega) (by omega) (by omega) (by omega) _) (cwV 2 hts gX4_behind_X5_get rfl rfl rfl (by decide +kernel) ⟨Nat.le_of_ble_eq_true rfl, Nat.le_of_ble_eq_true rfl⟩) (kPreV hE hPc hDc (ci := 5) (q0 := 0) rfl rfl) rfl rfl hl.1 rfl (lv_room (Nat.le_of_ble_eq_true rfl)) dX4_behind_21 ⟨Nat.zero_le _, Nat.zero_le _⟩) hP hD hS hA [1, 2] [0, 3, 4, 5] [0, 4, 5, 1, 2, 3] rfl rfl (by decide) (by decide) rfl (by decide) (fun H locs hP hD hS => ?_)
    refine lv_goto (tgt := 29) hx hb dX4_behind_24 (by decide) ?_
    exact hend _ _ _ _ _ _ hP hD hS dX4_behind_29 rfl rfl (by simp +decide only [p_beh, hle, if_true, if_false, not_true_eq_false, not_false_eq_true, and_self, and_true, true_and, and_false, false_and, kn01, kn10, kn02, kn20, kn12, kn21, eq_self])
set_option maxHeartbeats 400000 in
set_option maxRecDepth 100000 in
theorem c_X4_isStanding (l : Launch) (D : va_G) (I C Q : ClassId) (p0 p1 p2 w0 w1 w2 : Nat) (pn : Nat → Int32) (us : Int32) (wd : Nat → Int32) (kp : Int32) (tl : Int32) (tk : Int32) (r : Nat) (h64 : r < 64) : KI l D (tyL I C Q) yX4_isStanding wsX4_isStanding { frames := 1, cells := 0, slots := 0, locals := 23 } [.ref p0, .int (nI r)] (wPn I p0 p1 p2 w0 w1 w2 pn us wd kp tl tk) (wPn I p0 p1 p2 w0 w1 w2 pn us wd kp tl tk) (p_st pn r) := by
  refine KI.of (cc := cX4_isStanding) (maxL := 2) (rt := .boolean) (own := RX4) (by decide) rfl rfl (Nat.le_of_ble_eq_true rfl) ?_
  intro p e s m below meth c A Q0 ls hx hb hml hown hts hE hA hP hD hS hl hend
  have hK := hE.1
  have hF : CallFix p m c cX4_isStanding 2 s [.ref p0, .int (nI r)].toArray wsX4_isStanding RX4 := ⟨hx, hb, hml, hown, hts⟩
  have k0 := hts (.fieldLink RX4 16 "LateExcuses$Panes" "rows" "LLateExcuses$Table;") (List.mem_of_getElem? (i := 1) rfl)
  have u4 : ∀ w ∈ u_ws RX4 TX4 3, w ∈ wsX4_isStanding := by decide +kernel
  have hl : lv_has ls 2 [(0, .ref p0), (1, .int (nI r))] := hl
  refine lv_aload_n hx hb dX4_isStanding_0 rfl (lv_at hl 0 rfl) ?_
  refine va_get (D := D) (ci := 4) (v := .ref p1) (C := RX4) (T := TX4) (N := 3) hx hb hts u4 hown hK hP 0 rfl rfl 0 (by decide) k0 (fun _ h9 => h9) rfl dX4_isStanding_1 ?_
  refine lv_iload_n hx hb dX4_isStanding_4 rfl (lv_at hl 1 rfl) ?_
  refine lv_iconst (v := 5) hx hb dX4_isStanding_5 (by decide) ?_
  have hPc := hP.sub (ws' := (wT I p1 p2 64 8 pn)) [1, 2] rfl
  have hDc := hD.sub (ws' := (wT I p1 p2 64 8 pn)) [1, 2] (by decide) rfl
  refine k_i (wr := [(p0, .inr (4, [.ref p1, .ref w0, .int us])), (w0, .inr (7, [.ref w1, .int kp, .int tl, .int tk])), (w1, .inr (5, [.int (nI 40), .int (nI 4), .ref w2])), (w2, .inl (I, 40 * 4, .inl wd))]) (ws' := (wPn I p0 p1 p2 w0 w1 w2 pn us wd kp tl tk)) (va_runV (As := [.int (nI r), .int 5]) (rest := []) hF (c_X5_get l D I C Q p1 p2 64 8 pn r 5 h64 (by omega) (by omega) (by omega) (by omega) _) (cwV 2 hts gX4_isStanding_X5_get rfl rfl rfl (by decide +kernel) ⟨Nat.le_of_ble_eq_true rfl, Nat.le_of_ble_eq_true rfl⟩) (kPreV hE hPc hDc (ci := 5) (q0 := 0) rfl rfl) rfl rfl hl.1 rfl (lv_room (Nat.le_of_ble_eq_true rfl)) dX4_isStanding_6 ⟨Nat.zero_le _, Nat.zero_le _⟩) hP hD hS hA [1, 2] [0, 3, 4, 5] [0, 4, 5, 1, 2, 3] rfl rfl (by decide) (by decide) rfl (by decide) (fun H locs hP hD hS => ?_)
  refine lv_aload_n hx hb dX4_isStanding_9 rfl (lv_at hl 0 rfl) ?_
  refine va_get (D := D) (ci := 4) (v := .ref p1) (C := RX4) (T := TX4) (N := 3) hx hb hts u4 hown hK hP 0 rfl rfl 0 (by decide) k0 (fun _ h9 => h9) rfl dX4_isStanding_10 ?_
  refine lv_iload_n hx hb dX4_isStanding_13 rfl (lv_at hl 1 rfl) ?_
  refine lv_bipush (v := 6) hx hb dX4_isStanding_14 (by decide) ?_
  have hPc := hP.sub (ws' := (wT I p1 p2 64 8 pn)) [1, 2] rfl
  have hDc := hD.sub (ws' := (wT I p1 p2 64 8 pn)) [1, 2] (by decide) rfl
  refine k_i (wr := [(p0, .inr (4, [.ref p1, .ref w0, .int us])), (w0, .inr (7, [.ref w1, .int kp, .int tl, .int tk])), (w1, .inr (5, [.int (nI 40), .int (nI 4), .ref w2])), (w2, .inl (I, 40 * 4, .inl wd))]) (ws' := (wPn I p0 p1 p2 w0 w1 w2 pn us wd kp tl tk)) (va_runV (As := [.int (nI r), .int 6]) (rest := [.int (pn (r * 8 + 5))]) hF (c_X5_get l D I C Q p1 p2 64 8 pn r 6 h64 (by omega) (by omega) (by omega) (by omega) _) (cwV 2 hts gX4_isStanding_X5_get rfl rfl rfl (by decide +kernel) ⟨Nat.le_of_ble_eq_true rfl, Nat.le_of_ble_eq_true rfl⟩) (kPreV hE hPc hDc (ci := 5) (q0 := 0) rfl rfl) rfl rfl hl.1 rfl (lv_room (Nat.le_of_ble_eq_true rfl)) dX4_isStanding_16 ⟨Nat.zero_le _, Nat.zero_le _⟩) hP hD hS hA [1, 2] [0, 3, 4, 5] [0, 4, 5, 1, 2, 3] rfl rfl (by decide) (by decide) rfl (by decide) (fun H locs hP hD hS => ?_)
  refine lv_icmp_le (tgt := 26) hx hb dX4_isStanding_19 (by decide) (fun c_19 => ?_) (fun c_19 => ?_)
  · refine lv_iconst (v := 0) hx hb dX4_isStanding_26 (by decide) ?_
    exact hend _ _ _ _ _ _ hP hD hS dX4_isStanding_27 (by decide) rfl (by simp +decide only [p_st, c_19, if_true, if_false, not_true_eq_false, not_false_eq_true, and_self, and_true, true_and, and_false, false_and, kn01, kn10, kn02, kn20, kn12, kn21, eq_self])
  · refine lv_iconst (v := 1) hx hb dX4_isStanding_22 (by decide) ?_
    refine lv_goto (tgt := 27) hx hb dX4_isStanding_23 (by decide) ?_
    exact hend _ _ _ _ _ _ hP hD hS dX4_isStanding_27 (by decide) rfl (by simp +decide only [p_st, c_19, if_true, if_false, not_true_eq_false, not_false_eq_true, and_self, and_true, true_and, and_false, false_and, kn01, kn10, kn02, kn20, kn12, kn21, eq_self])
set_option maxHeartbeats 400000 in
set_option maxRecDepth 100000 in
theorem c_X4_isStandingN (l : Launch) (D : va_G) (I C Q : ClassId) (p0 p1 p2 w0 w1 w2 : Nat) (pn : Nat → Int32) (us : Int32) (wd : Nat → Int32) (kp : Int32) (tl : Int32) (tk : Int32) (q : Int32) (hq : q < 0) : KI l D (tyL I C Q) yX4_isStanding wsX4_isStanding { frames := 1, cells := 0, slots := 0, locals := 23 } [.ref p0, .int q] (wPn I p0 p1 p2 w0 w1 w2 pn us wd kp tl tk) (wPn I p0 p1 p2 w0 w1 w2 pn us wd kp tl tk) 0 := by
  refine KI.of (cc := cX4_isStanding) (maxL := 2) (rt := .boolean) (own := RX4) (by decide) rfl rfl (Nat.le_of_ble_eq_true rfl) ?_
  intro p e s m below meth c A Q0 ls hx hb hml hown hts hE hA hP hD hS hl hend
  have hK := hE.1
  have hF : CallFix p m c cX4_isStanding 2 s [.ref p0, .int q].toArray wsX4_isStanding RX4 := ⟨hx, hb, hml, hown, hts⟩
  have k0 := hts (.fieldLink RX4 16 "LateExcuses$Panes" "rows" "LLateExcuses$Table;") (List.mem_of_getElem? (i := 1) rfl)
  have u4 : ∀ w ∈ u_ws RX4 TX4 3, w ∈ wsX4_isStanding := by decide +kernel
  have hl : lv_has ls 2 [(0, .ref p0), (1, .int q)] := hl
  refine lv_aload_n hx hb dX4_isStanding_0 rfl (lv_at hl 0 rfl) ?_
  refine va_get (D := D) (ci := 4) (v := .ref p1) (C := RX4) (T := TX4) (N := 3) hx hb hts u4 hown hK hP 0 rfl rfl 0 (by decide) k0 (fun _ h9 => h9) rfl dX4_isStanding_1 ?_
  refine lv_iload_n hx hb dX4_isStanding_4 rfl (lv_at hl 1 rfl) ?_
  refine lv_iconst (v := 5) hx hb dX4_isStanding_5 (by decide) ?_
  have hPc := hP.sub (ws' := (wT I p1 p2 64 8 pn)) [1, 2] rfl
  have hDc := hD.sub (ws' := (wT I p1 p2 64 8 pn)) [1, 2] (by decide) rfl
  refine k_i (wr := [(p0, .inr (4, [.ref p1, .ref w0, .int us])), (w0, .inr (7, [.ref w1, .int kp, .int tl, .int tk])), (w1, .inr (5, [.int (nI 40), .int (nI 4), .ref w2])), (w2, .inl (I, 40 * 4, .inl wd))]) (ws' := (wPn I p0 p1 p2 w0 w1 w2 pn us wd kp tl tk)) (va_runV (As := [.int q, .int 5]) (rest := []) hF (c_X5_getN l D I C Q p1 p2 64 8 pn q 5 hq _) (cwV 2 hts gX4_isStanding_X5_get rfl rfl rfl (by decide +kernel) ⟨Nat.le_of_ble_eq_true rfl, Nat.le_of_ble_eq_true rfl⟩) (kPreV hE hPc hDc (ci := 5) (q0 := 0) rfl rfl) rfl rfl hl.1 rfl (lv_room (Nat.le_of_ble_eq_true rfl)) dX4_isStanding_6 ⟨Nat.zero_le _, Nat.zero_le _⟩) hP hD hS hA [1, 2] [0, 3, 4, 5] [0, 4, 5, 1, 2, 3] rfl rfl (by decide) (by decide) rfl (by decide) (fun H locs hP hD hS => ?_)
  refine lv_aload_n hx hb dX4_isStanding_9 rfl (lv_at hl 0 rfl) ?_
  refine va_get (D := D) (ci := 4) (v := .ref p1) (C := RX4) (T := TX4) (N := 3) hx hb hts u4 hown hK hP 0 rfl rfl 0 (by decide) k0 (fun _ h9 => h9) rfl dX4_isStanding_10 ?_
  refine lv_iload_n hx hb dX4_isStanding_13 rfl (lv_at hl 1 rfl) ?_
  refine lv_bipush (v := 6) hx hb dX4_isStanding_14 (by decide) ?_
  have hPc := hP.sub (ws' := (wT I p1 p2 64 8 pn)) [1, 2] rfl
  have hDc := hD.sub (ws' := (wT I p1 p2 64 8 pn)) [1, 2] (by decide) rfl
  refine k_i (wr := [(p0, .inr (4, [.ref p1, .ref w0, .int us])), (w0, .inr (7, [.ref w1, .int kp, .int tl, .int tk])), (w1, .inr (5, [.int (nI 40), .int (nI 4), .ref w2])), (w2, .inl (I, 40 * 4, .inl wd))]) (ws' := (wPn I p0 p1 p2 w0 w1 w2 pn us wd kp tl tk)) (va_runV (As := [.int q, .int 6]) (rest := [.int 0]) hF (c_X5_getN l D I C Q p1 p2 64 8 pn q 6 hq _) (cwV 2 hts gX4_isStanding_X5_get rfl rfl rfl (by decide +kernel) ⟨Nat.le_of_ble_eq_true rfl, Nat.le_of_ble_eq_true rfl⟩) (kPreV hE hPc hDc (ci := 5) (q0 := 0) rfl rfl) rfl rfl hl.1 rfl (lv_room (Nat.le_of_ble_eq_true rfl)) dX4_isStanding_16 ⟨Nat.zero_le _, Nat.zero_le _⟩) hP hD hS hA [1, 2] [0, 3, 4, 5] [0, 4, 5, 1, 2, 3] rfl rfl (by decide) (by decide) rfl (by decide) (fun H locs hP hD hS => ?_)
  refine lv_icmp_le (tgt := 26) hx hb dX4_isStanding_19 (by decide) (fun c_19 => ?_) (fun c_19 => ?_)
  · refine lv_iconst (v := 0) hx hb dX4_isStanding_26 (by decide) ?_
    exact hend _ _ _ _ _ _ hP hD hS dX4_isStanding_27 (by decide) rfl rfl
  · exact (c_19 (by decide)).elim
set_option maxHeartbeats 400000 in
set_option maxRecDepth 100000 in
theorem c_X4_hasWord (l : Launch) (D : va_G) (I C Q : ClassId) (p0 p1 p2 w0 w1 w2 : Nat) (pn : Nat → Int32) (u : Nat) (wd : Nat → Int32) (kp : Int32) (tl : Int32) (tk : Int32) (q : Int32) (hu64 : u ≤ 64) : KI l D (tyL I C Q) yX4_hasWord wsX4_hasWord { frames := 2, cells := 0, slots := 0, locals := 45 } [.ref p0, .int q] (wPn I p0 p1 p2 w0 w1 w2 pn (nI u) wd kp tl tk) (wPn I p0 p1 p2 w0 w1 w2 pn (nI u) wd kp tl tk) (if p_rk pn q u < u then p_st pn (p_rk pn q u) else 0) := by
  refine KI.of (cc := cX4_hasWord) (maxL := 2) (rt := .boolean) (own := RX4) (by decide) rfl rfl (Nat.le_of_ble_eq_true rfl) ?_
  intro p e s m below meth c A Q0 ls hx hb hml hown hts hE hA hP hD hS hl hend
  have hK := hE.1
  have hF : CallFix p m c cX4_hasWord 2 s [.ref p0, .int q].toArray wsX4_hasWord RX4 := ⟨hx, hb, hml, hown, hts⟩
  have hl : lv_has ls 2 [(0, .ref p0), (1, .int q)] := hl
  refine lv_aload_n hx hb dX4_hasWord_0 rfl (lv_at hl 0 rfl) ?_
  refine lv_aload_n hx hb dX4_hasWord_1 rfl (lv_at hl 0 rfl) ?_
  refine lv_iload_n hx hb dX4_hasWord_2 rfl (lv_at hl 1 rfl) ?_
  refine k_iF (va_runV (As := [.int q]) (rest := [.ref p0]) hF (c_X4_rowOf l D I C Q p0 p1 p2 w0 w1 w2 pn u wd kp tl tk q hu64 _) (cwV 1 hts gX4_hasWord_X4_rowOf rfl rfl rfl (by decide +kernel) ⟨Nat.le_of_ble_eq_true rfl, Nat.le_of_ble_eq_true rfl⟩) (kPreV hE hP hD (ci := 4) (q0 := 0) rfl rfl) rfl rfl hl.1 rfl (lv_room (Nat.le_of_ble_eq_true rfl)) dX4_hasWord_3 ⟨Nat.zero_le _, Nat.zero_le _⟩) hD hS hA (fun H locs hP hD hS => ?_)
  rcases p_row_or pn q u with ⟨hlt, hq⟩ | ⟨hlt, hq⟩
  · refine k_top hq ?_
    refine k_iF (va_runV (As := [.int (nI (p_rk pn q u))]) (rest := []) hF (c_X4_isStanding l D I C Q p0 p1 p2 w0 w1 w2 pn (nI u) wd kp tl tk (p_rk pn q u) (by omega) _) (cwV 1 hts gX4_hasWord_X4_isStanding rfl rfl rfl (by decide +kernel) ⟨Nat.le_of_ble_eq_true rfl, Nat.le_of_ble_eq_true rfl⟩) (kPreV hE hP hD (ci := 4) (q0 := 0) rfl rfl) rfl rfl hl.1 rfl (lv_room (Nat.le_of_ble_eq_true rfl)) dX4_hasWord_6 ⟨Nat.zero_le _, Nat.zero_le _⟩) hD hS hA (fun H locs hP hD hS => ?_)
    exact hend _ _ _ _ _ _ hP hD hS dX4_hasWord_9 (p_st_b _ _) rfl (by simp +decide only [hlt, if_true, if_false, not_true_eq_false, not_false_eq_true, and_self, and_true, true_and, and_false, false_and, kn01, kn10, kn02, kn20, kn12, kn21, eq_self])
  · refine k_top hq ?_
    refine k_iF (va_runV (As := [.int (-1)]) (rest := []) hF (c_X4_isStandingN l D I C Q p0 p1 p2 w0 w1 w2 pn (nI u) wd kp tl tk (-1) (by decide) _) (cwV 1 hts gX4_hasWord_X4_isStanding rfl rfl rfl (by decide +kernel) ⟨Nat.le_of_ble_eq_true rfl, Nat.le_of_ble_eq_true rfl⟩) (kPreV hE hP hD (ci := 4) (q0 := 0) rfl rfl) rfl rfl hl.1 rfl (lv_room (Nat.le_of_ble_eq_true rfl)) dX4_hasWord_6 ⟨Nat.zero_le _, Nat.zero_le _⟩) hD hS hA (fun H locs hP hD hS => ?_)
    exact hend _ _ _ _ _ _ hP hD hS dX4_hasWord_9 (by decide) rfl (by simp +decide only [hlt, if_true, if_false, not_true_eq_false, not_false_eq_true, and_self, and_true, true_and, and_false, false_and, kn01, kn10, kn02, kn20, kn12, kn21, eq_self])
set_option maxHeartbeats 400000 in
set_option maxRecDepth 100000 in
theorem c_X4_closedCases (l : Launch) (D : va_G) (I C Q : ClassId) (p0 p1 p2 w0 w1 w2 : Nat) (pn : Nat → Int32) (u : Nat) (wd : Nat → Int32) (kp : Int32) (tl : Int32) (tk : Int32) (hu64 : u ≤ 64) : KI l D (tyL I C Q) yX4_closedCases wsX4_closedCases { frames := 1, cells := 0, slots := 0, locals := 23 } [.ref p0] (wPn I p0 p1 p2 w0 w1 w2 pn (nI u) wd kp tl tk) (wPn I p0 p1 p2 w0 w1 w2 pn (nI u) wd kp tl tk) (nI (p_cc pn u)) := by
  refine KI.of (cc := cX4_closedCases) (maxL := 3) (rt := .int) (own := RX4) (by decide) rfl rfl (Nat.le_of_ble_eq_true rfl) ?_
  intro p e s m below meth c A Q0 ls hx hb hml hown hts hE hA hP hD hS hl hend
  have hK := hE.1
  have hF : CallFix p m c cX4_closedCases 3 s [.ref p0].toArray wsX4_closedCases RX4 := ⟨hx, hb, hml, hown, hts⟩
  have k0 := hts (.fieldLink RX4 34 "LateExcuses$Panes" "used" "I") (List.mem_of_getElem? (i := 1) rfl)
  have k1 := hts (.fieldLink RX4 16 "LateExcuses$Panes" "rows" "LLateExcuses$Table;") (List.mem_of_getElem? (i := 2) rfl)
  have u4 : ∀ w ∈ u_ws RX4 TX4 3, w ∈ wsX4_closedCases := by decide +kernel
  have hl : lv_has ls 3 [(0, .ref p0)] := hl
  refine lv_iconst (v := 0) hx hb dX4_closedCases_0 (by decide) ?_
  refine lv_istore_n (lv' := [(1, .int 0), (0, .ref p0)]) hx hb dX4_closedCases_1 rfl hl (by decide) rfl (fun ls hl => ?_)
  refine lv_iconst (v := 0) hx hb dX4_closedCases_2 (by decide) ?_
  refine lv_istore_n (lv' := [(2, .int 0), (1, .int 0), (0, .ref p0)]) hx hb dX4_closedCases_3 rfl hl (by decide) rfl (fun ls hl => ?_)
  have loop4 : ∀ (n : Nat) (k : Nat), (k + n = u) → ∀ (H : Heap) (locs : List Loc) (ls : Array Slot), va_P D vwCl (wPn I p0 p1 p2 w0 w1 w2 pn (nI u) wd kp tl tk) H → va_D A (wPn I p0 p1 p2 w0 w1 w2 pn (nI u) wd kp tl tk) → va_S A s.heap H locs → lv_has ls 3 [(0, .ref p0), (1, .int (nI (p_cc pn k))), (2, .int (nI k))] → W p l e ({ frames := 1, cells := 0, slots := 0, locals := 23 } : Room) s m [.ref p0].toArray below meth c H locs 0 0 Q0 (F0 m 4 ls []) := by
    intro n
    induction n with
    | zero =>
      intro k hk H locs ls hP hD hS hl
      refine lv_iload_n hx hb dX4_closedCases_4 rfl (lv_at hl 2 rfl) ?_
      refine lv_aload_n hx hb dX4_closedCases_5 rfl (lv_at hl 0 rfl) ?_
      refine va_get (D := D) (ci := 4) (v := .int (nI u)) (C := RX4) (T := TX4) (N := 3) hx hb hts u4 hown hK hP 0 rfl rfl 2 (by decide) k0 (fun _ h9 => h9) rfl dX4_closedCases_6 ?_
      refine lv_icmp_ge (tgt := 34) hx hb dX4_closedCases_9 (by decide) (fun c_9 => ?_) (fun c_9 => ?_)
      · refine lv_iload_n hx hb dX4_closedCases_34 rfl (lv_at hl 1 rfl) ?_
        exact hend _ _ _ _ _ _ hP hD hS dX4_closedCases_35 rfl rfl (by rw [show k = u by omega])
      · exact absurd ((nI_leI (a := u) (b := k) (by omega) (by omega)).mpr (by omega)) c_9
    | succ n ih =>
      intro k hk H locs ls hP hD hS hl
      refine lv_iload_n hx hb dX4_closedCases_4 rfl (lv_at hl 2 rfl) ?_
      refine lv_aload_n hx hb dX4_closedCases_5 rfl (lv_at hl 0 rfl) ?_
      refine va_get (D := D) (ci := 4) (v := .int (nI u)) (C := RX4) (T := TX4) (N := 3) hx hb hts u4 hown hK hP 0 rfl rfl 2 (by decide) k0 (fun _ h9 => h9) rfl dX4_closedCases_6 ?_
      refine lv_icmp_ge (tgt := 34) hx hb dX4_closedCases_9 (by decide) (fun c_9 => ?_) (fun c_9 => ?_)
      · exact absurd ((nI_leI (a := u) (b := k) (by omega) (by omega)).mp c_9) (by omega)
      · refine lv_aload_n hx hb dX4_closedCases_12 rfl (lv_at hl 0 rfl) ?_
        refine va_get (D := D) (ci := 4) (v := .ref p1) (C := RX4) (T := TX4) (N := 3) hx hb hts u4 hown hK hP 0 rfl rfl 0 (by decide) k1 (fun _ h9 => h9) rfl dX4_closedCases_13 ?_
        refine lv_iload_n hx hb dX4_closedCases_16 rfl (lv_at hl 2 rfl) ?_
        refine lv_iconst (v := 0) hx hb dX4_closedCases_17 (by decide) ?_
        have hPc := hP.sub (ws' := (wT I p1 p2 64 8 pn)) [1, 2] rfl
        have hDc := hD.sub (ws' := (wT I p1 p2 64 8 pn)) [1, 2] (by decide) rfl
        refine k_i (wr := [(p0, .inr (4, [.ref p1, .ref w0, .int (nI u)])), (w0, .inr (7, [.ref w1, .int kp, .int tl, .int tk])), (w1, .inr (5, [.int (nI 40), .int (nI 4), .ref w2])), (w2, .inl (I, 40 * 4, .inl wd))]) (ws' := (wPn I p0 p1 p2 w0 w1 w2 pn (nI u) wd kp tl tk)) (va_runV (As := [.int (nI k), .int 0]) (rest := []) hF (c_X5_get l D I C Q p1 p2 64 8 pn k 0 (by omega) (by omega) (by omega) (by omega) (by omega) _) (cwV 2 hts gX4_closedCases_X5_get rfl rfl rfl (by decide +kernel) ⟨Nat.le_of_ble_eq_true rfl, Nat.le_of_ble_eq_true rfl⟩) (kPreV hE hPc hDc (ci := 5) (q0 := 0) rfl rfl) rfl rfl hl.1 rfl (lv_room (Nat.le_of_ble_eq_true rfl)) dX4_closedCases_18 ⟨Nat.zero_le _, Nat.zero_le _⟩) hP hD hS hA [1, 2] [0, 3, 4, 5] [0, 4, 5, 1, 2, 3] rfl rfl (by decide) (by decide) rfl (by decide) (fun H locs hP hD hS => ?_)
        refine lv_iconst (v := 3) hx hb dX4_closedCases_21 (by decide) ?_
        refine lv_icmp_ne (tgt := 28) hx hb dX4_closedCases_22 (by decide) (fun c_22 => ?_) (fun c_22 => ?_)
        · refine lv_iinc (v := nI (k + 1)) (lv' := [(2, .int (nI (k + 1))), (0, .ref p0), (1, .int (nI (p_cc pn k)))]) hx hb dX4_closedCases_28 hl (k := 2) rfl (nI_inc k) (by decide) rfl (fun ls hl => ?_)
          refine lv_goto (tgt := 4) hx hb dX4_closedCases_31 (by decide) ?_
          have hl9 : lv_has ls 3 [(0, .ref p0), (1, .int (nI (p_cc pn k))), (2, .int (nI (k + 1)))] := lv_sub hl [1, 2, 0] rfl
          rw [show (nI (p_cc pn k)) = (nI (p_cc pn (k + 1))) from by simp +decide only [p_cc, c_22, if_true, if_false, not_true_eq_false, not_false_eq_true, and_self, and_true, true_and, and_false, false_and, kn01, kn10, kn02, kn20, kn12, kn21, eq_self]] at hl9
          exact ih (k + 1) (by omega) _ _ _ hP hD hS hl9 
        · refine lv_iinc (v := nI (p_cc pn k + 1)) (lv' := [(1, .int (nI (p_cc pn k + 1))), (0, .ref p0), (2, .int (nI k))]) hx hb dX4_closedCases_25 hl (k := 1) rfl (nI_inc (p_cc pn k)) (by decide) rfl (fun ls hl => ?_)
          refine lv_iinc (v := nI (k + 1)) (lv' := [(2, .int (nI (k + 1))), (1, .int (nI (p_cc pn k + 1))), (0, .ref p0)]) hx hb dX4_closedCases_28 hl (k := 2) rfl (nI_inc k) (by decide) rfl (fun ls hl => ?_)
          refine lv_goto (tgt := 4) hx hb dX4_closedCases_31 (by decide) ?_
          have hl9 : lv_has ls 3 [(0, .ref p0), (1, .int (nI (p_cc pn k + 1))), (2, .int (nI (k + 1)))] := lv_sub hl [2, 1, 0] rfl
          rw [show (nI (p_cc pn k + 1)) = (nI (p_cc pn (k + 1))) from by simp +decide only [p_cc, c_22, if_true, if_false, not_true_eq_false, not_false_eq_true, and_self, and_true, true_and, and_false, false_and, kn01, kn10, kn02, kn20, kn12, kn21, eq_self]] at hl9
          exact ih (k + 1) (by omega) _ _ _ hP hD hS hl9 
  exact loop4 u 0 (by omega) _ _ _ hP hD hS (lv_sub hl [2, 1, 0] rfl) 
