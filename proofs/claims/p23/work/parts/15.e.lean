set_option maxHeartbeats 400000 in
set_option maxRecDepth 100000 in
theorem c_X0_read (l : Launch) (D : va_G) (I C Q : ClassId) (g0 g1 g2 : Nat) (cb : Nat → Int32) (c1 : Nat) (pl : Nat) (hc3 : c1 < 3) (hp : pl < 4) : KI l D (tyL I C Q) yX0_read wsX0_read { frames := 1, cells := 0, slots := 0, locals := 23 } [.ref g0, .int (nI c1), .int (nI pl)] (wCb I g0 g1 g2 cb) (wCb I g0 g1 g2 cb) (g_rd cb c1 pl) := by
  refine KI.of (cc := cX0_read) (maxL := 3) (rt := .int) (own := RX0) (by decide) rfl rfl (Nat.le_of_ble_eq_true rfl) ?_
  intro p e s m below meth c A Q0 ls hx hb hml hown hts hE hA hP hD hS hl hend
  have hK := hE.1
  have hF : CallFix p m c cX0_read 3 s [.ref g0, .int (nI c1), .int (nI pl)].toArray wsX0_read RX0 := ⟨hx, hb, hml, hown, hts⟩
  have k0 := hts (.fieldLink RX0 16 "LateExcuses$Cabinets" "rows" "LLateExcuses$Table;") (List.mem_of_getElem? (i := 1) rfl)
  have k1 := hts (.constant RX0 28 (-1000004)) (List.mem_of_getElem? (i := 2) rfl)
  have u0 : ∀ w ∈ u_ws RX0 TX0 1, w ∈ wsX0_read := by decide +kernel
  have hl : lv_has ls 3 [(0, .ref g0), (1, .int (nI c1)), (2, .int (nI pl))] := hl
  refine lv_iload_n hx hb dX0_read_0 rfl (lv_at hl 2 rfl) ?_
  refine lv_aload_n hx hb dX0_read_1 rfl (lv_at hl 0 rfl) ?_
  refine va_get (D := D) (ci := 0) (v := .ref g1) (C := RX0) (T := TX0) (N := 1) hx hb hts u0 hown hK hP 0 rfl rfl 0 (by decide) k0 (fun _ h9 => h9) rfl dX0_read_2 ?_
  refine lv_iload_n hx hb dX0_read_5 rfl (lv_at hl 1 rfl) ?_
  refine lv_iconst (v := 4) hx hb dX0_read_6 (by decide) ?_
  have hPc := hP.sub (ws' := (wT I g1 g2 3 5 cb)) [1, 2] rfl
  have hDc := hD.sub (ws' := (wT I g1 g2 3 5 cb)) [1, 2] (by decide) rfl
  refine k_i (wr := [(g0, .inr (0, [.ref g1]))]) (ws' := (wCb I g0 g1 g2 cb)) (va_runV (As := [.int (nI c1), .int 4]) (rest := [.int (nI pl)]) hF (c_X5_get l D I C Q g1 g2 3 5 cb c1 4 hc3 (by omega) (by omega) (by omega) (by omega) _) (cwV 2 hts gX0_read_X5_get rfl rfl rfl (by decide +kernel) ⟨Nat.le_of_ble_eq_true rfl, Nat.le_of_ble_eq_true rfl⟩) (kPreV hE hPc hDc (ci := 5) (q0 := 0) rfl rfl) rfl rfl hl.1 rfl (lv_room (Nat.le_of_ble_eq_true rfl)) dX0_read_7 ⟨Nat.zero_le _, Nat.zero_le _⟩) hP hD hS hA [1, 2] [0] [0, 1, 2] rfl rfl (by decide) (by decide) rfl (by decide) (fun H locs hP hD hS => ?_)
  refine lv_icmp_ge (tgt := 25) hx hb dX0_read_10 (by decide) (fun c_10 => ?_) (fun c_10 => ?_)
  · refine lv_ldc (v := (-1000004)) hx hb hown k1 dX0_read_25 ?_
    exact hend _ _ _ _ _ _ hP hD hS dX0_read_27 rfl rfl (by simp +decide only [g_rd, c_10, if_true, if_false, not_true_eq_false, not_false_eq_true, and_self, and_true, true_and, and_false, false_and, kn01, kn10, kn02, kn20, kn12, kn21, eq_self])
  · refine lv_aload_n hx hb dX0_read_13 rfl (lv_at hl 0 rfl) ?_
    refine va_get (D := D) (ci := 0) (v := .ref g1) (C := RX0) (T := TX0) (N := 1) hx hb hts u0 hown hK hP 0 rfl rfl 0 (by decide) k0 (fun _ h9 => h9) rfl dX0_read_14 ?_
    refine lv_iload_n hx hb dX0_read_17 rfl (lv_at hl 1 rfl) ?_
    refine lv_iload_n hx hb dX0_read_18 rfl (lv_at hl 2 rfl) ?_
    have hPc := hP.sub (ws' := (wT I g1 g2 3 5 cb)) [1, 2] rfl
    have hDc := hD.sub (ws' := (wT I g1 g2 3 5 cb)) [1, 2] (by decide) rfl
    refine k_i (wr := [(g0, .inr (0, [.ref g1]))]) (ws' := (wCb I g0 g1 g2 cb)) (va_runV (As := [.int (nI c1), .int (nI pl)]) (rest := []) hF (c_X5_get l D I C Q g1 g2 3 5 cb c1 pl hc3 (by omega) (by omega) (by omega) (by omega) _) (cwV 2 hts gX0_read_X5_get rfl rfl rfl (by decide +kernel) ⟨Nat.le_of_ble_eq_true rfl, Nat.le_of_ble_eq_true rfl⟩) (kPreV hE hPc hDc (ci := 5) (q0 := 0) rfl rfl) rfl rfl hl.1 rfl (lv_room (Nat.le_of_ble_eq_true rfl)) dX0_read_19 ⟨Nat.zero_le _, Nat.zero_le _⟩) hP hD hS hA [1, 2] [0] [0, 1, 2] rfl rfl (by decide) (by decide) rfl (by decide) (fun H locs hP hD hS => ?_)
    refine lv_goto (tgt := 27) hx hb dX0_read_22 (by decide) ?_
    exact hend _ _ _ _ _ _ hP hD hS dX0_read_27 rfl rfl (by simp +decide only [g_rd, c_10, if_true, if_false, not_true_eq_false, not_false_eq_true, and_self, and_true, true_and, and_false, false_and, kn01, kn10, kn02, kn20, kn12, kn21, eq_self])
set_option maxHeartbeats 400000 in
set_option maxRecDepth 100000 in
theorem c_X7_kept (l : Launch) (D : va_G) (I C Q : ClassId) (w0 w1 w2 : Nat) (wd : Nat → Int32) (kp : Int32) (tl : Int32) (tk : Int32) : KI l D (tyL I C Q) yX7_kept wsX7_kept { frames := 0, cells := 0, slots := 0, locals := 0 } [.ref w0] (wWd I w0 w1 w2 wd kp tl tk) (wWd I w0 w1 w2 wd kp tl tk) kp := by
  refine KI.of (cc := cX7_kept) (maxL := 1) (rt := .int) (own := RX7) (by decide) rfl rfl (Nat.le_of_ble_eq_true rfl) ?_
  intro p e s m below meth c A Q0 ls hx hb hml hown hts hE hA hP hD hS hl hend
  have hK := hE.1
  have hF : CallFix p m c cX7_kept 1 s [.ref w0].toArray wsX7_kept RX7 := ⟨hx, hb, hml, hown, hts⟩
  have k0 := hts (.fieldLink RX7 24 "LateExcuses$Words" "kept" "I") (List.mem_of_getElem? (i := 1) rfl)
  have u7 : ∀ w ∈ u_ws RX7 TX7 4, w ∈ wsX7_kept := by decide +kernel
  have hl : lv_has ls 1 [(0, .ref w0)] := hl
  refine lv_aload_n hx hb dX7_kept_0 rfl (lv_at hl 0 rfl) ?_
  refine va_get (D := D) (ci := 7) (v := .int kp) (C := RX7) (T := TX7) (N := 4) hx hb hts u7 hown hK hP 0 rfl rfl 1 (by decide) k0 (fun _ h9 => h9) rfl dX7_kept_1 ?_
  exact hend _ _ _ _ _ _ hP hD hS dX7_kept_4 rfl rfl rfl
set_option maxHeartbeats 400000 in
set_option maxRecDepth 100000 in
theorem c_X7_told (l : Launch) (D : va_G) (I C Q : ClassId) (w0 w1 w2 : Nat) (wd : Nat → Int32) (kp : Int32) (tl : Int32) (tk : Int32) : KI l D (tyL I C Q) yX7_told wsX7_told { frames := 0, cells := 0, slots := 0, locals := 0 } [.ref w0] (wWd I w0 w1 w2 wd kp tl tk) (wWd I w0 w1 w2 wd kp tl tk) tl := by
  refine KI.of (cc := cX7_told) (maxL := 1) (rt := .int) (own := RX7) (by decide) rfl rfl (Nat.le_of_ble_eq_true rfl) ?_
  intro p e s m below meth c A Q0 ls hx hb hml hown hts hE hA hP hD hS hl hend
  have hK := hE.1
  have hF : CallFix p m c cX7_told 1 s [.ref w0].toArray wsX7_told RX7 := ⟨hx, hb, hml, hown, hts⟩
  have k0 := hts (.fieldLink RX7 28 "LateExcuses$Words" "told" "I") (List.mem_of_getElem? (i := 1) rfl)
  have u7 : ∀ w ∈ u_ws RX7 TX7 4, w ∈ wsX7_told := by decide +kernel
  have hl : lv_has ls 1 [(0, .ref w0)] := hl
  refine lv_aload_n hx hb dX7_told_0 rfl (lv_at hl 0 rfl) ?_
  refine va_get (D := D) (ci := 7) (v := .int tl) (C := RX7) (T := TX7) (N := 4) hx hb hts u7 hown hK hP 0 rfl rfl 2 (by decide) k0 (fun _ h9 => h9) rfl dX7_told_1 ?_
  exact hend _ _ _ _ _ _ hP hD hS dX7_told_4 rfl rfl rfl
set_option maxHeartbeats 400000 in
set_option maxRecDepth 100000 in
theorem c_X7_takenBack (l : Launch) (D : va_G) (I C Q : ClassId) (w0 w1 w2 : Nat) (wd : Nat → Int32) (kp : Int32) (tl : Int32) (tk : Int32) : KI l D (tyL I C Q) yX7_takenBack wsX7_takenBack { frames := 0, cells := 0, slots := 0, locals := 0 } [.ref w0] (wWd I w0 w1 w2 wd kp tl tk) (wWd I w0 w1 w2 wd kp tl tk) tk := by
  refine KI.of (cc := cX7_takenBack) (maxL := 1) (rt := .int) (own := RX7) (by decide) rfl rfl (Nat.le_of_ble_eq_true rfl) ?_
  intro p e s m below meth c A Q0 ls hx hb hml hown hts hE hA hP hD hS hl hend
  have hK := hE.1
  have hF : CallFix p m c cX7_takenBack 1 s [.ref w0].toArray wsX7_takenBack RX7 := ⟨hx, hb, hml, hown, hts⟩
  have k0 := hts (.fieldLink RX7 31 "LateExcuses$Words" "takenBack" "I") (List.mem_of_getElem? (i := 1) rfl)
  have u7 : ∀ w ∈ u_ws RX7 TX7 4, w ∈ wsX7_takenBack := by decide +kernel
  have hl : lv_has ls 1 [(0, .ref w0)] := hl
  refine lv_aload_n hx hb dX7_takenBack_0 rfl (lv_at hl 0 rfl) ?_
  refine va_get (D := D) (ci := 7) (v := .int tk) (C := RX7) (T := TX7) (N := 4) hx hb hts u7 hown hK hP 0 rfl rfl 3 (by decide) k0 (fun _ h9 => h9) rfl dX7_takenBack_1 ?_
  exact hend _ _ _ _ _ _ hP hD hS dX7_takenBack_4 rfl rfl rfl
