set_option maxHeartbeats 400000 in
set_option maxRecDepth 100000 in
theorem c_X2_copyFrom (l : Launch) (D : va_G) (I C Q : ClassId) (e0 e1 e2 e0x e1x e2x : Nat) (ev : Nat → Int32) (dbl : Int32) (evx : Nat → Int32) (dblx : Int32) : KV l D (tyL I C Q) yX2_copyFrom wsX2_copyFrom { frames := 2, cells := 0, slots := 0, locals := 61 } [.ref e0, .ref e0x] (wEvE I e0 e1 e2 e0x e1x e2x ev dbl evx dblx) (wEvE I e0 e1 e2 e0x e1x e2x evx dblx evx dblx) := by
  refine KV.of (cc := cX2_copyFrom) (maxL := 2) (own := RX2) (by decide) rfl rfl (Nat.le_of_ble_eq_true rfl) ?_
  intro p e s m below meth c A Q0 ls hx hb hml hown hts hE hA hP hD hS hl hend
  have hK := hE.1
  have hF : CallFix p m c cX2_copyFrom 2 s [.ref e0, .ref e0x].toArray wsX2_copyFrom RX2 := ⟨hx, hb, hml, hown, hts⟩
  have k0 := hts (.fieldLink RX2 14 "LateExcuses$Events" "rows" "LLateExcuses$Table;") (List.mem_of_getElem? (i := 1) rfl)
  have k1 := hts (.fieldLink RX2 24 "LateExcuses$Events" "doubles" "I") (List.mem_of_getElem? (i := 2) rfl)
  have u2 : ∀ w ∈ u_ws RX2 TX2 2, w ∈ wsX2_copyFrom := by decide +kernel
  have hl : lv_has ls 2 [(0, .ref e0), (1, .ref e0x)] := hl
  refine lv_aload_n hx hb dX2_copyFrom_0 rfl (lv_at hl 0 rfl) ?_
  refine va_get (D := D) (ci := 2) (v := .ref e1) (C := RX2) (T := TX2) (N := 2) hx hb hts u2 hown hK hP 0 rfl rfl 0 (by decide) k0 (fun _ h9 => h9) rfl dX2_copyFrom_1 ?_
  refine lv_aload_n hx hb dX2_copyFrom_4 rfl (lv_at hl 1 rfl) ?_
  refine va_get (D := D) (ci := 2) (v := .ref e1x) (C := RX2) (T := TX2) (N := 2) hx hb hts u2 hown hK hP 3 rfl rfl 0 (by decide) k0 (fun _ h9 => h9) rfl dX2_copyFrom_5 ?_
  have hPc := hP.sub (ws' := (wTT I e1 e2 e1x e2x 64 7 ev evx)) [1, 2, 4, 5] rfl
  have hDc := hD.sub (ws' := (wTT I e1 e2 e1x e2x 64 7 ev evx)) [1, 2, 4, 5] (by decide) rfl
  refine k_v (wr := [(e0, .inr (2, [.ref e1, .int dbl])), (e0x, .inr (2, [.ref e1x, .int dblx]))]) (ws' := (wEvE I e0 e1 e2 e0x e1x e2x evx dbl evx dblx)) (va_runV (As := [.ref e1x]) (rest := []) hF (c_X5_copyFromE l D I C Q e1 e2 e1x e2x 64 7 ev evx (by omega) _) (cwV 1 hts gX2_copyFrom_X5_copyFrom rfl rfl rfl (by decide +kernel) ⟨Nat.le_of_ble_eq_true rfl, Nat.le_of_ble_eq_true rfl⟩) (kPreV hE hPc hDc (ci := 5) (q0 := 0) rfl rfl) rfl rfl hl.1 rfl (lv_room (Nat.le_of_ble_eq_true rfl)) dX2_copyFrom_8 ⟨Nat.zero_le _, Nat.zero_le _⟩) hP hD hS hA [1, 2, 4, 5] [0, 3] [0, 2, 3, 1, 4, 5] rfl rfl (by decide) (by decide) rfl (by decide) (fun H locs hP hD hS => ?_)
  refine lv_aload_n hx hb dX2_copyFrom_11 rfl (lv_at hl 0 rfl) ?_
  refine lv_aload_n hx hb dX2_copyFrom_12 rfl (lv_at hl 1 rfl) ?_
  refine va_get (D := D) (ci := 2) (v := .int dblx) (C := RX2) (T := TX2) (N := 2) hx hb hts u2 hown hK hP 3 rfl rfl 1 (by decide) k1 (fun _ h9 => h9) rfl dX2_copyFrom_13 ?_
  refine va_put (D := D) (ci := 2) (v := .int dblx) (ty := .int) (C := RX2) (T := TX2) (N := 2) hx hb hts u2 tyX2 tyX2_ok nmX2 hown hK hP hD hS 0 rfl rfl 1 (by decide) k1 (fun _ h9 => h9) rfl (by decide +kernel) rfl rfl (Nat.le_of_ble_eq_true rfl) dX2_copyFrom_16 (fun H locs hP hD hS => ?_)
  have hP : va_P D vwCl (wEvE I e0 e1 e2 e0x e1x e2x evx dblx evx dblx) H := hP
  have hD : va_D A (wEvE I e0 e1 e2 e0x e1x e2x evx dblx evx dblx) := hD
  exact hend _ _ _ _ _ hP hD hS dX2_copyFrom_19 rfl
set_option maxHeartbeats 400000 in
set_option maxRecDepth 100000 in
theorem c_X7_copyFrom (l : Launch) (D : va_G) (I C Q : ClassId) (w0 w1 w2 w0x w1x w2x : Nat) (wd : Nat → Int32) (kp : Int32) (tl : Int32) (tk : Int32) (wdx : Nat → Int32) (kpx : Int32) (tlx : Int32) (tkx : Int32) : KV l D (tyL I C Q) yX7_copyFrom wsX7_copyFrom { frames := 2, cells := 0, slots := 0, locals := 61 } [.ref w0, .ref w0x] (wWdE I w0 w1 w2 w0x w1x w2x wd kp tl tk wdx kpx tlx tkx) (wWdE I w0 w1 w2 w0x w1x w2x wdx kpx tlx tkx wdx kpx tlx tkx) := by
  refine KV.of (cc := cX7_copyFrom) (maxL := 2) (own := RX7) (by decide) rfl rfl (Nat.le_of_ble_eq_true rfl) ?_
  intro p e s m below meth c A Q0 ls hx hb hml hown hts hE hA hP hD hS hl hend
  have hK := hE.1
  have hF : CallFix p m c cX7_copyFrom 2 s [.ref w0, .ref w0x].toArray wsX7_copyFrom RX7 := ⟨hx, hb, hml, hown, hts⟩
  have k0 := hts (.fieldLink RX7 16 "LateExcuses$Words" "rows" "LLateExcuses$Table;") (List.mem_of_getElem? (i := 1) rfl)
  have k1 := hts (.fieldLink RX7 24 "LateExcuses$Words" "kept" "I") (List.mem_of_getElem? (i := 2) rfl)
  have k2 := hts (.fieldLink RX7 28 "LateExcuses$Words" "told" "I") (List.mem_of_getElem? (i := 3) rfl)
  have k3 := hts (.fieldLink RX7 31 "LateExcuses$Words" "takenBack" "I") (List.mem_of_getElem? (i := 4) rfl)
  have u7 : ∀ w ∈ u_ws RX7 TX7 4, w ∈ wsX7_copyFrom := by decide +kernel
  have hl : lv_has ls 2 [(0, .ref w0), (1, .ref w0x)] := hl
  refine lv_aload_n hx hb dX7_copyFrom_0 rfl (lv_at hl 0 rfl) ?_
  refine va_get (D := D) (ci := 7) (v := .ref w1) (C := RX7) (T := TX7) (N := 4) hx hb hts u7 hown hK hP 0 rfl rfl 0 (by decide) k0 (fun _ h9 => h9) rfl dX7_copyFrom_1 ?_
  refine lv_aload_n hx hb dX7_copyFrom_4 rfl (lv_at hl 1 rfl) ?_
  refine va_get (D := D) (ci := 7) (v := .ref w1x) (C := RX7) (T := TX7) (N := 4) hx hb hts u7 hown hK hP 3 rfl rfl 0 (by decide) k0 (fun _ h9 => h9) rfl dX7_copyFrom_5 ?_
  have hPc := hP.sub (ws' := (wTT I w1 w2 w1x w2x 40 4 wd wdx)) [1, 2, 4, 5] rfl
  have hDc := hD.sub (ws' := (wTT I w1 w2 w1x w2x 40 4 wd wdx)) [1, 2, 4, 5] (by decide) rfl
  refine k_v (wr := [(w0, .inr (7, [.ref w1, .int kp, .int tl, .int tk])), (w0x, .inr (7, [.ref w1x, .int kpx, .int tlx, .int tkx]))]) (ws' := (wWdE I w0 w1 w2 w0x w1x w2x wdx kp tl tk wdx kpx tlx tkx)) (va_runV (As := [.ref w1x]) (rest := []) hF (c_X5_copyFromE l D I C Q w1 w2 w1x w2x 40 4 wd wdx (by omega) _) (cwV 1 hts gX7_copyFrom_X5_copyFrom rfl rfl rfl (by decide +kernel) ⟨Nat.le_of_ble_eq_true rfl, Nat.le_of_ble_eq_true rfl⟩) (kPreV hE hPc hDc (ci := 5) (q0 := 0) rfl rfl) rfl rfl hl.1 rfl (lv_room (Nat.le_of_ble_eq_true rfl)) dX7_copyFrom_8 ⟨Nat.zero_le _, Nat.zero_le _⟩) hP hD hS hA [1, 2, 4, 5] [0, 3] [0, 2, 3, 1, 4, 5] rfl rfl (by decide) (by decide) rfl (by decide) (fun H locs hP hD hS => ?_)
  refine lv_aload_n hx hb dX7_copyFrom_11 rfl (lv_at hl 0 rfl) ?_
  refine lv_aload_n hx hb dX7_copyFrom_12 rfl (lv_at hl 1 rfl) ?_
  refine va_get (D := D) (ci := 7) (v := .int kpx) (C := RX7) (T := TX7) (N := 4) hx hb hts u7 hown hK hP 3 rfl rfl 1 (by decide) k1 (fun _ h9 => h9) rfl dX7_copyFrom_13 ?_
  refine va_put (D := D) (ci := 7) (v := .int kpx) (ty := .int) (C := RX7) (T := TX7) (N := 4) hx hb hts u7 tyX7 tyX7_ok nmX7 hown hK hP hD hS 0 rfl rfl 1 (by decide) k1 (fun _ h9 => h9) rfl (by decide +kernel) rfl rfl (Nat.le_of_ble_eq_true rfl) dX7_copyFrom_16 (fun H locs hP hD hS => ?_)
  have hP : va_P D vwCl (wWdE I w0 w1 w2 w0x w1x w2x wdx kpx tl tk wdx kpx tlx tkx) H := hP
  have hD : va_D A (wWdE I w0 w1 w2 w0x w1x w2x wdx kpx tl tk wdx kpx tlx tkx) := hD
  refine lv_aload_n hx hb dX7_copyFrom_19 rfl (lv_at hl 0 rfl) ?_
  refine lv_aload_n hx hb dX7_copyFrom_20 rfl (lv_at hl 1 rfl) ?_
  refine va_get (D := D) (ci := 7) (v := .int tlx) (C := RX7) (T := TX7) (N := 4) hx hb hts u7 hown hK hP 3 rfl rfl 2 (by decide) k2 (fun _ h9 => h9) rfl dX7_copyFrom_21 ?_
  refine va_put (D := D) (ci := 7) (v := .int tlx) (ty := .int) (C := RX7) (T := TX7) (N := 4) hx hb hts u7 tyX7 tyX7_ok nmX7 hown hK hP hD hS 0 rfl rfl 2 (by decide) k2 (fun _ h9 => h9) rfl (by decide +kernel) rfl rfl (Nat.le_of_ble_eq_true rfl) dX7_copyFrom_24 (fun H locs hP hD hS => ?_)
  have hP : va_P D vwCl (wWdE I w0 w1 w2 w0x w1x w2x wdx kpx tlx tk wdx kpx tlx tkx) H := hP
  have hD : va_D A (wWdE I w0 w1 w2 w0x w1x w2x wdx kpx tlx tk wdx kpx tlx tkx) := hD
  refine lv_aload_n hx hb dX7_copyFrom_27 rfl (lv_at hl 0 rfl) ?_
  refine lv_aload_n hx hb dX7_copyFrom_28 rfl (lv_at hl 1 rfl) ?_
  refine va_get (D := D) (ci := 7) (v := .int tkx) (C := RX7) (T := TX7) (N := 4) hx hb hts u7 hown hK hP 3 rfl rfl 3 (by decide) k3 (fun _ h9 => h9) rfl dX7_copyFrom_29 ?_
  refine va_put (D := D) (ci := 7) (v := .int tkx) (ty := .int) (C := RX7) (T := TX7) (N := 4) hx hb hts u7 tyX7 tyX7_ok nmX7 hown hK hP hD hS 0 rfl rfl 3 (by decide) k3 (fun _ h9 => h9) rfl (by decide +kernel) rfl rfl (Nat.le_of_ble_eq_true rfl) dX7_copyFrom_32 (fun H locs hP hD hS => ?_)
  have hP : va_P D vwCl (wWdE I w0 w1 w2 w0x w1x w2x wdx kpx tlx tkx wdx kpx tlx tkx) H := hP
  have hD : va_D A (wWdE I w0 w1 w2 w0x w1x w2x wdx kpx tlx tkx wdx kpx tlx tkx) := hD
  exact hend _ _ _ _ _ hP hD hS dX7_copyFrom_35 rfl
set_option maxHeartbeats 400000 in
set_option maxRecDepth 100000 in
theorem c_X0_copyFrom (l : Launch) (D : va_G) (I C Q : ClassId) (g0 g1 g2 g0x g1x g2x : Nat) (cb : Nat → Int32) (cbx : Nat → Int32) : KV l D (tyL I C Q) yX0_copyFrom wsX0_copyFrom { frames := 2, cells := 0, slots := 0, locals := 61 } [.ref g0, .ref g0x] (wCbE I g0 g1 g2 g0x g1x g2x cb cbx) (wCbE I g0 g1 g2 g0x g1x g2x cbx cbx) := by
  refine KV.of (cc := cX0_copyFrom) (maxL := 2) (own := RX0) (by decide) rfl rfl (Nat.le_of_ble_eq_true rfl) ?_
  intro p e s m below meth c A Q0 ls hx hb hml hown hts hE hA hP hD hS hl hend
  have hK := hE.1
  have hF : CallFix p m c cX0_copyFrom 2 s [.ref g0, .ref g0x].toArray wsX0_copyFrom RX0 := ⟨hx, hb, hml, hown, hts⟩
  have k0 := hts (.fieldLink RX0 16 "LateExcuses$Cabinets" "rows" "LLateExcuses$Table;") (List.mem_of_getElem? (i := 1) rfl)
  have u0 : ∀ w ∈ u_ws RX0 TX0 1, w ∈ wsX0_copyFrom := by decide +kernel
  have hl : lv_has ls 2 [(0, .ref g0), (1, .ref g0x)] := hl
  refine lv_aload_n hx hb dX0_copyFrom_0 rfl (lv_at hl 0 rfl) ?_
  refine va_get (D := D) (ci := 0) (v := .ref g1) (C := RX0) (T := TX0) (N := 1) hx hb hts u0 hown hK hP 0 rfl rfl 0 (by decide) k0 (fun _ h9 => h9) rfl dX0_copyFrom_1 ?_
  refine lv_aload_n hx hb dX0_copyFrom_4 rfl (lv_at hl 1 rfl) ?_
  refine va_get (D := D) (ci := 0) (v := .ref g1x) (C := RX0) (T := TX0) (N := 1) hx hb hts u0 hown hK hP 3 rfl rfl 0 (by decide) k0 (fun _ h9 => h9) rfl dX0_copyFrom_5 ?_
  have hPc := hP.sub (ws' := (wTT I g1 g2 g1x g2x 3 5 cb cbx)) [1, 2, 4, 5] rfl
  have hDc := hD.sub (ws' := (wTT I g1 g2 g1x g2x 3 5 cb cbx)) [1, 2, 4, 5] (by decide) rfl
  refine k_v (wr := [(g0, .inr (0, [.ref g1])), (g0x, .inr (0, [.ref g1x]))]) (ws' := (wCbE I g0 g1 g2 g0x g1x g2x cbx cbx)) (va_runV (As := [.ref g1x]) (rest := []) hF (c_X5_copyFromE l D I C Q g1 g2 g1x g2x 3 5 cb cbx (by omega) _) (cwV 1 hts gX0_copyFrom_X5_copyFrom rfl rfl rfl (by decide +kernel) ⟨Nat.le_of_ble_eq_true rfl, Nat.le_of_ble_eq_true rfl⟩) (kPreV hE hPc hDc (ci := 5) (q0 := 0) rfl rfl) rfl rfl hl.1 rfl (lv_room (Nat.le_of_ble_eq_true rfl)) dX0_copyFrom_8 ⟨Nat.zero_le _, Nat.zero_le _⟩) hP hD hS hA [1, 2, 4, 5] [0, 3] [0, 2, 3, 1, 4, 5] rfl rfl (by decide) (by decide) rfl (by decide) (fun H locs hP hD hS => ?_)
  exact hend _ _ _ _ _ hP hD hS dX0_copyFrom_11 rfl
set_option maxHeartbeats 400000 in
set_option maxRecDepth 100000 in
theorem c_X4_copyFrom (l : Launch) (D : va_G) (I C Q : ClassId) (p0 p1 p2 w0 w1 w2 p0x p1x p2x w0x w1x w2x : Nat) (pn : Nat → Int32) (us : Int32) (wd : Nat → Int32) (kp : Int32) (tl : Int32) (tk : Int32) (pnx : Nat → Int32) (usx : Int32) (wdx : Nat → Int32) (kpx : Int32) (tlx : Int32) (tkx : Int32) : KV l D (tyL I C Q) yX4_copyFrom wsX4_copyFrom { frames := 3, cells := 0, slots := 0, locals := 82 } [.ref p0, .ref p0x] (wPnE I p0 p1 p2 w0 w1 w2 p0x p1x p2x w0x w1x w2x pn us wd kp tl tk pnx usx wdx kpx tlx tkx) (wPnE I p0 p1 p2 w0 w1 w2 p0x p1x p2x w0x w1x w2x pnx usx wdx kpx tlx tkx pnx usx wdx kpx tlx tkx) := by
  refine KV.of (cc := cX4_copyFrom) (maxL := 2) (own := RX4) (by decide) rfl rfl (Nat.le_of_ble_eq_true rfl) ?_
  intro p e s m below meth c A Q0 ls hx hb hml hown hts hE hA hP hD hS hl hend
  have hK := hE.1
  have hF : CallFix p m c cX4_copyFrom 2 s [.ref p0, .ref p0x].toArray wsX4_copyFrom RX4 := ⟨hx, hb, hml, hown, hts⟩
  have k0 := hts (.fieldLink RX4 16 "LateExcuses$Panes" "rows" "LLateExcuses$Table;") (List.mem_of_getElem? (i := 1) rfl)
  have k1 := hts (.fieldLink RX4 23 "LateExcuses$Panes" "words" "LLateExcuses$Words;") (List.mem_of_getElem? (i := 2) rfl)
  have k2 := hts (.fieldLink RX4 34 "LateExcuses$Panes" "used" "I") (List.mem_of_getElem? (i := 3) rfl)
  have u4 : ∀ w ∈ u_ws RX4 TX4 3, w ∈ wsX4_copyFrom := by decide +kernel
  have hl : lv_has ls 2 [(0, .ref p0), (1, .ref p0x)] := hl
  refine lv_aload_n hx hb dX4_copyFrom_0 rfl (lv_at hl 0 rfl) ?_
  refine va_get (D := D) (ci := 4) (v := .ref p1) (C := RX4) (T := TX4) (N := 3) hx hb hts u4 hown hK hP 0 rfl rfl 0 (by decide) k0 (fun _ h9 => h9) rfl dX4_copyFrom_1 ?_
  refine lv_aload_n hx hb dX4_copyFrom_4 rfl (lv_at hl 1 rfl) ?_
  refine va_get (D := D) (ci := 4) (v := .ref p1x) (C := RX4) (T := TX4) (N := 3) hx hb hts u4 hown hK hP 6 rfl rfl 0 (by decide) k0 (fun _ h9 => h9) rfl dX4_copyFrom_5 ?_
  have hPc := hP.sub (ws' := (wTT I p1 p2 p1x p2x 64 8 pn pnx)) [1, 2, 7, 8] rfl
  have hDc := hD.sub (ws' := (wTT I p1 p2 p1x p2x 64 8 pn pnx)) [1, 2, 7, 8] (by decide) rfl
  refine k_v (wr := [(p0, .inr (4, [.ref p1, .ref w0, .int us])), (w0, .inr (7, [.ref w1, .int kp, .int tl, .int tk])), (w1, .inr (5, [.int (nI 40), .int (nI 4), .ref w2])), (w2, .inl (I, 40 * 4, .inl wd)), (p0x, .inr (4, [.ref p1x, .ref w0x, .int usx])), (w0x, .inr (7, [.ref w1x, .int kpx, .int tlx, .int tkx])), (w1x, .inr (5, [.int (nI 40), .int (nI 4), .ref w2x])), (w2x, .inl (I, 40 * 4, .inl wdx))]) (ws' := (wPnE I p0 p1 p2 w0 w1 w2 p0x p1x p2x w0x w1x w2x pnx us wd kp tl tk pnx usx wdx kpx tlx tkx)) (va_runV (As := [.ref p1x]) (rest := []) hF (c_X5_copyFromE l D I C Q p1 p2 p1x p2x 64 8 pn pnx (by omega) _) (cwV 1 hts gX4_copyFrom_X5_copyFrom rfl rfl rfl (by decide +kernel) ⟨Nat.le_of_ble_eq_true rfl, Nat.le_of_ble_eq_true rfl⟩) (kPreV hE hPc hDc (ci := 5) (q0 := 0) rfl rfl) rfl rfl hl.1 rfl (lv_room (Nat.le_of_ble_eq_true rfl)) dX4_copyFrom_8 ⟨Nat.zero_le _, Nat.zero_le _⟩) hP hD hS hA [1, 2, 7, 8] [0, 3, 4, 5, 6, 9, 10, 11] [0, 8, 9, 1, 2, 3, 4, 10, 11, 5, 6, 7] rfl rfl (by decide) (by decide) rfl (by decide) (fun H locs hP hD hS => ?_)
  refine lv_aload_n hx hb dX4_copyFrom_11 rfl (lv_at hl 0 rfl) ?_
  refine va_get (D := D) (ci := 4) (v := .ref w0) (C := RX4) (T := TX4) (N := 3) hx hb hts u4 hown hK hP 0 rfl rfl 1 (by decide) k1 (fun _ h9 => h9) rfl dX4_copyFrom_12 ?_
  refine lv_aload_n hx hb dX4_copyFrom_15 rfl (lv_at hl 1 rfl) ?_
  refine va_get (D := D) (ci := 4) (v := .ref w0x) (C := RX4) (T := TX4) (N := 3) hx hb hts u4 hown hK hP 6 rfl rfl 1 (by decide) k1 (fun _ h9 => h9) rfl dX4_copyFrom_16 ?_
  have hPc := hP.sub (ws' := (wWdE I w0 w1 w2 w0x w1x w2x wd kp tl tk wdx kpx tlx tkx)) [3, 4, 5, 9, 10, 11] rfl
  have hDc := hD.sub (ws' := (wWdE I w0 w1 w2 w0x w1x w2x wd kp tl tk wdx kpx tlx tkx)) [3, 4, 5, 9, 10, 11] (by decide) rfl
  refine k_v (wr := [(p0, .inr (4, [.ref p1, .ref w0, .int us])), (p1, .inr (5, [.int (nI 64), .int (nI 8), .ref p2])), (p2, .inl (I, 64 * 8, .inl pnx)), (p0x, .inr (4, [.ref p1x, .ref w0x, .int usx])), (p1x, .inr (5, [.int (nI 64), .int (nI 8), .ref p2x])), (p2x, .inl (I, 64 * 8, .inl pnx))]) (ws' := (wPnE I p0 p1 p2 w0 w1 w2 p0x p1x p2x w0x w1x w2x pnx us wdx kpx tlx tkx pnx usx wdx kpx tlx tkx)) (va_runV (As := [.ref w0x]) (rest := []) hF (c_X7_copyFrom l D I C Q w0 w1 w2 w0x w1x w2x wd kp tl tk wdx kpx tlx tkx _) (cwV 1 hts gX4_copyFrom_X7_copyFrom rfl rfl rfl (by decide +kernel) ⟨Nat.le_of_ble_eq_true rfl, Nat.le_of_ble_eq_true rfl⟩) (kPreV hE hPc hDc (ci := 7) (q0 := 0) rfl rfl) rfl rfl hl.1 rfl (lv_room (Nat.le_of_ble_eq_true rfl)) dX4_copyFrom_19 ⟨Nat.zero_le _, Nat.zero_le _⟩) hP hD hS hA [3, 4, 5, 9, 10, 11] [0, 1, 2, 6, 7, 8] [0, 1, 2, 6, 7, 8, 3, 4, 5, 9, 10, 11] rfl rfl (by decide) (by decide) rfl (by decide) (fun H locs hP hD hS => ?_)
  refine lv_aload_n hx hb dX4_copyFrom_22 rfl (lv_at hl 0 rfl) ?_
  refine lv_aload_n hx hb dX4_copyFrom_23 rfl (lv_at hl 1 rfl) ?_
  refine va_get (D := D) (ci := 4) (v := .int usx) (C := RX4) (T := TX4) (N := 3) hx hb hts u4 hown hK hP 6 rfl rfl 2 (by decide) k2 (fun _ h9 => h9) rfl dX4_copyFrom_24 ?_
  refine va_put (D := D) (ci := 4) (v := .int usx) (ty := .int) (C := RX4) (T := TX4) (N := 3) hx hb hts u4 tyX4 tyX4_ok nmX4 hown hK hP hD hS 0 rfl rfl 2 (by decide) k2 (fun _ h9 => h9) rfl (by decide +kernel) rfl rfl (Nat.le_of_ble_eq_true rfl) dX4_copyFrom_27 (fun H locs hP hD hS => ?_)
  have hP : va_P D vwCl (wPnE I p0 p1 p2 w0 w1 w2 p0x p1x p2x w0x w1x w2x pnx usx wdx kpx tlx tkx pnx usx wdx kpx tlx tkx) H := hP
  have hD : va_D A (wPnE I p0 p1 p2 w0 w1 w2 p0x p1x p2x w0x w1x w2x pnx usx wdx kpx tlx tkx pnx usx wdx kpx tlx tkx) := hD
  exact hend _ _ _ _ _ hP hD hS dX4_copyFrom_30 rfl
set_option maxHeartbeats 400000 in
set_option maxRecDepth 100000 in
theorem c_X1_copyFrom (l : Launch) (D : va_G) (I C Q : ClassId) (c0 e0 e1 e2 p0 p1 p2 w0 w1 w2 g0 g1 g2 c0x e0x e1x e2x p0x p1x p2x w0x w1x w2x g0x g1x g2x : Nat) (ev : Nat → Int32) (dbl : Int32) (pn : Nat → Int32) (us : Int32) (wd : Nat → Int32) (kp : Int32) (tl : Int32) (tk : Int32) (cb : Nat → Int32) (sz : Int32) (lg : Int32) (gr : Int32) (wt : Int32) (lt : Int32) (mv : Int32) (evx : Nat → Int32) (dblx : Int32) (pnx : Nat → Int32) (usx : Int32) (wdx : Nat → Int32) (kpx : Int32) (tlx : Int32) (tkx : Int32) (cbx : Nat → Int32) (szx : Int32) (lgx : Int32) (grx : Int32) (wtx : Int32) (ltx : Int32) (mvx : Int32) (hmvx : mvx = 0 ∨ mvx = 1) : KV l D (tyL I C Q) yX1_copyFrom wsX1_copyFrom { frames := 4, cells := 0, slots := 0, locals := 103 } [.ref c0, .ref c0x] (wCC I c0 e0 e1 e2 p0 p1 p2 w0 w1 w2 g0 g1 g2 c0x e0x e1x e2x p0x p1x p2x w0x w1x w2x g0x g1x g2x ev dbl pn us wd kp tl tk cb sz lg gr wt lt mv evx dblx pnx usx wdx kpx tlx tkx cbx szx lgx grx wtx ltx mvx) (wCC I c0 e0 e1 e2 p0 p1 p2 w0 w1 w2 g0 g1 g2 c0x e0x e1x e2x p0x p1x p2x w0x w1x w2x g0x g1x g2x evx dblx pnx usx wdx kpx tlx tkx cbx szx lgx grx wtx ltx mvx evx dblx pnx usx wdx kpx tlx tkx cbx szx lgx grx wtx ltx mvx) := by
  refine KV.of (cc := cX1_copyFrom) (maxL := 2) (own := RX1) (by decide) rfl rfl (Nat.le_of_ble_eq_true rfl) ?_
  intro p e s m below meth c A Q0 ls hx hb hml hown hts hE hA hP hD hS hl hend
  have hK := hE.1
  have hF : CallFix p m c cX1_copyFrom 2 s [.ref c0, .ref c0x].toArray wsX1_copyFrom RX1 := ⟨hx, hb, hml, hown, hts⟩
  have k0 := hts (.fieldLink RX1 12 "LateExcuses$Court" "events" "LLateExcuses$Events;") (List.mem_of_getElem? (i := 1) rfl)
  have k1 := hts (.fieldLink RX1 21 "LateExcuses$Court" "panes" "LLateExcuses$Panes;") (List.mem_of_getElem? (i := 2) rfl)
  have k2 := hts (.fieldLink RX1 28 "LateExcuses$Court" "cabinets" "LLateExcuses$Cabinets;") (List.mem_of_getElem? (i := 3) rfl)
  have k3 := hts (.fieldLink RX1 32 "LateExcuses$Court" "size" "I") (List.mem_of_getElem? (i := 4) rfl)
  have k4 := hts (.fieldLink RX1 36 "LateExcuses$Court" "lag" "I") (List.mem_of_getElem? (i := 5) rfl)
  have k5 := hts (.fieldLink RX1 39 "LateExcuses$Court" "grace" "I") (List.mem_of_getElem? (i := 6) rfl)
  have k6 := hts (.fieldLink RX1 42 "LateExcuses$Court" "watermark" "I") (List.mem_of_getElem? (i := 7) rfl)
  have k7 := hts (.fieldLink RX1 45 "LateExcuses$Court" "latest" "I") (List.mem_of_getElem? (i := 8) rfl)
  have k8 := hts (.fieldLink RX1 58 "LateExcuses$Court" "moved" "Z") (List.mem_of_getElem? (i := 9) rfl)
  have u1 : ∀ w ∈ u_ws RX1 TX1 9, w ∈ wsX1_copyFrom := by decide +kernel
  have hl : lv_has ls 2 [(0, .ref c0), (1, .ref c0x)] := hl
  refine lv_aload_n hx hb dX1_copyFrom_0 rfl (lv_at hl 0 rfl) ?_
  refine va_get (D := D) (ci := 1) (v := .ref e0) (C := RX1) (T := TX1) (N := 9) hx hb hts u1 hown hK hP 0 rfl rfl 0 (by decide) k0 (fun _ h9 => h9) rfl dX1_copyFrom_1 ?_
  refine lv_aload_n hx hb dX1_copyFrom_4 rfl (lv_at hl 1 rfl) ?_
  refine va_get (D := D) (ci := 1) (v := .ref e0x) (C := RX1) (T := TX1) (N := 9) hx hb hts u1 hown hK hP 13 rfl rfl 0 (by decide) k0 (fun _ h9 => h9) rfl dX1_copyFrom_5 ?_
  have hPc := hP.sub (ws' := (wEvE I e0 e1 e2 e0x e1x e2x ev dbl evx dblx)) [1, 2, 3, 14, 15, 16] rfl
  have hDc := hD.sub (ws' := (wEvE I e0 e1 e2 e0x e1x e2x ev dbl evx dblx)) [1, 2, 3, 14, 15, 16] (by decide) rfl
  refine k_v (wr := [(c0, .inr (1, [.ref e0, .ref p0, .ref g0, .int sz, .int lg, .int gr, .int wt, .int lt, .int mv])), (p0, .inr (4, [.ref p1, .ref w0, .int us])), (p1, .inr (5, [.int (nI 64), .int (nI 8), .ref p2])), (p2, .inl (I, 64 * 8, .inl pn)), (w0, .inr (7, [.ref w1, .int kp, .int tl, .int tk])), (w1, .inr (5, [.int (nI 40), .int (nI 4), .ref w2])), (w2, .inl (I, 40 * 4, .inl wd)), (g0, .inr (0, [.ref g1])), (g1, .inr (5, [.int (nI 3), .int (nI 5), .ref g2])), (g2, .inl (I, 3 * 5, .inl cb)), (c0x, .inr (1, [.ref e0x, .ref p0x, .ref g0x, .int szx, .int lgx, .int grx, .int wtx, .int ltx, .int mvx])), (p0x, .inr (4, [.ref p1x, .ref w0x, .int usx])), (p1x, .inr (5, [.int (nI 64), .int (nI 8), .ref p2x])), (p2x, .inl (I, 64 * 8, .inl pnx)), (w0x, .inr (7, [.ref w1x, .int kpx, .int tlx, .int tkx])), (w1x, .inr (5, [.int (nI 40), .int (nI 4), .ref w2x])), (w2x, .inl (I, 40 * 4, .inl wdx)), (g0x, .inr (0, [.ref g1x])), (g1x, .inr (5, [.int (nI 3), .int (nI 5), .ref g2x])), (g2x, .inl (I, 3 * 5, .inl cbx))]) (ws' := (wCC I c0 e0 e1 e2 p0 p1 p2 w0 w1 w2 g0 g1 g2 c0x e0x e1x e2x p0x p1x p2x w0x w1x w2x g0x g1x g2x evx dblx pn us wd kp tl tk cb sz lg gr wt lt mv evx dblx pnx usx wdx kpx tlx tkx cbx szx lgx grx wtx ltx mvx)) (va_runV (As := [.ref e0x]) (rest := []) hF (c_X2_copyFrom l D I C Q e0 e1 e2 e0x e1x e2x ev dbl evx dblx _) (cwV 1 hts gX1_copyFrom_X2_copyFrom rfl rfl rfl (by decide +kernel) ⟨Nat.le_of_ble_eq_true rfl, Nat.le_of_ble_eq_true rfl⟩) (kPreV hE hPc hDc (ci := 2) (q0 := 0) rfl rfl) rfl rfl hl.1 rfl (lv_room (Nat.le_of_ble_eq_true rfl)) dX1_copyFrom_8 ⟨Nat.zero_le _, Nat.zero_le _⟩) hP hD hS hA [1, 2, 3, 14, 15, 16] [0, 4, 5, 6, 7, 8, 9, 10, 11, 12, 13, 17, 18, 19, 20, 21, 22, 23, 24, 25] [0, 20, 21, 22, 1, 2, 3, 4, 5, 6, 7, 8, 9, 10, 23, 24, 25, 11, 12, 13, 14, 15, 16, 17, 18, 19] rfl rfl (by decide) (by decide) rfl (by decide) (fun H locs hP hD hS => ?_)
  refine lv_aload_n hx hb dX1_copyFrom_11 rfl (lv_at hl 0 rfl) ?_
  refine va_get (D := D) (ci := 1) (v := .ref p0) (C := RX1) (T := TX1) (N := 9) hx hb hts u1 hown hK hP 0 rfl rfl 1 (by decide) k1 (fun _ h9 => h9) rfl dX1_copyFrom_12 ?_
  refine lv_aload_n hx hb dX1_copyFrom_15 rfl (lv_at hl 1 rfl) ?_
  refine va_get (D := D) (ci := 1) (v := .ref p0x) (C := RX1) (T := TX1) (N := 9) hx hb hts u1 hown hK hP 13 rfl rfl 1 (by decide) k1 (fun _ h9 => h9) rfl dX1_copyFrom_16 ?_
  have hPc := hP.sub (ws' := (wPnE I p0 p1 p2 w0 w1 w2 p0x p1x p2x w0x w1x w2x pn us wd kp tl tk pnx usx wdx kpx tlx tkx)) [4, 5, 6, 7, 8, 9, 17, 18, 19, 20, 21, 22] rfl
  have hDc := hD.sub (ws' := (wPnE I p0 p1 p2 w0 w1 w2 p0x p1x p2x w0x w1x w2x pn us wd kp tl tk pnx usx wdx kpx tlx tkx)) [4, 5, 6, 7, 8, 9, 17, 18, 19, 20, 21, 22] (by decide) rfl
  refine k_v (wr := [(c0, .inr (1, [.ref e0, .ref p0, .ref g0, .int sz, .int lg, .int gr, .int wt, .int lt, .int mv])), (e0, .inr (2, [.ref e1, .int dblx])), (e1, .inr (5, [.int (nI 64), .int (nI 7), .ref e2])), (e2, .inl (I, 64 * 7, .inl evx)), (g0, .inr (0, [.ref g1])), (g1, .inr (5, [.int (nI 3), .int (nI 5), .ref g2])), (g2, .inl (I, 3 * 5, .inl cb)), (c0x, .inr (1, [.ref e0x, .ref p0x, .ref g0x, .int szx, .int lgx, .int grx, .int wtx, .int ltx, .int mvx])), (e0x, .inr (2, [.ref e1x, .int dblx])), (e1x, .inr (5, [.int (nI 64), .int (nI 7), .ref e2x])), (e2x, .inl (I, 64 * 7, .inl evx)), (g0x, .inr (0, [.ref g1x])), (g1x, .inr (5, [.int (nI 3), .int (nI 5), .ref g2x])), (g2x, .inl (I, 3 * 5, .inl cbx))]) (ws' := (wCC I c0 e0 e1 e2 p0 p1 p2 w0 w1 w2 g0 g1 g2 c0x e0x e1x e2x p0x p1x p2x w0x w1x w2x g0x g1x g2x evx dblx pnx usx wdx kpx tlx tkx cb sz lg gr wt lt mv evx dblx pnx usx wdx kpx tlx tkx cbx szx lgx grx wtx ltx mvx)) (va_runV (As := [.ref p0x]) (rest := []) hF (c_X4_copyFrom l D I C Q p0 p1 p2 w0 w1 w2 p0x p1x p2x w0x w1x w2x pn us wd kp tl tk pnx usx wdx kpx tlx tkx _) (cwV 1 hts gX1_copyFrom_X4_copyFrom rfl rfl rfl (by decide +kernel) ⟨Nat.le_of_ble_eq_true rfl, Nat.le_of_ble_eq_true rfl⟩) (kPreV hE hPc hDc (ci := 4) (q0 := 0) rfl rfl) rfl rfl hl.1 rfl (lv_room (Nat.le_of_ble_eq_true rfl)) dX1_copyFrom_19 ⟨Nat.zero_le _, Nat.zero_le _⟩) hP hD hS hA [4, 5, 6, 7, 8, 9, 17, 18, 19, 20, 21, 22] [0, 1, 2, 3, 10, 11, 12, 13, 14, 15, 16, 23, 24, 25] [0, 1, 2, 3, 14, 15, 16, 17, 18, 19, 4, 5, 6, 7, 8, 9, 10, 20, 21, 22, 23, 24, 25, 11, 12, 13] rfl rfl (by decide) (by decide) rfl (by decide) (fun H locs hP hD hS => ?_)
  refine lv_aload_n hx hb dX1_copyFrom_22 rfl (lv_at hl 0 rfl) ?_
  refine va_get (D := D) (ci := 1) (v := .ref g0) (C := RX1) (T := TX1) (N := 9) hx hb hts u1 hown hK hP 0 rfl rfl 2 (by decide) k2 (fun _ h9 => h9) rfl dX1_copyFrom_23 ?_
  refine lv_aload_n hx hb dX1_copyFrom_26 rfl (lv_at hl 1 rfl) ?_
  refine va_get (D := D) (ci := 1) (v := .ref g0x) (C := RX1) (T := TX1) (N := 9) hx hb hts u1 hown hK hP 13 rfl rfl 2 (by decide) k2 (fun _ h9 => h9) rfl dX1_copyFrom_27 ?_
  have hPc := hP.sub (ws' := (wCbE I g0 g1 g2 g0x g1x g2x cb cbx)) [10, 11, 12, 23, 24, 25] rfl
  have hDc := hD.sub (ws' := (wCbE I g0 g1 g2 g0x g1x g2x cb cbx)) [10, 11, 12, 23, 24, 25] (by decide) rfl
  refine k_v (wr := [(c0, .inr (1, [.ref e0, .ref p0, .ref g0, .int sz, .int lg, .int gr, .int wt, .int lt, .int mv])), (e0, .inr (2, [.ref e1, .int dblx])), (e1, .inr (5, [.int (nI 64), .int (nI 7), .ref e2])), (e2, .inl (I, 64 * 7, .inl evx)), (p0, .inr (4, [.ref p1, .ref w0, .int usx])), (p1, .inr (5, [.int (nI 64), .int (nI 8), .ref p2])), (p2, .inl (I, 64 * 8, .inl pnx)), (w0, .inr (7, [.ref w1, .int kpx, .int tlx, .int tkx])), (w1, .inr (5, [.int (nI 40), .int (nI 4), .ref w2])), (w2, .inl (I, 40 * 4, .inl wdx)), (c0x, .inr (1, [.ref e0x, .ref p0x, .ref g0x, .int szx, .int lgx, .int grx, .int wtx, .int ltx, .int mvx])), (e0x, .inr (2, [.ref e1x, .int dblx])), (e1x, .inr (5, [.int (nI 64), .int (nI 7), .ref e2x])), (e2x, .inl (I, 64 * 7, .inl evx)), (p0x, .inr (4, [.ref p1x, .ref w0x, .int usx])), (p1x, .inr (5, [.int (nI 64), .int (nI 8), .ref p2x])), (p2x, .inl (I, 64 * 8, .inl pnx)), (w0x, .inr (7, [.ref w1x, .int kpx, .int tlx, .int tkx])), (w1x, .inr (5, [.int (nI 40), .int (nI 4), .ref w2x])), (w2x, .inl (I, 40 * 4, .inl wdx))]) (ws' := (wCC I c0 e0 e1 e2 p0 p1 p2 w0 w1 w2 g0 g1 g2 c0x e0x e1x e2x p0x p1x p2x w0x w1x w2x g0x g1x g2x evx dblx pnx usx wdx kpx tlx tkx cbx sz lg gr wt lt mv evx dblx pnx usx wdx kpx tlx tkx cbx szx lgx grx wtx ltx mvx)) (va_runV (As := [.ref g0x]) (rest := []) hF (c_X0_copyFrom l D I C Q g0 g1 g2 g0x g1x g2x cb cbx _) (cwV 1 hts gX1_copyFrom_X0_copyFrom rfl rfl rfl (by decide +kernel) ⟨Nat.le_of_ble_eq_true rfl, Nat.le_of_ble_eq_true rfl⟩) (kPreV hE hPc hDc (ci := 0) (q0 := 0) rfl rfl) rfl rfl hl.1 rfl (lv_room (Nat.le_of_ble_eq_true rfl)) dX1_copyFrom_30 ⟨Nat.zero_le _, Nat.zero_le _⟩) hP hD hS hA [10, 11, 12, 23, 24, 25] [0, 1, 2, 3, 4, 5, 6, 7, 8, 9, 13, 14, 15, 16, 17, 18, 19, 20, 21, 22] [0, 1, 2, 3, 4, 5, 6, 7, 8, 9, 20, 21, 22, 10, 11, 12, 13, 14, 15, 16, 17, 18, 19, 23, 24, 25] rfl rfl (by decide) (by decide) rfl (by decide) (fun H locs hP hD hS => ?_)
  refine lv_aload_n hx hb dX1_copyFrom_33 rfl (lv_at hl 0 rfl) ?_
  refine lv_aload_n hx hb dX1_copyFrom_34 rfl (lv_at hl 1 rfl) ?_
  refine va_get (D := D) (ci := 1) (v := .int szx) (C := RX1) (T := TX1) (N := 9) hx hb hts u1 hown hK hP 13 rfl rfl 3 (by decide) k3 (fun _ h9 => h9) rfl dX1_copyFrom_35 ?_
  refine va_put (D := D) (ci := 1) (v := .int szx) (ty := .int) (C := RX1) (T := TX1) (N := 9) hx hb hts u1 tyX1 tyX1_ok nmX1 hown hK hP hD hS 0 rfl rfl 3 (by decide) k3 (fun _ h9 => h9) rfl (by decide +kernel) rfl rfl (Nat.le_of_ble_eq_true rfl) dX1_copyFrom_38 (fun H locs hP hD hS => ?_)
  have hP : va_P D vwCl (wCC I c0 e0 e1 e2 p0 p1 p2 w0 w1 w2 g0 g1 g2 c0x e0x e1x e2x p0x p1x p2x w0x w1x w2x g0x g1x g2x evx dblx pnx usx wdx kpx tlx tkx cbx szx lg gr wt lt mv evx dblx pnx usx wdx kpx tlx tkx cbx szx lgx grx wtx ltx mvx) H := hP
  have hD : va_D A (wCC I c0 e0 e1 e2 p0 p1 p2 w0 w1 w2 g0 g1 g2 c0x e0x e1x e2x p0x p1x p2x w0x w1x w2x g0x g1x g2x evx dblx pnx usx wdx kpx tlx tkx cbx szx lg gr wt lt mv evx dblx pnx usx wdx kpx tlx tkx cbx szx lgx grx wtx ltx mvx) := hD
  refine lv_aload_n hx hb dX1_copyFrom_41 rfl (lv_at hl 0 rfl) ?_
  refine lv_aload_n hx hb dX1_copyFrom_42 rfl (lv_at hl 1 rfl) ?_
  refine va_get (D := D) (ci := 1) (v := .int lgx) (C := RX1) (T := TX1) (N := 9) hx hb hts u1 hown hK hP 13 rfl rfl 4 (by decide) k4 (fun _ h9 => h9) rfl dX1_copyFrom_43 ?_
  refine va_put (D := D) (ci := 1) (v := .int lgx) (ty := .int) (C := RX1) (T := TX1) (N := 9) hx hb hts u1 tyX1 tyX1_ok nmX1 hown hK hP hD hS 0 rfl rfl 4 (by decide) k4 (fun _ h9 => h9) rfl (by decide +kernel) rfl rfl (Nat.le_of_ble_eq_true rfl) dX1_copyFrom_46 (fun H locs hP hD hS => ?_)
  have hP : va_P D vwCl (wCC I c0 e0 e1 e2 p0 p1 p2 w0 w1 w2 g0 g1 g2 c0x e0x e1x e2x p0x p1x p2x w0x w1x w2x g0x g1x g2x evx dblx pnx usx wdx kpx tlx tkx cbx szx lgx gr wt lt mv evx dblx pnx usx wdx kpx tlx tkx cbx szx lgx grx wtx ltx mvx) H := hP
  have hD : va_D A (wCC I c0 e0 e1 e2 p0 p1 p2 w0 w1 w2 g0 g1 g2 c0x e0x e1x e2x p0x p1x p2x w0x w1x w2x g0x g1x g2x evx dblx pnx usx wdx kpx tlx tkx cbx szx lgx gr wt lt mv evx dblx pnx usx wdx kpx tlx tkx cbx szx lgx grx wtx ltx mvx) := hD
  refine lv_aload_n hx hb dX1_copyFrom_49 rfl (lv_at hl 0 rfl) ?_
  refine lv_aload_n hx hb dX1_copyFrom_50 rfl (lv_at hl 1 rfl) ?_
  refine va_get (D := D) (ci := 1) (v := .int grx) (C := RX1) (T := TX1) (N := 9) hx hb hts u1 hown hK hP 13 rfl rfl 5 (by decide) k5 (fun _ h9 => h9) rfl dX1_copyFrom_51 ?_
  refine va_put (D := D) (ci := 1) (v := .int grx) (ty := .int) (C := RX1) (T := TX1) (N := 9) hx hb hts u1 tyX1 tyX1_ok nmX1 hown hK hP hD hS 0 rfl rfl 5 (by decide) k5 (fun _ h9 => h9) rfl (by decide +kernel) rfl rfl (Nat.le_of_ble_eq_true rfl) dX1_copyFrom_54 (fun H locs hP hD hS => ?_)
  have hP : va_P D vwCl (wCC I c0 e0 e1 e2 p0 p1 p2 w0 w1 w2 g0 g1 g2 c0x e0x e1x e2x p0x p1x p2x w0x w1x w2x g0x g1x g2x evx dblx pnx usx wdx kpx tlx tkx cbx szx lgx grx wt lt mv evx dblx pnx usx wdx kpx tlx tkx cbx szx lgx grx wtx ltx mvx) H := hP
  have hD : va_D A (wCC I c0 e0 e1 e2 p0 p1 p2 w0 w1 w2 g0 g1 g2 c0x e0x e1x e2x p0x p1x p2x w0x w1x w2x g0x g1x g2x evx dblx pnx usx wdx kpx tlx tkx cbx szx lgx grx wt lt mv evx dblx pnx usx wdx kpx tlx tkx cbx szx lgx grx wtx ltx mvx) := hD
  refine lv_aload_n hx hb dX1_copyFrom_57 rfl (lv_at hl 0 rfl) ?_
  refine lv_aload_n hx hb dX1_copyFrom_58 rfl (lv_at hl 1 rfl) ?_
  refine va_get (D := D) (ci := 1) (v := .int wtx) (C := RX1) (T := TX1) (N := 9) hx hb hts u1 hown hK hP 13 rfl rfl 6 (by decide) k6 (fun _ h9 => h9) rfl dX1_copyFrom_59 ?_
  refine va_put (D := D) (ci := 1) (v := .int wtx) (ty := .int) (C := RX1) (T := TX1) (N := 9) hx hb hts u1 tyX1 tyX1_ok nmX1 hown hK hP hD hS 0 rfl rfl 6 (by decide) k6 (fun _ h9 => h9) rfl (by decide +kernel) rfl rfl (Nat.le_of_ble_eq_true rfl) dX1_copyFrom_62 (fun H locs hP hD hS => ?_)
  have hP : va_P D vwCl (wCC I c0 e0 e1 e2 p0 p1 p2 w0 w1 w2 g0 g1 g2 c0x e0x e1x e2x p0x p1x p2x w0x w1x w2x g0x g1x g2x evx dblx pnx usx wdx kpx tlx tkx cbx szx lgx grx wtx lt mv evx dblx pnx usx wdx kpx tlx tkx cbx szx lgx grx wtx ltx mvx) H := hP
  have hD : va_D A (wCC I c0 e0 e1 e2 p0 p1 p2 w0 w1 w2 g0 g1 g2 c0x e0x e1x e2x p0x p1x p2x w0x w1x w2x g0x g1x g2x evx dblx pnx usx wdx kpx tlx tkx cbx szx lgx grx wtx lt mv evx dblx pnx usx wdx kpx tlx tkx cbx szx lgx grx wtx ltx mvx) := hD
  refine lv_aload_n hx hb dX1_copyFrom_65 rfl (lv_at hl 0 rfl) ?_
  refine lv_aload_n hx hb dX1_copyFrom_66 rfl (lv_at hl 1 rfl) ?_
  refine va_get (D := D) (ci := 1) (v := .int ltx) (C := RX1) (T := TX1) (N := 9) hx hb hts u1 hown hK hP 13 rfl rfl 7 (by decide) k7 (fun _ h9 => h9) rfl dX1_copyFrom_67 ?_
  refine va_put (D := D) (ci := 1) (v := .int ltx) (ty := .int) (C := RX1) (T := TX1) (N := 9) hx hb hts u1 tyX1 tyX1_ok nmX1 hown hK hP hD hS 0 rfl rfl 7 (by decide) k7 (fun _ h9 => h9) rfl (by decide +kernel) rfl rfl (Nat.le_of_ble_eq_true rfl) dX1_copyFrom_70 (fun H locs hP hD hS => ?_)
  have hP : va_P D vwCl (wCC I c0 e0 e1 e2 p0 p1 p2 w0 w1 w2 g0 g1 g2 c0x e0x e1x e2x p0x p1x p2x w0x w1x w2x g0x g1x g2x evx dblx pnx usx wdx kpx tlx tkx cbx szx lgx grx wtx ltx mv evx dblx pnx usx wdx kpx tlx tkx cbx szx lgx grx wtx ltx mvx) H := hP
  have hD : va_D A (wCC I c0 e0 e1 e2 p0 p1 p2 w0 w1 w2 g0 g1 g2 c0x e0x e1x e2x p0x p1x p2x w0x w1x w2x g0x g1x g2x evx dblx pnx usx wdx kpx tlx tkx cbx szx lgx grx wtx ltx mv evx dblx pnx usx wdx kpx tlx tkx cbx szx lgx grx wtx ltx mvx) := hD
  refine lv_aload_n hx hb dX1_copyFrom_73 rfl (lv_at hl 0 rfl) ?_
  refine lv_aload_n hx hb dX1_copyFrom_74 rfl (lv_at hl 1 rfl) ?_
  refine va_get (D := D) (ci := 1) (v := .int mvx) (C := RX1) (T := TX1) (N := 9) hx hb hts u1 hown hK hP 13 rfl rfl 8 (by decide) k8 (fun _ h9 => h9) rfl dX1_copyFrom_75 ?_
  refine va_put (D := D) (ci := 1) (v := .int mvx) (ty := .boolean) (C := RX1) (T := TX1) (N := 9) hx hb hts u1 tyX1 tyX1_ok nmX1 hown hK hP hD hS 0 rfl rfl 8 (by decide) k8 (fun _ h9 => h9) rfl (by decide +kernel) (k_bn hmvx) (k_bf hmvx) (Nat.le_of_ble_eq_true rfl) dX1_copyFrom_78 (fun H locs hP hD hS => ?_)
  have hP : va_P D vwCl (wCC I c0 e0 e1 e2 p0 p1 p2 w0 w1 w2 g0 g1 g2 c0x e0x e1x e2x p0x p1x p2x w0x w1x w2x g0x g1x g2x evx dblx pnx usx wdx kpx tlx tkx cbx szx lgx grx wtx ltx mvx evx dblx pnx usx wdx kpx tlx tkx cbx szx lgx grx wtx ltx mvx) H := hP
  have hD : va_D A (wCC I c0 e0 e1 e2 p0 p1 p2 w0 w1 w2 g0 g1 g2 c0x e0x e1x e2x p0x p1x p2x w0x w1x w2x g0x g1x g2x evx dblx pnx usx wdx kpx tlx tkx cbx szx lgx grx wtx ltx mvx evx dblx pnx usx wdx kpx tlx tkx cbx szx lgx grx wtx ltx mvx) := hD
  exact hend _ _ _ _ _ hP hD hS dX1_copyFrom_81 rfl
