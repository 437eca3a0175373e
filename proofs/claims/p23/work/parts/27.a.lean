set_option maxHeartbeats 400000 in
set_option maxRecDepth 100000 in
theorem c_X3_states (l : Launch) (D : va_G) (I C Q : ClassId) (h0 h1 : Nat) (ol : Int32) (ns : Int32) : KI l D (tyL I C Q) yX3_states wsX3_states { frames := 0, cells := 0, slots := 0, locals := 0 } [.ref h0] (wH1  h0 h1 ol ns) (wH1  h0 h1 ol ns) ns := by
  refine KI.of (cc := cX3_states) (maxL := 1) (rt := .int) (own := RX3) (by decide) rfl rfl (Nat.le_of_ble_eq_true rfl) ?_
  intro p e s m below meth c A Q0 ls hx hb hml hown hts hE hA hP hD hS hl hend
  have hK := hE.1
  have hF : CallFix p m c cX3_states 1 s [.ref h0].toArray wsX3_states RX3 := ⟨hx, hb, hml, hown, hts⟩
  have k0 := hts (.fieldLink RX3 15 "LateExcuses$History" "states" "I") (List.mem_of_getElem? (i := 1) rfl)
  have u3 : ∀ w ∈ u_ws RX3 TX3 3, w ∈ wsX3_states := by decide +kernel
  have hl : lv_has ls 1 [(0, .ref h0)] := hl
  refine lv_aload_n hx hb dX3_states_0 rfl (lv_at hl 0 rfl) ?_
  refine va_get (D := D) (ci := 3) (v := .int ns) (C := RX3) (T := TX3) (N := 3) hx hb hts u3 hown hK hP 0 rfl rfl 2 (by decide) k0 (fun _ h9 => h9) rfl dX3_states_1 ?_
  exact hend _ _ _ _ _ _ hP hD hS dX3_states_4 rfl rfl rfl
set_option maxHeartbeats 400000 in
set_option maxRecDepth 100000 in
theorem c_X3_keepR (l : Launch) (D : va_G) (I C Q : ClassId) (h0 h1 c0 e0 e1 e2 p0 p1 p2 w0 w1 w2 g0 g1 g2 c0x e0x e1x e2x p0x p1x p2x w0x w1x w2x g0x g1x g2x : Nat) (ev : Nat → Int32) (dbl : Int32) (pn : Nat → Int32) (us : Int32) (wd : Nat → Int32) (kp : Int32) (tl : Int32) (tk : Int32) (cb : Nat → Int32) (sz : Int32) (lg : Int32) (gr : Int32) (wt : Int32) (lt : Int32) (mv : Int32) (o : Nat) (n : Nat) (fp : Nat → Option Nat) (evx : Nat → Int32) (dblx : Int32) (pnx : Nat → Int32) (usx : Int32) (wdx : Nat → Int32) (kpx : Int32) (tlx : Int32) (tkx : Int32) (cbx : Nat → Int32) (szx : Int32) (lgx : Int32) (grx : Int32) (wtx : Int32) (ltx : Int32) (mvx : Int32) (hn4 : n ≤ 4) (ho4 : o < 4) (hfp : fp (h_pl o n) = some c0x) (hmv : mv = 0 ∨ mv = 1) : KV l D (tyL I C Q) yX3_keep wsX3_keep { frames := 5, cells := 0, slots := 0, locals := 124 } [.ref h0, .ref c0] (wKR I Q h0 h1 c0 e0 e1 e2 p0 p1 p2 w0 w1 w2 g0 g1 g2 c0x e0x e1x e2x p0x p1x p2x w0x w1x w2x g0x g1x g2x ev dbl pn us wd kp tl tk cb sz lg gr wt lt mv (nI o) (nI n) fp evx dblx pnx usx wdx kpx tlx tkx cbx szx lgx grx wtx ltx mvx) (wKR I Q h0 h1 c0 e0 e1 e2 p0 p1 p2 w0 w1 w2 g0 g1 g2 c0x e0x e1x e2x p0x p1x p2x w0x w1x w2x g0x g1x g2x ev dbl pn us wd kp tl tk cb sz lg gr wt lt mv (nI (h_ol o n)) (nI (m_rns n)) fp ev dbl pn us wd kp tl tk cb sz lg gr wt lt mv) := by
  have hpl : h_pl o n < 4 := by rw [h_pl]; split <;> omega
  refine KV.of (cc := cX3_keep) (maxL := 4) (own := RX3) (by decide) rfl rfl (Nat.le_of_ble_eq_true rfl) ?_
  intro p e s m below meth c A Q0 ls hx hb hml hown hts hE hA hP hD hS hl hend
  have hK := hE.1
  have hF : CallFix p m c cX3_keep 4 s [.ref h0, .ref c0].toArray wsX3_keep RX3 := ⟨hx, hb, hml, hown, hts⟩
  have k0 := hts (.fieldLink RX3 15 "LateExcuses$History" "states" "I") (List.mem_of_getElem? (i := 1) rfl)
  have k1 := hts (.fieldLink RX3 19 "LateExcuses$History" "oldest" "I") (List.mem_of_getElem? (i := 2) rfl)
  have k2 := hts (.fieldLink RX3 11 "LateExcuses$History" "past" "[LLateExcuses$Court;") (List.mem_of_getElem? (i := 3) rfl)
  have u3 : ∀ w ∈ u_ws RX3 TX3 3, w ∈ wsX3_keep := by decide +kernel
  have hl : lv_has ls 4 [(0, .ref h0), (1, .ref c0)] := hl
  refine lv_aload_n hx hb dX3_keep_0 rfl (lv_at hl 0 rfl) ?_
  refine va_get (D := D) (ci := 3) (v := .int (nI n)) (C := RX3) (T := TX3) (N := 3) hx hb hts u3 hown hK hP 0 rfl rfl 2 (by decide) k0 (fun _ h9 => h9) rfl dX3_keep_1 ?_
  refine lv_iconst (v := 4) hx hb dX3_keep_4 (by decide) ?_
  refine lv_icmp_ne (tgt := 30) hx hb dX3_keep_5 (by decide) (fun c_5 => ?_) (fun c_5 => ?_)
  · have hlt2 : n < 4 := by
      have h9 : ¬ n = 4 := fun e9 => c_5 (by rw [e9]; rfl)
      omega
    refine lv_aload_n hx hb dX3_keep_30 rfl (lv_at hl 0 rfl) ?_
    refine va_get (D := D) (ci := 3) (v := .int (nI o)) (C := RX3) (T := TX3) (N := 3) hx hb hts u3 hown hK hP 0 rfl rfl 1 (by decide) k1 (fun _ h9 => h9) rfl dX3_keep_31 ?_
    refine lv_aload_n hx hb dX3_keep_34 rfl (lv_at hl 0 rfl) ?_
    refine va_get (D := D) (ci := 3) (v := .int (nI n)) (C := RX3) (T := TX3) (N := 3) hx hb hts u3 hown hK hP 0 rfl rfl 2 (by decide) k0 (fun _ h9 => h9) rfl dX3_keep_35 ?_
    refine k_iadd (v := nI (o + n)) hx hb dX3_keep_38 (nI_add o n) ?_
    refine lv_iconst (v := 4) hx hb dX3_keep_39 (by decide) ?_
    refine k_irem (v := nI (h_pl o n)) hx hb dX3_keep_40 (by rw [h_pl, if_pos hlt2]; exact k_remN (a := o + n) (b := 4) (by omega) (by omega) (by omega)) ?_
    refine lv_istore_n (lv' := [(2, .int (nI (h_pl o n))), (0, .ref h0), (1, .ref c0)]) hx hb dX3_keep_41 rfl hl (by decide) rfl (fun ls hl => ?_)
    refine lv_iload_n hx hb dX3_keep_42 rfl (lv_at hl 0 rfl) ?_
    refine lv_if_lt (tgt := 96) hx hb dX3_keep_43 (by decide) (fun c_43 => ?_) (fun c_43 => ?_)
    · exact absurd c_43 (nI_pos (by omega))
    · refine lv_iload_n hx hb dX3_keep_46 rfl (lv_at hl 0 rfl) ?_
      refine lv_aload_n hx hb dX3_keep_47 rfl (lv_at hl 1 rfl) ?_
      refine va_get (D := D) (ci := 3) (v := .ref h1) (C := RX3) (T := TX3) (N := 3) hx hb hts u3 hown hK hP 0 rfl rfl 0 (by decide) k2 (fun _ h9 => h9) rfl dX3_keep_48 ?_
      refine va_alen (v := 4) hx hb hK hP 1 2 rfl rfl rfl dX3_keep_51 ?_
      refine lv_icmp_ge (tgt := 96) hx hb dX3_keep_52 (by decide) (fun c_52 => ?_) (fun c_52 => ?_)
      · exact absurd ((nI_leI (a := 4) (b := h_pl o n) (by omega) (by omega)).mp c_52) (by omega)
      · refine lv_aload_n hx hb dX3_keep_55 rfl (lv_at hl 1 rfl) ?_
        refine va_get (D := D) (ci := 3) (v := .ref h1) (C := RX3) (T := TX3) (N := 3) hx hb hts u3 hown hK hP 0 rfl rfl 0 (by decide) k2 (fun _ h9 => h9) rfl dX3_keep_56 ?_
        refine lv_iload_n hx hb dX3_keep_59 rfl (lv_at hl 0 rfl) ?_
        refine k_aald (j := h_pl o n) (v := .ref c0x) hx hb hK hP 1 2 rfl rfl rfl hpl (by decide) (by rw [hfp]; rfl) dX3_keep_60 ?_
        refine lv_astore_n (lv' := [(3, .ref c0x), (2, .int (nI (h_pl o n))), (0, .ref h0), (1, .ref c0)]) hx hb dX3_keep_61 rfl hl (by decide) rfl (fun ls hl => ?_)
        refine lv_aload_n hx hb dX3_keep_62 rfl (lv_at hl 0 rfl) ?_
        refine lv_ifnonnull (tgt := 81) hx hb dX3_keep_63 (by decide) ?_
        refine lv_aload_n hx hb dX3_keep_81 rfl (lv_at hl 0 rfl) ?_
        refine lv_aload_n hx hb dX3_keep_82 rfl (lv_at hl 3 rfl) ?_
        have hPc := hP.sub (ws' := (wCC I c0x e0x e1x e2x p0x p1x p2x w0x w1x w2x g0x g1x g2x c0 e0 e1 e2 p0 p1 p2 w0 w1 w2 g0 g1 g2 evx dblx pnx usx wdx kpx tlx tkx cbx szx lgx grx wtx ltx mvx ev dbl pn us wd kp tl tk cb sz lg gr wt lt mv)) [15, 16, 17, 18, 19, 20, 21, 22, 23, 24, 25, 26, 27, 2, 3, 4, 5, 6, 7, 8, 9, 10, 11, 12, 13, 14] rfl
        have hDc := hD.sub (ws' := (wCC I c0x e0x e1x e2x p0x p1x p2x w0x w1x w2x g0x g1x g2x c0 e0 e1 e2 p0 p1 p2 w0 w1 w2 g0 g1 g2 evx dblx pnx usx wdx kpx tlx tkx cbx szx lgx grx wtx ltx mvx ev dbl pn us wd kp tl tk cb sz lg gr wt lt mv)) [15, 16, 17, 18, 19, 20, 21, 22, 23, 24, 25, 26, 27, 2, 3, 4, 5, 6, 7, 8, 9, 10, 11, 12, 13, 14] (by decide) rfl
        refine k_v (wr := [(h0, .inr (3, [.ref h1, .int (nI o), .int (nI n)])), (h1, .inl (Q, 4, .inr (.inr (.inr (.inr fp)))))]) (ws' := (wKR I Q h0 h1 c0 e0 e1 e2 p0 p1 p2 w0 w1 w2 g0 g1 g2 c0x e0x e1x e2x p0x p1x p2x w0x w1x w2x g0x g1x g2x ev dbl pn us wd kp tl tk cb sz lg gr wt lt mv (nI o) (nI n) fp ev dbl pn us wd kp tl tk cb sz lg gr wt lt mv)) (va_runV (As := [.ref c0]) (rest := []) hF (c_X1_copyFrom l D I C Q c0x e0x e1x e2x p0x p1x p2x w0x w1x w2x g0x g1x g2x c0 e0 e1 e2 p0 p1 p2 w0 w1 w2 g0 g1 g2 evx dblx pnx usx wdx kpx tlx tkx cbx szx lgx grx wtx ltx mvx ev dbl pn us wd kp tl tk cb sz lg gr wt lt mv hmv _) (cwV 1 hts gX3_keep_X1_copyFrom rfl rfl rfl (by decide +kernel) ⟨Nat.le_of_ble_eq_true rfl, Nat.le_of_ble_eq_true rfl⟩) (kPreV hE hPc hDc (ci := 1) (q0 := 0) rfl rfl) rfl rfl hl.1 rfl (lv_room (Nat.le_of_ble_eq_true rfl)) dX3_keep_83 ⟨Nat.zero_le _, Nat.zero_le _⟩) hP hD hS hA [15, 16, 17, 18, 19, 20, 21, 22, 23, 24, 25, 26, 27, 2, 3, 4, 5, 6, 7, 8, 9, 10, 11, 12, 13, 14] [0, 1] [0, 1, 15, 16, 17, 18, 19, 20, 21, 22, 23, 24, 25, 26, 27, 2, 3, 4, 5, 6, 7, 8, 9, 10, 11, 12, 13, 14] rfl rfl (by decide) (by decide) rfl (by decide) (fun H locs hP hD hS => ?_)
        refine lv_aload_n hx hb dX3_keep_86 rfl (lv_at hl 2 rfl) ?_
        refine lv_dup hx hb dX3_keep_87 rfl ?_
        refine va_get (D := D) (ci := 3) (v := .int (nI n)) (C := RX3) (T := TX3) (N := 3) hx hb hts u3 hown hK hP 0 rfl rfl 2 (by decide) k0 (fun _ h9 => h9) rfl dX3_keep_88 ?_
        refine lv_iconst (v := 1) hx hb dX3_keep_91 (by decide) ?_
        refine k_iadd (v := nI (n + 1)) hx hb dX3_keep_92 (nI_add n 1) ?_
        refine va_put (D := D) (ci := 3) (v := .int (nI (n + 1))) (ty := .int) (C := RX3) (T := TX3) (N := 3) hx hb hts u3 tyX3 tyX3_ok nmX3 hown hK hP hD hS 0 rfl rfl 2 (by decide) k0 (fun _ h9 => h9) rfl (by decide +kernel) rfl rfl (Nat.le_of_ble_eq_true rfl) dX3_keep_93 (fun H locs hP hD hS => ?_)
        have hP : va_P D vwCl (wKR I Q h0 h1 c0 e0 e1 e2 p0 p1 p2 w0 w1 w2 g0 g1 g2 c0x e0x e1x e2x p0x p1x p2x w0x w1x w2x g0x g1x g2x ev dbl pn us wd kp tl tk cb sz lg gr wt lt mv (nI o) (nI (n + 1)) fp ev dbl pn us wd kp tl tk cb sz lg gr wt lt mv) H := hP
        have hD : va_D A (wKR I Q h0 h1 c0 e0 e1 e2 p0 p1 p2 w0 w1 w2 g0 g1 g2 c0x e0x e1x e2x p0x p1x p2x w0x w1x w2x g0x g1x g2x ev dbl pn us wd kp tl tk cb sz lg gr wt lt mv (nI o) (nI (n + 1)) fp ev dbl pn us wd kp tl tk cb sz lg gr wt lt mv) := hD
        exact hend _ _ _ _ _ hP hD hS dX3_keep_96 (by simp only [m_rns, h_ol, if_pos hlt2])
  · have h4 : n = 4 := (nI_eq (a := n) (b := 4) (by omega) (by omega)).mp c_5
    refine lv_aload_n hx hb dX3_keep_8 rfl (lv_at hl 0 rfl) ?_
    refine lv_aload_n hx hb dX3_keep_9 rfl (lv_at hl 0 rfl) ?_
    refine va_get (D := D) (ci := 3) (v := .int (nI o)) (C := RX3) (T := TX3) (N := 3) hx hb hts u3 hown hK hP 0 rfl rfl 1 (by decide) k1 (fun _ h9 => h9) rfl dX3_keep_10 ?_
    refine lv_iconst (v := 1) hx hb dX3_keep_13 (by decide) ?_
    refine k_iadd (v := nI (o + 1)) hx hb dX3_keep_14 (nI_add o 1) ?_
    refine lv_iconst (v := 4) hx hb dX3_keep_15 (by decide) ?_
    refine k_irem (v := nI ((o + 1) % 4)) hx hb dX3_keep_16 (k_remN (a := o + 1) (b := 4) (by omega) (by omega) (by omega)) ?_
    refine va_put (D := D) (ci := 3) (v := .int (nI ((o + 1) % 4))) (ty := .int) (C := RX3) (T := TX3) (N := 3) hx hb hts u3 tyX3 tyX3_ok nmX3 hown hK hP hD hS 0 rfl rfl 1 (by decide) k1 (fun _ h9 => h9) rfl (by decide +kernel) rfl rfl (Nat.le_of_ble_eq_true rfl) dX3_keep_17 (fun H locs hP hD hS => ?_)
    have hP : va_P D vwCl (wKR I Q h0 h1 c0 e0 e1 e2 p0 p1 p2 w0 w1 w2 g0 g1 g2 c0x e0x e1x e2x p0x p1x p2x w0x w1x w2x g0x g1x g2x ev dbl pn us wd kp tl tk cb sz lg gr wt lt mv (nI ((o + 1) % 4)) (nI n) fp evx dblx pnx usx wdx kpx tlx tkx cbx szx lgx grx wtx ltx mvx) H := hP
    have hD : va_D A (wKR I Q h0 h1 c0 e0 e1 e2 p0 p1 p2 w0 w1 w2 g0 g1 g2 c0x e0x e1x e2x p0x p1x p2x w0x w1x w2x g0x g1x g2x ev dbl pn us wd kp tl tk cb sz lg gr wt lt mv (nI ((o + 1) % 4)) (nI n) fp evx dblx pnx usx wdx kpx tlx tkx cbx szx lgx grx wtx ltx mvx) := hD
    refine lv_aload_n hx hb dX3_keep_20 rfl (lv_at hl 0 rfl) ?_
    refine lv_dup hx hb dX3_keep_21 rfl ?_
    refine va_get (D := D) (ci := 3) (v := .int (nI n)) (C := RX3) (T := TX3) (N := 3) hx hb hts u3 hown hK hP 0 rfl rfl 2 (by decide) k0 (fun _ h9 => h9) rfl dX3_keep_22 ?_
    refine lv_iconst (v := 1) hx hb dX3_keep_25 (by decide) ?_
    refine k_isub (v := 3) hx hb dX3_keep_26 (by rw [h4]; decide) ?_
    refine va_put (D := D) (ci := 3) (v := .int 3) (ty := .int) (C := RX3) (T := TX3) (N := 3) hx hb hts u3 tyX3 tyX3_ok nmX3 hown hK hP hD hS 0 rfl rfl 2 (by decide) k0 (fun _ h9 => h9) rfl (by decide +kernel) rfl rfl (Nat.le_of_ble_eq_true rfl) dX3_keep_27 (fun H locs hP hD hS => ?_)
    have hP : va_P D vwCl (wKR I Q h0 h1 c0 e0 e1 e2 p0 p1 p2 w0 w1 w2 g0 g1 g2 c0x e0x e1x e2x p0x p1x p2x w0x w1x w2x g0x g1x g2x ev dbl pn us wd kp tl tk cb sz lg gr wt lt mv (nI ((o + 1) % 4)) 3 fp evx dblx pnx usx wdx kpx tlx tkx cbx szx lgx grx wtx ltx mvx) H := hP
    have hD : va_D A (wKR I Q h0 h1 c0 e0 e1 e2 p0 p1 p2 w0 w1 w2 g0 g1 g2 c0x e0x e1x e2x p0x p1x p2x w0x w1x w2x g0x g1x g2x ev dbl pn us wd kp tl tk cb sz lg gr wt lt mv (nI ((o + 1) % 4)) 3 fp evx dblx pnx usx wdx kpx tlx tkx cbx szx lgx grx wtx ltx mvx) := hD
    refine lv_aload_n hx hb dX3_keep_30 rfl (lv_at hl 0 rfl) ?_
    refine va_get (D := D) (ci := 3) (v := .int (nI ((o + 1) % 4))) (C := RX3) (T := TX3) (N := 3) hx hb hts u3 hown hK hP 0 rfl rfl 1 (by decide) k1 (fun _ h9 => h9) rfl dX3_keep_31 ?_
    refine lv_aload_n hx hb dX3_keep_34 rfl (lv_at hl 0 rfl) ?_
    refine va_get (D := D) (ci := 3) (v := .int 3) (C := RX3) (T := TX3) (N := 3) hx hb hts u3 hown hK hP 0 rfl rfl 2 (by decide) k0 (fun _ h9 => h9) rfl dX3_keep_35 ?_
    refine k_iadd (v := nI ((o + 1) % 4 + 3)) hx hb dX3_keep_38 (nI_add ((o + 1) % 4) 3) ?_
    refine lv_iconst (v := 4) hx hb dX3_keep_39 (by decide) ?_
    refine k_irem (v := nI (h_pl o n)) hx hb dX3_keep_40 (by rw [h_pl, if_neg (by omega)]; exact k_remN (a := (o + 1) % 4 + 3) (b := 4) (by omega) (by omega) (by omega)) ?_
    refine lv_istore_n (lv' := [(2, .int (nI (h_pl o n))), (0, .ref h0), (1, .ref c0)]) hx hb dX3_keep_41 rfl hl (by decide) rfl (fun ls hl => ?_)
    refine lv_iload_n hx hb dX3_keep_42 rfl (lv_at hl 0 rfl) ?_
    refine lv_if_lt (tgt := 96) hx hb dX3_keep_43 (by decide) (fun c_43 => ?_) (fun c_43 => ?_)
    · exact absurd c_43 (nI_pos (by omega))
    · refine lv_iload_n hx hb dX3_keep_46 rfl (lv_at hl 0 rfl) ?_
      refine lv_aload_n hx hb dX3_keep_47 rfl (lv_at hl 1 rfl) ?_
      refine va_get (D := D) (ci := 3) (v := .ref h1) (C := RX3) (T := TX3) (N := 3) hx hb hts u3 hown hK hP 0 rfl rfl 0 (by decide) k2 (fun _ h9 => h9) rfl dX3_keep_48 ?_
      refine va_alen (v := 4) hx hb hK hP 1 2 rfl rfl rfl dX3_keep_51 ?_
      refine lv_icmp_ge (tgt := 96) hx hb dX3_keep_52 (by decide) (fun c_52 => ?_) (fun c_52 => ?_)
      · exact absurd ((nI_leI (a := 4) (b := h_pl o n) (by omega) (by omega)).mp c_52) (by omega)
      · refine lv_aload_n hx hb dX3_keep_55 rfl (lv_at hl 1 rfl) ?_
        refine va_get (D := D) (ci := 3) (v := .ref h1) (C := RX3) (T := TX3) (N := 3) hx hb hts u3 hown hK hP 0 rfl rfl 0 (by decide) k2 (fun _ h9 => h9) rfl dX3_keep_56 ?_
        refine lv_iload_n hx hb dX3_keep_59 rfl (lv_at hl 0 rfl) ?_
        refine k_aald (j := h_pl o n) (v := .ref c0x) hx hb hK hP 1 2 rfl rfl rfl hpl (by decide) (by rw [hfp]; rfl) dX3_keep_60 ?_
        refine lv_astore_n (lv' := [(3, .ref c0x), (2, .int (nI (h_pl o n))), (0, .ref h0), (1, .ref c0)]) hx hb dX3_keep_61 rfl hl (by decide) rfl (fun ls hl => ?_)
        refine lv_aload_n hx hb dX3_keep_62 rfl (lv_at hl 0 rfl) ?_
        refine lv_ifnonnull (tgt := 81) hx hb dX3_keep_63 (by decide) ?_
        refine lv_aload_n hx hb dX3_keep_81 rfl (lv_at hl 0 rfl) ?_
        refine lv_aload_n hx hb dX3_keep_82 rfl (lv_at hl 3 rfl) ?_
        have hPc := hP.sub (ws' := (wCC I c0x e0x e1x e2x p0x p1x p2x w0x w1x w2x g0x g1x g2x c0 e0 e1 e2 p0 p1 p2 w0 w1 w2 g0 g1 g2 evx dblx pnx usx wdx kpx tlx tkx cbx szx lgx grx wtx ltx mvx ev dbl pn us wd kp tl tk cb sz lg gr wt lt mv)) [15, 16, 17, 18, 19, 20, 21, 22, 23, 24, 25, 26, 27, 2, 3, 4, 5, 6, 7, 8, 9, 10, 11, 12, 13, 14] rfl
        have hDc := hD.sub (ws' := (wCC I c0x e0x e1x e2x p0x p1x p2x w0x w1x w2x g0x g1x g2x c0 e0 e1 e2 p0 p1 p2 w0 w1 w2 g0 g1 g2 evx dblx pnx usx wdx kpx tlx tkx cbx szx lgx grx wtx ltx mvx ev dbl pn us wd kp tl tk cb sz lg gr wt lt mv)) [15, 16, 17, 18, 19, 20, 21, 22, 23, 24, 25, 26, 27, 2, 3, 4, 5, 6, 7, 8, 9, 10, 11, 12, 13, 14] (by decide) rfl
        refine k_v (wr := [(h0, .inr (3, [.ref h1, .int (nI ((o + 1) % 4)), .int 3])), (h1, .inl (Q, 4, .inr (.inr (.inr (.inr fp)))))]) (ws' := (wKR I Q h0 h1 c0 e0 e1 e2 p0 p1 p2 w0 w1 w2 g0 g1 g2 c0x e0x e1x e2x p0x p1x p2x w0x w1x w2x g0x g1x g2x ev dbl pn us wd kp tl tk cb sz lg gr wt lt mv (nI ((o + 1) % 4)) 3 fp ev dbl pn us wd kp tl tk cb sz lg gr wt lt mv)) (va_runV (As := [.ref c0]) (rest := []) hF (c_X1_copyFrom l D I C Q c0x e0x e1x e2x p0x p1x p2x w0x w1x w2x g0x g1x g2x c0 e0 e1 e2 p0 p1 p2 w0 w1 w2 g0 g1 g2 evx dblx pnx usx wdx kpx tlx tkx cbx szx lgx grx wtx ltx mvx ev dbl pn us wd kp tl tk cb sz lg gr wt lt mv hmv _) (cwV 1 hts gX3_keep_X1_copyFrom rfl rfl rfl (by decide +kernel) ⟨Nat.le_of_ble_eq_true rfl, Nat.le_of_ble_eq_true rfl⟩) (kPreV hE hPc hDc (ci := 1) (q0 := 0) rfl rfl) rfl rfl hl.1 rfl (lv_room (Nat.le_of_ble_eq_true rfl)) dX3_keep_83 ⟨Nat.zero_le _, Nat.zero_le _⟩) hP hD hS hA [15, 16, 17, 18, 19, 20, 21, 22, 23, 24, 25, 26, 27, 2, 3, 4, 5, 6, 7, 8, 9, 10, 11, 12, 13, 14] [0, 1] [0, 1, 15, 16, 17, 18, 19, 20, 21, 22, 23, 24, 25, 26, 27, 2, 3, 4, 5, 6, 7, 8, 9, 10, 11, 12, 13, 14] rfl rfl (by decide) (by decide) rfl (by decide) (fun H locs hP hD hS => ?_)
        refine lv_aload_n hx hb dX3_keep_86 rfl (lv_at hl 2 rfl) ?_
        refine lv_dup hx hb dX3_keep_87 rfl ?_
        refine va_get (D := D) (ci := 3) (v := .int 3) (C := RX3) (T := TX3) (N := 3) hx hb hts u3 hown hK hP 0 rfl rfl 2 (by decide) k0 (fun _ h9 => h9) rfl dX3_keep_88 ?_
        refine lv_iconst (v := 1) hx hb dX3_keep_91 (by decide) ?_
        refine k_iadd (v := 4) hx hb dX3_keep_92 (nI_add 3 1) ?_
        refine va_put (D := D) (ci := 3) (v := .int 4) (ty := .int) (C := RX3) (T := TX3) (N := 3) hx hb hts u3 tyX3 tyX3_ok nmX3 hown hK hP hD hS 0 rfl rfl 2 (by decide) k0 (fun _ h9 => h9) rfl (by decide +kernel) rfl rfl (Nat.le_of_ble_eq_true rfl) dX3_keep_93 (fun H locs hP hD hS => ?_)
        have hP : va_P D vwCl (wKR I Q h0 h1 c0 e0 e1 e2 p0 p1 p2 w0 w1 w2 g0 g1 g2 c0x e0x e1x e2x p0x p1x p2x w0x w1x w2x g0x g1x g2x ev dbl pn us wd kp tl tk cb sz lg gr wt lt mv (nI ((o + 1) % 4)) 4 fp ev dbl pn us wd kp tl tk cb sz lg gr wt lt mv) H := hP
        have hD : va_D A (wKR I Q h0 h1 c0 e0 e1 e2 p0 p1 p2 w0 w1 w2 g0 g1 g2 c0x e0x e1x e2x p0x p1x p2x w0x w1x w2x g0x g1x g2x ev dbl pn us wd kp tl tk cb sz lg gr wt lt mv (nI ((o + 1) % 4)) 4 fp ev dbl pn us wd kp tl tk cb sz lg gr wt lt mv) := hD
        exact hend _ _ _ _ _ hP hD hS dX3_keep_96 (by simp only [m_rns, h_ol, if_neg (show ¬ n < 4 by omega)]; rfl)
set_option maxHeartbeats 400000 in
set_option maxRecDepth 100000 in
theorem c_X3_restore (l : Launch) (D : va_G) (I C Q : ClassId) (h0 h1 c0 e0 e1 e2 p0 p1 p2 w0 w1 w2 g0 g1 g2 c0x e0x e1x e2x p0x p1x p2x w0x w1x w2x g0x g1x g2x : Nat) (ev : Nat → Int32) (dbl : Int32) (pn : Nat → Int32) (us : Int32) (wd : Nat → Int32) (kp : Int32) (tl : Int32) (tk : Int32) (cb : Nat → Int32) (sz : Int32) (lg : Int32) (gr : Int32) (wt : Int32) (lt : Int32) (mv : Int32) (o : Nat) (n : Nat) (fp : Nat → Option Nat) (evx : Nat → Int32) (dblx : Int32) (pnx : Nat → Int32) (usx : Int32) (wdx : Nat → Int32) (kpx : Int32) (tlx : Int32) (tkx : Int32) (cbx : Nat → Int32) (szx : Int32) (lgx : Int32) (grx : Int32) (wtx : Int32) (ltx : Int32) (mvx : Int32) (hn0 : 0 < n) (hn4 : n ≤ 4) (ho4 : o < 4) (hfp : fp ((o + n - 1) % 4) = some c0x) (hmvx : mvx = 0 ∨ mvx = 1) : KV l D (tyL I C Q) yX3_restore wsX3_restore { frames := 5, cells := 0, slots := 0, locals := 124 } [.ref h0, .ref c0] (wKR I Q h0 h1 c0 e0 e1 e2 p0 p1 p2 w0 w1 w2 g0 g1 g2 c0x e0x e1x e2x p0x p1x p2x w0x w1x w2x g0x g1x g2x ev dbl pn us wd kp tl tk cb sz lg gr wt lt mv (nI o) (nI n) fp evx dblx pnx usx wdx kpx tlx tkx cbx szx lgx grx wtx ltx mvx) (wKR I Q h0 h1 c0 e0 e1 e2 p0 p1 p2 w0 w1 w2 g0 g1 g2 c0x e0x e1x e2x p0x p1x p2x w0x w1x w2x g0x g1x g2x evx dblx pnx usx wdx kpx tlx tkx cbx szx lgx grx wtx ltx mvx (nI o) (nI (n - 1)) fp evx dblx pnx usx wdx kpx tlx tkx cbx szx lgx grx wtx ltx mvx) := by
  refine KV.of (cc := cX3_restore) (maxL := 4) (own := RX3) (by decide) rfl rfl (Nat.le_of_ble_eq_true rfl) ?_
  intro p e s m below meth c A Q0 ls hx hb hml hown hts hE hA hP hD hS hl hend
  have hK := hE.1
  have hF : CallFix p m c cX3_restore 4 s [.ref h0, .ref c0].toArray wsX3_restore RX3 := ⟨hx, hb, hml, hown, hts⟩
  have k0 := hts (.fieldLink RX3 19 "LateExcuses$History" "oldest" "I") (List.mem_of_getElem? (i := 1) rfl)
  have k1 := hts (.fieldLink RX3 15 "LateExcuses$History" "states" "I") (List.mem_of_getElem? (i := 2) rfl)
  have k2 := hts (.fieldLink RX3 11 "LateExcuses$History" "past" "[LLateExcuses$Court;") (List.mem_of_getElem? (i := 3) rfl)
  have u3 : ∀ w ∈ u_ws RX3 TX3 3, w ∈ wsX3_restore := by decide +kernel
  have hl : lv_has ls 4 [(0, .ref h0), (1, .ref c0)] := hl
  refine lv_aload_n hx hb dX3_restore_0 rfl (lv_at hl 0 rfl) ?_
  refine va_get (D := D) (ci := 3) (v := .int (nI o)) (C := RX3) (T := TX3) (N := 3) hx hb hts u3 hown hK hP 0 rfl rfl 1 (by decide) k0 (fun _ h9 => h9) rfl dX3_restore_1 ?_
  refine lv_aload_n hx hb dX3_restore_4 rfl (lv_at hl 0 rfl) ?_
  refine va_get (D := D) (ci := 3) (v := .int (nI n)) (C := RX3) (T := TX3) (N := 3) hx hb hts u3 hown hK hP 0 rfl rfl 2 (by decide) k1 (fun _ h9 => h9) rfl dX3_restore_5 ?_
  refine k_iadd (v := nI (o + n)) hx hb dX3_restore_8 (nI_add o n) ?_
  refine lv_iconst (v := 1) hx hb dX3_restore_9 (by decide) ?_
  refine k_isub (v := nI (o + n - 1)) hx hb dX3_restore_10 (pk_sub (a := o + n) (b := 1) (by omega)) ?_
  refine lv_iconst (v := 4) hx hb dX3_restore_11 (by decide) ?_
  refine k_irem (v := nI ((o + n - 1) % 4)) hx hb dX3_restore_12 (k_remN (a := o + n - 1) (b := 4) (by omega) (by omega) (by omega)) ?_
  refine lv_istore_n (lv' := [(2, .int (nI ((o + n - 1) % 4))), (0, .ref h0), (1, .ref c0)]) hx hb dX3_restore_13 rfl hl (by decide) rfl (fun ls hl => ?_)
  refine lv_aload_n hx hb dX3_restore_14 rfl (lv_at hl 1 rfl) ?_
  refine va_get (D := D) (ci := 3) (v := .int (nI n)) (C := RX3) (T := TX3) (N := 3) hx hb hts u3 hown hK hP 0 rfl rfl 2 (by decide) k1 (fun _ h9 => h9) rfl dX3_restore_15 ?_
  refine lv_if_le (tgt := 60) hx hb dX3_restore_18 (by decide) (fun c_18 => ?_) (fun c_18 => ?_)
  · exact absurd c_18 (nI_nle hn0 (by omega))
  · refine lv_iload_n hx hb dX3_restore_21 rfl (lv_at hl 0 rfl) ?_
    refine lv_if_lt (tgt := 60) hx hb dX3_restore_22 (by decide) (fun c_22 => ?_) (fun c_22 => ?_)
    · exact absurd c_22 (nI_pos (by omega))
    · refine lv_iload_n hx hb dX3_restore_25 rfl (lv_at hl 0 rfl) ?_
      refine lv_aload_n hx hb dX3_restore_26 rfl (lv_at hl 1 rfl) ?_
      refine va_get (D := D) (ci := 3) (v := .ref h1) (C := RX3) (T := TX3) (N := 3) hx hb hts u3 hown hK hP 0 rfl rfl 0 (by decide) k2 (fun _ h9 => h9) rfl dX3_restore_27 ?_
      refine va_alen (v := 4) hx hb hK hP 1 2 rfl rfl rfl dX3_restore_30 ?_
      refine lv_icmp_ge (tgt := 60) hx hb dX3_restore_31 (by decide) (fun c_31 => ?_) (fun c_31 => ?_)
      · exact absurd ((nI_leI (a := 4) (b := (o + n - 1) % 4) (by omega) (by omega)).mp c_31) (by omega)
      · refine lv_aload_n hx hb dX3_restore_34 rfl (lv_at hl 1 rfl) ?_
        refine va_get (D := D) (ci := 3) (v := .ref h1) (C := RX3) (T := TX3) (N := 3) hx hb hts u3 hown hK hP 0 rfl rfl 0 (by decide) k2 (fun _ h9 => h9) rfl dX3_restore_35 ?_
        refine lv_iload_n hx hb dX3_restore_38 rfl (lv_at hl 0 rfl) ?_
        refine k_aald (j := (o + n - 1) % 4) (v := .ref c0x) hx hb hK hP 1 2 rfl rfl rfl (by omega) (by decide) (by rw [hfp]; rfl) dX3_restore_39 ?_
        refine lv_astore_n (lv' := [(3, .ref c0x), (2, .int (nI ((o + n - 1) % 4))), (0, .ref h0), (1, .ref c0)]) hx hb dX3_restore_40 rfl hl (by decide) rfl (fun ls hl => ?_)
        refine lv_aload_n hx hb dX3_restore_41 rfl (lv_at hl 0 rfl) ?_
        refine lv_ifnull hx hb dX3_restore_42 ?_
        refine lv_aload_n hx hb dX3_restore_45 rfl (lv_at hl 3 rfl) ?_
        refine lv_aload_n hx hb dX3_restore_46 rfl (lv_at hl 0 rfl) ?_
        have hPc := hP.sub (ws' := (wCC I c0 e0 e1 e2 p0 p1 p2 w0 w1 w2 g0 g1 g2 c0x e0x e1x e2x p0x p1x p2x w0x w1x w2x g0x g1x g2x ev dbl pn us wd kp tl tk cb sz lg gr wt lt mv evx dblx pnx usx wdx kpx tlx tkx cbx szx lgx grx wtx ltx mvx)) [2, 3, 4, 5, 6, 7, 8, 9, 10, 11, 12, 13, 14, 15, 16, 17, 18, 19, 20, 21, 22, 23, 24, 25, 26, 27] rfl
        have hDc := hD.sub (ws' := (wCC I c0 e0 e1 e2 p0 p1 p2 w0 w1 w2 g0 g1 g2 c0x e0x e1x e2x p0x p1x p2x w0x w1x w2x g0x g1x g2x ev dbl pn us wd kp tl tk cb sz lg gr wt lt mv evx dblx pnx usx wdx kpx tlx tkx cbx szx lgx grx wtx ltx mvx)) [2, 3, 4, 5, 6, 7, 8, 9, 10, 11, 12, 13, 14, 15, 16, 17, 18, 19, 20, 21, 22, 23, 24, 25, 26, 27] (by decide) rfl
        refine k_v (wr := [(h0, .inr (3, [.ref h1, .int (nI o), .int (nI n)])), (h1, .inl (Q, 4, .inr (.inr (.inr (.inr fp)))))]) (ws' := (wKR I Q h0 h1 c0 e0 e1 e2 p0 p1 p2 w0 w1 w2 g0 g1 g2 c0x e0x e1x e2x p0x p1x p2x w0x w1x w2x g0x g1x g2x evx dblx pnx usx wdx kpx tlx tkx cbx szx lgx grx wtx ltx mvx (nI o) (nI n) fp evx dblx pnx usx wdx kpx tlx tkx cbx szx lgx grx wtx ltx mvx)) (va_runV (As := [.ref c0x]) (rest := []) hF (c_X1_copyFrom l D I C Q c0 e0 e1 e2 p0 p1 p2 w0 w1 w2 g0 g1 g2 c0x e0x e1x e2x p0x p1x p2x w0x w1x w2x g0x g1x g2x ev dbl pn us wd kp tl tk cb sz lg gr wt lt mv evx dblx pnx usx wdx kpx tlx tkx cbx szx lgx grx wtx ltx mvx hmvx _) (cwV 1 hts gX3_restore_X1_copyFrom rfl rfl rfl (by decide +kernel) ⟨Nat.le_of_ble_eq_true rfl, Nat.le_of_ble_eq_true rfl⟩) (kPreV hE hPc hDc (ci := 1) (q0 := 0) rfl rfl) rfl rfl hl.1 rfl (lv_room (Nat.le_of_ble_eq_true rfl)) dX3_restore_47 ⟨Nat.zero_le _, Nat.zero_le _⟩) hP hD hS hA [2, 3, 4, 5, 6, 7, 8, 9, 10, 11, 12, 13, 14, 15, 16, 17, 18, 19, 20, 21, 22, 23, 24, 25, 26, 27] [0, 1] [0, 1, 2, 3, 4, 5, 6, 7, 8, 9, 10, 11, 12, 13, 14, 15, 16, 17, 18, 19, 20, 21, 22, 23, 24, 25, 26, 27] rfl rfl (by decide) (by decide) rfl (by decide) (fun H locs hP hD hS => ?_)
        refine lv_aload_n hx hb dX3_restore_50 rfl (lv_at hl 2 rfl) ?_
        refine lv_dup hx hb dX3_restore_51 rfl ?_
        refine va_get (D := D) (ci := 3) (v := .int (nI n)) (C := RX3) (T := TX3) (N := 3) hx hb hts u3 hown hK hP 0 rfl rfl 2 (by decide) k1 (fun _ h9 => h9) rfl dX3_restore_52 ?_
        refine lv_iconst (v := 1) hx hb dX3_restore_55 (by decide) ?_
        refine k_isub (v := nI (n - 1)) hx hb dX3_restore_56 (pk_sub (a := n) (b := 1) (by omega)) ?_
        refine va_put (D := D) (ci := 3) (v := .int (nI (n - 1))) (ty := .int) (C := RX3) (T := TX3) (N := 3) hx hb hts u3 tyX3 tyX3_ok nmX3 hown hK hP hD hS 0 rfl rfl 2 (by decide) k1 (fun _ h9 => h9) rfl (by decide +kernel) rfl rfl (Nat.le_of_ble_eq_true rfl) dX3_restore_57 (fun H locs hP hD hS => ?_)
        have hP : va_P D vwCl (wKR I Q h0 h1 c0 e0 e1 e2 p0 p1 p2 w0 w1 w2 g0 g1 g2 c0x e0x e1x e2x p0x p1x p2x w0x w1x w2x g0x g1x g2x evx dblx pnx usx wdx kpx tlx tkx cbx szx lgx grx wtx ltx mvx (nI o) (nI (n - 1)) fp evx dblx pnx usx wdx kpx tlx tkx cbx szx lgx grx wtx ltx mvx) H := hP
        have hD : va_D A (wKR I Q h0 h1 c0 e0 e1 e2 p0 p1 p2 w0 w1 w2 g0 g1 g2 c0x e0x e1x e2x p0x p1x p2x w0x w1x w2x g0x g1x g2x evx dblx pnx usx wdx kpx tlx tkx cbx szx lgx grx wtx ltx mvx (nI o) (nI (n - 1)) fp evx dblx pnx usx wdx kpx tlx tkx cbx szx lgx grx wtx ltx mvx) := hD
        exact hend _ _ _ _ _ hP hD hS dX3_restore_60 rfl
