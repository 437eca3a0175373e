set_option maxHeartbeats 400000 in
set_option maxRecDepth 100000 in
theorem c_X1_moveBack (l : Launch) (D : va_G) (I C Q : ClassId) (c0 e0 e1 e2 p0 p1 p2 w0 w1 w2 g0 g1 g2 : Nat) (ev : Nat → Int32) (dbl : Int32) (pn : Nat → Int32) (u : Nat) (wd : Nat → Int32) (w : Nat) (tl : Int32) (tk : Int32) (cb : Nat → Int32) (z : Nat) (lg : Int32) (gr : Int32) (v : Nat) (lt : Int32) (mv : Int32) (m0 : Nat) (ti : Int32) (hz0 : 0 < z) (hz1 : z ≤ 100) (hu64 : u ≤ 64) (hw40 : w ≤ 40) (hv : v < 2000) (hm0 : (if 0 < c_mk (nI v) ti then c_mk (nI v) ti else 0) = nI m0) (hmv : m0 ≤ v) : KI l D (tyL I C Q) yX1_moveBack wsX1_moveBack { frames := 5, cells := 0, slots := 0, locals := 127 } [.ref c0, .int ti] (wC I c0 e0 e1 e2 p0 p1 p2 w0 w1 w2 g0 g1 g2 ev dbl pn (nI u) wd (nI w) tl tk cb (nI z) lg gr (nI v) lt mv) (wC I c0 e0 e1 e2 p0 p1 p2 w0 w1 w2 g0 g1 g2 ev dbl ((c_mbL v z u (v / z - m0 / z) (m0 / z) 0 (pn, wd, w, tk)).2.1) (nI u) ((c_mbL v z u (v / z - m0 / z) (m0 / z) 0 (pn, wd, w, tk)).2.2.1) (nI (c_mbL v z u (v / z - m0 / z) (m0 / z) 0 (pn, wd, w, tk)).2.2.2.1) tl ((c_mbL v z u (v / z - m0 / z) (m0 / z) 0 (pn, wd, w, tk)).2.2.2.2) cb (nI z) lg gr (c_mk (nI v) ti) lt 1) (nI (c_mbL v z u (v / z - m0 / z) (m0 / z) 0 (pn, wd, w, tk)).1) := by
  have hd : m0 / z ≤ v / z := Nat.div_le_div_right hmv
  have hvz : v / z ≤ v := Nat.div_le_self _ _
  refine KI.of (cc := cX1_moveBack) (maxL := 6) (rt := .int) (own := RX1) (by decide) rfl rfl (Nat.le_of_ble_eq_true rfl) ?_
  intro p e s m below meth c A Q0 ls hx hb hml hown hts hE hA hP hD hS hl hend
  have hK := hE.1
  have hF : CallFix p m c cX1_moveBack 6 s [.ref c0, .int ti].toArray wsX1_moveBack RX1 := ⟨hx, hb, hml, hown, hts⟩
  have k0 := hts (.fieldLink RX1 42 "LateExcuses$Court" "watermark" "I") (List.mem_of_getElem? (i := 1) rfl)
  have k1 := hts (.methodLink RX1 109 Lib.Math.max.name) (List.mem_of_getElem? (i := 2) rfl)
  have k2 := hts (.static Lib.Math.max.name) (List.mem_of_getElem? (i := 3) rfl)
  have k3 := hts (.initialized "java/lang/Math") (List.mem_of_getElem? (i := 4) rfl)
  have k4 := hts (.code Lib.Math.max.name Lib.Math.max.code 2 (some .int)) (List.mem_of_getElem? (i := 5) rfl)
  have k5 := hts (.fieldLink RX1 58 "LateExcuses$Court" "moved" "Z") (List.mem_of_getElem? (i := 7) rfl)
  have k6 := hts (.fieldLink RX1 21 "LateExcuses$Court" "panes" "LLateExcuses$Panes;") (List.mem_of_getElem? (i := 6) rfl)
  have u1 : ∀ w ∈ u_ws RX1 TX1 9, w ∈ wsX1_moveBack := by decide +kernel
  have hl : lv_has ls 6 [(0, .ref c0), (1, .int ti)] := hl
  refine lv_iconst (v := (-1)) hx hb dX1_moveBack_0 (by decide) ?_
  refine lv_aload_n hx hb dX1_moveBack_1 rfl (lv_at hl 0 rfl) ?_
  refine va_get (D := D) (ci := 1) (v := .int (nI v)) (C := RX1) (T := TX1) (N := 9) hx hb hts u1 hown hK hP 0 rfl rfl 6 (by decide) k0 (fun _ h9 => h9) rfl dX1_moveBack_2 ?_
  refine lv_iload_n hx hb dX1_moveBack_5 rfl (lv_at hl 1 rfl) ?_
  refine lv_isub hx hb dX1_moveBack_6 ?_
  refine va_mmax hx hb (hml.trans hl.1.symm) hown k1 k2 k3 k4 (Nat.le_of_ble_eq_true rfl) (Nat.le_of_ble_eq_true rfl) (Nat.zero_le _) (Nat.zero_le _) dX1_moveBack_7 ?_
  refine k_top (y := c_mk (nI v) ti) rfl ?_
  refine lv_istore_n (lv' := [(2, .int (c_mk (nI v) ti)), (0, .ref c0), (1, .int ti)]) hx hb dX1_moveBack_10 rfl hl (by decide) rfl (fun ls hl => ?_)
  refine lv_iconst (v := 0) hx hb dX1_moveBack_11 (by decide) ?_
  refine lv_istore_n (lv' := [(3, .int 0), (2, .int (c_mk (nI v) ti)), (0, .ref c0), (1, .int ti)]) hx hb dX1_moveBack_12 rfl hl (by decide) rfl (fun ls hl => ?_)
  refine lv_aload_n hx hb dX1_moveBack_13 rfl (lv_at hl 2 rfl) ?_
  refine lv_aload_n hx hb dX1_moveBack_14 rfl (lv_at hl 2 rfl) ?_
  refine va_get (D := D) (ci := 1) (v := .int (nI v)) (C := RX1) (T := TX1) (N := 9) hx hb hts u1 hown hK hP 0 rfl rfl 6 (by decide) k0 (fun _ h9 => h9) rfl dX1_moveBack_15 ?_
  refine k_iF (va_runV (As := [.int (nI v)]) (rest := []) hF (c_X1_paneAtN l D I C Q c0 e0 e1 e2 p0 p1 p2 w0 w1 w2 g0 g1 g2 ev dbl pn (nI u) wd (nI w) tl tk cb z lg gr (nI v) lt mv v hz0 hz1 hv _) (cwV 1 hts gX1_moveBack_X1_paneAt rfl rfl rfl (by decide +kernel) ⟨Nat.le_of_ble_eq_true rfl, Nat.le_of_ble_eq_true rfl⟩) (kPreV hE hP hD (ci := 1) (q0 := 0) rfl rfl) rfl rfl hl.1 rfl (lv_room (Nat.le_of_ble_eq_true rfl)) dX1_moveBack_18 ⟨Nat.zero_le _, Nat.zero_le _⟩) hD hS hA (fun H locs hP hD hS => ?_)
  refine lv_istore (lv' := [(4, .int (nI (v / z))), (3, .int 0), (2, .int (c_mk (nI v) ti)), (0, .ref c0), (1, .int ti)]) hx hb dX1_moveBack_21 hl (by decide) rfl (fun ls hl => ?_)
  refine lv_aload_n hx hb dX1_moveBack_23 rfl (lv_at hl 3 rfl) ?_
  refine lv_iconst (v := 0) hx hb dX1_moveBack_24 (by decide) ?_
  refine lv_iload_n hx hb dX1_moveBack_25 rfl (lv_at hl 2 rfl) ?_
  refine va_mmax hx hb (hml.trans hl.1.symm) hown k1 k2 k3 k4 (Nat.le_of_ble_eq_true rfl) (Nat.le_of_ble_eq_true rfl) (Nat.zero_le _) (Nat.zero_le _) dX1_moveBack_26 ?_
  refine k_top (y := nI m0) hm0 ?_
  refine k_iF (va_runV (As := [.int (nI m0)]) (rest := []) hF (c_X1_paneAtN l D I C Q c0 e0 e1 e2 p0 p1 p2 w0 w1 w2 g0 g1 g2 ev dbl pn (nI u) wd (nI w) tl tk cb z lg gr (nI v) lt mv m0 hz0 hz1 (by omega) _) (cwV 1 hts gX1_moveBack_X1_paneAt rfl rfl rfl (by decide +kernel) ⟨Nat.le_of_ble_eq_true rfl, Nat.le_of_ble_eq_true rfl⟩) (kPreV hE hP hD (ci := 1) (q0 := 0) rfl rfl) rfl rfl hl.1 rfl (lv_room (Nat.le_of_ble_eq_true rfl)) dX1_moveBack_29 ⟨Nat.zero_le _, Nat.zero_le _⟩) hD hS hA (fun H locs hP hD hS => ?_)
  refine lv_istore (lv' := [(5, .int (nI (m0 / z))), (4, .int (nI (v / z))), (3, .int 0), (2, .int (c_mk (nI v) ti)), (0, .ref c0), (1, .int ti)]) hx hb dX1_moveBack_32 hl (by decide) rfl (fun ls hl => ?_)
  have loop34 : ∀ (n : Nat) (b : Nat) (cn : Nat) (S : PW), (b + n = v / z) → (S.2.2.1 ≤ 40) → ∀ (H : Heap) (locs : List Loc) (ls : Array Slot), va_P D vwCl (wC I c0 e0 e1 e2 p0 p1 p2 w0 w1 w2 g0 g1 g2 ev dbl S.1 (nI u) S.2.1 (nI S.2.2.1) tl S.2.2.2 cb (nI z) lg gr (nI v) lt mv) H → va_D A (wC I c0 e0 e1 e2 p0 p1 p2 w0 w1 w2 g0 g1 g2 ev dbl S.1 (nI u) S.2.1 (nI S.2.2.1) tl S.2.2.2 cb (nI z) lg gr (nI v) lt mv) → va_S A s.heap H locs → lv_has ls 6 [(0, .ref c0), (1, .int ti), (2, .int (c_mk (nI v) ti)), (3, .int (nI cn)), (4, .int (nI (v / z))), (5, .int (nI b))] → ((c_mbL v z u n b cn S) = (c_mbL v z u (v / z - m0 / z) (m0 / z) 0 (pn, wd, w, tk))) → W p l e ({ frames := 5, cells := 0, slots := 0, locals := 127 } : Room) s m [.ref c0, .int ti].toArray below meth c H locs 0 0 Q0 (F0 m 34 ls []) := by
    intro n
    induction n with
    | zero =>
      intro b cn S hk hSw H locs ls hP hD hS hl hr
      refine lv_iload hx hb dX1_moveBack_34 (lv_at hl 5 rfl) ?_
      refine lv_iload hx hb dX1_moveBack_36 (lv_at hl 4 rfl) ?_
      refine lv_icmp_ge (tgt := 69) hx hb dX1_moveBack_38 (by decide) (fun c_38 => ?_) (fun c_38 => ?_)
      · refine lv_aload_n hx hb dX1_moveBack_69 rfl (lv_at hl 0 rfl) ?_
        refine lv_iload_n hx hb dX1_moveBack_70 rfl (lv_at hl 2 rfl) ?_
        refine va_put (D := D) (ci := 1) (v := .int (c_mk (nI v) ti)) (ty := .int) (C := RX1) (T := TX1) (N := 9) hx hb hts u1 tyX1 tyX1_ok nmX1 hown hK hP hD hS 0 rfl rfl 6 (by decide) k0 (fun _ h9 => h9) rfl (by decide +kernel) rfl rfl (Nat.le_of_ble_eq_true rfl) dX1_moveBack_71 (fun H locs hP hD hS => ?_)
        have hP : va_P D vwCl (wC I c0 e0 e1 e2 p0 p1 p2 w0 w1 w2 g0 g1 g2 ev dbl S.1 (nI u) S.2.1 (nI S.2.2.1) tl S.2.2.2 cb (nI z) lg gr (c_mk (nI v) ti) lt mv) H := hP
        have hD : va_D A (wC I c0 e0 e1 e2 p0 p1 p2 w0 w1 w2 g0 g1 g2 ev dbl S.1 (nI u) S.2.1 (nI S.2.2.1) tl S.2.2.2 cb (nI z) lg gr (c_mk (nI v) ti) lt mv) := hD
        refine lv_aload_n hx hb dX1_moveBack_74 rfl (lv_at hl 0 rfl) ?_
        refine lv_iconst (v := 1) hx hb dX1_moveBack_75 (by decide) ?_
        refine va_put (D := D) (ci := 1) (v := .int 1) (ty := .boolean) (C := RX1) (T := TX1) (N := 9) hx hb hts u1 tyX1 tyX1_ok nmX1 hown hK hP hD hS 0 rfl rfl 8 (by decide) k5 (fun _ h9 => h9) rfl (by decide +kernel) (by decide) rfl (Nat.le_of_ble_eq_true rfl) dX1_moveBack_76 (fun H locs hP hD hS => ?_)
        have hP : va_P D vwCl (wC I c0 e0 e1 e2 p0 p1 p2 w0 w1 w2 g0 g1 g2 ev dbl S.1 (nI u) S.2.1 (nI S.2.2.1) tl S.2.2.2 cb (nI z) lg gr (c_mk (nI v) ti) lt 1) H := hP
        have hD : va_D A (wC I c0 e0 e1 e2 p0 p1 p2 w0 w1 w2 g0 g1 g2 ev dbl S.1 (nI u) S.2.1 (nI S.2.2.1) tl S.2.2.2 cb (nI z) lg gr (c_mk (nI v) ti) lt 1) := hD
        refine lv_iload_n hx hb dX1_moveBack_79 rfl (lv_at hl 3 rfl) ?_
        exact hend _ _ _ _ _ _ hP hD hS dX1_moveBack_80 rfl (by rw [← hr]; rfl) (by rw [← hr]; rfl)
      · exact absurd ((nI_leI (a := v / z) (b := b) (by omega) (by omega)).mpr (by omega)) c_38
    | succ n ih =>
      intro b cn S hk hSw H locs ls hP hD hS hl hr
      refine lv_iload hx hb dX1_moveBack_34 (lv_at hl 5 rfl) ?_
      refine lv_iload hx hb dX1_moveBack_36 (lv_at hl 4 rfl) ?_
      refine lv_icmp_ge (tgt := 69) hx hb dX1_moveBack_38 (by decide) (fun c_38 => ?_) (fun c_38 => ?_)
      · exact absurd ((nI_leI (a := v / z) (b := b) (by omega) (by omega)).mp c_38) (by omega)
      · refine lv_aload_n hx hb dX1_moveBack_41 rfl (lv_at hl 0 rfl) ?_
        refine lv_iload hx hb dX1_moveBack_42 (lv_at hl 5 rfl) ?_
        refine k_iF (va_runV (As := [.int (nI b)]) (rest := []) hF (c_X1_stateOf l D I C Q c0 e0 e1 e2 p0 p1 p2 w0 w1 w2 g0 g1 g2 ev dbl S.1 u S.2.1 (nI S.2.2.1) tl S.2.2.2 cb z lg gr (nI v) lt mv (nI b) hu64 _) (cwV 1 hts gX1_moveBack_X1_stateOf rfl rfl rfl (by decide +kernel) ⟨Nat.le_of_ble_eq_true rfl, Nat.le_of_ble_eq_true rfl⟩) (kPreV hE hP hD (ci := 1) (q0 := 0) rfl rfl) rfl rfl hl.1 rfl (lv_room (Nat.le_of_ble_eq_true rfl)) dX1_moveBack_44 ⟨Nat.zero_le _, Nat.zero_le _⟩) hD hS hA (fun H locs hP hD hS => ?_)
        refine lv_iconst (v := 1) hx hb dX1_moveBack_47 (by decide) ?_
        refine lv_icmp_ne (tgt := 63) hx hb dX1_moveBack_48 (by decide) (fun c_48 => ?_) (fun c_48 => ?_)
        · refine lv_iinc (v := nI (b + 1)) (lv' := [(5, .int (nI (b + 1))), (0, .ref c0), (1, .int ti), (2, .int (c_mk (nI v) ti)), (3, .int (nI cn)), (4, .int (nI (v / z)))]) hx hb dX1_moveBack_63 hl (k := 5) rfl (nI_inc b) (by decide) rfl (fun ls hl => ?_)
          refine lv_goto (tgt := 34) hx hb dX1_moveBack_66 (by decide) ?_
          exact ih (b + 1) cn S (by omega) hSw _ _ _ hP hD hS (lv_sub hl [1, 2, 3, 4, 5, 0] rfl) (by rw [← hr]; simp +decide only [c_mbL, c_48, if_true, if_false, not_true_eq_false, not_false_eq_true, and_self, and_true, true_and, and_false, false_and, kn01, kn10, kn02, kn20, kn12, kn21, eq_self])
        · refine lv_aload_n hx hb dX1_moveBack_51 rfl (lv_at hl 0 rfl) ?_
          refine va_get (D := D) (ci := 1) (v := .ref p0) (C := RX1) (T := TX1) (N := 9) hx hb hts u1 hown hK hP 0 rfl rfl 1 (by decide) k6 (fun _ h9 => h9) rfl dX1_moveBack_52 ?_
          refine lv_iload hx hb dX1_moveBack_55 (lv_at hl 5 rfl) ?_
          have hPc := hP.sub (ws' := (wPn I p0 p1 p2 w0 w1 w2 S.1 (nI u) S.2.1 (nI S.2.2.1) tl S.2.2.2)) [4, 5, 6, 7, 8, 9] rfl
          have hDc := hD.sub (ws' := (wPn I p0 p1 p2 w0 w1 w2 S.1 (nI u) S.2.1 (nI S.2.2.1) tl S.2.2.2)) [4, 5, 6, 7, 8, 9] (by decide) rfl
          refine k_v (wr := [(c0, .inr (1, [.ref e0, .ref p0, .ref g0, .int (nI z), .int lg, .int gr, .int (nI v), .int lt, .int mv])), (e0, .inr (2, [.ref e1, .int dbl])), (e1, .inr (5, [.int (nI 64), .int (nI 7), .ref e2])), (e2, .inl (I, 64 * 7, .inl ev)), (g0, .inr (0, [.ref g1])), (g1, .inr (5, [.int (nI 3), .int (nI 5), .ref g2])), (g2, .inl (I, 3 * 5, .inl cb))]) (ws' := (wC I c0 e0 e1 e2 p0 p1 p2 w0 w1 w2 g0 g1 g2 ev dbl ((p_takeQ (S.1, S.2.1, S.2.2.1, S.2.2.2) (nI b) u).1) (nI u) ((p_takeQ (S.1, S.2.1, S.2.2.1, S.2.2.2) (nI b) u).2.1) (nI (p_takeQ (S.1, S.2.1, S.2.2.1, S.2.2.2) (nI b) u).2.2.1) tl ((p_takeQ (S.1, S.2.1, S.2.2.1, S.2.2.2) (nI b) u).2.2.2) cb (nI z) lg gr (nI v) lt mv)) (va_runV (As := [.int (nI b)]) (rest := []) hF (c_X4_takeBackWord l D I C Q p0 p1 p2 w0 w1 w2 S.1 u S.2.1 S.2.2.1 tl S.2.2.2 (nI b) hu64 hSw _) (cwV 1 hts gX1_moveBack_X4_takeBackWord rfl rfl rfl (by decide +kernel) ⟨Nat.le_of_ble_eq_true rfl, Nat.le_of_ble_eq_true rfl⟩) (kPreV hE hPc hDc (ci := 4) (q0 := 0) rfl rfl) rfl rfl hl.1 rfl (lv_room (Nat.le_of_ble_eq_true rfl)) dX1_moveBack_57 ⟨Nat.zero_le _, Nat.zero_le _⟩) hP hD hS hA [4, 5, 6, 7, 8, 9] [0, 1, 2, 3, 10, 11, 12] [0, 1, 2, 3, 7, 8, 9, 10, 11, 12, 4, 5, 6] rfl rfl (by decide) (by decide) rfl (by decide) (fun H locs hP hD hS => ?_)
          refine lv_iinc (v := nI (cn + 1)) (lv' := [(3, .int (nI (cn + 1))), (0, .ref c0), (1, .int ti), (2, .int (c_mk (nI v) ti)), (4, .int (nI (v / z))), (5, .int (nI b))]) hx hb dX1_moveBack_60 hl (k := 3) rfl (nI_inc cn) (by decide) rfl (fun ls hl => ?_)
          refine lv_iinc (v := nI (b + 1)) (lv' := [(5, .int (nI (b + 1))), (3, .int (nI (cn + 1))), (0, .ref c0), (1, .int ti), (2, .int (c_mk (nI v) ti)), (4, .int (nI (v / z)))]) hx hb dX1_moveBack_63 hl (k := 5) rfl (nI_inc b) (by decide) rfl (fun ls hl => ?_)
          refine lv_goto (tgt := 34) hx hb dX1_moveBack_66 (by decide) ?_
          exact ih (b + 1) (cn + 1) (p_takeQ S (nI b) u) (by omega) (p_takeQ_w hSw) _ _ _ hP hD hS (lv_sub hl [2, 3, 4, 1, 5, 0] rfl) (by rw [← hr]; simp +decide only [c_mbL, c_48, if_true, if_false, not_true_eq_false, not_false_eq_true, and_self, and_true, true_and, and_false, false_and, kn01, kn10, kn02, kn20, kn12, kn21, eq_self])
  exact loop34 (v / z - m0 / z) (m0 / z) 0 (pn, wd, w, tk) (by omega) hw40 _ _ _ hP hD hS (lv_sub hl [4, 5, 3, 2, 1, 0] rfl) rfl
