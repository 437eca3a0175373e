set_option maxHeartbeats 400000 in
set_option maxRecDepth 100000 in
theorem c_X6_signHere (l : Launch) (D : va_G) (I C Q : ClassId) (x0 x1 : Nat) (sg : Nat → Int32) (L : Nat) (a : Nat) (xn : Int32) (xi : Int32) (xt : Int32) (xk : Int32) (xa : Int32) (xe : Int32) (xf : Int32) (xr : Int32) (hL : L ≤ 80) (ha : a ≤ 2000) (hsg : ∀ i, i < L → narrow .char (.int (sg i)) = .int (sg i)) : KI l D (tyL I C Q) yX6_signHere wsX6_signHere { frames := 0, cells := 0, slots := 0, locals := 0 } [.ref x0] (wX I C x0 x1 sg (nI L) (nI a) xn xi xt xk xa xe xf xr) (wX I C x0 x1 sg (nI L) (nI a) xn xi xt xk xa xe xf xr) (x_h sg L a) := by
  refine KI.of (cc := cX6_signHere) (maxL := 1) (rt := .char) (own := RX6) (by decide) rfl rfl (Nat.le_of_ble_eq_true rfl) ?_
  intro p e s m below meth c A Q0 ls hx hb hml hown hts hE hA hP hD hS hl hend
  have hK := hE.1
  have hF : CallFix p m c cX6_signHere 1 s [.ref x0].toArray wsX6_signHere RX6 := ⟨hx, hb, hml, hown, hts⟩
  have k0 := hts (.fieldLink RX6 45 "LateExcuses$Text" "place" "I") (List.mem_of_getElem? (i := 1) rfl)
  have k1 := hts (.fieldLink RX6 15 "LateExcuses$Text" "length" "I") (List.mem_of_getElem? (i := 2) rfl)
  have k2 := hts (.fieldLink RX6 11 "LateExcuses$Text" "signs" "[C") (List.mem_of_getElem? (i := 3) rfl)
  have u6 : ∀ w ∈ u_ws RX6 TX6 11, w ∈ wsX6_signHere := by decide +kernel
  have hl : lv_has ls 1 [(0, .ref x0)] := hl
  refine lv_aload_n hx hb dX6_signHere_0 rfl (lv_at hl 0 rfl) ?_
  refine va_get (D := D) (ci := 6) (v := .int (nI a)) (C := RX6) (T := TX6) (N := 11) hx hb hts u6 hown hK hP 0 rfl rfl 2 (by decide) k0 (fun _ h9 => h9) rfl dX6_signHere_1 ?_
  refine lv_if_lt (tgt := 42) hx hb dX6_signHere_4 (by decide) (fun c_4 => ?_) (fun c_4 => ?_)
  · exact absurd c_4 (nI_pos (by omega))
  · refine lv_aload_n hx hb dX6_signHere_7 rfl (lv_at hl 0 rfl) ?_
    refine va_get (D := D) (ci := 6) (v := .int (nI a)) (C := RX6) (T := TX6) (N := 11) hx hb hts u6 hown hK hP 0 rfl rfl 2 (by decide) k0 (fun _ h9 => h9) rfl dX6_signHere_8 ?_
    refine lv_aload_n hx hb dX6_signHere_11 rfl (lv_at hl 0 rfl) ?_
    refine va_get (D := D) (ci := 6) (v := .int (nI L)) (C := RX6) (T := TX6) (N := 11) hx hb hts u6 hown hK hP 0 rfl rfl 1 (by decide) k1 (fun _ h9 => h9) rfl dX6_signHere_12 ?_
    refine lv_icmp_ge (tgt := 42) hx hb dX6_signHere_15 (by decide) (fun c_15 => ?_) (fun c_15 => ?_)
    · have hle : ¬ a < L := Nat.not_lt.mpr ((nI_leI (a := L) (b := a) (by omega) (by omega)).mp c_15)
      refine lv_iconst (v := 0) hx hb dX6_signHere_42 (by decide) ?_
      exact hend _ _ _ _ _ _ hP hD hS dX6_signHere_43 (by decide) rfl (by simp +decide only [x_h, hle, if_true, if_false, not_true_eq_false, not_false_eq_true, and_self, and_true, true_and, and_false, false_and, kn01, kn10, kn02, kn20, kn12, kn21, eq_self])
    · have hle : a < L := Nat.lt_of_not_le (fun h => c_15 ((nI_leI (a := L) (b := a) (by omega) (by omega)).mpr h))
      refine lv_aload_n hx hb dX6_signHere_18 rfl (lv_at hl 0 rfl) ?_
      refine va_get (D := D) (ci := 6) (v := .int (nI a)) (C := RX6) (T := TX6) (N := 11) hx hb hts u6 hown hK hP 0 rfl rfl 2 (by decide) k0 (fun _ h9 => h9) rfl dX6_signHere_19 ?_
      refine lv_aload_n hx hb dX6_signHere_22 rfl (lv_at hl 0 rfl) ?_
      refine va_get (D := D) (ci := 6) (v := .ref x1) (C := RX6) (T := TX6) (N := 11) hx hb hts u6 hown hK hP 0 rfl rfl 0 (by decide) k2 (fun _ h9 => h9) rfl dX6_signHere_23 ?_
      refine va_alen (v := 80) hx hb hK hP 1 1 rfl rfl rfl dX6_signHere_26 ?_
      refine lv_icmp_ge (tgt := 42) hx hb dX6_signHere_27 (by decide) (fun c_27 => ?_) (fun c_27 => ?_)
      · exact absurd ((nI_leI (a := 80) (b := a) (by omega) (by omega)).mp c_27) (by omega)
      · refine lv_aload_n hx hb dX6_signHere_30 rfl (lv_at hl 0 rfl) ?_
        refine va_get (D := D) (ci := 6) (v := .ref x1) (C := RX6) (T := TX6) (N := 11) hx hb hts u6 hown hK hP 0 rfl rfl 0 (by decide) k2 (fun _ h9 => h9) rfl dX6_signHere_31 ?_
        refine lv_aload_n hx hb dX6_signHere_34 rfl (lv_at hl 0 rfl) ?_
        refine va_get (D := D) (ci := 6) (v := .int (nI a)) (C := RX6) (T := TX6) (N := 11) hx hb hts u6 hown hK hP 0 rfl rfl 2 (by decide) k0 (fun _ h9 => h9) rfl dX6_signHere_35 ?_
        refine k_cald (j := a) (v := (sg a)) hx hb hK hP 1 1 rfl rfl rfl (by omega) (by decide) rfl dX6_signHere_38 ?_
        refine lv_goto (tgt := 43) hx hb dX6_signHere_39 (by decide) ?_
        exact hend _ _ _ _ _ _ hP hD hS dX6_signHere_43 (hsg a hle) rfl (by simp +decide only [x_h, hle, if_true, if_false, not_true_eq_false, not_false_eq_true, and_self, and_true, true_and, and_false, false_and, kn01, kn10, kn02, kn20, kn12, kn21, eq_self])
set_option maxHeartbeats 400000 in
set_option maxRecDepth 100000 in
theorem c_X6_readSign (l : Launch) (D : va_G) (I C Q : ClassId) (x0 x1 : Nat) (sg : Nat → Int32) (L : Nat) (a : Nat) (xn : Int32) (xi : Int32) (xt : Int32) (xk : Int32) (xa : Int32) (xe : Int32) (xf : Int32) (xr : Int32) (ch : Int32) (hL : L ≤ 80) (ha : a ≤ 2000) (hsg : ∀ i, i < L → narrow .char (.int (sg i)) = .int (sg i)) : KI l D (tyL I C Q) yX6_readSign wsX6_readSign { frames := 1, cells := 0, slots := 0, locals := 20 } [.ref x0, .int ch] (wX I C x0 x1 sg (nI L) (nI a) xn xi xt xk xa xe xf xr) (wX I C x0 x1 sg (nI L) (nI (x_ra sg L a ch)) xn xi xt xk xa xe xf xr) (x_rs sg L a ch) := by
  refine KI.of (cc := cX6_readSign) (maxL := 2) (rt := .boolean) (own := RX6) (by decide) rfl rfl (Nat.le_of_ble_eq_true rfl) ?_
  intro p e s m below meth c A Q0 ls hx hb hml hown hts hE hA hP hD hS hl hend
  have hK := hE.1
  have hF : CallFix p m c cX6_readSign 2 s [.ref x0, .int ch].toArray wsX6_readSign RX6 := ⟨hx, hb, hml, hown, hts⟩
  have k0 := hts (.fieldLink RX6 45 "LateExcuses$Text" "place" "I") (List.mem_of_getElem? (i := 1) rfl)
  have u6 : ∀ w ∈ u_ws RX6 TX6 11, w ∈ wsX6_readSign := by decide +kernel
  have hl : lv_has ls 2 [(0, .ref x0), (1, .int ch)] := hl
  refine lv_aload_n hx hb dX6_readSign_0 rfl (lv_at hl 0 rfl) ?_
  refine k_iF (va_runV (As := []) (rest := []) hF (c_X6_signHere l D I C Q x0 x1 sg L a xn xi xt xk xa xe xf xr hL ha hsg _) (cwV 0 hts gX6_readSign_X6_signHere rfl rfl rfl (by decide +kernel) ⟨Nat.le_of_ble_eq_true rfl, Nat.le_of_ble_eq_true rfl⟩) (kPreV hE hP hD (ci := 6) (q0 := 0) rfl rfl) rfl rfl hl.1 rfl (lv_room (Nat.le_of_ble_eq_true rfl)) dX6_readSign_1 ⟨Nat.zero_le _, Nat.zero_le _⟩) hD hS hA (fun H locs hP hD hS => ?_)
  refine lv_iload_n hx hb dX6_readSign_4 rfl (lv_at hl 1 rfl) ?_
  refine lv_icmp_eq (tgt := 10) hx hb dX6_readSign_5 (by decide) (fun c_5 => ?_) (fun c_5 => ?_)
  · refine lv_aload_n hx hb dX6_readSign_10 rfl (lv_at hl 0 rfl) ?_
    refine lv_dup hx hb dX6_readSign_11 rfl ?_
    refine va_get (D := D) (ci := 6) (v := .int (nI a)) (C := RX6) (T := TX6) (N := 11) hx hb hts u6 hown hK hP 0 rfl rfl 2 (by decide) k0 (fun _ h9 => h9) rfl dX6_readSign_12 ?_
    refine lv_iconst (v := 1) hx hb dX6_readSign_15 (by decide) ?_
    refine k_iadd (v := nI (a + 1)) hx hb dX6_readSign_16 (nI_add a 1) ?_
    refine va_put (D := D) (ci := 6) (v := .int (nI (a + 1))) (ty := .int) (C := RX6) (T := TX6) (N := 11) hx hb hts u6 tyX6 tyX6_ok nmX6 hown hK hP hD hS 0 rfl rfl 2 (by decide) k0 (fun _ h9 => h9) rfl (by decide +kernel) rfl rfl (Nat.le_of_ble_eq_true rfl) dX6_readSign_17 (fun H locs hP hD hS => ?_)
    have hP : va_P D vwCl (wX I C x0 x1 sg (nI L) (nI (a + 1)) xn xi xt xk xa xe xf xr) H := hP
    have hD : va_D A (wX I C x0 x1 sg (nI L) (nI (a + 1)) xn xi xt xk xa xe xf xr) := hD
    refine lv_iconst (v := 1) hx hb dX6_readSign_20 (by decide) ?_
    exact hend _ _ _ _ _ _ hP hD hS dX6_readSign_21 (by decide) (by simp +decide only [x_ra_eq, c_5, if_true, if_false, not_true_eq_false, not_false_eq_true, and_self, and_true, true_and, and_false, false_and, kn01, kn10, kn02, kn20, kn12, kn21, eq_self]) (by simp +decide only [x_rs_eq, c_5, if_true, if_false, not_true_eq_false, not_false_eq_true, and_self, and_true, true_and, and_false, false_and, kn01, kn10, kn02, kn20, kn12, kn21, eq_self])
  · refine lv_iconst (v := 0) hx hb dX6_readSign_8 (by decide) ?_
    exact hend _ _ _ _ _ _ hP hD hS dX6_readSign_9 (by decide) (by simp +decide only [x_ra_eq, c_5, if_true, if_false, not_true_eq_false, not_false_eq_true, and_self, and_true, true_and, and_false, false_and, kn01, kn10, kn02, kn20, kn12, kn21, eq_self]) (by simp +decide only [x_rs_eq, c_5, if_true, if_false, not_true_eq_false, not_false_eq_true, and_self, and_true, true_and, and_false, false_and, kn01, kn10, kn02, kn20, kn12, kn21, eq_self])
set_option maxHeartbeats 400000 in
set_option maxRecDepth 100000 in
theorem c_X6_readNumber (l : Launch) (D : va_G) (I C Q : ClassId) (x0 x1 : Nat) (sg : Nat → Int32) (L : Nat) (a : Nat) (xn : Int32) (xi : Int32) (xt : Int32) (xk : Int32) (xa : Int32) (xe : Int32) (xf : Int32) (xr : Int32) (hL : L ≤ 80) (ha : a ≤ 1000) (hsg : ∀ i, i < L → narrow .char (.int (sg i)) = .int (sg i)) : KI l D (tyL I C Q) yX6_readNumber wsX6_readNumber { frames := 1, cells := 0, slots := 0, locals := 22 } [.ref x0] (wX I C x0 x1 sg (nI L) (nI a) xn xi xt xk xa xe xf xr) (wX I C x0 x1 sg (nI L) (nI (x_A sg L a)) (x_Z sg L a) xi xt xk xa xe xf xr) (x_O sg L a) := by
  refine KI.of (cc := cX6_readNumber) (maxL := 2) (rt := .boolean) (own := RX6) (by decide) rfl rfl (Nat.le_of_ble_eq_true rfl) ?_
  intro p e s m below meth c A Q0 ls hx hb hml hown hts hE hA hP hD hS hl hend
  have hK := hE.1
  have hF : CallFix p m c cX6_readNumber 2 s [.ref x0].toArray wsX6_readNumber RX6 := ⟨hx, hb, hml, hown, hts⟩
  have k0 := hts (.fieldLink RX6 52 "LateExcuses$Text" "number" "I") (List.mem_of_getElem? (i := 1) rfl)
  have k1 := hts (.static yX8_isWithin) (List.mem_of_getElem? (i := 10) rfl)
  have k2 := hts (.initialized RX8) (List.mem_of_getElem? (i := 11) rfl)
  have k3 := hts (.fieldLink RX6 45 "LateExcuses$Text" "place" "I") (List.mem_of_getElem? (i := 2) rfl)
  have u6 : ∀ w ∈ u_ws RX6 TX6 11, w ∈ wsX6_readNumber := by decide +kernel
  have hl : lv_has ls 2 [(0, .ref x0)] := hl
  refine lv_aload_n hx hb dX6_readNumber_0 rfl (lv_at hl 0 rfl) ?_
  refine lv_iconst (v := 0) hx hb dX6_readNumber_1 (by decide) ?_
  refine va_put (D := D) (ci := 6) (v := .int 0) (ty := .int) (C := RX6) (T := TX6) (N := 11) hx hb hts u6 tyX6 tyX6_ok nmX6 hown hK hP hD hS 0 rfl rfl 3 (by decide) k0 (fun _ h9 => h9) rfl (by decide +kernel) rfl rfl (Nat.le_of_ble_eq_true rfl) dX6_readNumber_2 (fun H locs hP hD hS => ?_)
  have hP : va_P D vwCl (wX I C x0 x1 sg (nI L) (nI a) 0 xi xt xk xa xe xf xr) H := hP
  have hD : va_D A (wX I C x0 x1 sg (nI L) (nI a) 0 xi xt xk xa xe xf xr) := hD
  refine lv_iconst (v := 0) hx hb dX6_readNumber_5 (by decide) ?_
  refine lv_istore_n (lv' := [(1, .int 0), (0, .ref x0)]) hx hb dX6_readNumber_6 rfl hl (by decide) rfl (fun ls hl => ?_)
  have loop7 : ∀ (n : Nat) (b : Nat) (d : Nat) (z : Int32), (d + n = 4) → (b ≤ 1000 + d) → ∀ (H : Heap) (locs : List Loc) (ls : Array Slot), va_P D vwCl (wX I C x0 x1 sg (nI L) (nI b) z xi xt xk xa xe xf xr) H → va_D A (wX I C x0 x1 sg (nI L) (nI b) z xi xt xk xa xe xf xr) → va_S A s.heap H locs → lv_has ls 2 [(0, .ref x0), (1, .int (nI d))] → (x_nL sg L n b d z = x_nL sg L 4 a 0 0) → W p l e ({ frames := 1, cells := 0, slots := 0, locals := 22 } : Room) s m [.ref x0].toArray below meth c H locs 0 0 Q0 (F0 m 7 ls []) := by
    intro n
    induction n with
    | zero =>
      intro b d z hd hb2 H locs ls hP hD hS hl hr
      refine lv_iload_n hx hb dX6_readNumber_7 rfl (lv_at hl 1 rfl) ?_
      refine lv_iconst (v := 4) hx hb dX6_readNumber_8 (by decide) ?_
      refine lv_icmp_ge (tgt := 61) hx hb dX6_readNumber_9 (by decide) (fun c_9 => ?_) (fun c_9 => ?_)
      · refine lv_iload_n hx hb dX6_readNumber_61 rfl (lv_at hl 1 rfl) ?_
        refine lv_if_le (tgt := 69) hx hb dX6_readNumber_62 (by decide) (fun c_62 => ?_) (fun c_62 => ?_)
        · exact absurd ((nI_leI (a := d) (b := 0) (by omega) (by omega)).mp c_62) (by omega)
        · have hd0 : ¬ d = 0 := by omega
          refine lv_iconst (v := 1) hx hb dX6_readNumber_65 (by decide) ?_
          refine lv_goto (tgt := 70) hx hb dX6_readNumber_66 (by decide) ?_
          exact hend _ _ _ _ _ _ hP hD hS dX6_readNumber_70 (by decide) (by rw [x_A_eq, x_Z_eq, ← hr]; simp +decide only [x_nL, if_true, if_false, not_true_eq_false, not_false_eq_true, and_self, and_true, true_and, and_false, false_and, kn01, kn10, kn02, kn20, kn12, kn21, eq_self]) (by rw [x_O_eq, ← hr]; simp +decide only [x_nL, hd0, if_true, if_false, not_true_eq_false, not_false_eq_true, and_self, and_true, true_and, and_false, false_and, kn01, kn10, kn02, kn20, kn12, kn21, eq_self])
      · exact absurd ((nI_leI (a := 4) (b := d) (by omega) (by omega)).mpr (by omega)) c_9
    | succ n ih =>
      intro b d z hd hb2 H locs ls hP hD hS hl hr
      refine lv_iload_n hx hb dX6_readNumber_7 rfl (lv_at hl 1 rfl) ?_
      refine lv_iconst (v := 4) hx hb dX6_readNumber_8 (by decide) ?_
      refine lv_icmp_ge (tgt := 61) hx hb dX6_readNumber_9 (by decide) (fun c_9 => ?_) (fun c_9 => ?_)
      · exact absurd ((nI_leI (a := 4) (b := d) (by omega) (by omega)).mp c_9) (by omega)
      · refine lv_aload_n hx hb dX6_readNumber_12 rfl (lv_at hl 0 rfl) ?_
        refine k_iF (va_runV (As := []) (rest := []) hF (c_X6_signHere l D I C Q x0 x1 sg L b z xi xt xk xa xe xf xr hL (by omega) hsg _) (cwV 0 hts gX6_readNumber_X6_signHere rfl rfl rfl (by decide +kernel) ⟨Nat.le_of_ble_eq_true rfl, Nat.le_of_ble_eq_true rfl⟩) (kPreV hE hP hD (ci := 6) (q0 := 0) rfl rfl) rfl rfl hl.1 rfl (lv_room (Nat.le_of_ble_eq_true rfl)) dX6_readNumber_13 ⟨Nat.zero_le _, Nat.zero_le _⟩) hD hS hA (fun H locs hP hD hS => ?_)
        refine lv_bipush (v := 48) hx hb dX6_readNumber_16 (by decide) ?_
        refine lv_bipush (v := 57) hx hb dX6_readNumber_18 (by decide) ?_
        refine k_i0 (va_runSN (As := [.int (x_h sg L b), .int 48, .int 57]) (rest := []) hF (c_X8_isWithin l D I C Q (x_h sg L b) 48 57 _) ⟨va_cnB 3 hts gX6_readNumber_X8_isWithin_n70 rfl rfl rfl (hE.nest 11 rfl) k2 (by decide +kernel) ⟨Nat.le_of_ble_eq_true rfl, Nat.le_of_ble_eq_true rfl⟩, k1, trivial⟩ (kPreS hE k_P0 (k_D0 (A := A))) rfl rfl hl.1 rfl (lv_room (Nat.le_of_ble_eq_true rfl)) dX6_readNumber_20 ⟨Nat.zero_le _, Nat.zero_le _⟩) hP hS hA (fun H locs hP hS => ?_)
        refine lv_if_eq (tgt := 61) hx hb dX6_readNumber_23 (by decide) (fun c_23 => ?_) (fun c_23 => ?_)
        · refine lv_iload_n hx hb dX6_readNumber_61 rfl (lv_at hl 1 rfl) ?_
          refine lv_if_le (tgt := 69) hx hb dX6_readNumber_62 (by decide) (fun c_62 => ?_) (fun c_62 => ?_)
          · have hd0 : d = 0 := by have := (nI_leI (a := d) (b := 0) (by omega) (by omega)).mp c_62; omega
            refine lv_iconst (v := 0) hx hb dX6_readNumber_69 (by decide) ?_
            exact hend _ _ _ _ _ _ hP hD hS dX6_readNumber_70 (by decide) (by rw [x_A_eq, x_Z_eq, ← hr]; simp +decide only [x_nL, c_23, if_true, if_false, not_true_eq_false, not_false_eq_true, and_self, and_true, true_and, and_false, false_and, kn01, kn10, kn02, kn20, kn12, kn21, eq_self]) (by rw [x_O_eq, ← hr]; simp +decide only [x_nL, hd0, c_23, if_true, if_false, not_true_eq_false, not_false_eq_true, and_self, and_true, true_and, and_false, false_and, kn01, kn10, kn02, kn20, kn12, kn21, eq_self])
          · have hd0 : ¬ d = 0 := fun h => c_62 (by rw [h]; decide)
            refine lv_iconst (v := 1) hx hb dX6_readNumber_65 (by decide) ?_
            refine lv_goto (tgt := 70) hx hb dX6_readNumber_66 (by decide) ?_
            exact hend _ _ _ _ _ _ hP hD hS dX6_readNumber_70 (by decide) (by rw [x_A_eq, x_Z_eq, ← hr]; simp +decide only [x_nL, c_23, if_true, if_false, not_true_eq_false, not_false_eq_true, and_self, and_true, true_and, and_false, false_and, kn01, kn10, kn02, kn20, kn12, kn21, eq_self]) (by rw [x_O_eq, ← hr]; simp +decide only [x_nL, hd0, c_23, if_true, if_false, not_true_eq_false, not_false_eq_true, and_self, and_true, true_and, and_false, false_and, kn01, kn10, kn02, kn20, kn12, kn21, eq_self])
        · refine lv_aload_n hx hb dX6_readNumber_26 rfl (lv_at hl 0 rfl) ?_
          refine lv_aload_n hx hb dX6_readNumber_27 rfl (lv_at hl 0 rfl) ?_
          refine va_get (D := D) (ci := 6) (v := .int z) (C := RX6) (T := TX6) (N := 11) hx hb hts u6 hown hK hP 0 rfl rfl 3 (by decide) k0 (fun _ h9 => h9) rfl dX6_readNumber_28 ?_
          refine lv_bipush (v := 10) hx hb dX6_readNumber_31 (by decide) ?_
          refine lv_imul hx hb dX6_readNumber_33 ?_
          refine lv_aload_n hx hb dX6_readNumber_34 rfl (lv_at hl 0 rfl) ?_
          refine k_iF (va_runV (As := []) (rest := [.int (z * 10), .ref x0]) hF (c_X6_signHere l D I C Q x0 x1 sg L b z xi xt xk xa xe xf xr hL (by omega) hsg _) (cwV 0 hts gX6_readNumber_X6_signHere rfl rfl rfl (by decide +kernel) ⟨Nat.le_of_ble_eq_true rfl, Nat.le_of_ble_eq_true rfl⟩) (kPreV hE hP hD (ci := 6) (q0 := 0) rfl rfl) rfl rfl hl.1 rfl (lv_room (Nat.le_of_ble_eq_true rfl)) dX6_readNumber_35 ⟨Nat.zero_le _, Nat.zero_le _⟩) hD hS hA (fun H locs hP hD hS => ?_)
          refine lv_iadd hx hb dX6_readNumber_38 ?_
          refine lv_bipush (v := 48) hx hb dX6_readNumber_39 (by decide) ?_
          refine lv_isub hx hb dX6_readNumber_41 ?_
          refine va_put (D := D) (ci := 6) (v := .int (((z * 10) + (x_h sg L b)) - 48)) (ty := .int) (C := RX6) (T := TX6) (N := 11) hx hb hts u6 tyX6 tyX6_ok nmX6 hown hK hP hD hS 0 rfl rfl 3 (by decide) k0 (fun _ h9 => h9) rfl (by decide +kernel) rfl rfl (Nat.le_of_ble_eq_true rfl) dX6_readNumber_42 (fun H locs hP hD hS => ?_)
          have hP : va_P D vwCl (wX I C x0 x1 sg (nI L) (nI b) (((z * 10) + (x_h sg L b)) - 48) xi xt xk xa xe xf xr) H := hP
          have hD : va_D A (wX I C x0 x1 sg (nI L) (nI b) (((z * 10) + (x_h sg L b)) - 48) xi xt xk xa xe xf xr) := hD
          refine lv_iinc (v := nI (d + 1)) (lv' := [(1, .int (nI (d + 1))), (0, .ref x0)]) hx hb dX6_readNumber_45 hl (k := 1) rfl (nI_inc d) (by decide) rfl (fun ls hl => ?_)
          refine lv_aload_n hx hb dX6_readNumber_48 rfl (lv_at hl 1 rfl) ?_
          refine lv_dup hx hb dX6_readNumber_49 rfl ?_
          refine va_get (D := D) (ci := 6) (v := .int (nI b)) (C := RX6) (T := TX6) (N := 11) hx hb hts u6 hown hK hP 0 rfl rfl 2 (by decide) k3 (fun _ h9 => h9) rfl dX6_readNumber_50 ?_
          refine lv_iconst (v := 1) hx hb dX6_readNumber_53 (by decide) ?_
          refine k_iadd (v := nI (b + 1)) hx hb dX6_readNumber_54 (nI_add b 1) ?_
          refine va_put (D := D) (ci := 6) (v := .int (nI (b + 1))) (ty := .int) (C := RX6) (T := TX6) (N := 11) hx hb hts u6 tyX6 tyX6_ok nmX6 hown hK hP hD hS 0 rfl rfl 2 (by decide) k3 (fun _ h9 => h9) rfl (by decide +kernel) rfl rfl (Nat.le_of_ble_eq_true rfl) dX6_readNumber_55 (fun H locs hP hD hS => ?_)
          have hP : va_P D vwCl (wX I C x0 x1 sg (nI L) (nI (b + 1)) (((z * 10) + (x_h sg L b)) - 48) xi xt xk xa xe xf xr) H := hP
          have hD : va_D A (wX I C x0 x1 sg (nI L) (nI (b + 1)) (((z * 10) + (x_h sg L b)) - 48) xi xt xk xa xe xf xr) := hD
          refine lv_goto (tgt := 7) hx hb dX6_readNumber_58 (by decide) ?_
          exact ih (b + 1) (d + 1) (((z * 10) + (x_h sg L b)) - 48) (by omega) (by omega) _ _ _ hP hD hS (lv_sub hl [1, 0] rfl) (by rw [← hr]; simp +decide only [x_nL, c_23, if_true, if_false, not_true_eq_false, not_false_eq_true, and_self, and_true, true_and, and_false, false_and, kn01, kn10, kn02, kn20, kn12, kn21, eq_self])
  exact loop7 4 a 0 0 (by omega) (by omega) _ _ _ hP hD hS (lv_sub hl [1, 0] rfl) rfl
