set_option maxHeartbeats 400000 in
set_option maxRecDepth 100000 in
theorem c_X6_length (l : Launch) (D : va_G) (I C Q : ClassId) (x0 x1 : Nat) (sg : Nat → Int32) (xl : Int32) (xp : Int32) (xn : Int32) (xi : Int32) (xt : Int32) (xk : Int32) (xa : Int32) (xe : Int32) (xf : Int32) (xr : Int32) : KI l D (tyL I C Q) yX6_length wsX6_length { frames := 0, cells := 0, slots := 0, locals := 0 } [.ref x0] (wX I C x0 x1 sg xl xp xn xi xt xk xa xe xf xr) (wX I C x0 x1 sg xl xp xn xi xt xk xa xe xf xr) xl := by
  refine KI.of (cc := cX6_length) (maxL := 1) (rt := .int) (own := RX6) (by decide) rfl rfl (Nat.le_of_ble_eq_true rfl) ?_
  intro p e s m below meth c A Q0 ls hx hb hml hown hts hE hA hP hD hS hl hend
  have hK := hE.1
  have hF : CallFix p m c cX6_length 1 s [.ref x0].toArray wsX6_length RX6 := ⟨hx, hb, hml, hown, hts⟩
  have k0 := hts (.fieldLink RX6 15 "LateExcuses$Text" "length" "I") (List.mem_of_getElem? (i := 1) rfl)
  have u6 : ∀ w ∈ u_ws RX6 TX6 11, w ∈ wsX6_length := by decide +kernel
  have hl : lv_has ls 1 [(0, .ref x0)] := hl
  refine lv_aload_n hx hb dX6_length_0 rfl (lv_at hl 0 rfl) ?_
  refine va_get (D := D) (ci := 6) (v := .int xl) (C := RX6) (T := TX6) (N := 11) hx hb hts u6 hown hK hP 0 rfl rfl 1 (by decide) k0 (fun _ h9 => h9) rfl dX6_length_1 ?_
  exact hend _ _ _ _ _ _ hP hD hS dX6_length_4 rfl rfl rfl
set_option maxHeartbeats 400000 in
set_option maxRecDepth 100000 in
theorem c_X6_faultPlace (l : Launch) (D : va_G) (I C Q : ClassId) (x0 x1 : Nat) (sg : Nat → Int32) (xl : Int32) (xp : Int32) (xn : Int32) (xi : Int32) (xt : Int32) (xk : Int32) (xa : Int32) (xe : Int32) (xf : Int32) (xr : Int32) : KI l D (tyL I C Q) yX6_faultPlace wsX6_faultPlace { frames := 0, cells := 0, slots := 0, locals := 0 } [.ref x0] (wX I C x0 x1 sg xl xp xn xi xt xk xa xe xf xr) (wX I C x0 x1 sg xl xp xn xi xt xk xa xe xf xr) xf := by
  refine KI.of (cc := cX6_faultPlace) (maxL := 1) (rt := .int) (own := RX6) (by decide) rfl rfl (Nat.le_of_ble_eq_true rfl) ?_
  intro p e s m below meth c A Q0 ls hx hb hml hown hts hE hA hP hD hS hl hend
  have hK := hE.1
  have hF : CallFix p m c cX6_faultPlace 1 s [.ref x0].toArray wsX6_faultPlace RX6 := ⟨hx, hb, hml, hown, hts⟩
  have k0 := hts (.fieldLink RX6 19 "LateExcuses$Text" "faultPlace" "I") (List.mem_of_getElem? (i := 1) rfl)
  have u6 : ∀ w ∈ u_ws RX6 TX6 11, w ∈ wsX6_faultPlace := by decide +kernel
  have hl : lv_has ls 1 [(0, .ref x0)] := hl
  refine lv_aload_n hx hb dX6_faultPlace_0 rfl (lv_at hl 0 rfl) ?_
  refine va_get (D := D) (ci := 6) (v := .int xf) (C := RX6) (T := TX6) (N := 11) hx hb hts u6 hown hK hP 0 rfl rfl 9 (by decide) k0 (fun _ h9 => h9) rfl dX6_faultPlace_1 ?_
  exact hend _ _ _ _ _ _ hP hD hS dX6_faultPlace_4 rfl rfl rfl
set_option maxHeartbeats 400000 in
set_option maxRecDepth 100000 in
theorem c_X6_faultReason (l : Launch) (D : va_G) (I C Q : ClassId) (x0 x1 : Nat) (sg : Nat → Int32) (xl : Int32) (xp : Int32) (xn : Int32) (xi : Int32) (xt : Int32) (xk : Int32) (xa : Int32) (xe : Int32) (xf : Int32) (xr : Int32) : KI l D (tyL I C Q) yX6_faultReason wsX6_faultReason { frames := 0, cells := 0, slots := 0, locals := 0 } [.ref x0] (wX I C x0 x1 sg xl xp xn xi xt xk xa xe xf xr) (wX I C x0 x1 sg xl xp xn xi xt xk xa xe xf xr) xr := by
  refine KI.of (cc := cX6_faultReason) (maxL := 1) (rt := .int) (own := RX6) (by decide) rfl rfl (Nat.le_of_ble_eq_true rfl) ?_
  intro p e s m below meth c A Q0 ls hx hb hml hown hts hE hA hP hD hS hl hend
  have hK := hE.1
  have hF : CallFix p m c cX6_faultReason 1 s [.ref x0].toArray wsX6_faultReason RX6 := ⟨hx, hb, hml, hown, hts⟩
  have k0 := hts (.fieldLink RX6 22 "LateExcuses$Text" "faultReason" "I") (List.mem_of_getElem? (i := 1) rfl)
  have u6 : ∀ w ∈ u_ws RX6 TX6 11, w ∈ wsX6_faultReason := by decide +kernel
  have hl : lv_has ls 1 [(0, .ref x0)] := hl
  refine lv_aload_n hx hb dX6_faultReason_0 rfl (lv_at hl 0 rfl) ?_
  refine va_get (D := D) (ci := 6) (v := .int xr) (C := RX6) (T := TX6) (N := 11) hx hb hts u6 hown hK hP 0 rfl rfl 10 (by decide) k0 (fun _ h9 => h9) rfl dX6_faultReason_1 ?_
  exact hend _ _ _ _ _ _ hP hD hS dX6_faultReason_4 rfl rfl rfl
set_option maxHeartbeats 400000 in
set_option maxRecDepth 100000 in
theorem c_X6_empty (l : Launch) (D : va_G) (I C Q : ClassId) (x0 x1 : Nat) (sg : Nat → Int32) (xl : Int32) (xp : Int32) (xn : Int32) (xi : Int32) (xt : Int32) (xk : Int32) (xa : Int32) (xe : Int32) (xf : Int32) (xr : Int32) : KV l D (tyL I C Q) yX6_empty wsX6_empty { frames := 0, cells := 0, slots := 0, locals := 0 } [.ref x0] (wX I C x0 x1 sg xl xp xn xi xt xk xa xe xf xr) (wX I C x0 x1 sg 0 xp xn xi xt xk xa xe xf xr) := by
  refine KV.of (cc := cX6_empty) (maxL := 1) (own := RX6) (by decide) rfl rfl (Nat.le_of_ble_eq_true rfl) ?_
  intro p e s m below meth c A Q0 ls hx hb hml hown hts hE hA hP hD hS hl hend
  have hK := hE.1
  have hF : CallFix p m c cX6_empty 1 s [.ref x0].toArray wsX6_empty RX6 := ⟨hx, hb, hml, hown, hts⟩
  have k0 := hts (.fieldLink RX6 15 "LateExcuses$Text" "length" "I") (List.mem_of_getElem? (i := 1) rfl)
  have u6 : ∀ w ∈ u_ws RX6 TX6 11, w ∈ wsX6_empty := by decide +kernel
  have hl : lv_has ls 1 [(0, .ref x0)] := hl
  refine lv_aload_n hx hb dX6_empty_0 rfl (lv_at hl 0 rfl) ?_
  refine lv_iconst (v := 0) hx hb dX6_empty_1 (by decide) ?_
  refine va_put (D := D) (ci := 6) (v := .int 0) (ty := .int) (C := RX6) (T := TX6) (N := 11) hx hb hts u6 tyX6 tyX6_ok nmX6 hown hK hP hD hS 0 rfl rfl 1 (by decide) k0 (fun _ h9 => h9) rfl (by decide +kernel) rfl rfl (Nat.le_of_ble_eq_true rfl) dX6_empty_2 (fun H locs hP hD hS => ?_)
  have hP : va_P D vwCl (wX I C x0 x1 sg 0 xp xn xi xt xk xa xe xf xr) H := hP
  have hD : va_D A (wX I C x0 x1 sg 0 xp xn xi xt xk xa xe xf xr) := hD
  exact hend _ _ _ _ _ hP hD hS dX6_empty_5 rfl
set_option maxHeartbeats 400000 in
set_option maxRecDepth 100000 in
theorem c_X6_appendF (l : Launch) (D : va_G) (I C Q : ClassId) (x0 x1 : Nat) (sg : Nat → Int32) (L : Nat) (xp : Int32) (xn : Int32) (xi : Int32) (xt : Int32) (xk : Int32) (xa : Int32) (xe : Int32) (xf : Int32) (xr : Int32) (ch : Int32) (h80 : L = 80) : KI l D (tyL I C Q) yX6_append wsX6_append { frames := 0, cells := 0, slots := 0, locals := 0 } [.ref x0, .int ch] (wX I C x0 x1 sg (nI L) xp xn xi xt xk xa xe xf xr) (wX I C x0 x1 sg (nI L) xp xn xi xt xk xa xe xf xr) 0 := by
  refine KI.of (cc := cX6_append) (maxL := 2) (rt := .boolean) (own := RX6) (by decide) rfl rfl (Nat.le_of_ble_eq_true rfl) ?_
  intro p e s m below meth c A Q0 ls hx hb hml hown hts hE hA hP hD hS hl hend
  have hK := hE.1
  have hF : CallFix p m c cX6_append 2 s [.ref x0, .int ch].toArray wsX6_append RX6 := ⟨hx, hb, hml, hown, hts⟩
  have k0 := hts (.fieldLink RX6 15 "LateExcuses$Text" "length" "I") (List.mem_of_getElem? (i := 1) rfl)
  have k1 := hts (.fieldLink RX6 11 "LateExcuses$Text" "signs" "[C") (List.mem_of_getElem? (i := 2) rfl)
  have u6 : ∀ w ∈ u_ws RX6 TX6 11, w ∈ wsX6_append := by decide +kernel
  have hl : lv_has ls 2 [(0, .ref x0), (1, .int ch)] := hl
  refine lv_aload_n hx hb dX6_append_0 rfl (lv_at hl 0 rfl) ?_
  refine va_get (D := D) (ci := 6) (v := .int (nI L)) (C := RX6) (T := TX6) (N := 11) hx hb hts u6 hown hK hP 0 rfl rfl 1 (by decide) k0 (fun _ h9 => h9) rfl dX6_append_1 ?_
  refine lv_if_lt (tgt := 19) hx hb dX6_append_4 (by decide) (fun c_4 => ?_) (fun c_4 => ?_)
  · exact absurd c_4 (nI_pos (by omega))
  · refine lv_aload_n hx hb dX6_append_7 rfl (lv_at hl 0 rfl) ?_
    refine va_get (D := D) (ci := 6) (v := .int (nI L)) (C := RX6) (T := TX6) (N := 11) hx hb hts u6 hown hK hP 0 rfl rfl 1 (by decide) k0 (fun _ h9 => h9) rfl dX6_append_8 ?_
    refine lv_aload_n hx hb dX6_append_11 rfl (lv_at hl 0 rfl) ?_
    refine va_get (D := D) (ci := 6) (v := .ref x1) (C := RX6) (T := TX6) (N := 11) hx hb hts u6 hown hK hP 0 rfl rfl 0 (by decide) k1 (fun _ h9 => h9) rfl dX6_append_12 ?_
    refine va_alen (v := 80) hx hb hK hP 1 1 rfl rfl rfl dX6_append_15 ?_
    refine lv_icmp_lt (tgt := 21) hx hb dX6_append_16 (by decide) (fun c_16 => ?_) (fun c_16 => ?_)
    · exact absurd ((nI_ltI (a := L) (b := 80) (by omega) (by omega)).mp c_16) (by omega)
    · refine lv_iconst (v := 0) hx hb dX6_append_19 (by decide) ?_
      exact hend _ _ _ _ _ _ hP hD hS dX6_append_20 (by decide) rfl rfl
set_option maxHeartbeats 400000 in
set_option maxRecDepth 100000 in
theorem c_X6_appendO (l : Launch) (D : va_G) (I C Q : ClassId) (x0 x1 : Nat) (sg : Nat → Int32) (L : Nat) (xp : Int32) (xn : Int32) (xi : Int32) (xt : Int32) (xk : Int32) (xa : Int32) (xe : Int32) (xf : Int32) (xr : Int32) (ch : Int32) (h80 : L < 80) (hch : vp_nar .char ch = ch) : KI l D (tyL I C Q) yX6_append wsX6_append { frames := 0, cells := 0, slots := 0, locals := 0 } [.ref x0, .int ch] (wX I C x0 x1 sg (nI L) xp xn xi xt xk xa xe xf xr) (wX I C x0 x1 (upd sg L ch) (nI (L + 1)) xp xn xi xt xk xa xe xf xr) 1 := by
  refine KI.of (cc := cX6_append) (maxL := 2) (rt := .boolean) (own := RX6) (by decide) rfl rfl (Nat.le_of_ble_eq_true rfl) ?_
  intro p e s m below meth c A Q0 ls hx hb hml hown hts hE hA hP hD hS hl hend
  have hK := hE.1
  have hF : CallFix p m c cX6_append 2 s [.ref x0, .int ch].toArray wsX6_append RX6 := ⟨hx, hb, hml, hown, hts⟩
  have k0 := hts (.fieldLink RX6 15 "LateExcuses$Text" "length" "I") (List.mem_of_getElem? (i := 1) rfl)
  have k1 := hts (.fieldLink RX6 11 "LateExcuses$Text" "signs" "[C") (List.mem_of_getElem? (i := 2) rfl)
  have u6 : ∀ w ∈ u_ws RX6 TX6 11, w ∈ wsX6_append := by decide +kernel
  have hl : lv_has ls 2 [(0, .ref x0), (1, .int ch)] := hl
  refine lv_aload_n hx hb dX6_append_0 rfl (lv_at hl 0 rfl) ?_
  refine va_get (D := D) (ci := 6) (v := .int (nI L)) (C := RX6) (T := TX6) (N := 11) hx hb hts u6 hown hK hP 0 rfl rfl 1 (by decide) k0 (fun _ h9 => h9) rfl dX6_append_1 ?_
  refine lv_if_lt (tgt := 19) hx hb dX6_append_4 (by decide) (fun c_4 => ?_) (fun c_4 => ?_)
  · exact absurd c_4 (nI_pos (by omega))
  · refine lv_aload_n hx hb dX6_append_7 rfl (lv_at hl 0 rfl) ?_
    refine va_get (D := D) (ci := 6) (v := .int (nI L)) (C := RX6) (T := TX6) (N := 11) hx hb hts u6 hown hK hP 0 rfl rfl 1 (by decide) k0 (fun _ h9 => h9) rfl dX6_append_8 ?_
    refine lv_aload_n hx hb dX6_append_11 rfl (lv_at hl 0 rfl) ?_
    refine va_get (D := D) (ci := 6) (v := .ref x1) (C := RX6) (T := TX6) (N := 11) hx hb hts u6 hown hK hP 0 rfl rfl 0 (by decide) k1 (fun _ h9 => h9) rfl dX6_append_12 ?_
    refine va_alen (v := 80) hx hb hK hP 1 1 rfl rfl rfl dX6_append_15 ?_
    refine lv_icmp_lt (tgt := 21) hx hb dX6_append_16 (by decide) (fun c_16 => ?_) (fun c_16 => ?_)
    · refine lv_aload_n hx hb dX6_append_21 rfl (lv_at hl 0 rfl) ?_
      refine va_get (D := D) (ci := 6) (v := .ref x1) (C := RX6) (T := TX6) (N := 11) hx hb hts u6 hown hK hP 0 rfl rfl 0 (by decide) k1 (fun _ h9 => h9) rfl dX6_append_22 ?_
      refine lv_aload_n hx hb dX6_append_25 rfl (lv_at hl 0 rfl) ?_
      refine va_get (D := D) (ci := 6) (v := .int (nI L)) (C := RX6) (T := TX6) (N := 11) hx hb hts u6 hown hK hP 0 rfl rfl 1 (by decide) k0 (fun _ h9 => h9) rfl dX6_append_26 ?_
      refine lv_iload_n hx hb dX6_append_29 rfl (lv_at hl 1 rfl) ?_
      refine k_cast (j := L) hx hb hK hP hD hS 1 1 rfl rfl rfl (by omega) (by decide) hch dX6_append_30 (fun H locs hP hD hS => ?_)
      have hP : va_P D vwCl (wX I C x0 x1 (upd sg L ch) (nI L) xp xn xi xt xk xa xe xf xr) H := hP
      have hD : va_D A (wX I C x0 x1 (upd sg L ch) (nI L) xp xn xi xt xk xa xe xf xr) := hD
      refine lv_aload_n hx hb dX6_append_31 rfl (lv_at hl 0 rfl) ?_
      refine lv_dup hx hb dX6_append_32 rfl ?_
      refine va_get (D := D) (ci := 6) (v := .int (nI L)) (C := RX6) (T := TX6) (N := 11) hx hb hts u6 hown hK hP 0 rfl rfl 1 (by decide) k0 (fun _ h9 => h9) rfl dX6_append_33 ?_
      refine lv_iconst (v := 1) hx hb dX6_append_36 (by decide) ?_
      refine k_iadd (v := nI (L + 1)) hx hb dX6_append_37 (nI_add L 1) ?_
      refine va_put (D := D) (ci := 6) (v := .int (nI (L + 1))) (ty := .int) (C := RX6) (T := TX6) (N := 11) hx hb hts u6 tyX6 tyX6_ok nmX6 hown hK hP hD hS 0 rfl rfl 1 (by decide) k0 (fun _ h9 => h9) rfl (by decide +kernel) rfl rfl (Nat.le_of_ble_eq_true rfl) dX6_append_38 (fun H locs hP hD hS => ?_)
      have hP : va_P D vwCl (wX I C x0 x1 (upd sg L ch) (nI (L + 1)) xp xn xi xt xk xa xe xf xr) H := hP
      have hD : va_D A (wX I C x0 x1 (upd sg L ch) (nI (L + 1)) xp xn xi xt xk xa xe xf xr) := hD
      refine lv_iconst (v := 1) hx hb dX6_append_41 (by decide) ?_
      exact hend _ _ _ _ _ _ hP hD hS dX6_append_42 (by decide) rfl rfl
    · exact absurd ((nI_ltI (a := L) (b := 80) (by omega) (by omega)).mpr h80) c_16
