set_option maxHeartbeats 400000 in
set_option maxRecDepth 100000 in
theorem c_X8_isWithin (l : Launch) (D : va_G) (I C Q : ClassId) (v : Int32) (lo : Int32) (hi : Int32) : KI l D (tyL I C Q) yX8_isWithin wsX8_isWithin { frames := 0, cells := 0, slots := 0, locals := 0 } [.int v, .int lo, .int hi] [] [] (m_isIn v lo hi) := by
  refine KI.of (cc := cX8_isWithin) (maxL := 3) (rt := .boolean) (own := RX8) (by decide) rfl rfl (Nat.le_of_ble_eq_true rfl) ?_
  intro p e s m below meth c A Q0 ls hx hb hml hown hts hE hA hP hD hS hl hend
  have hK := hE.1
  have hF : CallFix p m c cX8_isWithin 3 s [.int v, .int lo, .int hi].toArray wsX8_isWithin RX8 := ⟨hx, hb, hml, hown, hts⟩
  have hl : lv_has ls 3 [(0, .int v), (1, .int lo), (2, .int hi)] := hl
  refine lv_iload_n hx hb dX8_isWithin_0 rfl (lv_at hl 0 rfl) ?_
  refine lv_iload_n hx hb dX8_isWithin_1 rfl (lv_at hl 1 rfl) ?_
  refine lv_icmp_lt (tgt := 14) hx hb dX8_isWithin_2 (by decide) (fun c_2 => ?_) (fun c_2 => ?_)
  · refine lv_iconst (v := 0) hx hb dX8_isWithin_14 (by decide) ?_
    exact hend _ _ _ _ _ _ hP hD hS dX8_isWithin_15 (by decide) rfl (by simp +decide only [m_isIn, c_2, if_true, if_false, not_true_eq_false, not_false_eq_true, and_self, and_true, true_and, and_false, false_and, kn01, kn10, kn02, kn20, kn12, kn21, eq_self])
  · refine lv_iload_n hx hb dX8_isWithin_5 rfl (lv_at hl 0 rfl) ?_
    refine lv_iload_n hx hb dX8_isWithin_6 rfl (lv_at hl 2 rfl) ?_
    refine lv_icmp_gt (tgt := 14) hx hb dX8_isWithin_7 (by decide) (fun c_7 => ?_) (fun c_7 => ?_)
    · refine lv_iconst (v := 0) hx hb dX8_isWithin_14 (by decide) ?_
      exact hend _ _ _ _ _ _ hP hD hS dX8_isWithin_15 (by decide) rfl (by simp +decide only [m_isIn, c_2, c_7, if_true, if_false, not_true_eq_false, not_false_eq_true, and_self, and_true, true_and, and_false, false_and, kn01, kn10, kn02, kn20, kn12, kn21, eq_self])
    · refine lv_iconst (v := 1) hx hb dX8_isWithin_10 (by decide) ?_
      refine lv_goto (tgt := 15) hx hb dX8_isWithin_11 (by decide) ?_
      exact hend _ _ _ _ _ _ hP hD hS dX8_isWithin_15 (by decide) rfl (by simp +decide only [m_isIn, c_2, c_7, if_true, if_false, not_true_eq_false, not_false_eq_true, and_self, and_true, true_and, and_false, false_and, kn01, kn10, kn02, kn20, kn12, kn21, eq_self])
set_option maxHeartbeats 400000 in
set_option maxRecDepth 100000 in
theorem c_X5_get (l : Launch) (D : va_G) (I C Q : ClassId) (b0 b1 : Nat) (rn : Nat) (cn : Nat) (cf : Nat → Int32) (r : Nat) (c1 : Nat) (h1 : r < rn) (h2 : c1 < cn) (hr : rn < 100) (hc : cn < 100) (hz : rn * cn < 10000) : KI l D (tyL I C Q) yX5_get wsX5_get { frames := 0, cells := 0, slots := 0, locals := 0 } [.ref b0, .int (nI r), .int (nI c1)] (wT I b0 b1 rn cn cf) (wT I b0 b1 rn cn cf) (cf (r * cn + c1)) := by
  have hlt := k_rc h1 h2
  refine KI.of (cc := cX5_get) (maxL := 4) (rt := .int) (own := RX5) (by decide) rfl rfl (Nat.le_of_ble_eq_true rfl) ?_
  intro p e s m below meth c A Q0 ls hx hb hml hown hts hE hA hP hD hS hl hend
  have hK := hE.1
  have hF : CallFix p m c cX5_get 4 s [.ref b0, .int (nI r), .int (nI c1)].toArray wsX5_get RX5 := ⟨hx, hb, hml, hown, hts⟩
  have k0 := hts (.fieldLink RX5 13 "LateExcuses$Table" "rows" "I") (List.mem_of_getElem? (i := 1) rfl)
  have k1 := hts (.fieldLink RX5 19 "LateExcuses$Table" "columns" "I") (List.mem_of_getElem? (i := 2) rfl)
  have k2 := hts (.fieldLink RX5 22 "LateExcuses$Table" "cells" "[I") (List.mem_of_getElem? (i := 3) rfl)
  have u5 : ∀ w ∈ u_ws RX5 TX5 3, w ∈ wsX5_get := by decide +kernel
  have hl : lv_has ls 4 [(0, .ref b0), (1, .int (nI r)), (2, .int (nI c1))] := hl
  refine lv_iload_n hx hb dX5_get_0 rfl (lv_at hl 1 rfl) ?_
  refine lv_if_lt (tgt := 24) hx hb dX5_get_1 (by decide) (fun c_1 => ?_) (fun c_1 => ?_)
  · exact absurd c_1 (nI_pos (by omega))
  · refine lv_iload_n hx hb dX5_get_4 rfl (lv_at hl 1 rfl) ?_
    refine lv_aload_n hx hb dX5_get_5 rfl (lv_at hl 0 rfl) ?_
    refine va_get (D := D) (ci := 5) (v := .int (nI rn)) (C := RX5) (T := TX5) (N := 3) hx hb hts u5 hown hK hP 0 rfl rfl 0 (by decide) k0 (fun _ h9 => h9) rfl dX5_get_6 ?_
    refine lv_icmp_ge (tgt := 24) hx hb dX5_get_9 (by decide) (fun c_9 => ?_) (fun c_9 => ?_)
    · exact absurd ((nI_leI (a := rn) (b := r) (by omega) (by omega)).mp c_9) (by omega)
    · refine lv_iload_n hx hb dX5_get_12 rfl (lv_at hl 2 rfl) ?_
      refine lv_if_lt (tgt := 24) hx hb dX5_get_13 (by decide) (fun c_13 => ?_) (fun c_13 => ?_)
      · exact absurd c_13 (nI_pos (by omega))
      · refine lv_iload_n hx hb dX5_get_16 rfl (lv_at hl 2 rfl) ?_
        refine lv_aload_n hx hb dX5_get_17 rfl (lv_at hl 0 rfl) ?_
        refine va_get (D := D) (ci := 5) (v := .int (nI cn)) (C := RX5) (T := TX5) (N := 3) hx hb hts u5 hown hK hP 0 rfl rfl 1 (by decide) k1 (fun _ h9 => h9) rfl dX5_get_18 ?_
        refine lv_icmp_lt (tgt := 26) hx hb dX5_get_21 (by decide) (fun c_21 => ?_) (fun c_21 => ?_)
        · refine lv_iload_n hx hb dX5_get_26 rfl (lv_at hl 1 rfl) ?_
          refine lv_aload_n hx hb dX5_get_27 rfl (lv_at hl 0 rfl) ?_
          refine va_get (D := D) (ci := 5) (v := .int (nI cn)) (C := RX5) (T := TX5) (N := 3) hx hb hts u5 hown hK hP 0 rfl rfl 1 (by decide) k1 (fun _ h9 => h9) rfl dX5_get_28 ?_
          refine k_imul (v := nI (r * cn)) hx hb dX5_get_31 (k_mul r cn) ?_
          refine lv_iload_n hx hb dX5_get_32 rfl (lv_at hl 2 rfl) ?_
          refine k_iadd (v := nI (r * cn + c1)) hx hb dX5_get_33 (nI_add (r * cn) c1) ?_
          refine lv_istore_n (lv' := [(3, .int (nI (r * cn + c1))), (0, .ref b0), (1, .int (nI r)), (2, .int (nI c1))]) hx hb dX5_get_34 rfl hl (by decide) rfl (fun ls hl => ?_)
          refine lv_iload_n hx hb dX5_get_35 rfl (lv_at hl 0 rfl) ?_
          refine lv_if_lt (tgt := 57) hx hb dX5_get_36 (by decide) (fun c_36 => ?_) (fun c_36 => ?_)
          · exact absurd c_36 (nI_pos (by omega))
          · refine lv_iload_n hx hb dX5_get_39 rfl (lv_at hl 0 rfl) ?_
            refine lv_aload_n hx hb dX5_get_40 rfl (lv_at hl 1 rfl) ?_
            refine va_get (D := D) (ci := 5) (v := .ref b1) (C := RX5) (T := TX5) (N := 3) hx hb hts u5 hown hK hP 0 rfl rfl 2 (by decide) k2 (fun _ h9 => h9) rfl dX5_get_41 ?_
            refine va_alen (v := nI (rn * cn)) hx hb hK hP 1 0 rfl rfl rfl dX5_get_44 ?_
            refine lv_icmp_ge (tgt := 57) hx hb dX5_get_45 (by decide) (fun c_45 => ?_) (fun c_45 => ?_)
            · exact absurd ((nI_leI (a := rn * cn) (b := r * cn + c1) (by omega) (by omega)).mp c_45) (by omega)
            · refine lv_aload_n hx hb dX5_get_48 rfl (lv_at hl 1 rfl) ?_
              refine va_get (D := D) (ci := 5) (v := .ref b1) (C := RX5) (T := TX5) (N := 3) hx hb hts u5 hown hK hP 0 rfl rfl 2 (by decide) k2 (fun _ h9 => h9) rfl dX5_get_49 ?_
              refine lv_iload_n hx hb dX5_get_52 rfl (lv_at hl 0 rfl) ?_
              refine k_iald (j := r * cn + c1) (v := (cf (r * cn + c1))) hx hb hK hP 1 0 rfl rfl rfl (by omega) (by omega) rfl dX5_get_53 ?_
              refine lv_goto (tgt := 58) hx hb dX5_get_54 (by decide) ?_
              exact hend _ _ _ _ _ _ hP hD hS dX5_get_58 rfl rfl rfl
        · exact absurd ((nI_ltI (a := c1) (b := cn) (by omega) (by omega)).mpr h2) c_21
set_option maxHeartbeats 400000 in
set_option maxRecDepth 100000 in
theorem c_X5_getN (l : Launch) (D : va_G) (I C Q : ClassId) (b0 b1 : Nat) (rn : Nat) (cn : Nat) (cf : Nat → Int32) (q : Int32) (c1 : Int32) (hq : q < 0) : KI l D (tyL I C Q) yX5_get wsX5_get { frames := 0, cells := 0, slots := 0, locals := 0 } [.ref b0, .int q, .int c1] (wT I b0 b1 rn cn cf) (wT I b0 b1 rn cn cf) 0 := by
  refine KI.of (cc := cX5_get) (maxL := 4) (rt := .int) (own := RX5) (by decide) rfl rfl (Nat.le_of_ble_eq_true rfl) ?_
  intro p e s m below meth c A Q0 ls hx hb hml hown hts hE hA hP hD hS hl hend
  have hK := hE.1
  have hF : CallFix p m c cX5_get 4 s [.ref b0, .int q, .int c1].toArray wsX5_get RX5 := ⟨hx, hb, hml, hown, hts⟩
  have hl : lv_has ls 4 [(0, .ref b0), (1, .int q), (2, .int c1)] := hl
  refine lv_iload_n hx hb dX5_get_0 rfl (lv_at hl 1 rfl) ?_
  refine lv_if_lt (tgt := 24) hx hb dX5_get_1 (by decide) (fun c_1 => ?_) (fun c_1 => ?_)
  · refine lv_iconst (v := 0) hx hb dX5_get_24 (by decide) ?_
    exact hend _ _ _ _ _ _ hP hD hS dX5_get_25 rfl rfl rfl
  · exact absurd hq c_1
set_option maxHeartbeats 400000 in
set_option maxRecDepth 100000 in
theorem c_X5_put (l : Launch) (D : va_G) (I C Q : ClassId) (b0 b1 : Nat) (rn : Nat) (cn : Nat) (cf : Nat → Int32) (r : Nat) (c1 : Nat) (v : Int32) (h1 : r < rn) (h2 : c1 < cn) (hr : rn < 100) (hc : cn < 100) (hz : rn * cn < 10000) : KV l D (tyL I C Q) yX5_put wsX5_put { frames := 0, cells := 0, slots := 0, locals := 0 } [.ref b0, .int (nI r), .int (nI c1), .int v] (wT I b0 b1 rn cn cf) (wT I b0 b1 rn cn (upd cf (r * cn + c1) v)) := by
  have hlt := k_rc h1 h2
  refine KV.of (cc := cX5_put) (maxL := 5) (own := RX5) (by decide) rfl rfl (Nat.le_of_ble_eq_true rfl) ?_
  intro p e s m below meth c A Q0 ls hx hb hml hown hts hE hA hP hD hS hl hend
  have hK := hE.1
  have hF : CallFix p m c cX5_put 5 s [.ref b0, .int (nI r), .int (nI c1), .int v].toArray wsX5_put RX5 := ⟨hx, hb, hml, hown, hts⟩
  have k0 := hts (.fieldLink RX5 13 "LateExcuses$Table" "rows" "I") (List.mem_of_getElem? (i := 1) rfl)
  have k1 := hts (.fieldLink RX5 19 "LateExcuses$Table" "columns" "I") (List.mem_of_getElem? (i := 2) rfl)
  have k2 := hts (.fieldLink RX5 22 "LateExcuses$Table" "cells" "[I") (List.mem_of_getElem? (i := 3) rfl)
  have u5 : ∀ w ∈ u_ws RX5 TX5 3, w ∈ wsX5_put := by decide +kernel
  have hl : lv_has ls 5 [(0, .ref b0), (1, .int (nI r)), (2, .int (nI c1)), (3, .int v)] := hl
  refine lv_iload_n hx hb dX5_put_0 rfl (lv_at hl 1 rfl) ?_
  refine lv_if_lt (tgt := 24) hx hb dX5_put_1 (by decide) (fun c_1 => ?_) (fun c_1 => ?_)
  · exact absurd c_1 (nI_pos (by omega))
  · refine lv_iload_n hx hb dX5_put_4 rfl (lv_at hl 1 rfl) ?_
    refine lv_aload_n hx hb dX5_put_5 rfl (lv_at hl 0 rfl) ?_
    refine va_get (D := D) (ci := 5) (v := .int (nI rn)) (C := RX5) (T := TX5) (N := 3) hx hb hts u5 hown hK hP 0 rfl rfl 0 (by decide) k0 (fun _ h9 => h9) rfl dX5_put_6 ?_
    refine lv_icmp_ge (tgt := 24) hx hb dX5_put_9 (by decide) (fun c_9 => ?_) (fun c_9 => ?_)
    · exact absurd ((nI_leI (a := rn) (b := r) (by omega) (by omega)).mp c_9) (by omega)
    · refine lv_iload_n hx hb dX5_put_12 rfl (lv_at hl 2 rfl) ?_
      refine lv_if_lt (tgt := 24) hx hb dX5_put_13 (by decide) (fun c_13 => ?_) (fun c_13 => ?_)
      · exact absurd c_13 (nI_pos (by omega))
      · refine lv_iload_n hx hb dX5_put_16 rfl (lv_at hl 2 rfl) ?_
        refine lv_aload_n hx hb dX5_put_17 rfl (lv_at hl 0 rfl) ?_
        refine va_get (D := D) (ci := 5) (v := .int (nI cn)) (C := RX5) (T := TX5) (N := 3) hx hb hts u5 hown hK hP 0 rfl rfl 1 (by decide) k1 (fun _ h9 => h9) rfl dX5_put_18 ?_
        refine lv_icmp_lt (tgt := 25) hx hb dX5_put_21 (by decide) (fun c_21 => ?_) (fun c_21 => ?_)
        · refine lv_iload_n hx hb dX5_put_25 rfl (lv_at hl 1 rfl) ?_
          refine lv_aload_n hx hb dX5_put_26 rfl (lv_at hl 0 rfl) ?_
          refine va_get (D := D) (ci := 5) (v := .int (nI cn)) (C := RX5) (T := TX5) (N := 3) hx hb hts u5 hown hK hP 0 rfl rfl 1 (by decide) k1 (fun _ h9 => h9) rfl dX5_put_27 ?_
          refine k_imul (v := nI (r * cn)) hx hb dX5_put_30 (k_mul r cn) ?_
          refine lv_iload_n hx hb dX5_put_31 rfl (lv_at hl 2 rfl) ?_
          refine k_iadd (v := nI (r * cn + c1)) hx hb dX5_put_32 (nI_add (r * cn) c1) ?_
          refine lv_istore (lv' := [(4, .int (nI (r * cn + c1))), (0, .ref b0), (1, .int (nI r)), (2, .int (nI c1)), (3, .int v)]) hx hb dX5_put_33 hl (by decide) rfl (fun ls hl => ?_)
          refine lv_iload hx hb dX5_put_35 (lv_at hl 0 rfl) ?_
          refine lv_if_lt (tgt := 58) hx hb dX5_put_37 (by decide) (fun c_37 => ?_) (fun c_37 => ?_)
          · exact absurd c_37 (nI_pos (by omega))
          · refine lv_iload hx hb dX5_put_40 (lv_at hl 0 rfl) ?_
            refine lv_aload_n hx hb dX5_put_42 rfl (lv_at hl 1 rfl) ?_
            refine va_get (D := D) (ci := 5) (v := .ref b1) (C := RX5) (T := TX5) (N := 3) hx hb hts u5 hown hK hP 0 rfl rfl 2 (by decide) k2 (fun _ h9 => h9) rfl dX5_put_43 ?_
            refine va_alen (v := nI (rn * cn)) hx hb hK hP 1 0 rfl rfl rfl dX5_put_46 ?_
            refine lv_icmp_ge (tgt := 58) hx hb dX5_put_47 (by decide) (fun c_47 => ?_) (fun c_47 => ?_)
            · exact absurd ((nI_leI (a := rn * cn) (b := r * cn + c1) (by omega) (by omega)).mp c_47) (by omega)
            · refine lv_aload_n hx hb dX5_put_50 rfl (lv_at hl 1 rfl) ?_
              refine va_get (D := D) (ci := 5) (v := .ref b1) (C := RX5) (T := TX5) (N := 3) hx hb hts u5 hown hK hP 0 rfl rfl 2 (by decide) k2 (fun _ h9 => h9) rfl dX5_put_51 ?_
              refine lv_iload hx hb dX5_put_54 (lv_at hl 0 rfl) ?_
              refine lv_iload_n hx hb dX5_put_56 rfl (lv_at hl 4 rfl) ?_
              refine k_iast (j := r * cn + c1) hx hb hK hP hD hS 1 0 rfl rfl rfl (by omega) (by omega) dX5_put_57 (fun H locs hP hD hS => ?_)
              have hP : va_P D vwCl (wT I b0 b1 rn cn (upd cf (r * cn + c1) v)) H := hP
              have hD : va_D A (wT I b0 b1 rn cn (upd cf (r * cn + c1) v)) := hD
              exact hend _ _ _ _ _ hP hD hS dX5_put_58 rfl
        · exact absurd ((nI_ltI (a := c1) (b := cn) (by omega) (by omega)).mpr h2) c_21
set_option maxHeartbeats 400000 in
set_option maxRecDepth 100000 in
theorem c_X5_openRow (l : Launch) (D : va_G) (I C Q : ClassId) (b0 b1 : Nat) (cf : Nat → Int32) (r : Nat) (h1 : r < 64) : KV l D (tyL I C Q) yX5_openRow wsX5_openRow { frames := 1, cells := 0, slots := 0, locals := 40 } [.ref b0, .int (nI r)] (wT I b0 b1 64 8 cf) (wT I b0 b1 64 8 (p_open cf r)) := by
  refine KV.of (cc := cX5_openRow) (maxL := 5) (own := RX5) (by decide) rfl rfl (Nat.le_of_ble_eq_true rfl) ?_
  intro p e s m below meth c A Q0 ls hx hb hml hown hts hE hA hP hD hS hl hend
  have hK := hE.1
  have hF : CallFix p m c cX5_openRow 5 s [.ref b0, .int (nI r)].toArray wsX5_openRow RX5 := ⟨hx, hb, hml, hown, hts⟩
  have k0 := hts (.fieldLink RX5 19 "LateExcuses$Table" "columns" "I") (List.mem_of_getElem? (i := 1) rfl)
  have k1 := hts (.fieldLink RX5 13 "LateExcuses$Table" "rows" "I") (List.mem_of_getElem? (i := 2) rfl)
  have k2 := hts (.fieldLink RX5 22 "LateExcuses$Table" "cells" "[I") (List.mem_of_getElem? (i := 3) rfl)
  have k3 := hts (.methodLink RX5 26 arraycopyName) (List.mem_of_getElem? (i := 4) rfl)
  have k4 := hts (.native arraycopyName) (List.mem_of_getElem? (i := 5) rfl)
  have k5 := hts (.static arraycopyName) (List.mem_of_getElem? (i := 6) rfl)
  have k6 := hts (.initialized "java/lang/System") (List.mem_of_getElem? (i := 7) rfl)
  have u5 : ∀ w ∈ u_ws RX5 TX5 3, w ∈ wsX5_openRow := by decide +kernel
  have hl : lv_has ls 5 [(0, .ref b0), (1, .int (nI r))] := hl
  refine lv_iload_n hx hb dX5_openRow_0 rfl (lv_at hl 1 rfl) ?_
  refine lv_aload_n hx hb dX5_openRow_1 rfl (lv_at hl 0 rfl) ?_
  refine va_get (D := D) (ci := 5) (v := .int 8) (C := RX5) (T := TX5) (N := 3) hx hb hts u5 hown hK hP 0 rfl rfl 1 (by decide) k0 (fun _ h9 => h9) rfl dX5_openRow_2 ?_
  refine k_imul (v := nI (r * 8)) hx hb dX5_openRow_5 (k_mul r 8) ?_
  refine lv_istore_n (lv' := [(2, .int (nI (r * 8))), (0, .ref b0), (1, .int (nI r))]) hx hb dX5_openRow_6 rfl hl (by decide) rfl (fun ls hl => ?_)
  refine lv_iload_n hx hb dX5_openRow_7 rfl (lv_at hl 0 rfl) ?_
  refine lv_aload_n hx hb dX5_openRow_8 rfl (lv_at hl 1 rfl) ?_
  refine va_get (D := D) (ci := 5) (v := .int 8) (C := RX5) (T := TX5) (N := 3) hx hb hts u5 hown hK hP 0 rfl rfl 1 (by decide) k0 (fun _ h9 => h9) rfl dX5_openRow_9 ?_
  refine k_iadd (v := nI (r * 8 + 8)) hx hb dX5_openRow_12 (nI_add (r * 8) 8) ?_
  refine lv_istore_n (lv' := [(3, .int (nI (r * 8 + 8))), (2, .int (nI (r * 8))), (0, .ref b0), (1, .int (nI r))]) hx hb dX5_openRow_13 rfl hl (by decide) rfl (fun ls hl => ?_)
  refine lv_iload_n hx hb dX5_openRow_14 rfl (lv_at hl 3 rfl) ?_
  refine lv_if_lt (tgt := 90) hx hb dX5_openRow_15 (by decide) (fun c_15 => ?_) (fun c_15 => ?_)
  · exact absurd c_15 (nI_pos (by omega))
  · refine lv_iload_n hx hb dX5_openRow_18 rfl (lv_at hl 3 rfl) ?_
    refine lv_aload_n hx hb dX5_openRow_19 rfl (lv_at hl 2 rfl) ?_
    refine va_get (D := D) (ci := 5) (v := .int 64) (C := RX5) (T := TX5) (N := 3) hx hb hts u5 hown hK hP 0 rfl rfl 0 (by decide) k1 (fun _ h9 => h9) rfl dX5_openRow_20 ?_
    refine lv_icmp_ge (tgt := 90) hx hb dX5_openRow_23 (by decide) (fun c_23 => ?_) (fun c_23 => ?_)
    · exact absurd ((nI_leI (a := 64) (b := r) (by omega) (by omega)).mp c_23) (by omega)
    · refine lv_iload_n hx hb dX5_openRow_26 rfl (lv_at hl 1 rfl) ?_
      refine lv_if_lt (tgt := 90) hx hb dX5_openRow_27 (by decide) (fun c_27 => ?_) (fun c_27 => ?_)
      · exact absurd c_27 (nI_pos (by omega))
      · refine lv_iload_n hx hb dX5_openRow_30 rfl (lv_at hl 0 rfl) ?_
        refine lv_iload_n hx hb dX5_openRow_31 rfl (lv_at hl 1 rfl) ?_
        refine lv_icmp_lt (tgt := 90) hx hb dX5_openRow_32 (by decide) (fun c_32 => ?_) (fun c_32 => ?_)
        · exact absurd ((nI_ltI (a := r * 8 + 8) (b := r * 8) (by omega) (by omega)).mp c_32) (by omega)
        · refine lv_iload_n hx hb dX5_openRow_35 rfl (lv_at hl 0 rfl) ?_
          refine lv_aload_n hx hb dX5_openRow_36 rfl (lv_at hl 2 rfl) ?_
          refine va_get (D := D) (ci := 5) (v := .ref b1) (C := RX5) (T := TX5) (N := 3) hx hb hts u5 hown hK hP 0 rfl rfl 2 (by decide) k2 (fun _ h9 => h9) rfl dX5_openRow_37 ?_
          refine va_alen (v := 512) hx hb hK hP 1 0 rfl rfl rfl dX5_openRow_40 ?_
          refine lv_icmp_gt (tgt := 90) hx hb dX5_openRow_41 (by decide) (fun c_41 => ?_) (fun c_41 => ?_)
          · exact absurd ((nI_ltI (a := 64 * 8) (b := r * 8 + 8) (by omega) (by omega)).mp c_41) (by omega)
          · refine lv_aload_n hx hb dX5_openRow_44 rfl (lv_at hl 2 rfl) ?_
            refine va_get (D := D) (ci := 5) (v := .ref b1) (C := RX5) (T := TX5) (N := 3) hx hb hts u5 hown hK hP 0 rfl rfl 2 (by decide) k2 (fun _ h9 => h9) rfl dX5_openRow_45 ?_
            refine lv_iload_n hx hb dX5_openRow_48 rfl (lv_at hl 1 rfl) ?_
            refine lv_aload_n hx hb dX5_openRow_49 rfl (lv_at hl 2 rfl) ?_
            refine va_get (D := D) (ci := 5) (v := .ref b1) (C := RX5) (T := TX5) (N := 3) hx hb hts u5 hown hK hP 0 rfl rfl 2 (by decide) k2 (fun _ h9 => h9) rfl dX5_openRow_50 ?_
            refine lv_iload_n hx hb dX5_openRow_53 rfl (lv_at hl 0 rfl) ?_
            refine lv_aload_n hx hb dX5_openRow_54 rfl (lv_at hl 2 rfl) ?_
            refine va_get (D := D) (ci := 5) (v := .ref b1) (C := RX5) (T := TX5) (N := 3) hx hb hts u5 hown hK hP 0 rfl rfl 2 (by decide) k2 (fun _ h9 => h9) rfl dX5_openRow_55 ?_
            refine va_alen (v := 512) hx hb hK hP 1 0 rfl rfl rfl dX5_openRow_58 ?_
            refine lv_iload_n hx hb dX5_openRow_59 rfl (lv_at hl 0 rfl) ?_
            refine k_isub (v := nI (64 * 8 - (r * 8 + 8))) hx hb dX5_openRow_60 (pk_sub (a := 64 * 8) (b := r * 8 + 8) (by omega)) ?_
            refine k_copyi (sp := (r * 8)) (dp := (r * 8 + 8)) (n := (64 * 8 - (r * 8 + 8))) hx hb (hml.trans hl.1.symm) hown k3 k4 k5 k6 hK hP hD hS 1 1 0 0 rfl rfl rfl rfl ⟨by omega, by omega, by decide, by decide⟩ (Nat.le_of_ble_eq_true rfl) (Nat.le_of_ble_eq_true rfl) dX5_openRow_61 (fun H locs hP hD hS => ?_)
            have hP : va_P D vwCl (wT I b0 b1 64 8 (va_cpy cf cf (r * 8) (r * 8 + 8) (64 * 8 - (r * 8 + 8)))) H := hP
            have hD : va_D A (wT I b0 b1 64 8 (va_cpy cf cf (r * 8) (r * 8 + 8) (64 * 8 - (r * 8 + 8)))) := hD
            refine lv_iconst (v := 0) hx hb dX5_openRow_64 (by decide) ?_
            refine lv_istore (lv' := [(4, .int 0), (3, .int (nI (r * 8 + 8))), (2, .int (nI (r * 8))), (0, .ref b0), (1, .int (nI r))]) hx hb dX5_openRow_65 hl (by decide) rfl (fun ls hl => ?_)
            refine lv_iload hx hb dX5_openRow_67 (lv_at hl 0 rfl) ?_
            refine lv_aload_n hx hb dX5_openRow_69 rfl (lv_at hl 3 rfl) ?_
            refine va_get (D := D) (ci := 5) (v := .int 8) (C := RX5) (T := TX5) (N := 3) hx hb hts u5 hown hK hP 0 rfl rfl 1 (by decide) k0 (fun _ h9 => h9) rfl dX5_openRow_70 ?_
            refine lv_icmp_ge (tgt := 90) hx hb dX5_openRow_73 (by decide) (fun c_73 => ?_) (fun c_73 => ?_)
            · exact absurd c_73 (by decide)
            · refine lv_aload_n hx hb dX5_openRow_76 rfl (lv_at hl 3 rfl) ?_
              refine lv_iload_n hx hb dX5_openRow_77 rfl (lv_at hl 4 rfl) ?_
              refine lv_iload hx hb dX5_openRow_78 (lv_at hl 0 rfl) ?_
              refine lv_iconst (v := 0) hx hb dX5_openRow_80 (by decide) ?_
              refine k_vF (va_runV (As := [.int (nI r), .int 0, .int 0]) (rest := []) hF (c_X5_put l D I C Q b0 b1 64 8 (va_cpy cf cf (r * 8) (r * 8 + 8) (64 * 8 - (r * 8 + 8))) r 0 0 h1 (by omega) (by omega) (by omega) (by omega) _) (cwV 3 hts gX5_openRow_X5_put rfl rfl rfl (by decide +kernel) ⟨Nat.le_of_ble_eq_true rfl, Nat.le_of_ble_eq_true rfl⟩) (kPreV hE hP hD (ci := 5) (q0 := 0) rfl rfl) rfl rfl hl.1 rfl (lv_room (Nat.le_of_ble_eq_true rfl)) dX5_openRow_81 ⟨Nat.zero_le _, Nat.zero_le _⟩) hD hS hA (fun H locs hP hD hS => ?_)
              have hP : va_P D vwCl (wT I b0 b1 64 8 (upd (va_cpy cf cf (r * 8) (r * 8 + 8) (64 * 8 - (r * 8 + 8))) (r * 8 + 0) 0)) H := hP
              have hD : va_D A (wT I b0 b1 64 8 (upd (va_cpy cf cf (r * 8) (r * 8 + 8) (64 * 8 - (r * 8 + 8))) (r * 8 + 0) 0)) := hD
              refine lv_iinc (v := 1) (lv' := [(4, .int 1), (3, .int (nI (r * 8 + 8))), (2, .int (nI (r * 8))), (0, .ref b0), (1, .int (nI r))]) hx hb dX5_openRow_84 hl (k := 0) rfl (nI_inc 0) (by decide) rfl (fun ls hl => ?_)
              refine lv_goto (tgt := 67) hx hb dX5_openRow_87 (by decide) ?_
              refine lv_iload hx hb dX5_openRow_67 (lv_at hl 0 rfl) ?_
              refine lv_aload_n hx hb dX5_openRow_69 rfl (lv_at hl 3 rfl) ?_
              refine va_get (D := D) (ci := 5) (v := .int 8) (C := RX5) (T := TX5) (N := 3) hx hb hts u5 hown hK hP 0 rfl rfl 1 (by decide) k0 (fun _ h9 => h9) rfl dX5_openRow_70 ?_
              refine lv_icmp_ge (tgt := 90) hx hb dX5_openRow_73 (by decide) (fun c_73_6 => ?_) (fun c_73_6 => ?_)
              · exact absurd c_73_6 (by decide)
              · refine lv_aload_n hx hb dX5_openRow_76 rfl (lv_at hl 3 rfl) ?_
                refine lv_iload_n hx hb dX5_openRow_77 rfl (lv_at hl 4 rfl) ?_
                refine lv_iload hx hb dX5_openRow_78 (lv_at hl 0 rfl) ?_
                refine lv_iconst (v := 0) hx hb dX5_openRow_80 (by decide) ?_
                refine k_vF (va_runV (As := [.int (nI r), .int 1, .int 0]) (rest := []) hF (c_X5_put l D I C Q b0 b1 64 8 (upd (va_cpy cf cf (r * 8) (r * 8 + 8) (64 * 8 - (r * 8 + 8))) (r * 8 + 0) 0) r 1 0 h1 (by omega) (by omega) (by omega) (by omega) _) (cwV 3 hts gX5_openRow_X5_put rfl rfl rfl (by decide +kernel) ⟨Nat.le_of_ble_eq_true rfl, Nat.le_of_ble_eq_true rfl⟩) (kPreV hE hP hD (ci := 5) (q0 := 0) rfl rfl) rfl rfl hl.1 rfl (lv_room (Nat.le_of_ble_eq_true rfl)) dX5_openRow_81 ⟨Nat.zero_le _, Nat.zero_le _⟩) hD hS hA (fun H locs hP hD hS => ?_)
                have hP : va_P D vwCl (wT I b0 b1 64 8 (upd (upd (va_cpy cf cf (r * 8) (r * 8 + 8) (64 * 8 - (r * 8 + 8))) (r * 8 + 0) 0) (r * 8 + 1) 0)) H := hP
                have hD : va_D A (wT I b0 b1 64 8 (upd (upd (va_cpy cf cf (r * 8) (r * 8 + 8) (64 * 8 - (r * 8 + 8))) (r * 8 + 0) 0) (r * 8 + 1) 0)) := hD
                refine lv_iinc (v := 2) (lv' := [(4, .int 2), (3, .int (nI (r * 8 + 8))), (2, .int (nI (r * 8))), (0, .ref b0), (1, .int (nI r))]) hx hb dX5_openRow_84 hl (k := 0) rfl (nI_inc 1) (by decide) rfl (fun ls hl => ?_)
                refine lv_goto (tgt := 67) hx hb dX5_openRow_87 (by decide) ?_
                refine lv_iload hx hb dX5_openRow_67 (lv_at hl 0 rfl) ?_
                refine lv_aload_n hx hb dX5_openRow_69 rfl (lv_at hl 3 rfl) ?_
                refine va_get (D := D) (ci := 5) (v := .int 8) (C := RX5) (T := TX5) (N := 3) hx hb hts u5 hown hK hP 0 rfl rfl 1 (by decide) k0 (fun _ h9 => h9) rfl dX5_openRow_70 ?_
                refine lv_icmp_ge (tgt := 90) hx hb dX5_openRow_73 (by decide) (fun c_73_7 => ?_) (fun c_73_7 => ?_)
                · exact absurd c_73_7 (by decide)
                · refine lv_aload_n hx hb dX5_openRow_76 rfl (lv_at hl 3 rfl) ?_
                  refine lv_iload_n hx hb dX5_openRow_77 rfl (lv_at hl 4 rfl) ?_
                  refine lv_iload hx hb dX5_openRow_78 (lv_at hl 0 rfl) ?_
                  refine lv_iconst (v := 0) hx hb dX5_openRow_80 (by decide) ?_
                  refine k_vF (va_runV (As := [.int (nI r), .int 2, .int 0]) (rest := []) hF (c_X5_put l D I C Q b0 b1 64 8 (upd (upd (va_cpy cf cf (r * 8) (r * 8 + 8) (64 * 8 - (r * 8 + 8))) (r * 8 + 0) 0) (r * 8 + 1) 0) r 2 0 h1 (by omega) (by omega) (by omega) (by omega) _) (cwV 3 hts gX5_openRow_X5_put rfl rfl rfl (by decide +kernel) ⟨Nat.le_of_ble_eq_true rfl, Nat.le_of_ble_eq_true rfl⟩) (kPreV hE hP hD (ci := 5) (q0 := 0) rfl rfl) rfl rfl hl.1 rfl (lv_room (Nat.le_of_ble_eq_true rfl)) dX5_openRow_81 ⟨Nat.zero_le _, Nat.zero_le _⟩) hD hS hA (fun H locs hP hD hS => ?_)
                  have hP : va_P D vwCl (wT I b0 b1 64 8 (upd (upd (upd (va_cpy cf cf (r * 8) (r * 8 + 8) (64 * 8 - (r * 8 + 8))) (r * 8 + 0) 0) (r * 8 + 1) 0) (r * 8 + 2) 0)) H := hP
                  have hD : va_D A (wT I b0 b1 64 8 (upd (upd (upd (va_cpy cf cf (r * 8) (r * 8 + 8) (64 * 8 - (r * 8 + 8))) (r * 8 + 0) 0) (r * 8 + 1) 0) (r * 8 + 2) 0)) := hD
                  refine lv_iinc (v := 3) (lv' := [(4, .int 3), (3, .int (nI (r * 8 + 8))), (2, .int (nI (r * 8))), (0, .ref b0), (1, .int (nI r))]) hx hb dX5_openRow_84 hl (k := 0) rfl (nI_inc 2) (by decide) rfl (fun ls hl => ?_)
                  refine lv_goto (tgt := 67) hx hb dX5_openRow_87 (by decide) ?_
                  refine lv_iload hx hb dX5_openRow_67 (lv_at hl 0 rfl) ?_
                  refine lv_aload_n hx hb dX5_openRow_69 rfl (lv_at hl 3 rfl) ?_
                  refine va_get (D := D) (ci := 5) (v := .int 8) (C := RX5) (T := TX5) (N := 3) hx hb hts u5 hown hK hP 0 rfl rfl 1 (by decide) k0 (fun _ h9 => h9) rfl dX5_openRow_70 ?_
                  refine lv_icmp_ge (tgt := 90) hx hb dX5_openRow_73 (by decide) (fun c_73_8 => ?_) (fun c_73_8 => ?_)
                  · exact absurd c_73_8 (by decide)
                  · refine lv_aload_n hx hb dX5_openRow_76 rfl (lv_at hl 3 rfl) ?_
                    refine lv_iload_n hx hb dX5_openRow_77 rfl (lv_at hl 4 rfl) ?_
                    refine lv_iload hx hb dX5_openRow_78 (lv_at hl 0 rfl) ?_
                    refine lv_iconst (v := 0) hx hb dX5_openRow_80 (by decide) ?_
                    refine k_vF (va_runV (As := [.int (nI r), .int 3, .int 0]) (rest := []) hF (c_X5_put l D I C Q b0 b1 64 8 (upd (upd (upd (va_cpy cf cf (r * 8) (r * 8 + 8) (64 * 8 - (r * 8 + 8))) (r * 8 + 0) 0) (r * 8 + 1) 0) (r * 8 + 2) 0) r 3 0 h1 (by omega) (by omega) (by omega) (by omega) _) (cwV 3 hts gX5_openRow_X5_put rfl rfl rfl (by decide +kernel) ⟨Nat.le_of_ble_eq_true rfl, Nat.le_of_ble_eq_true rfl⟩) (kPreV hE hP hD (ci := 5) (q0 := 0) rfl rfl) rfl rfl hl.1 rfl (lv_room (Nat.le_of_ble_eq_true rfl)) dX5_openRow_81 ⟨Nat.zero_le _, Nat.zero_le _⟩) hD hS hA (fun H locs hP hD hS => ?_)
                    have hP : va_P D vwCl (wT I b0 b1 64 8 (upd (upd (upd (upd (va_cpy cf cf (r * 8) (r * 8 + 8) (64 * 8 - (r * 8 + 8))) (r * 8 + 0) 0) (r * 8 + 1) 0) (r * 8 + 2) 0) (r * 8 + 3) 0)) H := hP
                    have hD : va_D A (wT I b0 b1 64 8 (upd (upd (upd (upd (va_cpy cf cf (r * 8) (r * 8 + 8) (64 * 8 - (r * 8 + 8))) (r * 8 + 0) 0) (r * 8 + 1) 0) (r * 8 + 2) 0) (r * 8 + 3) 0)) := hD
                    refine lv_iinc (v := 4) (lv' := [(4, .int 4), (3, .int (nI (r * 8 + 8))), (2, .int (nI (r * 8))), (0, .ref b0), (1, .int (nI r))]) hx hb dX5_openRow_84 hl (k := 0) rfl (nI_inc 3) (by decide) rfl (fun ls hl => ?_)
                    refine lv_goto (tgt := 67) hx hb dX5_openRow_87 (by decide) ?_
                    refine lv_iload hx hb dX5_openRow_67 (lv_at hl 0 rfl) ?_
                    refine lv_aload_n hx hb dX5_openRow_69 rfl (lv_at hl 3 rfl) ?_
                    refine va_get (D := D) (ci := 5) (v := .int 8) (C := RX5) (T := TX5) (N := 3) hx hb hts u5 hown hK hP 0 rfl rfl 1 (by decide) k0 (fun _ h9 => h9) rfl dX5_openRow_70 ?_
                    refine lv_icmp_ge (tgt := 90) hx hb dX5_openRow_73 (by decide) (fun c_73_9 => ?_) (fun c_73_9 => ?_)
                    · exact absurd c_73_9 (by decide)
                    · refine lv_aload_n hx hb dX5_openRow_76 rfl (lv_at hl 3 rfl) ?_
                      refine lv_iload_n hx hb dX5_openRow_77 rfl (lv_at hl 4 rfl) ?_
                      refine lv_iload hx hb dX5_openRow_78 (lv_at hl 0 rfl) ?_
                      refine lv_iconst (v := 0) hx hb dX5_openRow_80 (by decide) ?_
                      refine k_vF (va_runV (As := [.int (nI r), .int 4, .int 0]) (rest := []) hF (c_X5_put l D I C Q b0 b1 64 8 (upd (upd (upd (upd (va_cpy cf cf (r * 8) (r * 8 + 8) (64 * 8 - (r * 8 + 8))) (r * 8 + 0) 0) (r * 8 + 1) 0) (r * 8 + 2) 0) (r * 8 + 3) 0) r 4 0 h1 (by omega) (by omega) (by omega) (by omega) _) (cwV 3 hts gX5_openRow_X5_put rfl rfl rfl (by decide +kernel) ⟨Nat.le_of_ble_eq_true rfl, Nat.le_of_ble_eq_true rfl⟩) (kPreV hE hP hD (ci := 5) (q0 := 0) rfl rfl) rfl rfl hl.1 rfl (lv_room (Nat.le_of_ble_eq_true rfl)) dX5_openRow_81 ⟨Nat.zero_le _, Nat.zero_le _⟩) hD hS hA (fun H locs hP hD hS => ?_)
                      have hP : va_P D vwCl (wT I b0 b1 64 8 (upd (upd (upd (upd (upd (va_cpy cf cf (r * 8) (r * 8 + 8) (64 * 8 - (r * 8 + 8))) (r * 8 + 0) 0) (r * 8 + 1) 0) (r * 8 + 2) 0) (r * 8 + 3) 0) (r * 8 + 4) 0)) H := hP
                      have hD : va_D A (wT I b0 b1 64 8 (upd (upd (upd (upd (upd (va_cpy cf cf (r * 8) (r * 8 + 8) (64 * 8 - (r * 8 + 8))) (r * 8 + 0) 0) (r * 8 + 1) 0) (r * 8 + 2) 0) (r * 8 + 3) 0) (r * 8 + 4) 0)) := hD
                      refine lv_iinc (v := 5) (lv' := [(4, .int 5), (3, .int (nI (r * 8 + 8))), (2, .int (nI (r * 8))), (0, .ref b0), (1, .int (nI r))]) hx hb dX5_openRow_84 hl (k := 0) rfl (nI_inc 4) (by decide) rfl (fun ls hl => ?_)
                      refine lv_goto (tgt := 67) hx hb dX5_openRow_87 (by decide) ?_
                      refine lv_iload hx hb dX5_openRow_67 (lv_at hl 0 rfl) ?_
                      refine lv_aload_n hx hb dX5_openRow_69 rfl (lv_at hl 3 rfl) ?_
                      refine va_get (D := D) (ci := 5) (v := .int 8) (C := RX5) (T := TX5) (N := 3) hx hb hts u5 hown hK hP 0 rfl rfl 1 (by decide) k0 (fun _ h9 => h9) rfl dX5_openRow_70 ?_
                      refine lv_icmp_ge (tgt := 90) hx hb dX5_openRow_73 (by decide) (fun c_73_10 => ?_) (fun c_73_10 => ?_)
                      · exact absurd c_73_10 (by decide)
                      · refine lv_aload_n hx hb dX5_openRow_76 rfl (lv_at hl 3 rfl) ?_
                        refine lv_iload_n hx hb dX5_openRow_77 rfl (lv_at hl 4 rfl) ?_
                        refine lv_iload hx hb dX5_openRow_78 (lv_at hl 0 rfl) ?_
                        refine lv_iconst (v := 0) hx hb dX5_openRow_80 (by decide) ?_
                        refine k_vF (va_runV (As := [.int (nI r), .int 5, .int 0]) (rest := []) hF (c_X5_put l D I C Q b0 b1 64 8 (upd (upd (upd (upd (upd (va_cpy cf cf (r * 8) (r * 8 + 8) (64 * 8 - (r * 8 + 8))) (r * 8 + 0) 0) (r * 8 + 1) 0) (r * 8 + 2) 0) (r * 8 + 3) 0) (r * 8 + 4) 0) r 5 0 h1 (by omega) (by omega) (by omega) (by omega) _) (cwV 3 hts gX5_openRow_X5_put rfl rfl rfl (by decide +kernel) ⟨Nat.le_of_ble_eq_true rfl, Nat.le_of_ble_eq_true rfl⟩) (kPreV hE hP hD (ci := 5) (q0 := 0) rfl rfl) rfl rfl hl.1 rfl (lv_room (Nat.le_of_ble_eq_true rfl)) dX5_openRow_81 ⟨Nat.zero_le _, Nat.zero_le _⟩) hD hS hA (fun H locs hP hD hS => ?_)
                        have hP : va_P D vwCl (wT I b0 b1 64 8 (upd (upd (upd (upd (upd (upd (va_cpy cf cf (r * 8) (r * 8 + 8) (64 * 8 - (r * 8 + 8))) (r * 8 + 0) 0) (r * 8 + 1) 0) (r * 8 + 2) 0) (r * 8 + 3) 0) (r * 8 + 4) 0) (r * 8 + 5) 0)) H := hP
                        have hD : va_D A (wT I b0 b1 64 8 (upd (upd (upd (upd (upd (upd (va_cpy cf cf (r * 8) (r * 8 + 8) (64 * 8 - (r * 8 + 8))) (r * 8 + 0) 0) (r * 8 + 1) 0) (r * 8 + 2) 0) (r * 8 + 3) 0) (r * 8 + 4) 0) (r * 8 + 5) 0)) := hD
                        refine lv_iinc (v := 6) (lv' := [(4, .int 6), (3, .int (nI (r * 8 + 8))), (2, .int (nI (r * 8))), (0, .ref b0), (1, .int (nI r))]) hx hb dX5_openRow_84 hl (k := 0) rfl (nI_inc 5) (by decide) rfl (fun ls hl => ?_)
                        refine lv_goto (tgt := 67) hx hb dX5_openRow_87 (by decide) ?_
                        refine lv_iload hx hb dX5_openRow_67 (lv_at hl 0 rfl) ?_
                        refine lv_aload_n hx hb dX5_openRow_69 rfl (lv_at hl 3 rfl) ?_
                        refine va_get (D := D) (ci := 5) (v := .int 8) (C := RX5) (T := TX5) (N := 3) hx hb hts u5 hown hK hP 0 rfl rfl 1 (by decide) k0 (fun _ h9 => h9) rfl dX5_openRow_70 ?_
                        refine lv_icmp_ge (tgt := 90) hx hb dX5_openRow_73 (by decide) (fun c_73_11 => ?_) (fun c_73_11 => ?_)
                        · exact absurd c_73_11 (by decide)
                        · refine lv_aload_n hx hb dX5_openRow_76 rfl (lv_at hl 3 rfl) ?_
                          refine lv_iload_n hx hb dX5_openRow_77 rfl (lv_at hl 4 rfl) ?_
                          refine lv_iload hx hb dX5_openRow_78 (lv_at hl 0 rfl) ?_
                          refine lv_iconst (v := 0) hx hb dX5_openRow_80 (by decide) ?_
                          refine k_vF (va_runV (As := [.int (nI r), .int 6, .int 0]) (rest := []) hF (c_X5_put l D I C Q b0 b1 64 8 (upd (upd (upd (upd (upd (upd (va_cpy cf cf (r * 8) (r * 8 + 8) (64 * 8 - (r * 8 + 8))) (r * 8 + 0) 0) (r * 8 + 1) 0) (r * 8 + 2) 0) (r * 8 + 3) 0) (r * 8 + 4) 0) (r * 8 + 5) 0) r 6 0 h1 (by omega) (by omega) (by omega) (by omega) _) (cwV 3 hts gX5_openRow_X5_put rfl rfl rfl (by decide +kernel) ⟨Nat.le_of_ble_eq_true rfl, Nat.le_of_ble_eq_true rfl⟩) (kPreV hE hP hD (ci := 5) (q0 := 0) rfl rfl) rfl rfl hl.1 rfl (lv_room (Nat.le_of_ble_eq_true rfl)) dX5_openRow_81 ⟨Nat.zero_le _, Nat.zero_le _⟩) hD hS hA (fun H locs hP hD hS => ?_)
                          have hP : va_P D vwCl (wT I b0 b1 64 8 (upd (upd (upd (upd (upd (upd (upd (va_cpy cf cf (r * 8) (r * 8 + 8) (64 * 8 - (r * 8 + 8))) (r * 8 + 0) 0) (r * 8 + 1) 0) (r * 8 + 2) 0) (r * 8 + 3) 0) (r * 8 + 4) 0) (r * 8 + 5) 0) (r * 8 + 6) 0)) H := hP
                          have hD : va_D A (wT I b0 b1 64 8 (upd (upd (upd (upd (upd (upd (upd (va_cpy cf cf (r * 8) (r * 8 + 8) (64 * 8 - (r * 8 + 8))) (r * 8 + 0) 0) (r * 8 + 1) 0) (r * 8 + 2) 0) (r * 8 + 3) 0) (r * 8 + 4) 0) (r * 8 + 5) 0) (r * 8 + 6) 0)) := hD
                          refine lv_iinc (v := 7) (lv' := [(4, .int 7), (3, .int (nI (r * 8 + 8))), (2, .int (nI (r * 8))), (0, .ref b0), (1, .int (nI r))]) hx hb dX5_openRow_84 hl (k := 0) rfl (nI_inc 6) (by decide) rfl (fun ls hl => ?_)
                          refine lv_goto (tgt := 67) hx hb dX5_openRow_87 (by decide) ?_
                          refine lv_iload hx hb dX5_openRow_67 (lv_at hl 0 rfl) ?_
                          refine lv_aload_n hx hb dX5_openRow_69 rfl (lv_at hl 3 rfl) ?_
                          refine va_get (D := D) (ci := 5) (v := .int 8) (C := RX5) (T := TX5) (N := 3) hx hb hts u5 hown hK hP 0 rfl rfl 1 (by decide) k0 (fun _ h9 => h9) rfl dX5_openRow_70 ?_
                          refine lv_icmp_ge (tgt := 90) hx hb dX5_openRow_73 (by decide) (fun c_73_12 => ?_) (fun c_73_12 => ?_)
                          · exact absurd c_73_12 (by decide)
                          · refine lv_aload_n hx hb dX5_openRow_76 rfl (lv_at hl 3 rfl) ?_
                            refine lv_iload_n hx hb dX5_openRow_77 rfl (lv_at hl 4 rfl) ?_
                            refine lv_iload hx hb dX5_openRow_78 (lv_at hl 0 rfl) ?_
                            refine lv_iconst (v := 0) hx hb dX5_openRow_80 (by decide) ?_
                            refine k_vF (va_runV (As := [.int (nI r), .int 7, .int 0]) (rest := []) hF (c_X5_put l D I C Q b0 b1 64 8 (upd (upd (upd (upd (upd (upd (upd (va_cpy cf cf (r * 8) (r * 8 + 8) (64 * 8 - (r * 8 + 8))) (r * 8 + 0) 0) (r * 8 + 1) 0) (r * 8 + 2) 0) (r * 8 + 3) 0) (r * 8 + 4) 0) (r * 8 + 5) 0) (r * 8 + 6) 0) r 7 0 h1 (by omega) (by omega) (by omega) (by omega) _) (cwV 3 hts gX5_openRow_X5_put rfl rfl rfl (by decide +kernel) ⟨Nat.le_of_ble_eq_true rfl, Nat.le_of_ble_eq_true rfl⟩) (kPreV hE hP hD (ci := 5) (q0 := 0) rfl rfl) rfl rfl hl.1 rfl (lv_room (Nat.le_of_ble_eq_true rfl)) dX5_openRow_81 ⟨Nat.zero_le _, Nat.zero_le _⟩) hD hS hA (fun H locs hP hD hS => ?_)
                            have hP : va_P D vwCl (wT I b0 b1 64 8 (upd (upd (upd (upd (upd (upd (upd (upd (va_cpy cf cf (r * 8) (r * 8 + 8) (64 * 8 - (r * 8 + 8))) (r * 8 + 0) 0) (r * 8 + 1) 0) (r * 8 + 2) 0) (r * 8 + 3) 0) (r * 8 + 4) 0) (r * 8 + 5) 0) (r * 8 + 6) 0) (r * 8 + 7) 0)) H := hP
                            have hD : va_D A (wT I b0 b1 64 8 (upd (upd (upd (upd (upd (upd (upd (upd (va_cpy cf cf (r * 8) (r * 8 + 8) (64 * 8 - (r * 8 + 8))) (r * 8 + 0) 0) (r * 8 + 1) 0) (r * 8 + 2) 0) (r * 8 + 3) 0) (r * 8 + 4) 0) (r * 8 + 5) 0) (r * 8 + 6) 0) (r * 8 + 7) 0)) := hD
                            refine lv_iinc (v := 8) (lv' := [(4, .int 8), (3, .int (nI (r * 8 + 8))), (2, .int (nI (r * 8))), (0, .ref b0), (1, .int (nI r))]) hx hb dX5_openRow_84 hl (k := 0) rfl (nI_inc 7) (by decide) rfl (fun ls hl => ?_)
                            refine lv_goto (tgt := 67) hx hb dX5_openRow_87 (by decide) ?_
                            refine lv_iload hx hb dX5_openRow_67 (lv_at hl 0 rfl) ?_
                            refine lv_aload_n hx hb dX5_openRow_69 rfl (lv_at hl 3 rfl) ?_
                            refine va_get (D := D) (ci := 5) (v := .int 8) (C := RX5) (T := TX5) (N := 3) hx hb hts u5 hown hK hP 0 rfl rfl 1 (by decide) k0 (fun _ h9 => h9) rfl dX5_openRow_70 ?_
                            refine lv_icmp_ge (tgt := 90) hx hb dX5_openRow_73 (by decide) (fun c_73_13 => ?_) (fun c_73_13 => ?_)
                            · exact hend _ _ _ _ _ hP hD hS dX5_openRow_90 rfl
                            · exact (c_73_13 (by decide)).elim
set_option maxHeartbeats 400000 in
set_option maxRecDepth 100000 in
theorem c_X5_dropFirstRow (l : Launch) (D : va_G) (I C Q : ClassId) (b0 b1 : Nat) (cf : Nat → Int32) : KV l D (tyL I C Q) yX5_dropFirstRow wsX5_dropFirstRow { frames := 1, cells := 0, slots := 0, locals := 40 } [.ref b0] (wT I b0 b1 40 4 cf) (wT I b0 b1 40 4 (va_cpy cf cf 4 0 156)) := by
  refine KV.of (cc := cX5_dropFirstRow) (maxL := 1) (own := RX5) (by decide) rfl rfl (Nat.le_of_ble_eq_true rfl) ?_
  intro p e s m below meth c A Q0 ls hx hb hml hown hts hE hA hP hD hS hl hend
  have hK := hE.1
  have hF : CallFix p m c cX5_dropFirstRow 1 s [.ref b0].toArray wsX5_dropFirstRow RX5 := ⟨hx, hb, hml, hown, hts⟩
  have k0 := hts (.fieldLink RX5 19 "LateExcuses$Table" "columns" "I") (List.mem_of_getElem? (i := 1) rfl)
  have k1 := hts (.fieldLink RX5 22 "LateExcuses$Table" "cells" "[I") (List.mem_of_getElem? (i := 2) rfl)
  have k2 := hts (.methodLink RX5 26 arraycopyName) (List.mem_of_getElem? (i := 3) rfl)
  have k3 := hts (.native arraycopyName) (List.mem_of_getElem? (i := 4) rfl)
  have k4 := hts (.static arraycopyName) (List.mem_of_getElem? (i := 5) rfl)
  have k5 := hts (.initialized "java/lang/System") (List.mem_of_getElem? (i := 6) rfl)
  have u5 : ∀ w ∈ u_ws RX5 TX5 3, w ∈ wsX5_dropFirstRow := by decide +kernel
  have hl : lv_has ls 1 [(0, .ref b0)] := hl
  refine lv_aload_n hx hb dX5_dropFirstRow_0 rfl (lv_at hl 0 rfl) ?_
  refine va_get (D := D) (ci := 5) (v := .int 4) (C := RX5) (T := TX5) (N := 3) hx hb hts u5 hown hK hP 0 rfl rfl 1 (by decide) k0 (fun _ h9 => h9) rfl dX5_dropFirstRow_1 ?_
  refine lv_aload_n hx hb dX5_dropFirstRow_4 rfl (lv_at hl 0 rfl) ?_
  refine va_get (D := D) (ci := 5) (v := .ref b1) (C := RX5) (T := TX5) (N := 3) hx hb hts u5 hown hK hP 0 rfl rfl 2 (by decide) k1 (fun _ h9 => h9) rfl dX5_dropFirstRow_5 ?_
  refine va_alen (v := 160) hx hb hK hP 1 0 rfl rfl rfl dX5_dropFirstRow_8 ?_
  refine lv_icmp_gt (tgt := 38) hx hb dX5_dropFirstRow_9 (by decide) (fun c_9 => ?_) (fun c_9 => ?_)
  · exact absurd c_9 (by decide)
  · refine lv_aload_n hx hb dX5_dropFirstRow_12 rfl (lv_at hl 0 rfl) ?_
    refine va_get (D := D) (ci := 5) (v := .ref b1) (C := RX5) (T := TX5) (N := 3) hx hb hts u5 hown hK hP 0 rfl rfl 2 (by decide) k1 (fun _ h9 => h9) rfl dX5_dropFirstRow_13 ?_
    refine lv_aload_n hx hb dX5_dropFirstRow_16 rfl (lv_at hl 0 rfl) ?_
    refine va_get (D := D) (ci := 5) (v := .int 4) (C := RX5) (T := TX5) (N := 3) hx hb hts u5 hown hK hP 0 rfl rfl 1 (by decide) k0 (fun _ h9 => h9) rfl dX5_dropFirstRow_17 ?_
    refine lv_aload_n hx hb dX5_dropFirstRow_20 rfl (lv_at hl 0 rfl) ?_
    refine va_get (D := D) (ci := 5) (v := .ref b1) (C := RX5) (T := TX5) (N := 3) hx hb hts u5 hown hK hP 0 rfl rfl 2 (by decide) k1 (fun _ h9 => h9) rfl dX5_dropFirstRow_21 ?_
    refine lv_iconst (v := 0) hx hb dX5_dropFirstRow_24 (by decide) ?_
    refine lv_aload_n hx hb dX5_dropFirstRow_25 rfl (lv_at hl 0 rfl) ?_
    refine va_get (D := D) (ci := 5) (v := .ref b1) (C := RX5) (T := TX5) (N := 3) hx hb hts u5 hown hK hP 0 rfl rfl 2 (by decide) k1 (fun _ h9 => h9) rfl dX5_dropFirstRow_26 ?_
    refine va_alen (v := 160) hx hb hK hP 1 0 rfl rfl rfl dX5_dropFirstRow_29 ?_
    refine lv_aload_n hx hb dX5_dropFirstRow_30 rfl (lv_at hl 0 rfl) ?_
    refine va_get (D := D) (ci := 5) (v := .int 4) (C := RX5) (T := TX5) (N := 3) hx hb hts u5 hown hK hP 0 rfl rfl 1 (by decide) k0 (fun _ h9 => h9) rfl dX5_dropFirstRow_31 ?_
    refine k_isub (v := 156) hx hb dX5_dropFirstRow_34 (by decide) ?_
    refine k_copyi (sp := 4) (dp := 0) (n := 156) hx hb (hml.trans hl.1.symm) hown k2 k3 k4 k5 hK hP hD hS 1 1 0 0 rfl rfl rfl rfl ⟨by decide, by decide, by decide, by decide⟩ (Nat.le_of_ble_eq_true rfl) (Nat.le_of_ble_eq_true rfl) dX5_dropFirstRow_35 (fun H locs hP hD hS => ?_)
    have hP : va_P D vwCl (wT I b0 b1 40 4 (va_cpy cf cf 4 0 156)) H := hP
    have hD : va_D A (wT I b0 b1 40 4 (va_cpy cf cf 4 0 156)) := hD
    exact hend _ _ _ _ _ hP hD hS dX5_dropFirstRow_38 rfl
set_option maxHeartbeats 400000 in
set_option maxRecDepth 100000 in
theorem c_X5_copyFrom (l : Launch) (D : va_G) (I C Q : ClassId) (b0 b1 o0 o1 : Nat) (rn : Nat) (cn : Nat) (cf : Nat → Int32) (cg : Nat → Int32) (hz : rn * cn < 10000) : KV l D (tyL I C Q) yX5_copyFrom wsX5_copyFrom { frames := 1, cells := 0, slots := 0, locals := 40 } [.ref b0, .ref o0] (wTT I b0 b1 o0 o1 rn cn cf cg) (wTT I b0 b1 o0 o1 rn cn (va_cpy cg cf 0 0 (rn * cn)) cg) := by
  refine KV.of (cc := cX5_copyFrom) (maxL := 2) (own := RX5) (by decide) rfl rfl (Nat.le_of_ble_eq_true rfl) ?_
  intro p e s m below meth c A Q0 ls hx hb hml hown hts hE hA hP hD hS hl hend
  have hK := hE.1
  have hF : CallFix p m c cX5_copyFrom 2 s [.ref b0, .ref o0].toArray wsX5_copyFrom RX5 := ⟨hx, hb, hml, hown, hts⟩
  have k0 := hts (.fieldLink RX5 22 "LateExcuses$Table" "cells" "[I") (List.mem_of_getElem? (i := 1) rfl)
  have k1 := hts (.methodLink RX5 26 arraycopyName) (List.mem_of_getElem? (i := 2) rfl)
  have k2 := hts (.native arraycopyName) (List.mem_of_getElem? (i := 3) rfl)
  have k3 := hts (.static arraycopyName) (List.mem_of_getElem? (i := 4) rfl)
  have k4 := hts (.initialized "java/lang/System") (List.mem_of_getElem? (i := 5) rfl)
  have u5 : ∀ w ∈ u_ws RX5 TX5 3, w ∈ wsX5_copyFrom := by decide +kernel
  have hl : lv_has ls 2 [(0, .ref b0), (1, .ref o0)] := hl
  refine lv_aload_n hx hb dX5_copyFrom_0 rfl (lv_at hl 1 rfl) ?_
  refine va_get (D := D) (ci := 5) (v := .ref o1) (C := RX5) (T := TX5) (N := 3) hx hb hts u5 hown hK hP 2 rfl rfl 2 (by decide) k0 (fun _ h9 => h9) rfl dX5_copyFrom_1 ?_
  refine va_alen (v := nI (rn * cn)) hx hb hK hP 3 0 rfl rfl rfl dX5_copyFrom_4 ?_
  refine lv_aload_n hx hb dX5_copyFrom_5 rfl (lv_at hl 0 rfl) ?_
  refine va_get (D := D) (ci := 5) (v := .ref b1) (C := RX5) (T := TX5) (N := 3) hx hb hts u5 hown hK hP 0 rfl rfl 2 (by decide) k0 (fun _ h9 => h9) rfl dX5_copyFrom_6 ?_
  refine va_alen (v := nI (rn * cn)) hx hb hK hP 1 0 rfl rfl rfl dX5_copyFrom_9 ?_
  refine lv_icmp_ne (tgt := 31) hx hb dX5_copyFrom_10 (by decide) (fun c_10 => ?_) (fun c_10 => ?_)
  · exact absurd rfl c_10
  · refine lv_aload_n hx hb dX5_copyFrom_13 rfl (lv_at hl 1 rfl) ?_
    refine va_get (D := D) (ci := 5) (v := .ref o1) (C := RX5) (T := TX5) (N := 3) hx hb hts u5 hown hK hP 2 rfl rfl 2 (by decide) k0 (fun _ h9 => h9) rfl dX5_copyFrom_14 ?_
    refine lv_iconst (v := 0) hx hb dX5_copyFrom_17 (by decide) ?_
    refine lv_aload_n hx hb dX5_copyFrom_18 rfl (lv_at hl 0 rfl) ?_
    refine va_get (D := D) (ci := 5) (v := .ref b1) (C := RX5) (T := TX5) (N := 3) hx hb hts u5 hown hK hP 0 rfl rfl 2 (by decide) k0 (fun _ h9 => h9) rfl dX5_copyFrom_19 ?_
    refine lv_iconst (v := 0) hx hb dX5_copyFrom_22 (by decide) ?_
    refine lv_aload_n hx hb dX5_copyFrom_23 rfl (lv_at hl 0 rfl) ?_
    refine va_get (D := D) (ci := 5) (v := .ref b1) (C := RX5) (T := TX5) (N := 3) hx hb hts u5 hown hK hP 0 rfl rfl 2 (by decide) k0 (fun _ h9 => h9) rfl dX5_copyFrom_24 ?_
    refine va_alen (v := nI (rn * cn)) hx hb hK hP 1 0 rfl rfl rfl dX5_copyFrom_27 ?_
    refine k_copyi (sp := 0) (dp := 0) (n := (rn * cn)) hx hb (hml.trans hl.1.symm) hown k1 k2 k3 k4 hK hP hD hS 3 1 0 0 rfl rfl rfl rfl ⟨by omega, by omega, by omega, by omega⟩ (Nat.le_of_ble_eq_true rfl) (Nat.le_of_ble_eq_true rfl) dX5_copyFrom_28 (fun H locs hP hD hS => ?_)
    have hP : va_P D vwCl (wTT I b0 b1 o0 o1 rn cn (va_cpy cg cf 0 0 (rn * cn)) cg) H := hP
    have hD : va_D A (wTT I b0 b1 o0 o1 rn cn (va_cpy cg cf 0 0 (rn * cn)) cg) := hD
    exact hend _ _ _ _ _ hP hD hS dX5_copyFrom_31 rfl
