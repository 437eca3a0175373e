set_option maxHeartbeats 400000 in
set_option maxRecDepth 100000 in
theorem c_X9_placeIn (l : Launch) (D : va_G) (I C Q : ClassId) (a0 a1 a2 a3 a4 : Nat) (now : Nat → Int32) (kept : Nat → Int32) (st : Int32) (text : Nat → Int32) (len : Int32) (att : Int32) (num : Int32) (rd : Nat → Int32) (cab : Nat) (hc : cab < 3) : KI l D (tyL I C Q) yX9_placeIn wsX9_placeIn { frames := 0, cells := 0, slots := 0, locals := 0 } [.ref a0, .int (nI cab)] (wM I a0 a1 a2 a3 a4 now kept st text len att num rd) (wM I a0 a1 a2 a3 a4 now kept st text len att num rd) (m_pI (m_pinN now cab)) := by
  refine KI.of (cc := cX9_placeIn) (maxL := 3) (rt := .int) (own := RX9) (by decide) rfl rfl (Nat.le_of_ble_eq_true rfl) ?_
  intro p e s m below meth c A Q0 ls hx hb hml hown hts hE hA hP hD hS hl hend
  have hK := hE.1
  have hF : CallFix p m c cX9_placeIn 3 s [.ref a0, .int (nI cab)].toArray wsX9_placeIn RX9 := ⟨hx, hb, hml, hown, hts⟩
  have k0 := hts (.fieldLink RX9 7 "LateExcusesModel" "now" "[I") (List.mem_of_getElem? (i := 1) rfl)
  have u9 : ∀ w ∈ u_ws RX9 TX9 8, w ∈ wsX9_placeIn := by decide +kernel
  have hl : lv_has ls 3 [(0, .ref a0), (1, .int (nI cab))] := hl
  refine lv_iconst (v := 0) hx hb dX9_placeIn_0 (by decide) ?_
  refine lv_istore_n (lv' := [(2, .int 0), (0, .ref a0), (1, .int (nI cab))]) hx hb dX9_placeIn_1 rfl hl (by decide) rfl (fun ls hl => ?_)
  refine lv_iload_n hx hb dX9_placeIn_2 rfl (lv_at hl 0 rfl) ?_
  refine lv_iconst (v := 4) hx hb dX9_placeIn_3 (by decide) ?_
  refine lv_icmp_ge (tgt := 40) hx hb dX9_placeIn_4 (by decide) (fun c_4 => ?_) (fun c_4 => ?_)
  · exact absurd c_4 (by decide)
  · refine lv_aload_n hx hb dX9_placeIn_7 rfl (lv_at hl 1 rfl) ?_
    refine va_get (D := D) (ci := 9) (v := .ref a1) (C := RX9) (T := TX9) (N := 8) hx hb hts u9 hown hK hP 0 rfl rfl 0 (by decide) k0 (fun _ h9 => h9) rfl dX9_placeIn_8 ?_
    refine lv_sipush (v := 1068) hx hb dX9_placeIn_11 (by decide) ?_
    refine lv_iconst (v := 4) hx hb dX9_placeIn_14 (by decide) ?_
    refine lv_iload_n hx hb dX9_placeIn_15 rfl (lv_at hl 2 rfl) ?_
    refine k_imul (v := nI (4 * cab)) hx hb dX9_placeIn_16 (k_mul 4 cab) ?_
    refine k_iadd (v := nI (1068 + 4 * cab)) hx hb dX9_placeIn_17 (nI_add 1068 (4 * cab)) ?_
    refine lv_iload_n hx hb dX9_placeIn_18 rfl (lv_at hl 0 rfl) ?_
    refine k_iadd (v := nI (1068 + 4 * cab + 0)) hx hb dX9_placeIn_19 (nI_add (1068 + 4 * cab) 0) ?_
    refine k_iald (j := 1068 + 4 * cab + 0) (v := (now (1068 + 4 * cab + 0))) hx hb hK hP 1 0 rfl rfl rfl (by omega) (by decide) rfl dX9_placeIn_20 ?_
    refine lv_if_ne (tgt := 34) hx hb dX9_placeIn_21 (by decide) (fun c_21 => ?_) (fun c_21 => ?_)
    · refine lv_iinc (v := 1) (lv' := [(2, .int 1), (0, .ref a0), (1, .int (nI cab))]) hx hb dX9_placeIn_34 hl (k := 0) rfl (nI_inc 0) (by decide) rfl (fun ls hl => ?_)
      refine lv_goto (tgt := 2) hx hb dX9_placeIn_37 (by decide) ?_
      refine lv_iload_n hx hb dX9_placeIn_2 rfl (lv_at hl 0 rfl) ?_
      refine lv_iconst (v := 4) hx hb dX9_placeIn_3 (by decide) ?_
      refine lv_icmp_ge (tgt := 40) hx hb dX9_placeIn_4 (by decide) (fun c_4_2 => ?_) (fun c_4_2 => ?_)
      · exact absurd c_4_2 (by decide)
      · refine lv_aload_n hx hb dX9_placeIn_7 rfl (lv_at hl 1 rfl) ?_
        refine va_get (D := D) (ci := 9) (v := .ref a1) (C := RX9) (T := TX9) (N := 8) hx hb hts u9 hown hK hP 0 rfl rfl 0 (by decide) k0 (fun _ h9 => h9) rfl dX9_placeIn_8 ?_
        refine lv_sipush (v := 1068) hx hb dX9_placeIn_11 (by decide) ?_
        refine lv_iconst (v := 4) hx hb dX9_placeIn_14 (by decide) ?_
        refine lv_iload_n hx hb dX9_placeIn_15 rfl (lv_at hl 2 rfl) ?_
        refine k_imul (v := nI (4 * cab)) hx hb dX9_placeIn_16 (k_mul 4 cab) ?_
        refine k_iadd (v := nI (1068 + 4 * cab)) hx hb dX9_placeIn_17 (nI_add 1068 (4 * cab)) ?_
        refine lv_iload_n hx hb dX9_placeIn_18 rfl (lv_at hl 0 rfl) ?_
        refine k_iadd (v := nI (1068 + 4 * cab + 1)) hx hb dX9_placeIn_19 (nI_add (1068 + 4 * cab) 1) ?_
        refine k_iald (j := 1068 + 4 * cab + 1) (v := (now (1068 + 4 * cab + 1))) hx hb hK hP 1 0 rfl rfl rfl (by omega) (by decide) rfl dX9_placeIn_20 ?_
        refine lv_if_ne (tgt := 34) hx hb dX9_placeIn_21 (by decide) (fun c_21_3 => ?_) (fun c_21_3 => ?_)
        · refine lv_iinc (v := 2) (lv' := [(2, .int 2), (0, .ref a0), (1, .int (nI cab))]) hx hb dX9_placeIn_34 hl (k := 0) rfl (nI_inc 1) (by decide) rfl (fun ls hl => ?_)
          refine lv_goto (tgt := 2) hx hb dX9_placeIn_37 (by decide) ?_
          refine lv_iload_n hx hb dX9_placeIn_2 rfl (lv_at hl 0 rfl) ?_
          refine lv_iconst (v := 4) hx hb dX9_placeIn_3 (by decide) ?_
          refine lv_icmp_ge (tgt := 40) hx hb dX9_placeIn_4 (by decide) (fun c_4_4 => ?_) (fun c_4_4 => ?_)
          · exact absurd c_4_4 (by decide)
          · refine lv_aload_n hx hb dX9_placeIn_7 rfl (lv_at hl 1 rfl) ?_
            refine va_get (D := D) (ci := 9) (v := .ref a1) (C := RX9) (T := TX9) (N := 8) hx hb hts u9 hown hK hP 0 rfl rfl 0 (by decide) k0 (fun _ h9 => h9) rfl dX9_placeIn_8 ?_
            refine lv_sipush (v := 1068) hx hb dX9_placeIn_11 (by decide) ?_
            refine lv_iconst (v := 4) hx hb dX9_placeIn_14 (by decide) ?_
            refine lv_iload_n hx hb dX9_placeIn_15 rfl (lv_at hl 2 rfl) ?_
            refine k_imul (v := nI (4 * cab)) hx hb dX9_placeIn_16 (k_mul 4 cab) ?_
            refine k_iadd (v := nI (1068 + 4 * cab)) hx hb dX9_placeIn_17 (nI_add 1068 (4 * cab)) ?_
            refine lv_iload_n hx hb dX9_placeIn_18 rfl (lv_at hl 0 rfl) ?_
            refine k_iadd (v := nI (1068 + 4 * cab + 2)) hx hb dX9_placeIn_19 (nI_add (1068 + 4 * cab) 2) ?_
            refine k_iald (j := 1068 + 4 * cab + 2) (v := (now (1068 + 4 * cab + 2))) hx hb hK hP 1 0 rfl rfl rfl (by omega) (by decide) rfl dX9_placeIn_20 ?_
            refine lv_if_ne (tgt := 34) hx hb dX9_placeIn_21 (by decide) (fun c_21_5 => ?_) (fun c_21_5 => ?_)
            · refine lv_iinc (v := 3) (lv' := [(2, .int 3), (0, .ref a0), (1, .int (nI cab))]) hx hb dX9_placeIn_34 hl (k := 0) rfl (nI_inc 2) (by decide) rfl (fun ls hl => ?_)
              refine lv_goto (tgt := 2) hx hb dX9_placeIn_37 (by decide) ?_
              refine lv_iload_n hx hb dX9_placeIn_2 rfl (lv_at hl 0 rfl) ?_
              refine lv_iconst (v := 4) hx hb dX9_placeIn_3 (by decide) ?_
              refine lv_icmp_ge (tgt := 40) hx hb dX9_placeIn_4 (by decide) (fun c_4_6 => ?_) (fun c_4_6 => ?_)
              · exact absurd c_4_6 (by decide)
              · refine lv_aload_n hx hb dX9_placeIn_7 rfl (lv_at hl 1 rfl) ?_
                refine va_get (D := D) (ci := 9) (v := .ref a1) (C := RX9) (T := TX9) (N := 8) hx hb hts u9 hown hK hP 0 rfl rfl 0 (by decide) k0 (fun _ h9 => h9) rfl dX9_placeIn_8 ?_
                refine lv_sipush (v := 1068) hx hb dX9_placeIn_11 (by decide) ?_
                refine lv_iconst (v := 4) hx hb dX9_placeIn_14 (by decide) ?_
                refine lv_iload_n hx hb dX9_placeIn_15 rfl (lv_at hl 2 rfl) ?_
                refine k_imul (v := nI (4 * cab)) hx hb dX9_placeIn_16 (k_mul 4 cab) ?_
                refine k_iadd (v := nI (1068 + 4 * cab)) hx hb dX9_placeIn_17 (nI_add 1068 (4 * cab)) ?_
                refine lv_iload_n hx hb dX9_placeIn_18 rfl (lv_at hl 0 rfl) ?_
                refine k_iadd (v := nI (1068 + 4 * cab + 3)) hx hb dX9_placeIn_19 (nI_add (1068 + 4 * cab) 3) ?_
                refine k_iald (j := 1068 + 4 * cab + 3) (v := (now (1068 + 4 * cab + 3))) hx hb hK hP 1 0 rfl rfl rfl (by omega) (by decide) rfl dX9_placeIn_20 ?_
                refine lv_if_ne (tgt := 34) hx hb dX9_placeIn_21 (by decide) (fun c_21_7 => ?_) (fun c_21_7 => ?_)
                · refine lv_iinc (v := 4) (lv' := [(2, .int 4), (0, .ref a0), (1, .int (nI cab))]) hx hb dX9_placeIn_34 hl (k := 0) rfl (nI_inc 3) (by decide) rfl (fun ls hl => ?_)
                  refine lv_goto (tgt := 2) hx hb dX9_placeIn_37 (by decide) ?_
                  refine lv_iload_n hx hb dX9_placeIn_2 rfl (lv_at hl 0 rfl) ?_
                  refine lv_iconst (v := 4) hx hb dX9_placeIn_3 (by decide) ?_
                  refine lv_icmp_ge (tgt := 40) hx hb dX9_placeIn_4 (by decide) (fun c_4_8 => ?_) (fun c_4_8 => ?_)
                  · refine lv_iconst (v := (-1)) hx hb dX9_placeIn_40 (by decide) ?_
                    exact hend _ _ _ _ _ _ hP hD hS dX9_placeIn_41 rfl rfl (by simp +decide only [m_pI, m_pinN, Nat.add_eq_zero_iff, c_4, c_21, c_4_2, c_21_3, c_4_4, c_21_5, c_4_6, c_21_7, c_4_8, if_true, if_false, not_true_eq_false, not_false_eq_true, and_self, and_true, true_and, and_false, false_and, kn01, kn10, kn02, kn20, kn12, kn21, eq_self])
                  · exact (c_4_8 (by decide)).elim
                · refine lv_sipush (v := 1068) hx hb dX9_placeIn_24 (by decide) ?_
                  refine lv_iconst (v := 4) hx hb dX9_placeIn_27 (by decide) ?_
                  refine lv_iload_n hx hb dX9_placeIn_28 rfl (lv_at hl 2 rfl) ?_
                  refine k_imul (v := nI (4 * cab)) hx hb dX9_placeIn_29 (k_mul 4 cab) ?_
                  refine k_iadd (v := nI (1068 + 4 * cab)) hx hb dX9_placeIn_30 (nI_add 1068 (4 * cab)) ?_
                  refine lv_iload_n hx hb dX9_placeIn_31 rfl (lv_at hl 0 rfl) ?_
                  refine k_iadd (v := nI (1068 + 4 * cab + 3)) hx hb dX9_placeIn_32 (nI_add (1068 + 4 * cab) 3) ?_
                  exact hend _ _ _ _ _ _ hP hD hS dX9_placeIn_33 rfl rfl (by simp +decide only [m_pI, m_pinN, Nat.add_eq_zero_iff, c_4, c_21, c_4_2, c_21_3, c_4_4, c_21_5, c_4_6, c_21_7, if_true, if_false, not_true_eq_false, not_false_eq_true, and_self, and_true, true_and, and_false, false_and, kn01, kn10, kn02, kn20, kn12, kn21, eq_self])
            · refine lv_sipush (v := 1068) hx hb dX9_placeIn_24 (by decide) ?_
              refine lv_iconst (v := 4) hx hb dX9_placeIn_27 (by decide) ?_
              refine lv_iload_n hx hb dX9_placeIn_28 rfl (lv_at hl 2 rfl) ?_
              refine k_imul (v := nI (4 * cab)) hx hb dX9_placeIn_29 (k_mul 4 cab) ?_
              refine k_iadd (v := nI (1068 + 4 * cab)) hx hb dX9_placeIn_30 (nI_add 1068 (4 * cab)) ?_
              refine lv_iload_n hx hb dX9_placeIn_31 rfl (lv_at hl 0 rfl) ?_
              refine k_iadd (v := nI (1068 + 4 * cab + 2)) hx hb dX9_placeIn_32 (nI_add (1068 + 4 * cab) 2) ?_
              exact hend _ _ _ _ _ _ hP hD hS dX9_placeIn_33 rfl rfl (by simp +decide only [m_pI, m_pinN, Nat.add_eq_zero_iff, c_4, c_21, c_4_2, c_21_3, c_4_4, c_21_5, if_true, if_false, not_true_eq_false, not_false_eq_true, and_self, and_true, true_and, and_false, false_and, kn01, kn10, kn02, kn20, kn12, kn21, eq_self])
        · refine lv_sipush (v := 1068) hx hb dX9_placeIn_24 (by decide) ?_
          refine lv_iconst (v := 4) hx hb dX9_placeIn_27 (by decide) ?_
          refine lv_iload_n hx hb dX9_placeIn_28 rfl (lv_at hl 2 rfl) ?_
          refine k_imul (v := nI (4 * cab)) hx hb dX9_placeIn_29 (k_mul 4 cab) ?_
          refine k_iadd (v := nI (1068 + 4 * cab)) hx hb dX9_placeIn_30 (nI_add 1068 (4 * cab)) ?_
          refine lv_iload_n hx hb dX9_placeIn_31 rfl (lv_at hl 0 rfl) ?_
          refine k_iadd (v := nI (1068 + 4 * cab + 1)) hx hb dX9_placeIn_32 (nI_add (1068 + 4 * cab) 1) ?_
          exact hend _ _ _ _ _ _ hP hD hS dX9_placeIn_33 rfl rfl (by simp +decide only [m_pI, m_pinN, Nat.add_eq_zero_iff, c_4, c_21, c_4_2, c_21_3, if_true, if_false, not_true_eq_false, not_false_eq_true, and_self, and_true, true_and, and_false, false_and, kn01, kn10, kn02, kn20, kn12, kn21, eq_self])
    · refine lv_sipush (v := 1068) hx hb dX9_placeIn_24 (by decide) ?_
      refine lv_iconst (v := 4) hx hb dX9_placeIn_27 (by decide) ?_
      refine lv_iload_n hx hb dX9_placeIn_28 rfl (lv_at hl 2 rfl) ?_
      refine k_imul (v := nI (4 * cab)) hx hb dX9_placeIn_29 (k_mul 4 cab) ?_
      refine k_iadd (v := nI (1068 + 4 * cab)) hx hb dX9_placeIn_30 (nI_add 1068 (4 * cab)) ?_
      refine lv_iload_n hx hb dX9_placeIn_31 rfl (lv_at hl 0 rfl) ?_
      refine k_iadd (v := nI (1068 + 4 * cab + 0)) hx hb dX9_placeIn_32 (nI_add (1068 + 4 * cab) 0) ?_
      exact hend _ _ _ _ _ _ hP hD hS dX9_placeIn_33 rfl rfl (by simp +decide only [m_pI, m_pinN, Nat.add_eq_zero_iff, c_4, c_21, if_true, if_false, not_true_eq_false, not_false_eq_true, and_self, and_true, true_and, and_false, false_and, kn01, kn10, kn02, kn20, kn12, kn21, eq_self])
set_option maxHeartbeats 400000 in
set_option maxRecDepth 100000 in
theorem c_X9_placeFor (l : Launch) (D : va_G) (I C Q : ClassId) (a0 a1 a2 a3 a4 : Nat) (now : Nat → Int32) (kept : Nat → Int32) (st : Int32) (text : Nat → Int32) (len : Int32) (att : Int32) (num : Int32) (rd : Nat → Int32) (x : Nat) (hx1 : 1 ≤ x) (hx3 : x ≤ 3) : KI l D (tyL I C Q) yX9_placeFor wsX9_placeFor { frames := 1, cells := 0, slots := 0, locals := 22 } [.ref a0, .int (nI x)] (wM I a0 a1 a2 a3 a4 now kept st text len att num rd) (wM I a0 a1 a2 a3 a4 now kept st text len att num rd) (m_pI (m_pfN now x)) := by
  refine KI.of (cc := cX9_placeFor) (maxL := 3) (rt := .int) (own := RX9) (by decide) rfl rfl (Nat.le_of_ble_eq_true rfl) ?_
  intro p e s m below meth c A Q0 ls hx hb hml hown hts hE hA hP hD hS hl hend
  have hK := hE.1
  have hF : CallFix p m c cX9_placeFor 3 s [.ref a0, .int (nI x)].toArray wsX9_placeFor RX9 := ⟨hx, hb, hml, hown, hts⟩
  have hl : lv_has ls 3 [(0, .ref a0), (1, .int (nI x))] := hl
  refine lv_iload_n hx hb dX9_placeFor_0 rfl (lv_at hl 1 rfl) ?_
  refine lv_iconst (v := 3) hx hb dX9_placeFor_1 (by decide) ?_
  refine lv_icmp_ge (tgt := 15) hx hb dX9_placeFor_2 (by decide) (fun c_2 => ?_) (fun c_2 => ?_)
  · have hxc : ¬ x < 3 := Nat.not_lt.mpr ((nI_leI (a := 3) (b := x) (by omega) (by omega)).mp c_2)
    refine lv_iconst (v := (-1)) hx hb dX9_placeFor_15 (by decide) ?_
    refine lv_istore_n (lv' := [(2, .int (-1)), (0, .ref a0), (1, .int (nI x))]) hx hb dX9_placeFor_16 rfl hl (by decide) rfl (fun ls hl => ?_)
    refine lv_iload_n hx hb dX9_placeFor_17 rfl (lv_at hl 0 rfl) ?_
    refine lv_if_ge (tgt := 29) hx hb dX9_placeFor_18 (by decide) (fun c_18 => ?_) (fun c_18 => ?_)
    · exact absurd c_18 (by decide)
    · refine lv_aload_n hx hb dX9_placeFor_21 rfl (lv_at hl 1 rfl) ?_
      refine lv_iconst (v := 2) hx hb dX9_placeFor_22 (by decide) ?_
      refine k_iF (va_runV (As := [.int 2]) (rest := []) hF (c_X9_placeIn l D I C Q a0 a1 a2 a3 a4 now kept st text len att num rd 2 (by omega) _) (cwV 1 hts gX9_placeFor_X9_placeIn rfl rfl rfl (by decide +kernel) ⟨Nat.le_of_ble_eq_true rfl, Nat.le_of_ble_eq_true rfl⟩) (kPreV hE hP hD (ci := 9) (q0 := 0) rfl rfl) rfl rfl hl.1 rfl (lv_room (Nat.le_of_ble_eq_true rfl)) dX9_placeFor_23 ⟨Nat.zero_le _, Nat.zero_le _⟩) hD hS hA (fun H locs hP hD hS => ?_)
      refine lv_goto (tgt := 30) hx hb dX9_placeFor_26 (by decide) ?_
      exact hend _ _ _ _ _ _ hP hD hS dX9_placeFor_30 rfl rfl (by simp +decide only [m_pfN, hxc, if_true, if_false, not_true_eq_false, not_false_eq_true, and_self, and_true, true_and, and_false, false_and, kn01, kn10, kn02, kn20, kn12, kn21, eq_self])
  · have hxc : x < 3 := Nat.lt_of_not_le (fun h => c_2 ((nI_leI (a := 3) (b := x) (by omega) (by omega)).mpr h))
    refine lv_aload_n hx hb dX9_placeFor_5 rfl (lv_at hl 0 rfl) ?_
    refine lv_iload_n hx hb dX9_placeFor_6 rfl (lv_at hl 1 rfl) ?_
    refine lv_iconst (v := 1) hx hb dX9_placeFor_7 (by decide) ?_
    refine k_isub (v := nI (x - 1)) hx hb dX9_placeFor_8 (pk_sub (by omega)) ?_
    refine k_iF (va_runV (As := [.int (nI (x - 1))]) (rest := []) hF (c_X9_placeIn l D I C Q a0 a1 a2 a3 a4 now kept st text len att num rd (x - 1) (by omega) _) (cwV 1 hts gX9_placeFor_X9_placeIn rfl rfl rfl (by decide +kernel) ⟨Nat.le_of_ble_eq_true rfl, Nat.le_of_ble_eq_true rfl⟩) (kPreV hE hP hD (ci := 9) (q0 := 0) rfl rfl) rfl rfl hl.1 rfl (lv_room (Nat.le_of_ble_eq_true rfl)) dX9_placeFor_9 ⟨Nat.zero_le _, Nat.zero_le _⟩) hD hS hA (fun H locs hP hD hS => ?_)
    have hbd := m_pinN_lt now (cab := x - 1) (by omega)
    rcases m_pI_or (m_pinN now (x - 1)) with ⟨hz, hq⟩ | ⟨hz, hq⟩
    · refine k_top hq ?_
      refine lv_goto (tgt := 16) hx hb dX9_placeFor_12 (by decide) ?_
      refine lv_istore_n (lv' := [(2, .int (-1)), (0, .ref a0), (1, .int (nI x))]) hx hb dX9_placeFor_16 rfl hl (by decide) rfl (fun ls hl => ?_)
      refine lv_iload_n hx hb dX9_placeFor_17 rfl (lv_at hl 0 rfl) ?_
      refine lv_if_ge (tgt := 29) hx hb dX9_placeFor_18 (by decide) (fun c_18 => ?_) (fun c_18 => ?_)
      · exact absurd c_18 (by decide)
      · refine lv_aload_n hx hb dX9_placeFor_21 rfl (lv_at hl 1 rfl) ?_
        refine lv_iconst (v := 2) hx hb dX9_placeFor_22 (by decide) ?_
        refine k_iF (va_runV (As := [.int 2]) (rest := []) hF (c_X9_placeIn l D I C Q a0 a1 a2 a3 a4 now kept st text len att num rd 2 (by omega) _) (cwV 1 hts gX9_placeFor_X9_placeIn rfl rfl rfl (by decide +kernel) ⟨Nat.le_of_ble_eq_true rfl, Nat.le_of_ble_eq_true rfl⟩) (kPreV hE hP hD (ci := 9) (q0 := 0) rfl rfl) rfl rfl hl.1 rfl (lv_room (Nat.le_of_ble_eq_true rfl)) dX9_placeFor_23 ⟨Nat.zero_le _, Nat.zero_le _⟩) hD hS hA (fun H locs hP hD hS => ?_)
        refine lv_goto (tgt := 30) hx hb dX9_placeFor_26 (by decide) ?_
        exact hend _ _ _ _ _ _ hP hD hS dX9_placeFor_30 rfl rfl (by simp +decide only [m_pfN, hxc, hz, if_true, if_false, not_true_eq_false, not_false_eq_true, and_self, and_true, true_and, and_false, false_and, kn01, kn10, kn02, kn20, kn12, kn21, eq_self])
    · refine k_top hq ?_
      refine lv_goto (tgt := 16) hx hb dX9_placeFor_12 (by decide) ?_
      refine lv_istore_n (lv' := [(2, .int (nI (m_pinN now (x - 1)))), (0, .ref a0), (1, .int (nI x))]) hx hb dX9_placeFor_16 rfl hl (by decide) rfl (fun ls hl => ?_)
      refine lv_iload_n hx hb dX9_placeFor_17 rfl (lv_at hl 0 rfl) ?_
      refine lv_if_ge (tgt := 29) hx hb dX9_placeFor_18 (by decide) (fun c_18 => ?_) (fun c_18 => ?_)
      · refine lv_iload_n hx hb dX9_placeFor_29 rfl (lv_at hl 0 rfl) ?_
        exact hend _ _ _ _ _ _ hP hD hS dX9_placeFor_30 rfl rfl (by simp +decide only [m_pfN, hxc, hz, m_pI, if_true, if_false, not_true_eq_false, not_false_eq_true, and_self, and_true, true_and, and_false, false_and, kn01, kn10, kn02, kn20, kn12, kn21, eq_self])
      · exact absurd (nI_pos' (by omega)) c_18
set_option maxHeartbeats 400000 in
set_option maxRecDepth 100000 in
theorem c_X9_judgeOf (l : Launch) (D : va_G) (I C Q : ClassId) (a0 a1 a2 a3 a4 : Nat) (now : Nat → Int32) (kept : Nat → Int32) (st : Int32) (text : Nat → Int32) (len : Int32) (att : Int32) (num : Int32) (rd : Nat → Int32) (np : Nat) (sz : Nat) (t : Nat) (key : Int32) (x : Nat) (hnp : now 10 = nI np) (hn64 : np ≤ 64) (hsz : now 6 = nI sz) (hs0 : 0 < sz) (hs1 : sz ≤ 100) (ht : t < 2000) (hx3 : x ≤ 3) : KI l D (tyL I C Q) yX9_judgeOf wsX9_judgeOf { frames := 4, cells := 0, slots := 0, locals := 87 } [.ref a0, .int (nI t), .int key, .int (nI x)] (wM I a0 a1 a2 a3 a4 now kept st text len att num rd) (wM I a0 a1 a2 a3 a4 now kept st text len att num rd) (m_judge now t key x np sz) := by
  have htz : t / sz ≤ t := Nat.div_le_self _ _
  refine KI.of (cc := cX9_judgeOf) (maxL := 5) (rt := .int) (own := RX9) (by decide) rfl rfl (Nat.le_of_ble_eq_true rfl) ?_
  intro p e s m below meth c A Q0 ls hx hb hml hown hts hE hA hP hD hS hl hend
  have hK := hE.1
  have hF : CallFix p m c cX9_judgeOf 5 s [.ref a0, .int (nI t), .int key, .int (nI x)].toArray wsX9_judgeOf RX9 := ⟨hx, hb, hml, hown, hts⟩
  have hl : lv_has ls 5 [(0, .ref a0), (1, .int (nI t)), (2, .int key), (3, .int (nI x))] := hl
  refine lv_aload_n hx hb dX9_judgeOf_0 rfl (lv_at hl 0 rfl) ?_
  refine lv_iload_n hx hb dX9_judgeOf_1 rfl (lv_at hl 1 rfl) ?_
  refine k_iF (va_runV (As := [.int (nI t)]) (rest := []) hF (c_X9_paneAtN l D I C Q a0 a1 a2 a3 a4 now kept st text len att num rd sz t hsz hs0 hs1 ht _) (cwV 1 hts gX9_judgeOf_X9_paneAt rfl rfl rfl (by decide +kernel) ⟨Nat.le_of_ble_eq_true rfl, Nat.le_of_ble_eq_true rfl⟩) (kPreV hE hP hD (ci := 9) (q0 := 0) rfl rfl) rfl rfl hl.1 rfl (lv_room (Nat.le_of_ble_eq_true rfl)) dX9_judgeOf_2 ⟨Nat.zero_le _, Nat.zero_le _⟩) hD hS hA (fun H locs hP hD hS => ?_)
  refine lv_istore (lv' := [(4, .int (nI (t / sz))), (0, .ref a0), (1, .int (nI t)), (2, .int key), (3, .int (nI x))]) hx hb dX9_judgeOf_5 hl (by decide) rfl (fun ls hl => ?_)
  refine lv_aload_n hx hb dX9_judgeOf_7 rfl (lv_at hl 1 rfl) ?_
  refine lv_iload hx hb dX9_judgeOf_8 (lv_at hl 0 rfl) ?_
  refine k_iF (va_runV (As := [.int (nI (t / sz))]) (rest := []) hF (c_X9_modeOf l D I C Q a0 a1 a2 a3 a4 now kept st text len att num rd np (nI (t / sz)) hnp hn64 _) (cwV 1 hts gX9_judgeOf_X9_modeOf rfl rfl rfl (by decide +kernel) ⟨Nat.le_of_ble_eq_true rfl, Nat.le_of_ble_eq_true rfl⟩) (kPreV hE hP hD (ci := 9) (q0 := 0) rfl rfl) rfl rfl hl.1 rfl (lv_room (Nat.le_of_ble_eq_true rfl)) dX9_judgeOf_10 ⟨Nat.zero_le _, Nat.zero_le _⟩) hD hS hA (fun H locs hP hD hS => ?_)
  refine lv_iconst (v := 2) hx hb dX9_judgeOf_13 (by decide) ?_
  refine lv_icmp_ne (tgt := 19) hx hb dX9_judgeOf_14 (by decide) (fun c_14 => ?_) (fun c_14 => ?_)
  · refine lv_aload_n hx hb dX9_judgeOf_19 rfl (lv_at hl 1 rfl) ?_
    refine lv_iload hx hb dX9_judgeOf_20 (lv_at hl 0 rfl) ?_
    refine k_iF (va_runV (As := [.int (nI (t / sz))]) (rest := []) hF (c_X9_isShut l D I C Q a0 a1 a2 a3 a4 now kept st text len att num rd np sz (t / sz) hnp hn64 hsz hs0 hs1 _) (cwV 1 hts gX9_judgeOf_X9_isShut rfl rfl rfl (by decide +kernel) ⟨Nat.le_of_ble_eq_true rfl, Nat.le_of_ble_eq_true rfl⟩) (kPreV hE hP hD (ci := 9) (q0 := 0) rfl rfl) rfl rfl hl.1 rfl (lv_room (Nat.le_of_ble_eq_true rfl)) dX9_judgeOf_22 ⟨Nat.zero_le _, Nat.zero_le _⟩) hD hS hA (fun H locs hP hD hS => ?_)
    refine lv_if_ne (tgt := 30) hx hb dX9_judgeOf_25 (by decide) (fun c_25 => ?_) (fun c_25 => ?_)
    · refine lv_aload_n hx hb dX9_judgeOf_30 rfl (lv_at hl 1 rfl) ?_
      refine lv_iload_n hx hb dX9_judgeOf_31 rfl (lv_at hl 2 rfl) ?_
      refine lv_iload_n hx hb dX9_judgeOf_32 rfl (lv_at hl 3 rfl) ?_
      refine lv_iload_n hx hb dX9_judgeOf_33 rfl (lv_at hl 4 rfl) ?_
      refine k_iF (va_runV (As := [.int (nI t), .int key, .int (nI x)]) (rest := []) hF (c_X9_isExcuse l D I C Q a0 a1 a2 a3 a4 now kept st text len att num rd sz t key (nI x) hsz hs0 hs1 ht _) (cwV 3 hts gX9_judgeOf_X9_isExcuse rfl rfl rfl (by decide +kernel) ⟨Nat.le_of_ble_eq_true rfl, Nat.le_of_ble_eq_true rfl⟩) (kPreV hE hP hD (ci := 9) (q0 := 0) rfl rfl) rfl rfl hl.1 rfl (lv_room (Nat.le_of_ble_eq_true rfl)) dX9_judgeOf_34 ⟨Nat.zero_le _, Nat.zero_le _⟩) hD hS hA (fun H locs hP hD hS => ?_)
      refine lv_if_eq (tgt := 52) hx hb dX9_judgeOf_37 (by decide) (fun c_37 => ?_) (fun c_37 => ?_)
      · refine lv_iconst (v := 2) hx hb dX9_judgeOf_52 (by decide) ?_
        exact hend _ _ _ _ _ _ hP hD hS dX9_judgeOf_53 rfl rfl (by simp +decide only [m_judge, c_14, c_25, c_37, if_true, if_false, not_true_eq_false, not_false_eq_true, and_self, and_true, true_and, and_false, false_and, kn01, kn10, kn02, kn20, kn12, kn21, eq_self])
      · refine lv_aload_n hx hb dX9_judgeOf_40 rfl (lv_at hl 1 rfl) ?_
        refine lv_iload_n hx hb dX9_judgeOf_41 rfl (lv_at hl 4 rfl) ?_
        refine k_iF (va_runV (As := [.int (nI x)]) (rest := []) hF (c_X9_placeFor l D I C Q a0 a1 a2 a3 a4 now kept st text len att num rd x (Nat.pos_of_ne_zero (fun h => c_37 (by rw [h]; exact m_exc_0 _ _ _ _))) hx3 _) (cwV 1 hts gX9_judgeOf_X9_placeFor rfl rfl rfl (by decide +kernel) ⟨Nat.le_of_ble_eq_true rfl, Nat.le_of_ble_eq_true rfl⟩) (kPreV hE hP hD (ci := 9) (q0 := 0) rfl rfl) rfl rfl hl.1 rfl (lv_room (Nat.le_of_ble_eq_true rfl)) dX9_judgeOf_42 ⟨Nat.zero_le _, Nat.zero_le _⟩) hD hS hA (fun H locs hP hD hS => ?_)
        refine lv_if_lt (tgt := 52) hx hb dX9_judgeOf_45 (by decide) (fun c_45 => ?_) (fun c_45 => ?_)
        · refine lv_iconst (v := 2) hx hb dX9_judgeOf_52 (by decide) ?_
          exact hend _ _ _ _ _ _ hP hD hS dX9_judgeOf_53 rfl rfl (by simp +decide only [m_judge, c_14, c_25, c_37, c_45, if_true, if_false, not_true_eq_false, not_false_eq_true, and_self, and_true, true_and, and_false, false_and, kn01, kn10, kn02, kn20, kn12, kn21, eq_self])
        · refine lv_iconst (v := 1) hx hb dX9_judgeOf_48 (by decide) ?_
          refine lv_goto (tgt := 53) hx hb dX9_judgeOf_49 (by decide) ?_
          exact hend _ _ _ _ _ _ hP hD hS dX9_judgeOf_53 rfl rfl (by simp +decide only [m_judge, c_14, c_25, c_37, c_45, if_true, if_false, not_true_eq_false, not_false_eq_true, and_self, and_true, true_and, and_false, false_and, kn01, kn10, kn02, kn20, kn12, kn21, eq_self])
    · refine lv_iconst (v := 0) hx hb dX9_judgeOf_28 (by decide) ?_
      exact hend _ _ _ _ _ _ hP hD hS dX9_judgeOf_29 rfl rfl (by simp +decide only [m_judge, c_14, c_25, if_true, if_false, not_true_eq_false, not_false_eq_true, and_self, and_true, true_and, and_false, false_and, kn01, kn10, kn02, kn20, kn12, kn21, eq_self])
  · refine lv_iconst (v := 3) hx hb dX9_judgeOf_17 (by decide) ?_
    exact hend _ _ _ _ _ _ hP hD hS dX9_judgeOf_18 rfl rfl (by simp +decide only [m_judge, c_14, if_true, if_false, not_true_eq_false, not_false_eq_true, and_self, and_true, true_and, and_false, false_and, kn01, kn10, kn02, kn20, kn12, kn21, eq_self])
