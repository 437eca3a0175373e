set_option maxHeartbeats 400000 in
set_option maxRecDepth 100000 in
theorem c_X9_isPane (l : Launch) (D : va_G) (I C Q : ClassId) (a0 a1 a2 a3 a4 : Nat) (now : Nat → Int32) (kept : Nat → Int32) (st : Int32) (text : Nat → Int32) (len : Int32) (att : Int32) (num : Int32) (rd : Nat → Int32) (sz : Nat) (q : Int32) (hsz : now 6 = nI sz) (hs0 : 0 < sz) (hs1 : sz ≤ 100) : KI l D (tyL I C Q) yX9_isPane wsX9_isPane { frames := 1, cells := 0, slots := 0, locals := 22 } [.ref a0, .int q] (wM I a0 a1 a2 a3 a4 now kept st text len att num rd) (wM I a0 a1 a2 a3 a4 now kept st text len att num rd) (m_isP now q sz) := by
  refine KI.of (cc := cX9_isPane) (maxL := 2) (rt := .boolean) (own := RX9) (by decide) rfl rfl (Nat.le_of_ble_eq_true rfl) ?_
  intro p e s m below meth c A Q0 ls hx hb hml hown hts hE hA hP hD hS hl hend
  have hK := hE.1
  have hF : CallFix p m c cX9_isPane 2 s [.ref a0, .int q].toArray wsX9_isPane RX9 := ⟨hx, hb, hml, hown, hts⟩
  have k0 := hts (.fieldLink RX9 7 "LateExcusesModel" "now" "[I") (List.mem_of_getElem? (i := 1) rfl)
  have u9 : ∀ w ∈ u_ws RX9 TX9 8, w ∈ wsX9_isPane := by decide +kernel
  have hl : lv_has ls 2 [(0, .ref a0), (1, .int q)] := hl
  refine lv_iload_n hx hb dX9_isPane_0 rfl (lv_at hl 1 rfl) ?_
  refine lv_iconst (v := 0) hx hb dX9_isPane_1 (by decide) ?_
  refine lv_sipush (v := 1999) hx hb dX9_isPane_2 (by decide) ?_
  refine k_i0 (va_runS (As := [.int q, .int 0, .int 1999]) (rest := []) hF (c_X9_isIn l D I C Q q 0 1999 _) (va_cwS 3 hts gX9_isPane_X9_isIn rfl rfl rfl (by decide +kernel) ⟨Nat.le_of_ble_eq_true rfl, Nat.le_of_ble_eq_true rfl⟩) (kPreS hE k_P0 (k_D0 (A := A))) rfl rfl hl.1 rfl (lv_room (Nat.le_of_ble_eq_true rfl)) dX9_isPane_5 ⟨Nat.zero_le _, Nat.zero_le _⟩) hP hS hA (fun H locs hP hS => ?_)
  refine lv_if_eq (tgt := 30) hx hb dX9_isPane_8 (by decide) (fun c_8 => ?_) (fun c_8 => ?_)
  · refine lv_iconst (v := 0) hx hb dX9_isPane_30 (by decide) ?_
    exact hend _ _ _ _ _ _ hP hD hS dX9_isPane_31 (by decide) rfl (by simp +decide only [m_isP, c_8, if_true, if_false, not_true_eq_false, not_false_eq_true, and_self, and_true, true_and, and_false, false_and, kn01, kn10, kn02, kn20, kn12, kn21, eq_self])
  · refine lv_iload_n hx hb dX9_isPane_11 rfl (lv_at hl 1 rfl) ?_
    refine lv_aload_n hx hb dX9_isPane_12 rfl (lv_at hl 0 rfl) ?_
    refine va_get (D := D) (ci := 9) (v := .ref a1) (C := RX9) (T := TX9) (N := 8) hx hb hts u9 hown hK hP 0 rfl rfl 0 (by decide) k0 (fun _ h9 => h9) rfl dX9_isPane_13 ?_
    refine lv_bipush (v := 6) hx hb dX9_isPane_16 (by decide) ?_
    refine k_iald (j := 6) (v := (nI sz)) hx hb hK hP 1 0 rfl rfl rfl (by decide) (by decide) hsz dX9_isPane_18 ?_
    refine lv_imul hx hb dX9_isPane_19 ?_
    refine lv_sipush (v := 2000) hx hb dX9_isPane_20 (by decide) ?_
    refine lv_icmp_ge (tgt := 30) hx hb dX9_isPane_23 (by decide) (fun c_23 => ?_) (fun c_23 => ?_)
    · refine lv_iconst (v := 0) hx hb dX9_isPane_30 (by decide) ?_
      exact hend _ _ _ _ _ _ hP hD hS dX9_isPane_31 (by decide) rfl (by simp +decide only [m_isP, c_8, c_23, if_true, if_false, not_true_eq_false, not_false_eq_true, and_self, and_true, true_and, and_false, false_and, kn01, kn10, kn02, kn20, kn12, kn21, eq_self])
    · refine lv_iconst (v := 1) hx hb dX9_isPane_26 (by decide) ?_
      refine lv_goto (tgt := 31) hx hb dX9_isPane_27 (by decide) ?_
      exact hend _ _ _ _ _ _ hP hD hS dX9_isPane_31 (by decide) rfl (by simp +decide only [m_isP, c_8, c_23, if_true, if_false, not_true_eq_false, not_false_eq_true, and_self, and_true, true_and, and_false, false_and, kn01, kn10, kn02, kn20, kn12, kn21, eq_self])
set_option maxHeartbeats 400000 in
set_option maxRecDepth 100000 in
theorem c_X9_stateOf (l : Launch) (D : va_G) (I C Q : ClassId) (a0 a1 a2 a3 a4 : Nat) (now : Nat → Int32) (kept : Nat → Int32) (st : Int32) (text : Nat → Int32) (len : Int32) (att : Int32) (num : Int32) (rd : Nat → Int32) (np : Nat) (sz : Nat) (pp : Nat) (hnp : now 10 = nI np) (hn64 : np ≤ 64) (hsz : now 6 = nI sz) (hs0 : 0 < sz) (hs1 : sz ≤ 100) (hpp : pp < 2000) : KI l D (tyL I C Q) yX9_stateOf wsX9_stateOf { frames := 4, cells := 0, slots := 0, locals := 87 } [.ref a0, .int (nI pp)] (wM I a0 a1 a2 a3 a4 now kept st text len att num rd) (wM I a0 a1 a2 a3 a4 now kept st text len att num rd) (m_state now pp np sz) := by
  refine KI.of (cc := cX9_stateOf) (maxL := 3) (rt := .int) (own := RX9) (by decide) rfl rfl (Nat.le_of_ble_eq_true rfl) ?_
  intro p e s m below meth c A Q0 ls hx hb hml hown hts hE hA hP hD hS hl hend
  have hK := hE.1
  have hF : CallFix p m c cX9_stateOf 3 s [.ref a0, .int (nI pp)].toArray wsX9_stateOf RX9 := ⟨hx, hb, hml, hown, hts⟩
  have hl : lv_has ls 3 [(0, .ref a0), (1, .int (nI pp))] := hl
  refine lv_aload_n hx hb dX9_stateOf_0 rfl (lv_at hl 0 rfl) ?_
  refine lv_iload_n hx hb dX9_stateOf_1 rfl (lv_at hl 1 rfl) ?_
  refine k_iF (va_runV (As := [.int (nI pp)]) (rest := []) hF (c_X9_modeOf l D I C Q a0 a1 a2 a3 a4 now kept st text len att num rd np (nI pp) hnp hn64 _) (cwV 1 hts gX9_stateOf_X9_modeOf rfl rfl rfl (by decide +kernel) ⟨Nat.le_of_ble_eq_true rfl, Nat.le_of_ble_eq_true rfl⟩) (kPreV hE hP hD (ci := 9) (q0 := 0) rfl rfl) rfl rfl hl.1 rfl (lv_room (Nat.le_of_ble_eq_true rfl)) dX9_stateOf_2 ⟨Nat.zero_le _, Nat.zero_le _⟩) hD hS hA (fun H locs hP hD hS => ?_)
  refine lv_istore_n (lv' := [(2, .int (m_mode now (nI pp) np)), (0, .ref a0), (1, .int (nI pp))]) hx hb dX9_stateOf_5 rfl hl (by decide) rfl (fun ls hl => ?_)
  refine lv_iload_n hx hb dX9_stateOf_6 rfl (lv_at hl 0 rfl) ?_
  refine lv_if_eq (tgt := 14) hx hb dX9_stateOf_7 (by decide) (fun c_7 => ?_) (fun c_7 => ?_)
  · refine lv_aload_n hx hb dX9_stateOf_14 rfl (lv_at hl 1 rfl) ?_
    refine lv_iload_n hx hb dX9_stateOf_15 rfl (lv_at hl 2 rfl) ?_
    refine k_iF (va_runV (As := [.int (nI pp)]) (rest := []) hF (c_X9_isShut l D I C Q a0 a1 a2 a3 a4 now kept st text len att num rd np sz pp hnp hn64 hsz hs0 hs1 _) (cwV 1 hts gX9_stateOf_X9_isShut rfl rfl rfl (by decide +kernel) ⟨Nat.le_of_ble_eq_true rfl, Nat.le_of_ble_eq_true rfl⟩) (kPreV hE hP hD (ci := 9) (q0 := 0) rfl rfl) rfl rfl hl.1 rfl (lv_room (Nat.le_of_ble_eq_true rfl)) dX9_stateOf_16 ⟨Nat.zero_le _, Nat.zero_le _⟩) hD hS hA (fun H locs hP hD hS => ?_)
    refine lv_if_eq (tgt := 26) hx hb dX9_stateOf_19 (by decide) (fun c_19 => ?_) (fun c_19 => ?_)
    · refine lv_iconst (v := 0) hx hb dX9_stateOf_26 (by decide) ?_
      exact hend _ _ _ _ _ _ hP hD hS dX9_stateOf_27 rfl rfl (by simp +decide only [m_state, c_7, c_19, if_true, if_false, not_true_eq_false, not_false_eq_true, and_self, and_true, true_and, and_false, false_and, kn01, kn10, kn02, kn20, kn12, kn21, eq_self])
    · refine lv_iconst (v := 1) hx hb dX9_stateOf_22 (by decide) ?_
      refine lv_goto (tgt := 27) hx hb dX9_stateOf_23 (by decide) ?_
      exact hend _ _ _ _ _ _ hP hD hS dX9_stateOf_27 rfl rfl (by simp +decide only [m_state, c_7, c_19, if_true, if_false, not_true_eq_false, not_false_eq_true, and_self, and_true, true_and, and_false, false_and, kn01, kn10, kn02, kn20, kn12, kn21, eq_self])
  · refine lv_iload_n hx hb dX9_stateOf_10 rfl (lv_at hl 0 rfl) ?_
    refine lv_iconst (v := 1) hx hb dX9_stateOf_11 (by decide) ?_
    refine lv_iadd hx hb dX9_stateOf_12 ?_
    exact hend _ _ _ _ _ _ hP hD hS dX9_stateOf_13 rfl rfl (by simp +decide only [m_state, c_7, if_true, if_false, not_true_eq_false, not_false_eq_true, and_self, and_true, true_and, and_false, false_and, kn01, kn10, kn02, kn20, kn12, kn21, eq_self])
set_option maxHeartbeats 400000 in
set_option maxRecDepth 100000 in
theorem c_X9_results (l : Launch) (D : va_G) (I C Q : ClassId) (a0 a1 a2 a3 a4 : Nat) (now : Nat → Int32) (kept : Nat → Int32) (st : Int32) (text : Nat → Int32) (len : Int32) (att : Int32) (num : Int32) (rd : Nat → Int32) (fr : Int32) (to : Int32) : KI l D (tyL I C Q) yX9_results wsX9_results { frames := 1, cells := 0, slots := 0, locals := 22 } [.ref a0, .int fr, .int to] (wM I a0 a1 a2 a3 a4 now kept st text len att num rd) (wM I a0 a1 a2 a3 a4 now kept st text len att num rd) (m_res now fr to 64) := by
  refine KI.of (cc := cX9_results) (maxL := 5) (rt := .int) (own := RX9) (by decide) rfl rfl (Nat.le_of_ble_eq_true rfl) ?_
  intro p e s m below meth c A Q0 ls hx hb hml hown hts hE hA hP hD hS hl hend
  have hK := hE.1
  have hF : CallFix p m c cX9_results 5 s [.ref a0, .int fr, .int to].toArray wsX9_results RX9 := ⟨hx, hb, hml, hown, hts⟩
  have hl : lv_has ls 5 [(0, .ref a0), (1, .int fr), (2, .int to)] := hl
  refine lv_iconst (v := 0) hx hb dX9_results_0 (by decide) ?_
  refine lv_istore_n (lv' := [(3, .int 0), (0, .ref a0), (1, .int fr), (2, .int to)]) hx hb dX9_results_1 rfl hl (by decide) rfl (fun ls hl => ?_)
  refine lv_iconst (v := 0) hx hb dX9_results_2 (by decide) ?_
  refine lv_istore (lv' := [(4, .int 0), (3, .int 0), (0, .ref a0), (1, .int fr), (2, .int to)]) hx hb dX9_results_3 hl (by decide) rfl (fun ls hl => ?_)
  have loop5 : ∀ (n : Nat) (k : Nat), (k + n = 64) → ∀ (H : Heap) (locs : List Loc) (ls : Array Slot), va_P D vwCl (wM I a0 a1 a2 a3 a4 now kept st text len att num rd) H → va_D A (wM I a0 a1 a2 a3 a4 now kept st text len att num rd) → va_S A s.heap H locs → lv_has ls 5 [(0, .ref a0), (1, .int fr), (2, .int to), (3, .int (m_res now fr to k)), (4, .int (nI k))] → W p l e ({ frames := 1, cells := 0, slots := 0, locals := 22 } : Room) s m [.ref a0, .int fr, .int to].toArray below meth c H locs 0 0 Q0 (F0 m 5 ls []) := by
    intro n
    induction n with
    | zero =>
      intro k hk H locs ls hP hD hS hl
      refine lv_iload hx hb dX9_results_5 (lv_at hl 4 rfl) ?_
      refine lv_bipush (v := 64) hx hb dX9_results_7 (by decide) ?_
      refine lv_icmp_ge (tgt := 52) hx hb dX9_results_9 (by decide) (fun c_9 => ?_) (fun c_9 => ?_)
      · refine lv_iload_n hx hb dX9_results_52 rfl (lv_at hl 3 rfl) ?_
        exact hend _ _ _ _ _ _ hP hD hS dX9_results_53 rfl rfl (by rw [show k = 64 by omega])
      · exact absurd ((nI_leI (a := 64) (b := k) (by omega) (by omega)).mpr (by omega)) c_9
    | succ n ih =>
      intro k hk H locs ls hP hD hS hl
      refine lv_iload hx hb dX9_results_5 (lv_at hl 4 rfl) ?_
      refine lv_bipush (v := 64) hx hb dX9_results_7 (by decide) ?_
      refine lv_icmp_ge (tgt := 52) hx hb dX9_results_9 (by decide) (fun c_9 => ?_) (fun c_9 => ?_)
      · exact absurd ((nI_leI (a := 64) (b := k) (by omega) (by omega)).mp c_9) (by omega)
      · refine lv_iload_n hx hb dX9_results_12 rfl (lv_at hl 3 rfl) ?_
        refine lv_aload_n hx hb dX9_results_13 rfl (lv_at hl 0 rfl) ?_
        refine lv_iload hx hb dX9_results_14 (lv_at hl 4 rfl) ?_
        refine lv_iconst (v := 0) hx hb dX9_results_16 (by decide) ?_
        refine k_iF (va_runV (As := [.int (nI k), .int 0]) (rest := [.int (m_res now fr to k)]) hF (c_X9_ofE l D I C Q a0 a1 a2 a3 a4 now kept st text len att num rd k 0 (by omega) (by omega) _) (cwV 2 hts gX9_results_X9_ofE rfl rfl rfl (by decide +kernel) ⟨Nat.le_of_ble_eq_true rfl, Nat.le_of_ble_eq_true rfl⟩) (kPreV hE hP hD (ci := 9) (q0 := 0) rfl rfl) rfl rfl hl.1 rfl (lv_room (Nat.le_of_ble_eq_true rfl)) dX9_results_17 ⟨Nat.zero_le _, Nat.zero_le _⟩) hD hS hA (fun H locs hP hD hS => ?_)
        refine lv_iconst (v := 1) hx hb dX9_results_20 (by decide) ?_
        refine lv_icmp_ne (tgt := 43) hx hb dX9_results_21 (by decide) (fun c_21 => ?_) (fun c_21 => ?_)
        · refine lv_iconst (v := 0) hx hb dX9_results_43 (by decide) ?_
          refine lv_iadd hx hb dX9_results_44 ?_
          refine lv_istore_n (lv' := [(3, .int ((m_res now fr to k) + 0)), (0, .ref a0), (1, .int fr), (2, .int to), (4, .int (nI k))]) hx hb dX9_results_45 rfl hl (by decide) rfl (fun ls hl => ?_)
          refine lv_iinc (v := nI (k + 1)) (lv' := [(4, .int (nI (k + 1))), (3, .int ((m_res now fr to k) + 0)), (0, .ref a0), (1, .int fr), (2, .int to)]) hx hb dX9_results_46 hl (k := 4) rfl (nI_inc k) (by decide) rfl (fun ls hl => ?_)
          refine lv_goto (tgt := 5) hx hb dX9_results_49 (by decide) ?_
          have hl9 : lv_has ls 5 [(0, .ref a0), (1, .int fr), (2, .int to), (3, .int ((m_res now fr to k) + 0)), (4, .int (nI (k + 1)))] := lv_sub hl [2, 3, 4, 1, 0] rfl
          rw [show ((m_res now fr to k) + 0) = (m_res now fr to (k + 1)) from by simp +decide only [m_res, c_9, c_21, if_true, if_false, not_true_eq_false, not_false_eq_true, and_self, and_true, true_and, and_false, false_and, kn01, kn10, kn02, kn20, kn12, kn21, eq_self]] at hl9
          exact ih (k + 1) (by omega) _ _ _ hP hD hS hl9 
        · refine lv_aload_n hx hb dX9_results_24 rfl (lv_at hl 0 rfl) ?_
          refine lv_iload hx hb dX9_results_25 (lv_at hl 4 rfl) ?_
          refine lv_iconst (v := 5) hx hb dX9_results_27 (by decide) ?_
          refine k_iF (va_runV (As := [.int (nI k), .int 5]) (rest := [.int (m_res now fr to k)]) hF (c_X9_ofE l D I C Q a0 a1 a2 a3 a4 now kept st text len att num rd k 5 (by omega) (by omega) _) (cwV 2 hts gX9_results_X9_ofE rfl rfl rfl (by decide +kernel) ⟨Nat.le_of_ble_eq_true rfl, Nat.le_of_ble_eq_true rfl⟩) (kPreV hE hP hD (ci := 9) (q0 := 0) rfl rfl) rfl rfl hl.1 rfl (lv_room (Nat.le_of_ble_eq_true rfl)) dX9_results_28 ⟨Nat.zero_le _, Nat.zero_le _⟩) hD hS hA (fun H locs hP hD hS => ?_)
          refine lv_iload_n hx hb dX9_results_31 rfl (lv_at hl 1 rfl) ?_
          refine lv_iload_n hx hb dX9_results_32 rfl (lv_at hl 2 rfl) ?_
          refine k_i0 (va_runS (As := [.int (now (12 + 6 * k + 5)), .int fr, .int to]) (rest := [.int (m_res now fr to k)]) hF (c_X9_isIn l D I C Q (now (12 + 6 * k + 5)) fr to _) (va_cwS 3 hts gX9_results_X9_isIn rfl rfl rfl (by decide +kernel) ⟨Nat.le_of_ble_eq_true rfl, Nat.le_of_ble_eq_true rfl⟩) (kPreS hE k_P0 (k_D0 (A := A))) rfl rfl hl.1 rfl (lv_room (Nat.le_of_ble_eq_true rfl)) dX9_results_33 ⟨Nat.zero_le _, Nat.zero_le _⟩) hP hS hA (fun H locs hP hS => ?_)
          refine lv_if_eq (tgt := 43) hx hb dX9_results_36 (by decide) (fun c_36 => ?_) (fun c_36 => ?_)
          · refine lv_iconst (v := 0) hx hb dX9_results_43 (by decide) ?_
            refine lv_iadd hx hb dX9_results_44 ?_
            refine lv_istore_n (lv' := [(3, .int ((m_res now fr to k) + 0)), (0, .ref a0), (1, .int fr), (2, .int to), (4, .int (nI k))]) hx hb dX9_results_45 rfl hl (by decide) rfl (fun ls hl => ?_)
            refine lv_iinc (v := nI (k + 1)) (lv' := [(4, .int (nI (k + 1))), (3, .int ((m_res now fr to k) + 0)), (0, .ref a0), (1, .int fr), (2, .int to)]) hx hb dX9_results_46 hl (k := 4) rfl (nI_inc k) (by decide) rfl (fun ls hl => ?_)
            refine lv_goto (tgt := 5) hx hb dX9_results_49 (by decide) ?_
            have hl9 : lv_has ls 5 [(0, .ref a0), (1, .int fr), (2, .int to), (3, .int ((m_res now fr to k) + 0)), (4, .int (nI (k + 1)))] := lv_sub hl [2, 3, 4, 1, 0] rfl
            rw [show ((m_res now fr to k) + 0) = (m_res now fr to (k + 1)) from by simp +decide only [m_res, c_9, c_21, c_36, if_true, if_false, not_true_eq_false, not_false_eq_true, and_self, and_true, true_and, and_false, false_and, kn01, kn10, kn02, kn20, kn12, kn21, eq_self]] at hl9
            exact ih (k + 1) (by omega) _ _ _ hP hD hS hl9 
          · refine lv_iconst (v := 1) hx hb dX9_results_39 (by decide) ?_
            refine lv_goto (tgt := 44) hx hb dX9_results_40 (by decide) ?_
            refine lv_iadd hx hb dX9_results_44 ?_
            refine lv_istore_n (lv' := [(3, .int ((m_res now fr to k) + 1)), (0, .ref a0), (1, .int fr), (2, .int to), (4, .int (nI k))]) hx hb dX9_results_45 rfl hl (by decide) rfl (fun ls hl => ?_)
            refine lv_iinc (v := nI (k + 1)) (lv' := [(4, .int (nI (k + 1))), (3, .int ((m_res now fr to k) + 1)), (0, .ref a0), (1, .int fr), (2, .int to)]) hx hb dX9_results_46 hl (k := 4) rfl (nI_inc k) (by decide) rfl (fun ls hl => ?_)
            refine lv_goto (tgt := 5) hx hb dX9_results_49 (by decide) ?_
            have hl9 : lv_has ls 5 [(0, .ref a0), (1, .int fr), (2, .int to), (3, .int ((m_res now fr to k) + 1)), (4, .int (nI (k + 1)))] := lv_sub hl [2, 3, 4, 1, 0] rfl
            rw [show ((m_res now fr to k) + 1) = (m_res now fr to (k + 1)) from by simp +decide only [m_res, c_9, c_21, c_36, if_true, if_false, not_true_eq_false, not_false_eq_true, and_self, and_true, true_and, and_false, false_and, kn01, kn10, kn02, kn20, kn12, kn21, eq_self]] at hl9
            exact ih (k + 1) (by omega) _ _ _ hP hD hS hl9 
  exact loop5 64 0 (by omega) _ _ _ hP hD hS (lv_sub hl [2, 3, 4, 1, 0] rfl) 
set_option maxHeartbeats 400000 in
set_option maxRecDepth 100000 in
theorem c_X9_cases (l : Launch) (D : va_G) (I C Q : ClassId) (a0 a1 a2 a3 a4 : Nat) (now : Nat → Int32) (kept : Nat → Int32) (st : Int32) (text : Nat → Int32) (len : Int32) (att : Int32) (num : Int32) (rd : Nat → Int32) (np : Nat) (hnp : now 10 = nI np) (hn64 : np ≤ 64) : KI l D (tyL I C Q) yX9_cases wsX9_cases { frames := 1, cells := 0, slots := 0, locals := 22 } [.ref a0] (wM I a0 a1 a2 a3 a4 now kept st text len att num rd) (wM I a0 a1 a2 a3 a4 now kept st text len att num rd) (m_cas now np) := by
  refine KI.of (cc := cX9_cases) (maxL := 3) (rt := .int) (own := RX9) (by decide) rfl rfl (Nat.le_of_ble_eq_true rfl) ?_
  intro p e s m below meth c A Q0 ls hx hb hml hown hts hE hA hP hD hS hl hend
  have hK := hE.1
  have hF : CallFix p m c cX9_cases 3 s [.ref a0].toArray wsX9_cases RX9 := ⟨hx, hb, hml, hown, hts⟩
  have k0 := hts (.fieldLink RX9 7 "LateExcusesModel" "now" "[I") (List.mem_of_getElem? (i := 1) rfl)
  have u9 : ∀ w ∈ u_ws RX9 TX9 8, w ∈ wsX9_cases := by decide +kernel
  have hl : lv_has ls 3 [(0, .ref a0)] := hl
  refine lv_iconst (v := 0) hx hb dX9_cases_0 (by decide) ?_
  refine lv_istore_n (lv' := [(1, .int 0), (0, .ref a0)]) hx hb dX9_cases_1 rfl hl (by decide) rfl (fun ls hl => ?_)
  refine lv_iconst (v := 0) hx hb dX9_cases_2 (by decide) ?_
  refine lv_istore_n (lv' := [(2, .int 0), (1, .int 0), (0, .ref a0)]) hx hb dX9_cases_3 rfl hl (by decide) rfl (fun ls hl => ?_)
  have loop4 : ∀ (n : Nat) (k : Nat), (k + n = np) → ∀ (H : Heap) (locs : List Loc) (ls : Array Slot), va_P D vwCl (wM I a0 a1 a2 a3 a4 now kept st text len att num rd) H → va_D A (wM I a0 a1 a2 a3 a4 now kept st text len att num rd) → va_S A s.heap H locs → lv_has ls 3 [(0, .ref a0), (1, .int (m_cas now k)), (2, .int (nI k))] → W p l e ({ frames := 1, cells := 0, slots := 0, locals := 22 } : Room) s m [.ref a0].toArray below meth c H locs 0 0 Q0 (F0 m 4 ls []) := by
    intro n
    induction n with
    | zero =>
      intro k hk H locs ls hP hD hS hl
      refine lv_iload_n hx hb dX9_cases_4 rfl (lv_at hl 2 rfl) ?_
      refine lv_aload_n hx hb dX9_cases_5 rfl (lv_at hl 0 rfl) ?_
      refine va_get (D := D) (ci := 9) (v := .ref a1) (C := RX9) (T := TX9) (N := 8) hx hb hts u9 hown hK hP 0 rfl rfl 0 (by decide) k0 (fun _ h9 => h9) rfl dX9_cases_6 ?_
      refine lv_bipush (v := 10) hx hb dX9_cases_9 (by decide) ?_
      refine k_iald (j := 10) (v := (nI np)) hx hb hK hP 1 0 rfl rfl rfl (by decide) (by decide) hnp dX9_cases_11 ?_
      refine lv_icmp_ge (tgt := 39) hx hb dX9_cases_12 (by decide) (fun c_12 => ?_) (fun c_12 => ?_)
      · refine lv_iload_n hx hb dX9_cases_39 rfl (lv_at hl 1 rfl) ?_
        exact hend _ _ _ _ _ _ hP hD hS dX9_cases_40 rfl rfl (by rw [show k = np by omega])
      · exact absurd ((nI_leI (a := np) (b := k) (by omega) (by omega)).mpr (by omega)) c_12
    | succ n ih =>
      intro k hk H locs ls hP hD hS hl
      refine lv_iload_n hx hb dX9_cases_4 rfl (lv_at hl 2 rfl) ?_
      refine lv_aload_n hx hb dX9_cases_5 rfl (lv_at hl 0 rfl) ?_
      refine va_get (D := D) (ci := 9) (v := .ref a1) (C := RX9) (T := TX9) (N := 8) hx hb hts u9 hown hK hP 0 rfl rfl 0 (by decide) k0 (fun _ h9 => h9) rfl dX9_cases_6 ?_
      refine lv_bipush (v := 10) hx hb dX9_cases_9 (by decide) ?_
      refine k_iald (j := 10) (v := (nI np)) hx hb hK hP 1 0 rfl rfl rfl (by decide) (by decide) hnp dX9_cases_11 ?_
      refine lv_icmp_ge (tgt := 39) hx hb dX9_cases_12 (by decide) (fun c_12 => ?_) (fun c_12 => ?_)
      · exact absurd ((nI_leI (a := np) (b := k) (by omega) (by omega)).mp c_12) (by omega)
      · refine lv_iload_n hx hb dX9_cases_15 rfl (lv_at hl 1 rfl) ?_
        refine lv_aload_n hx hb dX9_cases_16 rfl (lv_at hl 0 rfl) ?_
        refine lv_iload_n hx hb dX9_cases_17 rfl (lv_at hl 2 rfl) ?_
        refine lv_iconst (v := 1) hx hb dX9_cases_18 (by decide) ?_
        refine k_iF (va_runV (As := [.int (nI k), .int 1]) (rest := [.int (m_cas now k)]) hF (c_X9_ofP l D I C Q a0 a1 a2 a3 a4 now kept st text len att num rd k 1 (by omega) (by omega) _) (cwV 2 hts gX9_cases_X9_ofP rfl rfl rfl (by decide +kernel) ⟨Nat.le_of_ble_eq_true rfl, Nat.le_of_ble_eq_true rfl⟩) (kPreV hE hP hD (ci := 9) (q0 := 0) rfl rfl) rfl rfl hl.1 rfl (lv_room (Nat.le_of_ble_eq_true rfl)) dX9_cases_19 ⟨Nat.zero_le _, Nat.zero_le _⟩) hD hS hA (fun H locs hP hD hS => ?_)
        refine lv_iconst (v := 2) hx hb dX9_cases_22 (by decide) ?_
        refine lv_icmp_ne (tgt := 30) hx hb dX9_cases_23 (by decide) (fun c_23 => ?_) (fun c_23 => ?_)
        · refine lv_iconst (v := 0) hx hb dX9_cases_30 (by decide) ?_
          refine lv_iadd hx hb dX9_cases_31 ?_
          refine lv_istore_n (lv' := [(1, .int ((m_cas now k) + 0)), (0, .ref a0), (2, .int (nI k))]) hx hb dX9_cases_32 rfl hl (by decide) rfl (fun ls hl => ?_)
          refine lv_iinc (v := nI (k + 1)) (lv' := [(2, .int (nI (k + 1))), (1, .int ((m_cas now k) + 0)), (0, .ref a0)]) hx hb dX9_cases_33 hl (k := 2) rfl (nI_inc k) (by decide) rfl (fun ls hl => ?_)
          refine lv_goto (tgt := 4) hx hb dX9_cases_36 (by decide) ?_
          have hl9 : lv_has ls 3 [(0, .ref a0), (1, .int ((m_cas now k) + 0)), (2, .int (nI (k + 1)))] := lv_sub hl [2, 1, 0] rfl
          rw [show ((m_cas now k) + 0) = (m_cas now (k + 1)) from by simp +decide only [m_cas, c_12, c_23, if_true, if_false, not_true_eq_false, not_false_eq_true, and_self, and_true, true_and, and_false, false_and, kn01, kn10, kn02, kn20, kn12, kn21, eq_self]] at hl9
          exact ih (k + 1) (by omega) _ _ _ hP hD hS hl9 
        · refine lv_iconst (v := 1) hx hb dX9_cases_26 (by decide) ?_
          refine lv_goto (tgt := 31) hx hb dX9_cases_27 (by decide) ?_
          refine lv_iadd hx hb dX9_cases_31 ?_
          refine lv_istore_n (lv' := [(1, .int ((m_cas now k) + 1)), (0, .ref a0), (2, .int (nI k))]) hx hb dX9_cases_32 rfl hl (by decide) rfl (fun ls hl => ?_)
          refine lv_iinc (v := nI (k + 1)) (lv' := [(2, .int (nI (k + 1))), (1, .int ((m_cas now k) + 1)), (0, .ref a0)]) hx hb dX9_cases_33 hl (k := 2) rfl (nI_inc k) (by decide) rfl (fun ls hl => ?_)
          refine lv_goto (tgt := 4) hx hb dX9_cases_36 (by decide) ?_
          have hl9 : lv_has ls 3 [(0, .ref a0), (1, .int ((m_cas now k) + 1)), (2, .int (nI (k + 1)))] := lv_sub hl [2, 1, 0] rfl
          rw [show ((m_cas now k) + 1) = (m_cas now (k + 1)) from by simp +decide only [m_cas, c_12, c_23, if_true, if_false, not_true_eq_false, not_false_eq_true, and_self, and_true, true_and, and_false, false_and, kn01, kn10, kn02, kn20, kn12, kn21, eq_self]] at hl9
          exact ih (k + 1) (by omega) _ _ _ hP hD hS hl9 
  exact loop4 np 0 (by omega) _ _ _ hP hD hS (lv_sub hl [2, 1, 0] rfl) 
