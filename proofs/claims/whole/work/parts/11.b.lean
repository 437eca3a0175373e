set_option maxHeartbeats 400000 in
set_option maxRecDepth 100000 in
theorem c_X9_find (l : Launch) (D : va_G) (I C Q : ClassId) (a0 a1 a2 a3 a4 : Nat) (now : Nat → Int32) (kept : Nat → Int32) (st : Int32) (text : Nat → Int32) (len : Int32) (att : Int32) (num : Int32) (rd : Nat → Int32) (np : Nat) (q : Int32) (hnp : now 10 = nI np) (hn64 : np ≤ 64) : KI l D (tyL I C Q) yX9_find wsX9_find { frames := 1, cells := 0, slots := 0, locals := 22 } [.ref a0, .int q] (wM I a0 a1 a2 a3 a4 now kept st text len att num rd) (wM I a0 a1 a2 a3 a4 now kept st text len att num rd) (m_find now q np) := by
  refine KI.of (cc := cX9_find) (maxL := 3) (rt := .int) (own := RX9) (by decide) rfl rfl (Nat.le_of_ble_eq_true rfl) ?_
  intro p e s m below meth c A Q0 ls hx hb hml hown hts hE hA hP hD hS hl hend
  have hK := hE.1
  have hF : CallFix p m c cX9_find 3 s [.ref a0, .int q].toArray wsX9_find RX9 := ⟨hx, hb, hml, hown, hts⟩
  have k0 := hts (.fieldLink RX9 7 "LateExcusesModel" "now" "[I") (List.mem_of_getElem? (i := 1) rfl)
  have u9 : ∀ w ∈ u_ws RX9 TX9 8, w ∈ wsX9_find := by decide +kernel
  have hl : lv_has ls 3 [(0, .ref a0), (1, .int q)] := hl
  refine lv_iconst (v := 0) hx hb dX9_find_0 (by decide) ?_
  refine lv_istore_n (lv' := [(2, .int 0), (0, .ref a0), (1, .int q)]) hx hb dX9_find_1 rfl hl (by decide) rfl (fun ls hl => ?_)
  have loop2 : ∀ (n : Nat) (k : Nat), (k + n = np) → ∀ (H : Heap) (locs : List Loc) (ls : Array Slot), va_P D vwCl (wM I a0 a1 a2 a3 a4 now kept st text len att num rd) H → va_D A (wM I a0 a1 a2 a3 a4 now kept st text len att num rd) → va_S A s.heap H locs → lv_has ls 3 [(0, .ref a0), (1, .int q), (2, .int (nI k))] → (m_fkL now q n k = m_fk now q np) → W p l e ({ frames := 1, cells := 0, slots := 0, locals := 22 } : Room) s m [.ref a0, .int q].toArray below meth c H locs 0 0 Q0 (F0 m 2 ls []) := by
    intro n
    induction n with
    | zero =>
      intro k hk H locs ls hP hD hS hl hr
      refine lv_iload_n hx hb dX9_find_2 rfl (lv_at hl 2 rfl) ?_
      refine lv_aload_n hx hb dX9_find_3 rfl (lv_at hl 0 rfl) ?_
      refine va_get (D := D) (ci := 9) (v := .ref a1) (C := RX9) (T := TX9) (N := 8) hx hb hts u9 hown hK hP 0 rfl rfl 0 (by decide) k0 (fun _ h9 => h9) rfl dX9_find_4 ?_
      refine lv_bipush (v := 10) hx hb dX9_find_7 (by decide) ?_
      refine k_iald (j := 10) (v := (nI np)) hx hb hK hP 1 0 rfl rfl rfl (by decide) (by decide) hnp dX9_find_9 ?_
      refine lv_icmp_ge (tgt := 31) hx hb dX9_find_10 (by decide) (fun c_10 => ?_) (fun c_10 => ?_)
      · refine lv_iconst (v := (-1)) hx hb dX9_find_31 (by decide) ?_
        exact hend _ _ _ _ _ _ hP hD hS dX9_find_32 rfl rfl (by rw [m_fkL] at hr; simp  [m_find, ← hr]; omega)
      · exact absurd ((nI_leI (a := np) (b := k) (by omega) (by omega)).mpr (by omega)) c_10
    | succ n ih =>
      intro k hk H locs ls hP hD hS hl hr
      refine lv_iload_n hx hb dX9_find_2 rfl (lv_at hl 2 rfl) ?_
      refine lv_aload_n hx hb dX9_find_3 rfl (lv_at hl 0 rfl) ?_
      refine va_get (D := D) (ci := 9) (v := .ref a1) (C := RX9) (T := TX9) (N := 8) hx hb hts u9 hown hK hP 0 rfl rfl 0 (by decide) k0 (fun _ h9 => h9) rfl dX9_find_4 ?_
      refine lv_bipush (v := 10) hx hb dX9_find_7 (by decide) ?_
      refine k_iald (j := 10) (v := (nI np)) hx hb hK hP 1 0 rfl rfl rfl (by decide) (by decide) hnp dX9_find_9 ?_
      refine lv_icmp_ge (tgt := 31) hx hb dX9_find_10 (by decide) (fun c_10 => ?_) (fun c_10 => ?_)
      · exact absurd ((nI_leI (a := np) (b := k) (by omega) (by omega)).mp c_10) (by omega)
      · refine lv_aload_n hx hb dX9_find_13 rfl (lv_at hl 0 rfl) ?_
        refine lv_iload_n hx hb dX9_find_14 rfl (lv_at hl 2 rfl) ?_
        refine lv_iconst (v := 0) hx hb dX9_find_15 (by decide) ?_
        refine k_iF (va_runV (As := [.int (nI k), .int 0]) (rest := []) hF (c_X9_ofP l D I C Q a0 a1 a2 a3 a4 now kept st text len att num rd k 0 (by omega) (by omega) _) (cwV 2 hts gX9_find_X9_ofP rfl rfl rfl (by decide +kernel) ⟨Nat.le_of_ble_eq_true rfl, Nat.le_of_ble_eq_true rfl⟩) (kPreV hE hP hD (ci := 9) (q0 := 0) rfl rfl) rfl rfl hl.1 rfl (lv_room (Nat.le_of_ble_eq_true rfl)) dX9_find_16 ⟨Nat.zero_le _, Nat.zero_le _⟩) hD hS hA (fun H locs hP hD hS => ?_)
        refine lv_iload_n hx hb dX9_find_19 rfl (lv_at hl 1 rfl) ?_
        refine lv_icmp_ne (tgt := 25) hx hb dX9_find_20 (by decide) (fun c_20 => ?_) (fun c_20 => ?_)
        · refine lv_iinc (v := nI (k + 1)) (lv' := [(2, .int (nI (k + 1))), (0, .ref a0), (1, .int q)]) hx hb dX9_find_25 hl (k := 2) rfl (nI_inc k) (by decide) rfl (fun ls hl => ?_)
          refine lv_goto (tgt := 2) hx hb dX9_find_28 (by decide) ?_
          exact ih (k + 1) (by omega) _ _ _ hP hD hS (lv_sub hl [1, 2, 0] rfl) (by rw [← hr]; simp +decide only [m_fkL, c_10, c_20, if_true, if_false, not_true_eq_false, not_false_eq_true, and_self, and_true, true_and, and_false, false_and, kn01, kn10, kn02, kn20, kn12, kn21, eq_self])
        · refine lv_iload_n hx hb dX9_find_23 rfl (lv_at hl 2 rfl) ?_
          exact hend _ _ _ _ _ _ hP hD hS dX9_find_24 rfl rfl (by rw [m_fkL, if_pos c_20] at hr; simp  [m_find, ← hr]; omega)
  exact loop2 np 0 (by omega) _ _ _ hP hD hS (lv_sub hl [1, 2, 0] rfl) rfl
set_option maxHeartbeats 400000 in
set_option maxRecDepth 100000 in
theorem c_X9_modeOf (l : Launch) (D : va_G) (I C Q : ClassId) (a0 a1 a2 a3 a4 : Nat) (now : Nat → Int32) (kept : Nat → Int32) (st : Int32) (text : Nat → Int32) (len : Int32) (att : Int32) (num : Int32) (rd : Nat → Int32) (np : Nat) (q : Int32) (hnp : now 10 = nI np) (hn64 : np ≤ 64) : KI l D (tyL I C Q) yX9_modeOf wsX9_modeOf { frames := 2, cells := 0, slots := 0, locals := 44 } [.ref a0, .int q] (wM I a0 a1 a2 a3 a4 now kept st text len att num rd) (wM I a0 a1 a2 a3 a4 now kept st text len att num rd) (m_mode now q np) := by
  refine KI.of (cc := cX9_modeOf) (maxL := 3) (rt := .int) (own := RX9) (by decide) rfl rfl (Nat.le_of_ble_eq_true rfl) ?_
  intro p e s m below meth c A Q0 ls hx hb hml hown hts hE hA hP hD hS hl hend
  have hK := hE.1
  have hF : CallFix p m c cX9_modeOf 3 s [.ref a0, .int q].toArray wsX9_modeOf RX9 := ⟨hx, hb, hml, hown, hts⟩
  have hl : lv_has ls 3 [(0, .ref a0), (1, .int q)] := hl
  refine lv_aload_n hx hb dX9_modeOf_0 rfl (lv_at hl 0 rfl) ?_
  refine lv_iload_n hx hb dX9_modeOf_1 rfl (lv_at hl 1 rfl) ?_
  refine k_iF (va_runV (As := [.int q]) (rest := []) hF (c_X9_find l D I C Q a0 a1 a2 a3 a4 now kept st text len att num rd np q hnp hn64 _) (cwV 1 hts gX9_modeOf_X9_find rfl rfl rfl (by decide +kernel) ⟨Nat.le_of_ble_eq_true rfl, Nat.le_of_ble_eq_true rfl⟩) (kPreV hE hP hD (ci := 9) (q0 := 0) rfl rfl) rfl rfl hl.1 rfl (lv_room (Nat.le_of_ble_eq_true rfl)) dX9_modeOf_2 ⟨Nat.zero_le _, Nat.zero_le _⟩) hD hS hA (fun H locs hP hD hS => ?_)
  rcases m_find_or now q np with ⟨hlt, hq⟩ | ⟨hlt, hq⟩
  · refine k_top hq ?_
    refine lv_istore_n (lv' := [(2, .int (nI (m_fk now q np))), (0, .ref a0), (1, .int q)]) hx hb dX9_modeOf_5 rfl hl (by decide) rfl (fun ls hl => ?_)
    refine lv_iload_n hx hb dX9_modeOf_6 rfl (lv_at hl 0 rfl) ?_
    refine lv_if_ge (tgt := 14) hx hb dX9_modeOf_7 (by decide) (fun c_7 => ?_) (fun c_7 => ?_)
    · refine lv_aload_n hx hb dX9_modeOf_14 rfl (lv_at hl 1 rfl) ?_
      refine lv_iload_n hx hb dX9_modeOf_15 rfl (lv_at hl 0 rfl) ?_
      refine lv_iconst (v := 1) hx hb dX9_modeOf_16 (by decide) ?_
      refine k_iF (va_runV (As := [.int (nI (m_fk now q np)), .int 1]) (rest := []) hF (c_X9_ofP l D I C Q a0 a1 a2 a3 a4 now kept st text len att num rd (m_fk now q np) 1 (by omega) (by omega) _) (cwV 2 hts gX9_modeOf_X9_ofP rfl rfl rfl (by decide +kernel) ⟨Nat.le_of_ble_eq_true rfl, Nat.le_of_ble_eq_true rfl⟩) (kPreV hE hP hD (ci := 9) (q0 := 0) rfl rfl) rfl rfl hl.1 rfl (lv_room (Nat.le_of_ble_eq_true rfl)) dX9_modeOf_17 ⟨Nat.zero_le _, Nat.zero_le _⟩) hD hS hA (fun H locs hP hD hS => ?_)
      exact hend _ _ _ _ _ _ hP hD hS dX9_modeOf_20 rfl rfl (by simp +decide only [m_mode, hlt, if_true, if_false, not_true_eq_false, not_false_eq_true, and_self, and_true, true_and, and_false, false_and, kn01, kn10, kn02, kn20, kn12, kn21, eq_self])
    · exact absurd (nI_pos' (by omega)) c_7
  · refine k_top hq ?_
    refine lv_istore_n (lv' := [(2, .int (-1)), (0, .ref a0), (1, .int q)]) hx hb dX9_modeOf_5 rfl hl (by decide) rfl (fun ls hl => ?_)
    refine lv_iload_n hx hb dX9_modeOf_6 rfl (lv_at hl 0 rfl) ?_
    refine lv_if_ge (tgt := 14) hx hb dX9_modeOf_7 (by decide) (fun c_7 => ?_) (fun c_7 => ?_)
    · exact absurd c_7 (by decide)
    · refine lv_iconst (v := 0) hx hb dX9_modeOf_10 (by decide) ?_
      refine lv_goto (tgt := 20) hx hb dX9_modeOf_11 (by decide) ?_
      exact hend _ _ _ _ _ _ hP hD hS dX9_modeOf_20 rfl rfl (by simp +decide only [m_mode, hlt, if_true, if_false, not_true_eq_false, not_false_eq_true, and_self, and_true, true_and, and_false, false_and, kn01, kn10, kn02, kn20, kn12, kn21, eq_self])
set_option maxHeartbeats 400000 in
set_option maxRecDepth 100000 in
theorem c_X9_keepsO (l : Launch) (D : va_G) (I C Q : ClassId) (a0 a1 a2 a3 a4 : Nat) (now : Nat → Int32) (kept : Nat → Int32) (st : Int32) (text : Nat → Int32) (len : Int32) (att : Int32) (num : Int32) (rd : Nat → Int32) (np : Nat) (q : Int32) (hnp : now 10 = nI np) (hn64 : np ≤ 64) (hold : m_fk now q np < np) : KI l D (tyL I C Q) yX9_keeps wsX9_keeps { frames := 2, cells := 0, slots := 0, locals := 44 } [.ref a0, .int q] (wM I a0 a1 a2 a3 a4 now kept st text len att num rd) (wM I a0 a1 a2 a3 a4 now kept st text len att num rd) (nI (m_fk now q np)) := by
  refine KI.of (cc := cX9_keeps) (maxL := 4) (rt := .int) (own := RX9) (by decide) rfl rfl (Nat.le_of_ble_eq_true rfl) ?_
  intro p e s m below meth c A Q0 ls hx hb hml hown hts hE hA hP hD hS hl hend
  have hK := hE.1
  have hF : CallFix p m c cX9_keeps 4 s [.ref a0, .int q].toArray wsX9_keeps RX9 := ⟨hx, hb, hml, hown, hts⟩
  have hl : lv_has ls 4 [(0, .ref a0), (1, .int q)] := hl
  refine lv_aload_n hx hb dX9_keeps_0 rfl (lv_at hl 0 rfl) ?_
  refine lv_iload_n hx hb dX9_keeps_1 rfl (lv_at hl 1 rfl) ?_
  refine k_iF (va_runV (As := [.int q]) (rest := []) hF (c_X9_find l D I C Q a0 a1 a2 a3 a4 now kept st text len att num rd np q hnp hn64 _) (cwV 1 hts gX9_keeps_X9_find rfl rfl rfl (by decide +kernel) ⟨Nat.le_of_ble_eq_true rfl, Nat.le_of_ble_eq_true rfl⟩) (kPreV hE hP hD (ci := 9) (q0 := 0) rfl rfl) rfl rfl hl.1 rfl (lv_room (Nat.le_of_ble_eq_true rfl)) dX9_keeps_2 ⟨Nat.zero_le _, Nat.zero_le _⟩) hD hS hA (fun H locs hP hD hS => ?_)
  have hq : m_find now q np = nI (m_fk now q np) := if_pos hold
  refine k_top hq ?_
  refine lv_istore_n (lv' := [(2, .int (nI (m_fk now q np))), (0, .ref a0), (1, .int q)]) hx hb dX9_keeps_5 rfl hl (by decide) rfl (fun ls hl => ?_)
  refine lv_iload_n hx hb dX9_keeps_6 rfl (lv_at hl 0 rfl) ?_
  refine lv_if_ge (tgt := 57) hx hb dX9_keeps_7 (by decide) (fun c_7 => ?_) (fun c_7 => ?_)
  · refine lv_iload_n hx hb dX9_keeps_57 rfl (lv_at hl 0 rfl) ?_
    exact hend _ _ _ _ _ _ hP hD hS dX9_keeps_58 rfl rfl rfl
  · exact absurd (nI_pos' (by omega)) c_7
set_option maxHeartbeats 400000 in
set_option maxRecDepth 100000 in
theorem c_X9_keepsN (l : Launch) (D : va_G) (I C Q : ClassId) (a0 a1 a2 a3 a4 : Nat) (now : Nat → Int32) (kept : Nat → Int32) (st : Int32) (text : Nat → Int32) (len : Int32) (att : Int32) (num : Int32) (rd : Nat → Int32) (np : Nat) (q : Int32) (hnp : now 10 = nI np) (hn64 : np ≤ 64) (hnew : ¬ m_fk now q np < np) (hcap : np < 64) : KI l D (tyL I C Q) yX9_keeps wsX9_keeps { frames := 2, cells := 0, slots := 0, locals := 44 } [.ref a0, .int q] (wM I a0 a1 a2 a3 a4 now kept st text len att num rd) (wM I a0 a1 a2 a3 a4 (m_keep now q np) kept st text len att num rd) (nI np) := by
  refine KI.of (cc := cX9_keeps) (maxL := 4) (rt := .int) (own := RX9) (by decide) rfl rfl (Nat.le_of_ble_eq_true rfl) ?_
  intro p e s m below meth c A Q0 ls hx hb hml hown hts hE hA hP hD hS hl hend
  have hK := hE.1
  have hF : CallFix p m c cX9_keeps 4 s [.ref a0, .int q].toArray wsX9_keeps RX9 := ⟨hx, hb, hml, hown, hts⟩
  have k0 := hts (.fieldLink RX9 7 "LateExcusesModel" "now" "[I") (List.mem_of_getElem? (i := 1) rfl)
  have u9 : ∀ w ∈ u_ws RX9 TX9 8, w ∈ wsX9_keeps := by decide +kernel
  have hl : lv_has ls 4 [(0, .ref a0), (1, .int q)] := hl
  refine lv_aload_n hx hb dX9_keeps_0 rfl (lv_at hl 0 rfl) ?_
  refine lv_iload_n hx hb dX9_keeps_1 rfl (lv_at hl 1 rfl) ?_
  refine k_iF (va_runV (As := [.int q]) (rest := []) hF (c_X9_find l D I C Q a0 a1 a2 a3 a4 now kept st text len att num rd np q hnp hn64 _) (cwV 1 hts gX9_keeps_X9_find rfl rfl rfl (by decide +kernel) ⟨Nat.le_of_ble_eq_true rfl, Nat.le_of_ble_eq_true rfl⟩) (kPreV hE hP hD (ci := 9) (q0 := 0) rfl rfl) rfl rfl hl.1 rfl (lv_room (Nat.le_of_ble_eq_true rfl)) dX9_keeps_2 ⟨Nat.zero_le _, Nat.zero_le _⟩) hD hS hA (fun H locs hP hD hS => ?_)
  have hq : m_find now q np = -1 := if_neg hnew
  refine k_top hq ?_
  refine lv_istore_n (lv' := [(2, .int (-1)), (0, .ref a0), (1, .int q)]) hx hb dX9_keeps_5 rfl hl (by decide) rfl (fun ls hl => ?_)
  refine lv_iload_n hx hb dX9_keeps_6 rfl (lv_at hl 0 rfl) ?_
  refine lv_if_ge (tgt := 57) hx hb dX9_keeps_7 (by decide) (fun c_7 => ?_) (fun c_7 => ?_)
  · exact absurd c_7 (by decide)
  · refine lv_aload_n hx hb dX9_keeps_10 rfl (lv_at hl 1 rfl) ?_
    refine va_get (D := D) (ci := 9) (v := .ref a1) (C := RX9) (T := TX9) (N := 8) hx hb hts u9 hown hK hP 0 rfl rfl 0 (by decide) k0 (fun _ h9 => h9) rfl dX9_keeps_11 ?_
    refine lv_bipush (v := 10) hx hb dX9_keeps_14 (by decide) ?_
    refine k_iald (j := 10) (v := (nI np)) hx hb hK hP 1 0 rfl rfl rfl (by decide) (by decide) hnp dX9_keeps_16 ?_
    refine lv_istore_n (lv' := [(2, .int (nI np)), (0, .ref a0), (1, .int q)]) hx hb dX9_keeps_17 rfl hl (by decide) rfl (fun ls hl => ?_)
    refine lv_aload_n hx hb dX9_keeps_18 rfl (lv_at hl 1 rfl) ?_
    refine va_get (D := D) (ci := 9) (v := .ref a1) (C := RX9) (T := TX9) (N := 8) hx hb hts u9 hown hK hP 0 rfl rfl 0 (by decide) k0 (fun _ h9 => h9) rfl dX9_keeps_19 ?_
    refine lv_bipush (v := 10) hx hb dX9_keeps_22 (by decide) ?_
    refine lv_dup2_11 hx hb dX9_keeps_24 rfl rfl ?_
    refine k_iald (j := 10) (v := (nI np)) hx hb hK hP 1 0 rfl rfl rfl (by decide) (by decide) hnp dX9_keeps_25 ?_
    refine lv_iconst (v := 1) hx hb dX9_keeps_26 (by decide) ?_
    refine k_iadd (v := nI (np + 1)) hx hb dX9_keeps_27 (nI_add np 1) ?_
    refine k_iast (j := 10) hx hb hK hP hD hS 1 0 rfl rfl rfl (by decide) (by decide) dX9_keeps_28 (fun H locs hP hD hS => ?_)
    have hP : va_P D vwCl (wM I a0 a1 a2 a3 a4 (upd now 10 (nI (np + 1))) kept st text len att num rd) H := hP
    have hD : va_D A (wM I a0 a1 a2 a3 a4 (upd now 10 (nI (np + 1))) kept st text len att num rd) := hD
    refine lv_iconst (v := 0) hx hb dX9_keeps_29 (by decide) ?_
    refine lv_istore_n (lv' := [(3, .int 0), (2, .int (nI np)), (0, .ref a0), (1, .int q)]) hx hb dX9_keeps_30 rfl hl (by decide) rfl (fun ls hl => ?_)
    refine lv_iload_n hx hb dX9_keeps_31 rfl (lv_at hl 0 rfl) ?_
    refine lv_bipush (v := 8) hx hb dX9_keeps_32 (by decide) ?_
    refine lv_icmp_ge (tgt := 50) hx hb dX9_keeps_34 (by decide) (fun c_34 => ?_) (fun c_34 => ?_)
    · exact absurd c_34 (by decide)
    · refine lv_aload_n hx hb dX9_keeps_37 rfl (lv_at hl 2 rfl) ?_
      refine lv_iload_n hx hb dX9_keeps_38 rfl (lv_at hl 1 rfl) ?_
      refine lv_iload_n hx hb dX9_keeps_39 rfl (lv_at hl 0 rfl) ?_
      refine lv_iconst (v := 0) hx hb dX9_keeps_40 (by decide) ?_
      refine k_vF (va_runV (As := [.int (nI np), .int 0, .int 0]) (rest := []) hF (c_X9_setsP l D I C Q a0 a1 a2 a3 a4 (upd now 10 (nI (np + 1))) kept st text len att num rd np 0 0 hcap (by omega) _) (cwV 3 hts gX9_keeps_X9_setsP rfl rfl rfl (by decide +kernel) ⟨Nat.le_of_ble_eq_true rfl, Nat.le_of_ble_eq_true rfl⟩) (kPreV hE hP hD (ci := 9) (q0 := 0) rfl rfl) rfl rfl hl.1 rfl (lv_room (Nat.le_of_ble_eq_true rfl)) dX9_keeps_41 ⟨Nat.zero_le _, Nat.zero_le _⟩) hD hS hA (fun H locs hP hD hS => ?_)
      have hP : va_P D vwCl (wM I a0 a1 a2 a3 a4 (upd (upd now 10 (nI (np + 1))) (396 + 8 * np + 0) 0) kept st text len att num rd) H := hP
      have hD : va_D A (wM I a0 a1 a2 a3 a4 (upd (upd now 10 (nI (np + 1))) (396 + 8 * np + 0) 0) kept st text len att num rd) := hD
      refine lv_iinc (v := 1) (lv' := [(3, .int 1), (2, .int (nI np)), (0, .ref a0), (1, .int q)]) hx hb dX9_keeps_44 hl (k := 0) rfl (nI_inc 0) (by decide) rfl (fun ls hl => ?_)
      refine lv_goto (tgt := 31) hx hb dX9_keeps_47 (by decide) ?_
      refine lv_iload_n hx hb dX9_keeps_31 rfl (lv_at hl 0 rfl) ?_
      refine lv_bipush (v := 8) hx hb dX9_keeps_32 (by decide) ?_
      refine lv_icmp_ge (tgt := 50) hx hb dX9_keeps_34 (by decide) (fun c_34_2 => ?_) (fun c_34_2 => ?_)
      · exact absurd c_34_2 (by decide)
      · refine lv_aload_n hx hb dX9_keeps_37 rfl (lv_at hl 2 rfl) ?_
        refine lv_iload_n hx hb dX9_keeps_38 rfl (lv_at hl 1 rfl) ?_
        refine lv_iload_n hx hb dX9_keeps_39 rfl (lv_at hl 0 rfl) ?_
        refine lv_iconst (v := 0) hx hb dX9_keeps_40 (by decide) ?_
        refine k_vF (va_runV (As := [.int (nI np), .int 1, .int 0]) (rest := []) hF (c_X9_setsP l D I C Q a0 a1 a2 a3 a4 (upd (upd now 10 (nI (np + 1))) (396 + 8 * np + 0) 0) kept st text len att num rd np 1 0 hcap (by omega) _) (cwV 3 hts gX9_keeps_X9_setsP rfl rfl rfl (by decide +kernel) ⟨Nat.le_of_ble_eq_true rfl, Nat.le_of_ble_eq_true rfl⟩) (kPreV hE hP hD (ci := 9) (q0 := 0) rfl rfl) rfl rfl hl.1 rfl (lv_room (Nat.le_of_ble_eq_true rfl)) dX9_keeps_41 ⟨Nat.zero_le _, Nat.zero_le _⟩) hD hS hA (fun H locs hP hD hS => ?_)
        have hP : va_P D vwCl (wM I a0 a1 a2 a3 a4 (upd (upd (upd now 10 (nI (np + 1))) (396 + 8 * np + 0) 0) (396 + 8 * np + 1) 0) kept st text len att num rd) H := hP
        have hD : va_D A (wM I a0 a1 a2 a3 a4 (upd (upd (upd now 10 (nI (np + 1))) (396 + 8 * np + 0) 0) (396 + 8 * np + 1) 0) kept st text len att num rd) := hD
        refine lv_iinc (v := 2) (lv' := [(3, .int 2), (2, .int (nI np)), (0, .ref a0), (1, .int q)]) hx hb dX9_keeps_44 hl (k := 0) rfl (nI_inc 1) (by decide) rfl (fun ls hl => ?_)
        refine lv_goto (tgt := 31) hx hb dX9_keeps_47 (by decide) ?_
        refine lv_iload_n hx hb dX9_keeps_31 rfl (lv_at hl 0 rfl) ?_
        refine lv_bipush (v := 8) hx hb dX9_keeps_32 (by decide) ?_
        refine lv_icmp_ge (tgt := 50) hx hb dX9_keeps_34 (by decide) (fun c_34_3 => ?_) (fun c_34_3 => ?_)
        · exact absurd c_34_3 (by decide)
        · refine lv_aload_n hx hb dX9_keeps_37 rfl (lv_at hl 2 rfl) ?_
          refine lv_iload_n hx hb dX9_keeps_38 rfl (lv_at hl 1 rfl) ?_
          refine lv_iload_n hx hb dX9_keeps_39 rfl (lv_at hl 0 rfl) ?_
          refine lv_iconst (v := 0) hx hb dX9_keeps_40 (by decide) ?_
          refine k_vF (va_runV (As := [.int (nI np), .int 2, .int 0]) (rest := []) hF (c_X9_setsP l D I C Q a0 a1 a2 a3 a4 (upd (upd (upd now 10 (nI (np + 1))) (396 + 8 * np + 0) 0) (396 + 8 * np + 1) 0) kept st text len att num rd np 2 0 hcap (by omega) _) (cwV 3 hts gX9_keeps_X9_setsP rfl rfl rfl (by decide +kernel) ⟨Nat.le_of_ble_eq_true rfl, Nat.le_of_ble_eq_true rfl⟩) (kPreV hE hP hD (ci := 9) (q0 := 0) rfl rfl) rfl rfl hl.1 rfl (lv_room (Nat.le_of_ble_eq_true rfl)) dX9_keeps_41 ⟨Nat.zero_le _, Nat.zero_le _⟩) hD hS hA (fun H locs hP hD hS => ?_)
          have hP : va_P D vwCl (wM I a0 a1 a2 a3 a4 (upd (upd (upd (upd now 10 (nI (np + 1))) (396 + 8 * np + 0) 0) (396 + 8 * np + 1) 0) (396 + 8 * np + 2) 0) kept st text len att num rd) H := hP
          have hD : va_D A (wM I a0 a1 a2 a3 a4 (upd (upd (upd (upd now 10 (nI (np + 1))) (396 + 8 * np + 0) 0) (396 + 8 * np + 1) 0) (396 + 8 * np + 2) 0) kept st text len att num rd) := hD
          refine lv_iinc (v := 3) (lv' := [(3, .int 3), (2, .int (nI np)), (0, .ref a0), (1, .int q)]) hx hb dX9_keeps_44 hl (k := 0) rfl (nI_inc 2) (by decide) rfl (fun ls hl => ?_)
          refine lv_goto (tgt := 31) hx hb dX9_keeps_47 (by decide) ?_
          refine lv_iload_n hx hb dX9_keeps_31 rfl (lv_at hl 0 rfl) ?_
          refine lv_bipush (v := 8) hx hb dX9_keeps_32 (by decide) ?_
          refine lv_icmp_ge (tgt := 50) hx hb dX9_keeps_34 (by decide) (fun c_34_4 => ?_) (fun c_34_4 => ?_)
          · exact absurd c_34_4 (by decide)
          · refine lv_aload_n hx hb dX9_keeps_37 rfl (lv_at hl 2 rfl) ?_
            refine lv_iload_n hx hb dX9_keeps_38 rfl (lv_at hl 1 rfl) ?_
            refine lv_iload_n hx hb dX9_keeps_39 rfl (lv_at hl 0 rfl) ?_
            refine lv_iconst (v := 0) hx hb dX9_keeps_40 (by decide) ?_
            refine k_vF (va_runV (As := [.int (nI np), .int 3, .int 0]) (rest := []) hF (c_X9_setsP l D I C Q a0 a1 a2 a3 a4 (upd (upd (upd (upd now 10 (nI (np + 1))) (396 + 8 * np + 0) 0) (396 + 8 * np + 1) 0) (396 + 8 * np + 2) 0) kept st text len att num rd np 3 0 hcap (by omega) _) (cwV 3 hts gX9_keeps_X9_setsP rfl rfl rfl (by decide +kernel) ⟨Nat.le_of_ble_eq_true rfl, Nat.le_of_ble_eq_true rfl⟩) (kPreV hE hP hD (ci := 9) (q0 := 0) rfl rfl) rfl rfl hl.1 rfl (lv_room (Nat.le_of_ble_eq_true rfl)) dX9_keeps_41 ⟨Nat.zero_le _, Nat.zero_le _⟩) hD hS hA (fun H locs hP hD hS => ?_)
            have hP : va_P D vwCl (wM I a0 a1 a2 a3 a4 (upd (upd (upd (upd (upd now 10 (nI (np + 1))) (396 + 8 * np + 0) 0) (396 + 8 * np + 1) 0) (396 + 8 * np + 2) 0) (396 + 8 * np + 3) 0) kept st text len att num rd) H := hP
            have hD : va_D A (wM I a0 a1 a2 a3 a4 (upd (upd (upd (upd (upd now 10 (nI (np + 1))) (396 + 8 * np + 0) 0) (396 + 8 * np + 1) 0) (396 + 8 * np + 2) 0) (396 + 8 * np + 3) 0) kept st text len att num rd) := hD
            refine lv_iinc (v := 4) (lv' := [(3, .int 4), (2, .int (nI np)), (0, .ref a0), (1, .int q)]) hx hb dX9_keeps_44 hl (k := 0) rfl (nI_inc 3) (by decide) rfl (fun ls hl => ?_)
            refine lv_goto (tgt := 31) hx hb dX9_keeps_47 (by decide) ?_
            refine lv_iload_n hx hb dX9_keeps_31 rfl (lv_at hl 0 rfl) ?_
            refine lv_bipush (v := 8) hx hb dX9_keeps_32 (by decide) ?_
            refine lv_icmp_ge (tgt := 50) hx hb dX9_keeps_34 (by decide) (fun c_34_5 => ?_) (fun c_34_5 => ?_)
            · exact absurd c_34_5 (by decide)
            · refine lv_aload_n hx hb dX9_keeps_37 rfl (lv_at hl 2 rfl) ?_
              refine lv_iload_n hx hb dX9_keeps_38 rfl (lv_at hl 1 rfl) ?_
              refine lv_iload_n hx hb dX9_keeps_39 rfl (lv_at hl 0 rfl) ?_
              refine lv_iconst (v := 0) hx hb dX9_keeps_40 (by decide) ?_
              refine k_vF (va_runV (As := [.int (nI np), .int 4, .int 0]) (rest := []) hF (c_X9_setsP l D I C Q a0 a1 a2 a3 a4 (upd (upd (upd (upd (upd now 10 (nI (np + 1))) (396 + 8 * np + 0) 0) (396 + 8 * np + 1) 0) (396 + 8 * np + 2) 0) (396 + 8 * np + 3) 0) kept st text len att num rd np 4 0 hcap (by omega) _) (cwV 3 hts gX9_keeps_X9_setsP rfl rfl rfl (by decide +kernel) ⟨Nat.le_of_ble_eq_true rfl, Nat.le_of_ble_eq_true rfl⟩) (kPreV hE hP hD (ci := 9) (q0 := 0) rfl rfl) rfl rfl hl.1 rfl (lv_room (Nat.le_of_ble_eq_true rfl)) dX9_keeps_41 ⟨Nat.zero_le _, Nat.zero_le _⟩) hD hS hA (fun H locs hP hD hS => ?_)
              have hP : va_P D vwCl (wM I a0 a1 a2 a3 a4 (upd (upd (upd (upd (upd (upd now 10 (nI (np + 1))) (396 + 8 * np + 0) 0) (396 + 8 * np + 1) 0) (396 + 8 * np + 2) 0) (396 + 8 * np + 3) 0) (396 + 8 * np + 4) 0) kept st text len att num rd) H := hP
              have hD : va_D A (wM I a0 a1 a2 a3 a4 (upd (upd (upd (upd (upd (upd now 10 (nI (np + 1))) (396 + 8 * np + 0) 0) (396 + 8 * np + 1) 0) (396 + 8 * np + 2) 0) (396 + 8 * np + 3) 0) (396 + 8 * np + 4) 0) kept st text len att num rd) := hD
              refine lv_iinc (v := 5) (lv' := [(3, .int 5), (2, .int (nI np)), (0, .ref a0), (1, .int q)]) hx hb dX9_keeps_44 hl (k := 0) rfl (nI_inc 4) (by decide) rfl (fun ls hl => ?_)
              refine lv_goto (tgt := 31) hx hb dX9_keeps_47 (by decide) ?_
              refine lv_iload_n hx hb dX9_keeps_31 rfl (lv_at hl 0 rfl) ?_
              refine lv_bipush (v := 8) hx hb dX9_keeps_32 (by decide) ?_
              refine lv_icmp_ge (tgt := 50) hx hb dX9_keeps_34 (by decide) (fun c_34_6 => ?_) (fun c_34_6 => ?_)
              · exact absurd c_34_6 (by decide)
              · refine lv_aload_n hx hb dX9_keeps_37 rfl (lv_at hl 2 rfl) ?_
                refine lv_iload_n hx hb dX9_keeps_38 rfl (lv_at hl 1 rfl) ?_
                refine lv_iload_n hx hb dX9_keeps_39 rfl (lv_at hl 0 rfl) ?_
                refine lv_iconst (v := 0) hx hb dX9_keeps_40 (by decide) ?_
                refine k_vF (va_runV (As := [.int (nI np), .int 5, .int 0]) (rest := []) hF (c_X9_setsP l D I C Q a0 a1 a2 a3 a4 (upd (upd (upd (upd (upd (upd now 10 (nI (np + 1))) (396 + 8 * np + 0) 0) (396 + 8 * np + 1) 0) (396 + 8 * np + 2) 0) (396 + 8 * np + 3) 0) (396 + 8 * np + 4) 0) kept st text len att num rd np 5 0 hcap (by omega) _) (cwV 3 hts gX9_keeps_X9_setsP rfl rfl rfl (by decide +kernel) ⟨Nat.le_of_ble_eq_true rfl, Nat.le_of_ble_eq_true rfl⟩) (kPreV hE hP hD (ci := 9) (q0 := 0) rfl rfl) rfl rfl hl.1 rfl (lv_room (Nat.le_of_ble_eq_true rfl)) dX9_keeps_41 ⟨Nat.zero_le _, Nat.zero_le _⟩) hD hS hA (fun H locs hP hD hS => ?_)
                have hP : va_P D vwCl (wM I a0 a1 a2 a3 a4 (upd (upd (upd (upd (upd (upd (upd now 10 (nI (np + 1))) (396 + 8 * np + 0) 0) (396 + 8 * np + 1) 0) (396 + 8 * np + 2) 0) (396 + 8 * np + 3) 0) (396 + 8 * np + 4) 0) (396 + 8 * np + 5) 0) kept st text len att num rd) H := hP
                have hD : va_D A (wM I a0 a1 a2 a3 a4 (upd (upd (upd (upd (upd (upd (upd now 10 (nI (np + 1))) (396 + 8 * np + 0) 0) (396 + 8 * np + 1) 0) (396 + 8 * np + 2) 0) (396 + 8 * np + 3) 0) (396 + 8 * np + 4) 0) (396 + 8 * np + 5) 0) kept st text len att num rd) := hD
                refine lv_iinc (v := 6) (lv' := [(3, .int 6), (2, .int (nI np)), (0, .ref a0), (1, .int q)]) hx hb dX9_keeps_44 hl (k := 0) rfl (nI_inc 5) (by decide) rfl (fun ls hl => ?_)
                refine lv_goto (tgt := 31) hx hb dX9_keeps_47 (by decide) ?_
                refine lv_iload_n hx hb dX9_keeps_31 rfl (lv_at hl 0 rfl) ?_
                refine lv_bipush (v := 8) hx hb dX9_keeps_32 (by decide) ?_
                refine lv_icmp_ge (tgt := 50) hx hb dX9_keeps_34 (by decide) (fun c_34_7 => ?_) (fun c_34_7 => ?_)
                · exact absurd c_34_7 (by decide)
                · refine lv_aload_n hx hb dX9_keeps_37 rfl (lv_at hl 2 rfl) ?_
                  refine lv_iload_n hx hb dX9_keeps_38 rfl (lv_at hl 1 rfl) ?_
                  refine lv_iload_n hx hb dX9_keeps_39 rfl (lv_at hl 0 rfl) ?_
                  refine lv_iconst (v := 0) hx hb dX9_keeps_40 (by decide) ?_
                  refine k_vF (va_runV (As := [.int (nI np), .int 6, .int 0]) (rest := []) hF (c_X9_setsP l D I C Q a0 a1 a2 a3 a4 (upd (upd (upd (upd (upd (upd (upd now 10 (nI (np + 1))) (396 + 8 * np + 0) 0) (396 + 8 * np + 1) 0) (396 + 8 * np + 2) 0) (396 + 8 * np + 3) 0) (396 + 8 * np + 4) 0) (396 + 8 * np + 5) 0) kept st text len att num rd np 6 0 hcap (by omega) _) (cwV 3 hts gX9_keeps_X9_setsP rfl rfl rfl (by decide +kernel) ⟨Nat.le_of_ble_eq_true rfl, Nat.le_of_ble_eq_true rfl⟩) (kPreV hE hP hD (ci := 9) (q0 := 0) rfl rfl) rfl rfl hl.1 rfl (lv_room (Nat.le_of_ble_eq_true rfl)) dX9_keeps_41 ⟨Nat.zero_le _, Nat.zero_le _⟩) hD hS hA (fun H locs hP hD hS => ?_)
                  have hP : va_P D vwCl (wM I a0 a1 a2 a3 a4 (upd (upd (upd (upd (upd (upd (upd (upd now 10 (nI (np + 1))) (396 + 8 * np + 0) 0) (396 + 8 * np + 1) 0) (396 + 8 * np + 2) 0) (396 + 8 * np + 3) 0) (396 + 8 * np + 4) 0) (396 + 8 * np + 5) 0) (396 + 8 * np + 6) 0) kept st text len att num rd) H := hP
                  have hD : va_D A (wM I a0 a1 a2 a3 a4 (upd (upd (upd (upd (upd (upd (upd (upd now 10 (nI (np + 1))) (396 + 8 * np + 0) 0) (396 + 8 * np + 1) 0) (396 + 8 * np + 2) 0) (396 + 8 * np + 3) 0) (396 + 8 * np + 4) 0) (396 + 8 * np + 5) 0) (396 + 8 * np + 6) 0) kept st text len att num rd) := hD
                  refine lv_iinc (v := 7) (lv' := [(3, .int 7), (2, .int (nI np)), (0, .ref a0), (1, .int q)]) hx hb dX9_keeps_44 hl (k := 0) rfl (nI_inc 6) (by decide) rfl (fun ls hl => ?_)
                  refine lv_goto (tgt := 31) hx hb dX9_keeps_47 (by decide) ?_
                  refine lv_iload_n hx hb dX9_keeps_31 rfl (lv_at hl 0 rfl) ?_
                  refine lv_bipush (v := 8) hx hb dX9_keeps_32 (by decide) ?_
                  refine lv_icmp_ge (tgt := 50) hx hb dX9_keeps_34 (by decide) (fun c_34_8 => ?_) (fun c_34_8 => ?_)
                  · exact absurd c_34_8 (by decide)
                  · refine lv_aload_n hx hb dX9_keeps_37 rfl (lv_at hl 2 rfl) ?_
                    refine lv_iload_n hx hb dX9_keeps_38 rfl (lv_at hl 1 rfl) ?_
                    refine lv_iload_n hx hb dX9_keeps_39 rfl (lv_at hl 0 rfl) ?_
                    refine lv_iconst (v := 0) hx hb dX9_keeps_40 (by decide) ?_
                    refine k_vF (va_runV (As := [.int (nI np), .int 7, .int 0]) (rest := []) hF (c_X9_setsP l D I C Q a0 a1 a2 a3 a4 (upd (upd (upd (upd (upd (upd (upd (upd now 10 (nI (np + 1))) (396 + 8 * np + 0) 0) (396 + 8 * np + 1) 0) (396 + 8 * np + 2) 0) (396 + 8 * np + 3) 0) (396 + 8 * np + 4) 0) (396 + 8 * np + 5) 0) (396 + 8 * np + 6) 0) kept st text len att num rd np 7 0 hcap (by omega) _) (cwV 3 hts gX9_keeps_X9_setsP rfl rfl rfl (by decide +kernel) ⟨Nat.le_of_ble_eq_true rfl, Nat.le_of_ble_eq_true rfl⟩) (kPreV hE hP hD (ci := 9) (q0 := 0) rfl rfl) rfl rfl hl.1 rfl (lv_room (Nat.le_of_ble_eq_true rfl)) dX9_keeps_41 ⟨Nat.zero_le _, Nat.zero_le _⟩) hD hS hA (fun H locs hP hD hS => ?_)
                    have hP : va_P D vwCl (wM I a0 a1 a2 a3 a4 (upd (upd (upd (upd (upd (upd (upd (upd (upd now 10 (nI (np + 1))) (396 + 8 * np + 0) 0) (396 + 8 * np + 1) 0) (396 + 8 * np + 2) 0) (396 + 8 * np + 3) 0) (396 + 8 * np + 4) 0) (396 + 8 * np + 5) 0) (396 + 8 * np + 6) 0) (396 + 8 * np + 7) 0) kept st text len att num rd) H := hP
                    have hD : va_D A (wM I a0 a1 a2 a3 a4 (upd (upd (upd (upd (upd (upd (upd (upd (upd now 10 (nI (np + 1))) (396 + 8 * np + 0) 0) (396 + 8 * np + 1) 0) (396 + 8 * np + 2) 0) (396 + 8 * np + 3) 0) (396 + 8 * np + 4) 0) (396 + 8 * np + 5) 0) (396 + 8 * np + 6) 0) (396 + 8 * np + 7) 0) kept st text len att num rd) := hD
                    refine lv_iinc (v := 8) (lv' := [(3, .int 8), (2, .int (nI np)), (0, .ref a0), (1, .int q)]) hx hb dX9_keeps_44 hl (k := 0) rfl (nI_inc 7) (by decide) rfl (fun ls hl => ?_)
                    refine lv_goto (tgt := 31) hx hb dX9_keeps_47 (by decide) ?_
                    refine lv_iload_n hx hb dX9_keeps_31 rfl (lv_at hl 0 rfl) ?_
                    refine lv_bipush (v := 8) hx hb dX9_keeps_32 (by decide) ?_
                    refine lv_icmp_ge (tgt := 50) hx hb dX9_keeps_34 (by decide) (fun c_34_9 => ?_) (fun c_34_9 => ?_)
                    · refine lv_aload_n hx hb dX9_keeps_50 rfl (lv_at hl 2 rfl) ?_
                      refine lv_iload_n hx hb dX9_keeps_51 rfl (lv_at hl 1 rfl) ?_
                      refine lv_iconst (v := 0) hx hb dX9_keeps_52 (by decide) ?_
                      refine lv_iload_n hx hb dX9_keeps_53 rfl (lv_at hl 3 rfl) ?_
                      refine k_vF (va_runV (As := [.int (nI np), .int 0, .int q]) (rest := []) hF (c_X9_setsP l D I C Q a0 a1 a2 a3 a4 (upd (upd (upd (upd (upd (upd (upd (upd (upd now 10 (nI (np + 1))) (396 + 8 * np + 0) 0) (396 + 8 * np + 1) 0) (396 + 8 * np + 2) 0) (396 + 8 * np + 3) 0) (396 + 8 * np + 4) 0) (396 + 8 * np + 5) 0) (396 + 8 * np + 6) 0) (396 + 8 * np + 7) 0) kept st text len att num rd np 0 q hcap (by omega) _) (cwV 3 hts gX9_keeps_X9_setsP rfl rfl rfl (by decide +kernel) ⟨Nat.le_of_ble_eq_true rfl, Nat.le_of_ble_eq_true rfl⟩) (kPreV hE hP hD (ci := 9) (q0 := 0) rfl rfl) rfl rfl hl.1 rfl (lv_room (Nat.le_of_ble_eq_true rfl)) dX9_keeps_54 ⟨Nat.zero_le _, Nat.zero_le _⟩) hD hS hA (fun H locs hP hD hS => ?_)
                      have hP : va_P D vwCl (wM I a0 a1 a2 a3 a4 (upd (upd (upd (upd (upd (upd (upd (upd (upd (upd now 10 (nI (np + 1))) (396 + 8 * np + 0) 0) (396 + 8 * np + 1) 0) (396 + 8 * np + 2) 0) (396 + 8 * np + 3) 0) (396 + 8 * np + 4) 0) (396 + 8 * np + 5) 0) (396 + 8 * np + 6) 0) (396 + 8 * np + 7) 0) (396 + 8 * np + 0) q) kept st text len att num rd) H := hP
                      have hD : va_D A (wM I a0 a1 a2 a3 a4 (upd (upd (upd (upd (upd (upd (upd (upd (upd (upd now 10 (nI (np + 1))) (396 + 8 * np + 0) 0) (396 + 8 * np + 1) 0) (396 + 8 * np + 2) 0) (396 + 8 * np + 3) 0) (396 + 8 * np + 4) 0) (396 + 8 * np + 5) 0) (396 + 8 * np + 6) 0) (396 + 8 * np + 7) 0) (396 + 8 * np + 0) q) kept st text len att num rd) := hD
                      refine lv_iload_n hx hb dX9_keeps_57 rfl (lv_at hl 1 rfl) ?_
                      exact hend _ _ _ _ _ _ hP hD hS dX9_keeps_58 rfl rfl rfl
                    · exact (c_34_9 (by decide)).elim
set_option maxHeartbeats 400000 in
set_option maxRecDepth 100000 in
theorem c_X9_isShut (l : Launch) (D : va_G) (I C Q : ClassId) (a0 a1 a2 a3 a4 : Nat) (now : Nat → Int32) (kept : Nat → Int32) (st : Int32) (text : Nat → Int32) (len : Int32) (att : Int32) (num : Int32) (rd : Nat → Int32) (np : Nat) (sz : Nat) (pp : Nat) (hnp : now 10 = nI np) (hn64 : np ≤ 64) (hsz : now 6 = nI sz) (hs0 : 0 < sz) (hs1 : sz ≤ 100) : KI l D (tyL I C Q) yX9_isShut wsX9_isShut { frames := 3, cells := 0, slots := 0, locals := 66 } [.ref a0, .int (nI pp)] (wM I a0 a1 a2 a3 a4 now kept st text len att num rd) (wM I a0 a1 a2 a3 a4 now kept st text len att num rd) (m_shut now pp np sz) := by
  refine KI.of (cc := cX9_isShut) (maxL := 2) (rt := .boolean) (own := RX9) (by decide) rfl rfl (Nat.le_of_ble_eq_true rfl) ?_
  intro p e s m below meth c A Q0 ls hx hb hml hown hts hE hA hP hD hS hl hend
  have hK := hE.1
  have hF : CallFix p m c cX9_isShut 2 s [.ref a0, .int (nI pp)].toArray wsX9_isShut RX9 := ⟨hx, hb, hml, hown, hts⟩
  have k0 := hts (.fieldLink RX9 7 "LateExcusesModel" "now" "[I") (List.mem_of_getElem? (i := 1) rfl)
  have u9 : ∀ w ∈ u_ws RX9 TX9 8, w ∈ wsX9_isShut := by decide +kernel
  have hl : lv_has ls 2 [(0, .ref a0), (1, .int (nI pp))] := hl
  refine lv_aload_n hx hb dX9_isShut_0 rfl (lv_at hl 0 rfl) ?_
  refine lv_iload_n hx hb dX9_isShut_1 rfl (lv_at hl 1 rfl) ?_
  refine k_iF (va_runV (As := [.int (nI pp)]) (rest := []) hF (c_X9_modeOf l D I C Q a0 a1 a2 a3 a4 now kept st text len att num rd np (nI pp) hnp hn64 _) (cwV 1 hts gX9_isShut_X9_modeOf rfl rfl rfl (by decide +kernel) ⟨Nat.le_of_ble_eq_true rfl, Nat.le_of_ble_eq_true rfl⟩) (kPreV hE hP hD (ci := 9) (q0 := 0) rfl rfl) rfl rfl hl.1 rfl (lv_room (Nat.le_of_ble_eq_true rfl)) dX9_isShut_2 ⟨Nat.zero_le _, Nat.zero_le _⟩) hD hS hA (fun H locs hP hD hS => ?_)
  refine lv_if_ne (tgt := 26) hx hb dX9_isShut_5 (by decide) (fun c_5 => ?_) (fun c_5 => ?_)
  · refine lv_iconst (v := 0) hx hb dX9_isShut_26 (by decide) ?_
    exact hend _ _ _ _ _ _ hP hD hS dX9_isShut_27 (by decide) rfl (by simp +decide only [m_shut, c_5, if_true, if_false, not_true_eq_false, not_false_eq_true, and_self, and_true, true_and, and_false, false_and, kn01, kn10, kn02, kn20, kn12, kn21, eq_self])
  · refine lv_aload_n hx hb dX9_isShut_8 rfl (lv_at hl 0 rfl) ?_
    refine va_get (D := D) (ci := 9) (v := .ref a1) (C := RX9) (T := TX9) (N := 8) hx hb hts u9 hown hK hP 0 rfl rfl 0 (by decide) k0 (fun _ h9 => h9) rfl dX9_isShut_9 ?_
    refine lv_iconst (v := 0) hx hb dX9_isShut_12 (by decide) ?_
    refine k_iald (j := 0) (v := (now 0)) hx hb hK hP 1 0 rfl rfl rfl (by decide) (by decide) rfl dX9_isShut_13 ?_
    refine lv_aload_n hx hb dX9_isShut_14 rfl (lv_at hl 0 rfl) ?_
    refine lv_iload_n hx hb dX9_isShut_15 rfl (lv_at hl 1 rfl) ?_
    refine k_iF (va_runV (As := [.int (nI pp)]) (rest := [.int (now 0)]) hF (c_X9_endOfN l D I C Q a0 a1 a2 a3 a4 now kept st text len att num rd sz pp hsz hs0 hs1 _) (cwV 1 hts gX9_isShut_X9_endOf rfl rfl rfl (by decide +kernel) ⟨Nat.le_of_ble_eq_true rfl, Nat.le_of_ble_eq_true rfl⟩) (kPreV hE hP hD (ci := 9) (q0 := 0) rfl rfl) rfl rfl hl.1 rfl (lv_room (Nat.le_of_ble_eq_true rfl)) dX9_isShut_16 ⟨Nat.zero_le _, Nat.zero_le _⟩) hD hS hA (fun H locs hP hD hS => ?_)
    refine lv_icmp_lt (tgt := 26) hx hb dX9_isShut_19 (by decide) (fun c_19 => ?_) (fun c_19 => ?_)
    · refine lv_iconst (v := 0) hx hb dX9_isShut_26 (by decide) ?_
      exact hend _ _ _ _ _ _ hP hD hS dX9_isShut_27 (by decide) rfl (by simp +decide only [m_shut, c_5, c_19, if_true, if_false, not_true_eq_false, not_false_eq_true, and_self, and_true, true_and, and_false, false_and, kn01, kn10, kn02, kn20, kn12, kn21, eq_self])
    · refine lv_iconst (v := 1) hx hb dX9_isShut_22 (by decide) ?_
      refine lv_goto (tgt := 27) hx hb dX9_isShut_23 (by decide) ?_
      exact hend _ _ _ _ _ _ hP hD hS dX9_isShut_27 (by decide) rfl (by simp +decide only [m_shut, c_5, c_19, if_true, if_false, not_true_eq_false, not_false_eq_true, and_self, and_true, true_and, and_false, false_and, kn01, kn10, kn02, kn20, kn12, kn21, eq_self])
set_option maxHeartbeats 400000 in
set_option maxRecDepth 100000 in
theorem c_X9_counts (l : Launch) (D : va_G) (I C Q : ClassId) (a0 a1 a2 a3 a4 : Nat) (now : Nat → Int32) (kept : Nat → Int32) (st : Int32) (text : Nat → Int32) (len : Int32) (att : Int32) (num : Int32) (rd : Nat → Int32) (i : Nat) (h1 : i < 64) : KI l D (tyL I C Q) yX9_counts wsX9_counts { frames := 1, cells := 0, slots := 0, locals := 22 } [.ref a0, .int (nI i)] (wM I a0 a1 a2 a3 a4 now kept st text len att num rd) (wM I a0 a1 a2 a3 a4 now kept st text len att num rd) (m_cts now i) := by
  refine KI.of (cc := cX9_counts) (maxL := 2) (rt := .boolean) (own := RX9) (by decide) rfl rfl (Nat.le_of_ble_eq_true rfl) ?_
  intro p e s m below meth c A Q0 ls hx hb hml hown hts hE hA hP hD hS hl hend
  have hK := hE.1
  have hF : CallFix p m c cX9_counts 2 s [.ref a0, .int (nI i)].toArray wsX9_counts RX9 := ⟨hx, hb, hml, hown, hts⟩
  have hl : lv_has ls 2 [(0, .ref a0), (1, .int (nI i))] := hl
  refine lv_aload_n hx hb dX9_counts_0 rfl (lv_at hl 0 rfl) ?_
  refine lv_iload_n hx hb dX9_counts_1 rfl (lv_at hl 1 rfl) ?_
  refine lv_iconst (v := 0) hx hb dX9_counts_2 (by decide) ?_
  refine k_iF (va_runV (As := [.int (nI i), .int 0]) (rest := []) hF (c_X9_ofE l D I C Q a0 a1 a2 a3 a4 now kept st text len att num rd i 0 h1 (by omega) _) (cwV 2 hts gX9_counts_X9_ofE rfl rfl rfl (by decide +kernel) ⟨Nat.le_of_ble_eq_true rfl, Nat.le_of_ble_eq_true rfl⟩) (kPreV hE hP hD (ci := 9) (q0 := 0) rfl rfl) rfl rfl hl.1 rfl (lv_room (Nat.le_of_ble_eq_true rfl)) dX9_counts_3 ⟨Nat.zero_le _, Nat.zero_le _⟩) hD hS hA (fun H locs hP hD hS => ?_)
  refine lv_iconst (v := 1) hx hb dX9_counts_6 (by decide) ?_
  refine lv_icmp_ne (tgt := 28) hx hb dX9_counts_7 (by decide) (fun c_7 => ?_) (fun c_7 => ?_)
  · refine lv_iconst (v := 0) hx hb dX9_counts_28 (by decide) ?_
    exact hend _ _ _ _ _ _ hP hD hS dX9_counts_29 (by decide) rfl (by simp +decide only [m_cts, c_7, if_true, if_false, not_true_eq_false, not_false_eq_true, and_self, and_true, true_and, and_false, false_and, kn01, kn10, kn02, kn20, kn12, kn21, eq_self])
  · refine lv_aload_n hx hb dX9_counts_10 rfl (lv_at hl 0 rfl) ?_
    refine lv_iload_n hx hb dX9_counts_11 rfl (lv_at hl 1 rfl) ?_
    refine lv_iconst (v := 5) hx hb dX9_counts_12 (by decide) ?_
    refine k_iF (va_runV (As := [.int (nI i), .int 5]) (rest := []) hF (c_X9_ofE l D I C Q a0 a1 a2 a3 a4 now kept st text len att num rd i 5 h1 (by omega) _) (cwV 2 hts gX9_counts_X9_ofE rfl rfl rfl (by decide +kernel) ⟨Nat.le_of_ble_eq_true rfl, Nat.le_of_ble_eq_true rfl⟩) (kPreV hE hP hD (ci := 9) (q0 := 0) rfl rfl) rfl rfl hl.1 rfl (lv_room (Nat.le_of_ble_eq_true rfl)) dX9_counts_13 ⟨Nat.zero_le _, Nat.zero_le _⟩) hD hS hA (fun H locs hP hD hS => ?_)
    refine lv_iconst (v := 0) hx hb dX9_counts_16 (by decide) ?_
    refine lv_iconst (v := 1) hx hb dX9_counts_17 (by decide) ?_
    refine k_i0 (va_runS (As := [.int (now (12 + 6 * i + 5)), .int 0, .int 1]) (rest := []) hF (c_X9_isIn l D I C Q (now (12 + 6 * i + 5)) 0 1 _) (va_cwS 3 hts gX9_counts_X9_isIn rfl rfl rfl (by decide +kernel) ⟨Nat.le_of_ble_eq_true rfl, Nat.le_of_ble_eq_true rfl⟩) (kPreS hE k_P0 (k_D0 (A := A))) rfl rfl hl.1 rfl (lv_room (Nat.le_of_ble_eq_true rfl)) dX9_counts_18 ⟨Nat.zero_le _, Nat.zero_le _⟩) hP hS hA (fun H locs hP hS => ?_)
    refine lv_if_eq (tgt := 28) hx hb dX9_counts_21 (by decide) (fun c_21 => ?_) (fun c_21 => ?_)
    · refine lv_iconst (v := 0) hx hb dX9_counts_28 (by decide) ?_
      exact hend _ _ _ _ _ _ hP hD hS dX9_counts_29 (by decide) rfl (by simp +decide only [m_cts, c_7, c_21, if_true, if_false, not_true_eq_false, not_false_eq_true, and_self, and_true, true_and, and_false, false_and, kn01, kn10, kn02, kn20, kn12, kn21, eq_self])
    · refine lv_iconst (v := 1) hx hb dX9_counts_24 (by decide) ?_
      refine lv_goto (tgt := 29) hx hb dX9_counts_25 (by decide) ?_
      exact hend _ _ _ _ _ _ hP hD hS dX9_counts_29 (by decide) rfl (by simp +decide only [m_cts, c_7, c_21, if_true, if_false, not_true_eq_false, not_false_eq_true, and_self, and_true, true_and, and_false, false_and, kn01, kn10, kn02, kn20, kn12, kn21, eq_self])
set_option maxHeartbeats 400000 in
set_option maxRecDepth 100000 in
theorem c_X9_sumOf (l : Launch) (D : va_G) (I C Q : ClassId) (a0 a1 a2 a3 a4 : Nat) (now : Nat → Int32) (kept : Nat → Int32) (st : Int32) (text : Nat → Int32) (len : Int32) (att : Int32) (num : Int32) (rd : Nat → Int32) (sz : Nat) (q : Int32) (what : Int32) (hsz : now 6 = nI sz) (hs0 : 0 < sz) (hs1 : sz ≤ 100) : KI l D (tyL I C Q) yX9_sumOf wsX9_sumOf { frames := 2, cells := 0, slots := 0, locals := 43 } [.ref a0, .int q, .int what] (wM I a0 a1 a2 a3 a4 now kept st text len att num rd) (wM I a0 a1 a2 a3 a4 now kept st text len att num rd) (m_sumOf now sz q what) := by
  refine KI.of (cc := cX9_sumOf) (maxL := 7) (rt := .int) (own := RX9) (by decide) rfl rfl (Nat.le_of_ble_eq_true rfl) ?_
  intro p e s m below meth c A Q0 ls hx hb hml hown hts hE hA hP hD hS hl hend
  have hK := hE.1
  have hF : CallFix p m c cX9_sumOf 7 s [.ref a0, .int q, .int what].toArray wsX9_sumOf RX9 := ⟨hx, hb, hml, hown, hts⟩
  have hl : lv_has ls 7 [(0, .ref a0), (1, .int q), (2, .int what)] := hl
  refine lv_iconst (v := 0) hx hb dX9_sumOf_0 (by decide) ?_
  refine lv_istore_n (lv' := [(3, .int 0), (0, .ref a0), (1, .int q), (2, .int what)]) hx hb dX9_sumOf_1 rfl hl (by decide) rfl (fun ls hl => ?_)
  refine lv_iconst (v := 0) hx hb dX9_sumOf_2 (by decide) ?_
  refine lv_istore (lv' := [(4, .int 0), (3, .int 0), (0, .ref a0), (1, .int q), (2, .int what)]) hx hb dX9_sumOf_3 hl (by decide) rfl (fun ls hl => ?_)
  refine lv_iconst (v := 0) hx hb dX9_sumOf_5 (by decide) ?_
  refine lv_istore (lv' := [(5, .int 0), (4, .int 0), (3, .int 0), (0, .ref a0), (1, .int q), (2, .int what)]) hx hb dX9_sumOf_6 hl (by decide) rfl (fun ls hl => ?_)
  refine lv_iconst (v := 0) hx hb dX9_sumOf_8 (by decide) ?_
  refine lv_istore (lv' := [(6, .int 0), (5, .int 0), (4, .int 0), (3, .int 0), (0, .ref a0), (1, .int q), (2, .int what)]) hx hb dX9_sumOf_9 hl (by decide) rfl (fun ls hl => ?_)
  have loop11 : ∀ (n : Nat) (k : Nat), (k + n = 64) → ∀ (H : Heap) (locs : List Loc) (ls : Array Slot), va_P D vwCl (wM I a0 a1 a2 a3 a4 now kept st text len att num rd) H → va_D A (wM I a0 a1 a2 a3 a4 now kept st text len att num rd) → va_S A s.heap H locs → lv_has ls 7 [(0, .ref a0), (1, .int q), (2, .int what), (3, .int ((m_acc now sz q k).1)), (4, .int ((m_acc now sz q k).2.1)), (5, .int ((m_acc now sz q k).2.2)), (6, .int (nI k))] → W p l e ({ frames := 2, cells := 0, slots := 0, locals := 43 } : Room) s m [.ref a0, .int q, .int what].toArray below meth c H locs 0 0 Q0 (F0 m 11 ls []) := by
    intro n
    induction n with
    | zero =>
      intro k hk H locs ls hP hD hS hl
      refine lv_iload hx hb dX9_sumOf_11 (lv_at hl 6 rfl) ?_
      refine lv_bipush (v := 64) hx hb dX9_sumOf_13 (by decide) ?_
      refine lv_icmp_ge (tgt := 77) hx hb dX9_sumOf_15 (by decide) (fun c_15 => ?_) (fun c_15 => ?_)
      · obtain rfl : k = 64 := by omega
        refine lv_iload_n hx hb dX9_sumOf_77 rfl (lv_at hl 2 rfl) ?_
        refine lv_if_ne (tgt := 85) hx hb dX9_sumOf_78 (by decide) (fun c_78 => ?_) (fun c_78 => ?_)
        · refine lv_iload_n hx hb dX9_sumOf_85 rfl (lv_at hl 2 rfl) ?_
          refine lv_iconst (v := 1) hx hb dX9_sumOf_86 (by decide) ?_
          refine lv_icmp_ne (tgt := 95) hx hb dX9_sumOf_87 (by decide) (fun c_87 => ?_) (fun c_87 => ?_)
          · refine lv_iload hx hb dX9_sumOf_95 (lv_at hl 5 rfl) ?_
            exact hend _ _ _ _ _ _ hP hD hS dX9_sumOf_97 rfl rfl (by simp +decide only [m_sumOf, m_num, m_sum, m_key, c_15, c_78, c_87, if_true, if_false, not_true_eq_false, not_false_eq_true, and_self, and_true, true_and, and_false, false_and, kn01, kn10, kn02, kn20, kn12, kn21, eq_self])
          · refine lv_iload hx hb dX9_sumOf_90 (lv_at hl 4 rfl) ?_
            refine lv_goto (tgt := 97) hx hb dX9_sumOf_92 (by decide) ?_
            exact hend _ _ _ _ _ _ hP hD hS dX9_sumOf_97 rfl rfl (by simp +decide only [m_sumOf, m_num, m_sum, m_key, c_15, c_78, c_87, if_true, if_false, not_true_eq_false, not_false_eq_true, and_self, and_true, true_and, and_false, false_and, kn01, kn10, kn02, kn20, kn12, kn21, eq_self])
        · refine lv_iload_n hx hb dX9_sumOf_81 rfl (lv_at hl 3 rfl) ?_
          refine lv_goto (tgt := 97) hx hb dX9_sumOf_82 (by decide) ?_
          exact hend _ _ _ _ _ _ hP hD hS dX9_sumOf_97 rfl rfl (by simp +decide only [m_sumOf, m_num, m_sum, m_key, c_15, c_78, if_true, if_false, not_true_eq_false, not_false_eq_true, and_self, and_true, true_and, and_false, false_and, kn01, kn10, kn02, kn20, kn12, kn21, eq_self])
      · exact absurd ((nI_leI (a := 64) (b := k) (by omega) (by omega)).mpr (by omega)) c_15
    | succ n ih =>
      intro k hk H locs ls hP hD hS hl
      refine lv_iload hx hb dX9_sumOf_11 (lv_at hl 6 rfl) ?_
      refine lv_bipush (v := 64) hx hb dX9_sumOf_13 (by decide) ?_
      refine lv_icmp_ge (tgt := 77) hx hb dX9_sumOf_15 (by decide) (fun c_15 => ?_) (fun c_15 => ?_)
      · exact absurd ((nI_leI (a := 64) (b := k) (by omega) (by omega)).mp c_15) (by omega)
      · refine lv_aload_n hx hb dX9_sumOf_18 rfl (lv_at hl 0 rfl) ?_
        refine lv_iload hx hb dX9_sumOf_19 (lv_at hl 6 rfl) ?_
        refine k_iF (va_runV (As := [.int (nI k)]) (rest := []) hF (c_X9_counts l D I C Q a0 a1 a2 a3 a4 now kept st text len att num rd k (by omega) _) (cwV 1 hts gX9_sumOf_X9_counts rfl rfl rfl (by decide +kernel) ⟨Nat.le_of_ble_eq_true rfl, Nat.le_of_ble_eq_true rfl⟩) (kPreV hE hP hD (ci := 9) (q0 := 0) rfl rfl) rfl rfl hl.1 rfl (lv_room (Nat.le_of_ble_eq_true rfl)) dX9_sumOf_21 ⟨Nat.zero_le _, Nat.zero_le _⟩) hD hS hA (fun H locs hP hD hS => ?_)
        refine lv_if_eq (tgt := 71) hx hb dX9_sumOf_24 (by decide) (fun c_24 => ?_) (fun c_24 => ?_)
        · refine lv_iinc (v := nI (k + 1)) (lv' := [(6, .int (nI (k + 1))), (0, .ref a0), (1, .int q), (2, .int what), (3, .int ((m_acc now sz q k).1)), (4, .int ((m_acc now sz q k).2.1)), (5, .int ((m_acc now sz q k).2.2))]) hx hb dX9_sumOf_71 hl (k := 6) rfl (nI_inc k) (by decide) rfl (fun ls hl => ?_)
          refine lv_goto (tgt := 11) hx hb dX9_sumOf_74 (by decide) ?_
          have hl9 : lv_has ls 7 [(0, .ref a0), (1, .int q), (2, .int what), (3, .int ((m_acc now sz q k).1)), (4, .int ((m_acc now sz q k).2.1)), (5, .int ((m_acc now sz q k).2.2)), (6, .int (nI (k + 1)))] := lv_sub hl [1, 2, 3, 4, 5, 6, 0] rfl
          rw [show ((m_acc now sz q k).1) = ((m_acc now sz q (k + 1)).1) from by rw [m_acc_s1 c_24]] at hl9
          rw [show ((m_acc now sz q k).2.1) = ((m_acc now sz q (k + 1)).2.1) from by rw [m_acc_s1 c_24]] at hl9
          rw [show ((m_acc now sz q k).2.2) = ((m_acc now sz q (k + 1)).2.2) from by rw [m_acc_s1 c_24]] at hl9
          exact ih (k + 1) (by omega) _ _ _ hP hD hS hl9 
        · refine lv_aload_n hx hb dX9_sumOf_27 rfl (lv_at hl 0 rfl) ?_
          refine lv_aload_n hx hb dX9_sumOf_28 rfl (lv_at hl 0 rfl) ?_
          refine lv_iload hx hb dX9_sumOf_29 (lv_at hl 6 rfl) ?_
          refine lv_iconst (v := 1) hx hb dX9_sumOf_31 (by decide) ?_
          refine k_iF (va_runV (As := [.int (nI k), .int 1]) (rest := [.ref a0]) hF (c_X9_ofE l D I C Q a0 a1 a2 a3 a4 now kept st text len att num rd k 1 (by omega) (by omega) _) (cwV 2 hts gX9_sumOf_X9_ofE rfl rfl rfl (by decide +kernel) ⟨Nat.le_of_ble_eq_true rfl, Nat.le_of_ble_eq_true rfl⟩) (kPreV hE hP hD (ci := 9) (q0 := 0) rfl rfl) rfl rfl hl.1 rfl (lv_room (Nat.le_of_ble_eq_true rfl)) dX9_sumOf_32 ⟨Nat.zero_le _, Nat.zero_le _⟩) hD hS hA (fun H locs hP hD hS => ?_)
          refine k_iF (va_runV (As := [.int (now (12 + 6 * k + 1))]) (rest := []) hF (c_X9_paneAt l D I C Q a0 a1 a2 a3 a4 now kept st text len att num rd sz (now (12 + 6 * k + 1)) hsz hs0 hs1 _) (cwV 1 hts gX9_sumOf_X9_paneAt rfl rfl rfl (by decide +kernel) ⟨Nat.le_of_ble_eq_true rfl, Nat.le_of_ble_eq_true rfl⟩) (kPreV hE hP hD (ci := 9) (q0 := 0) rfl rfl) rfl rfl hl.1 rfl (lv_room (Nat.le_of_ble_eq_true rfl)) dX9_sumOf_35 ⟨Nat.zero_le _, Nat.zero_le _⟩) hD hS hA (fun H locs hP hD hS => ?_)
          refine lv_iload_n hx hb dX9_sumOf_38 rfl (lv_at hl 1 rfl) ?_
          refine lv_icmp_ne (tgt := 71) hx hb dX9_sumOf_39 (by decide) (fun c_39 => ?_) (fun c_39 => ?_)
          · refine lv_iinc (v := nI (k + 1)) (lv' := [(6, .int (nI (k + 1))), (0, .ref a0), (1, .int q), (2, .int what), (3, .int ((m_acc now sz q k).1)), (4, .int ((m_acc now sz q k).2.1)), (5, .int ((m_acc now sz q k).2.2))]) hx hb dX9_sumOf_71 hl (k := 6) rfl (nI_inc k) (by decide) rfl (fun ls hl => ?_)
            refine lv_goto (tgt := 11) hx hb dX9_sumOf_74 (by decide) ?_
            have hl9 : lv_has ls 7 [(0, .ref a0), (1, .int q), (2, .int what), (3, .int ((m_acc now sz q k).1)), (4, .int ((m_acc now sz q k).2.1)), (5, .int ((m_acc now sz q k).2.2)), (6, .int (nI (k + 1)))] := lv_sub hl [1, 2, 3, 4, 5, 6, 0] rfl
            rw [show ((m_acc now sz q k).1) = ((m_acc now sz q (k + 1)).1) from by rw [m_acc_s2 c_24 c_39]] at hl9
            rw [show ((m_acc now sz q k).2.1) = ((m_acc now sz q (k + 1)).2.1) from by rw [m_acc_s2 c_24 c_39]] at hl9
            rw [show ((m_acc now sz q k).2.2) = ((m_acc now sz q (k + 1)).2.2) from by rw [m_acc_s2 c_24 c_39]] at hl9
            exact ih (k + 1) (by omega) _ _ _ hP hD hS hl9 
          · refine lv_iinc (v := ((m_acc now sz q k).1) + (1)) (lv' := [(3, .int (((m_acc now sz q k).1) + (1))), (0, .ref a0), (1, .int q), (2, .int what), (4, .int ((m_acc now sz q k).2.1)), (5, .int ((m_acc now sz q k).2.2)), (6, .int (nI k))]) hx hb dX9_sumOf_42 hl (k := 3) rfl rfl (by decide) rfl (fun ls hl => ?_)
            refine lv_iload hx hb dX9_sumOf_45 (lv_at hl 4 rfl) ?_
            refine lv_aload_n hx hb dX9_sumOf_47 rfl (lv_at hl 1 rfl) ?_
            refine lv_iload hx hb dX9_sumOf_48 (lv_at hl 6 rfl) ?_
            refine lv_iconst (v := 3) hx hb dX9_sumOf_50 (by decide) ?_
            refine k_iF (va_runV (As := [.int (nI k), .int 3]) (rest := [.int ((m_acc now sz q k).2.1)]) hF (c_X9_ofE l D I C Q a0 a1 a2 a3 a4 now kept st text len att num rd k 3 (by omega) (by omega) _) (cwV 2 hts gX9_sumOf_X9_ofE rfl rfl rfl (by decide +kernel) ⟨Nat.le_of_ble_eq_true rfl, Nat.le_of_ble_eq_true rfl⟩) (kPreV hE hP hD (ci := 9) (q0 := 0) rfl rfl) rfl rfl hl.1 rfl (lv_room (Nat.le_of_ble_eq_true rfl)) dX9_sumOf_51 ⟨Nat.zero_le _, Nat.zero_le _⟩) hD hS hA (fun H locs hP hD hS => ?_)
            refine lv_iadd hx hb dX9_sumOf_54 ?_
            refine lv_istore (lv' := [(4, .int (((m_acc now sz q k).2.1) + (now (12 + 6 * k + 3)))), (3, .int (((m_acc now sz q k).1) + (1))), (0, .ref a0), (1, .int q), (2, .int what), (5, .int ((m_acc now sz q k).2.2)), (6, .int (nI k))]) hx hb dX9_sumOf_55 hl (by decide) rfl (fun ls hl => ?_)
            refine lv_iload hx hb dX9_sumOf_57 (lv_at hl 5 rfl) ?_
            refine lv_iconst (v := 1) hx hb dX9_sumOf_59 (by decide) ?_
            refine lv_aload_n hx hb dX9_sumOf_60 rfl (lv_at hl 2 rfl) ?_
            refine lv_iload hx hb dX9_sumOf_61 (lv_at hl 6 rfl) ?_
            refine lv_iconst (v := 2) hx hb dX9_sumOf_63 (by decide) ?_
            refine k_iF (va_runV (As := [.int (nI k), .int 2]) (rest := [.int 1, .int ((m_acc now sz q k).2.2)]) hF (c_X9_ofE l D I C Q a0 a1 a2 a3 a4 now kept st text len att num rd k 2 (by omega) (by omega) _) (cwV 2 hts gX9_sumOf_X9_ofE rfl rfl rfl (by decide +kernel) ⟨Nat.le_of_ble_eq_true rfl, Nat.le_of_ble_eq_true rfl⟩) (kPreV hE hP hD (ci := 9) (q0 := 0) rfl rfl) rfl rfl hl.1 rfl (lv_room (Nat.le_of_ble_eq_true rfl)) dX9_sumOf_64 ⟨Nat.zero_le _, Nat.zero_le _⟩) hD hS hA (fun H locs hP hD hS => ?_)
            refine lv_ishl hx hb dX9_sumOf_67 ?_
            refine lv_ior hx hb dX9_sumOf_68 ?_
            refine lv_istore (lv' := [(5, .int (((m_acc now sz q k).2.2) ||| ((1 : Int32) <<< (now (12 + 6 * k + 2) &&& 31)))), (4, .int (((m_acc now sz q k).2.1) + (now (12 + 6 * k + 3)))), (3, .int (((m_acc now sz q k).1) + (1))), (0, .ref a0), (1, .int q), (2, .int what), (6, .int (nI k))]) hx hb dX9_sumOf_69 hl (by decide) rfl (fun ls hl => ?_)
            refine lv_iinc (v := nI (k + 1)) (lv' := [(6, .int (nI (k + 1))), (5, .int (((m_acc now sz q k).2.2) ||| ((1 : Int32) <<< (now (12 + 6 * k + 2) &&& 31)))), (4, .int (((m_acc now sz q k).2.1) + (now (12 + 6 * k + 3)))), (3, .int (((m_acc now sz q k).1) + (1))), (0, .ref a0), (1, .int q), (2, .int what)]) hx hb dX9_sumOf_71 hl (k := 6) rfl (nI_inc k) (by decide) rfl (fun ls hl => ?_)
            refine lv_goto (tgt := 11) hx hb dX9_sumOf_74 (by decide) ?_
            have hl9 : lv_has ls 7 [(0, .ref a0), (1, .int q), (2, .int what), (3, .int (((m_acc now sz q k).1) + (1))), (4, .int (((m_acc now sz q k).2.1) + (now (12 + 6 * k + 3)))), (5, .int (((m_acc now sz q k).2.2) ||| ((1 : Int32) <<< (now (12 + 6 * k + 2) &&& 31)))), (6, .int (nI (k + 1)))] := lv_sub hl [4, 5, 6, 3, 2, 1, 0] rfl
            rw [show (((m_acc now sz q k).1) + (1)) = ((m_acc now sz q (k + 1)).1) from by rw [← m_acc_s3 c_24 c_39]] at hl9
            rw [show (((m_acc now sz q k).2.1) + (now (12 + 6 * k + 3))) = ((m_acc now sz q (k + 1)).2.1) from by rw [← m_acc_s3 c_24 c_39]] at hl9
            rw [show (((m_acc now sz q k).2.2) ||| ((1 : Int32) <<< (now (12 + 6 * k + 2) &&& 31))) = ((m_acc now sz q (k + 1)).2.2) from by rw [← m_acc_s3 c_24 c_39]] at hl9
            exact ih (k + 1) (by omega) _ _ _ hP hD hS hl9 
  exact loop11 64 0 (by omega) _ _ _ hP hD hS (lv_sub hl [4, 5, 6, 3, 2, 1, 0] rfl) 
