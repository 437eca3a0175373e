set_option maxHeartbeats 400000 in
set_option maxRecDepth 100000 in
theorem c_X9_passes (l : Launch) (D : va_G) (I C Q : ClassId) (a0 a1 a2 a3 a4 : Nat) (now : Nat → Int32) (kept : Nat → Int32) (st : Int32) (text : Nat → Int32) (L : Nat) (a : Nat) (num : Int32) (rd : Nat → Int32) (sg : Int32) (hL : L ≤ 80) (ha : a ≤ 1000) : KI l D (tyL I C Q) yX9_passes wsX9_passes { frames := 0, cells := 0, slots := 0, locals := 0 } [.ref a0, .int sg] (wM I a0 a1 a2 a3 a4 now kept st text (nI L) (nI a) num rd) (wM I a0 a1 a2 a3 a4 now kept st text (nI L) (nI (t_pasA text L a sg)) num rd) (t_pas text L a sg) := by
  refine KI.of (cc := cX9_passes) (maxL := 3) (rt := .boolean) (own := RX9) (by decide) rfl rfl (Nat.le_of_ble_eq_true rfl) ?_
  intro p e s m below meth c A Q0 ls hx hb hml hown hts hE hA hP hD hS hl hend
  have hK := hE.1
  have hF : CallFix p m c cX9_passes 3 s [.ref a0, .int sg].toArray wsX9_passes RX9 := ⟨hx, hb, hml, hown, hts⟩
  have k0 := hts (.fieldLink RX9 138 "LateExcusesModel" "at" "I") (List.mem_of_getElem? (i := 1) rfl)
  have k1 := hts (.fieldLink RX9 134 "LateExcusesModel" "length" "I") (List.mem_of_getElem? (i := 2) rfl)
  have k2 := hts (.fieldLink RX9 16 "LateExcusesModel" "text" "[I") (List.mem_of_getElem? (i := 3) rfl)
  have u9 : ∀ w ∈ u_ws RX9 TX9 8, w ∈ wsX9_passes := by decide +kernel
  have hl : lv_has ls 3 [(0, .ref a0), (1, .int sg)] := hl
  refine lv_aload_n hx hb dX9_passes_0 rfl (lv_at hl 0 rfl) ?_
  refine va_get (D := D) (ci := 9) (v := .int (nI a)) (C := RX9) (T := TX9) (N := 8) hx hb hts u9 hown hK hP 0 rfl rfl 5 (by decide) k0 (fun _ h9 => h9) rfl dX9_passes_1 ?_
  refine lv_aload_n hx hb dX9_passes_4 rfl (lv_at hl 0 rfl) ?_
  refine va_get (D := D) (ci := 9) (v := .int (nI L)) (C := RX9) (T := TX9) (N := 8) hx hb hts u9 hown hK hP 0 rfl rfl 4 (by decide) k1 (fun _ h9 => h9) rfl dX9_passes_5 ?_
  refine lv_icmp_ge (tgt := 28) hx hb dX9_passes_8 (by decide) (fun c_8 => ?_) (fun c_8 => ?_)
  · have hle : L ≤ a := (nI_leI (a := L) (b := a) (by omega) (by omega)).mp c_8
    refine lv_iconst (v := 0) hx hb dX9_passes_28 (by decide) ?_
    refine lv_istore_n (lv' := [(2, .int 0), (0, .ref a0), (1, .int sg)]) hx hb dX9_passes_29 rfl hl (by decide) rfl (fun ls hl => ?_)
    refine lv_aload_n hx hb dX9_passes_30 rfl (lv_at hl 1 rfl) ?_
    refine lv_dup hx hb dX9_passes_31 rfl ?_
    refine va_get (D := D) (ci := 9) (v := .int (nI a)) (C := RX9) (T := TX9) (N := 8) hx hb hts u9 hown hK hP 0 rfl rfl 5 (by decide) k0 (fun _ h9 => h9) rfl dX9_passes_32 ?_
    refine lv_iload_n hx hb dX9_passes_35 rfl (lv_at hl 0 rfl) ?_
    refine lv_if_eq (tgt := 43) hx hb dX9_passes_36 (by decide) (fun c_36 => ?_) (fun c_36 => ?_)
    · refine lv_iconst (v := 0) hx hb dX9_passes_43 (by decide) ?_
      refine k_iadd (v := nI (a + 0)) hx hb dX9_passes_44 (nI_add a 0) ?_
      refine va_put (D := D) (ci := 9) (v := .int (nI (a + 0))) (ty := .int) (C := RX9) (T := TX9) (N := 8) hx hb hts u9 tyX9 tyX9_ok nmX9 hown hK hP hD hS 0 rfl rfl 5 (by decide) k0 (fun _ h9 => h9) rfl (by decide +kernel) rfl rfl (Nat.le_of_ble_eq_true rfl) dX9_passes_45 (fun H locs hP hD hS => ?_)
      have hP : va_P D vwCl (wM I a0 a1 a2 a3 a4 now kept st text (nI L) (nI (a + 0)) num rd) H := hP
      have hD : va_D A (wM I a0 a1 a2 a3 a4 now kept st text (nI L) (nI (a + 0)) num rd) := hD
      refine lv_iload_n hx hb dX9_passes_48 rfl (lv_at hl 0 rfl) ?_
      exact hend _ _ _ _ _ _ hP hD hS dX9_passes_49 (by decide) (by simp +decide only [t_pasA_eq, hle, Nat.add_zero, if_true, if_false, not_true_eq_false, not_false_eq_true, and_self, and_true, true_and, and_false, false_and, kn01, kn10, kn02, kn20, kn12, kn21, eq_self]) (by simp +decide only [t_pas_eq, hle, if_true, if_false, not_true_eq_false, not_false_eq_true, and_self, and_true, true_and, and_false, false_and, kn01, kn10, kn02, kn20, kn12, kn21, eq_self])
    · exact (c_36 (by decide)).elim
  · have hle : ¬ L ≤ a := fun h => c_8 ((nI_leI (a := L) (b := a) (by omega) (by omega)).mpr h)
    refine lv_aload_n hx hb dX9_passes_11 rfl (lv_at hl 0 rfl) ?_
    refine va_get (D := D) (ci := 9) (v := .ref a3) (C := RX9) (T := TX9) (N := 8) hx hb hts u9 hown hK hP 0 rfl rfl 3 (by decide) k2 (fun _ h9 => h9) rfl dX9_passes_12 ?_
    refine lv_aload_n hx hb dX9_passes_15 rfl (lv_at hl 0 rfl) ?_
    refine va_get (D := D) (ci := 9) (v := .int (nI a)) (C := RX9) (T := TX9) (N := 8) hx hb hts u9 hown hK hP 0 rfl rfl 5 (by decide) k0 (fun _ h9 => h9) rfl dX9_passes_16 ?_
    refine k_iald (j := a) (v := (text a)) hx hb hK hP 3 0 rfl rfl rfl (by omega) (by decide) rfl dX9_passes_19 ?_
    refine lv_iload_n hx hb dX9_passes_20 rfl (lv_at hl 1 rfl) ?_
    refine lv_icmp_ne (tgt := 28) hx hb dX9_passes_21 (by decide) (fun c_21 => ?_) (fun c_21 => ?_)
    · refine lv_iconst (v := 0) hx hb dX9_passes_28 (by decide) ?_
      refine lv_istore_n (lv' := [(2, .int 0), (0, .ref a0), (1, .int sg)]) hx hb dX9_passes_29 rfl hl (by decide) rfl (fun ls hl => ?_)
      refine lv_aload_n hx hb dX9_passes_30 rfl (lv_at hl 1 rfl) ?_
      refine lv_dup hx hb dX9_passes_31 rfl ?_
      refine va_get (D := D) (ci := 9) (v := .int (nI a)) (C := RX9) (T := TX9) (N := 8) hx hb hts u9 hown hK hP 0 rfl rfl 5 (by decide) k0 (fun _ h9 => h9) rfl dX9_passes_32 ?_
      refine lv_iload_n hx hb dX9_passes_35 rfl (lv_at hl 0 rfl) ?_
      refine lv_if_eq (tgt := 43) hx hb dX9_passes_36 (by decide) (fun c_36 => ?_) (fun c_36 => ?_)
      · refine lv_iconst (v := 0) hx hb dX9_passes_43 (by decide) ?_
        refine k_iadd (v := nI (a + 0)) hx hb dX9_passes_44 (nI_add a 0) ?_
        refine va_put (D := D) (ci := 9) (v := .int (nI (a + 0))) (ty := .int) (C := RX9) (T := TX9) (N := 8) hx hb hts u9 tyX9 tyX9_ok nmX9 hown hK hP hD hS 0 rfl rfl 5 (by decide) k0 (fun _ h9 => h9) rfl (by decide +kernel) rfl rfl (Nat.le_of_ble_eq_true rfl) dX9_passes_45 (fun H locs hP hD hS => ?_)
        have hP : va_P D vwCl (wM I a0 a1 a2 a3 a4 now kept st text (nI L) (nI (a + 0)) num rd) H := hP
        have hD : va_D A (wM I a0 a1 a2 a3 a4 now kept st text (nI L) (nI (a + 0)) num rd) := hD
        refine lv_iload_n hx hb dX9_passes_48 rfl (lv_at hl 0 rfl) ?_
        exact hend _ _ _ _ _ _ hP hD hS dX9_passes_49 (by decide) (by simp +decide only [t_pasA_eq, hle, Nat.add_zero, c_21, if_true, if_false, not_true_eq_false, not_false_eq_true, and_self, and_true, true_and, and_false, false_and, kn01, kn10, kn02, kn20, kn12, kn21, eq_self]) (by simp +decide only [t_pas_eq, hle, c_21, if_true, if_false, not_true_eq_false, not_false_eq_true, and_self, and_true, true_and, and_false, false_and, kn01, kn10, kn02, kn20, kn12, kn21, eq_self])
      · exact (c_36 (by decide)).elim
    · refine lv_iconst (v := 1) hx hb dX9_passes_24 (by decide) ?_
      refine lv_goto (tgt := 29) hx hb dX9_passes_25 (by decide) ?_
      refine lv_istore_n (lv' := [(2, .int 1), (0, .ref a0), (1, .int sg)]) hx hb dX9_passes_29 rfl hl (by decide) rfl (fun ls hl => ?_)
      refine lv_aload_n hx hb dX9_passes_30 rfl (lv_at hl 1 rfl) ?_
      refine lv_dup hx hb dX9_passes_31 rfl ?_
      refine va_get (D := D) (ci := 9) (v := .int (nI a)) (C := RX9) (T := TX9) (N := 8) hx hb hts u9 hown hK hP 0 rfl rfl 5 (by decide) k0 (fun _ h9 => h9) rfl dX9_passes_32 ?_
      refine lv_iload_n hx hb dX9_passes_35 rfl (lv_at hl 0 rfl) ?_
      refine lv_if_eq (tgt := 43) hx hb dX9_passes_36 (by decide) (fun c_36 => ?_) (fun c_36 => ?_)
      · exact absurd c_36 (by decide)
      · refine lv_iconst (v := 1) hx hb dX9_passes_39 (by decide) ?_
        refine lv_goto (tgt := 44) hx hb dX9_passes_40 (by decide) ?_
        refine k_iadd (v := nI (a + 1)) hx hb dX9_passes_44 (nI_add a 1) ?_
        refine va_put (D := D) (ci := 9) (v := .int (nI (a + 1))) (ty := .int) (C := RX9) (T := TX9) (N := 8) hx hb hts u9 tyX9 tyX9_ok nmX9 hown hK hP hD hS 0 rfl rfl 5 (by decide) k0 (fun _ h9 => h9) rfl (by decide +kernel) rfl rfl (Nat.le_of_ble_eq_true rfl) dX9_passes_45 (fun H locs hP hD hS => ?_)
        have hP : va_P D vwCl (wM I a0 a1 a2 a3 a4 now kept st text (nI L) (nI (a + 1)) num rd) H := hP
        have hD : va_D A (wM I a0 a1 a2 a3 a4 now kept st text (nI L) (nI (a + 1)) num rd) := hD
        refine lv_iload_n hx hb dX9_passes_48 rfl (lv_at hl 0 rfl) ?_
        exact hend _ _ _ _ _ _ hP hD hS dX9_passes_49 (by decide) (by simp +decide only [t_pasA_eq, hle, Nat.add_zero, c_21, if_true, if_false, not_true_eq_false, not_false_eq_true, and_self, and_true, true_and, and_false, false_and, kn01, kn10, kn02, kn20, kn12, kn21, eq_self]) (by simp +decide only [t_pas_eq, hle, c_21, if_true, if_false, not_true_eq_false, not_false_eq_true, and_self, and_true, true_and, and_false, false_and, kn01, kn10, kn02, kn20, kn12, kn21, eq_self])
set_option maxHeartbeats 400000 in
set_option maxRecDepth 100000 in
theorem c_X9_passesNumber (l : Launch) (D : va_G) (I C Q : ClassId) (a0 a1 a2 a3 a4 : Nat) (now : Nat → Int32) (kept : Nat → Int32) (st : Int32) (text : Nat → Int32) (L : Nat) (a : Nat) (num : Int32) (rd : Nat → Int32) (hL : L ≤ 80) (ha : a ≤ 1000) : KI l D (tyL I C Q) yX9_passesNumber wsX9_passesNumber { frames := 1, cells := 0, slots := 0, locals := 22 } [.ref a0] (wM I a0 a1 a2 a3 a4 now kept st text (nI L) (nI a) num rd) (wM I a0 a1 a2 a3 a4 now kept st text (nI L) (nI (t_A text L a)) (t_Z text L a) rd) (t_O text L a) := by
  refine KI.of (cc := cX9_passesNumber) (maxL := 2) (rt := .boolean) (own := RX9) (by decide) rfl rfl (Nat.le_of_ble_eq_true rfl) ?_
  intro p e s m below meth c A Q0 ls hx hb hml hown hts hE hA hP hD hS hl hend
  have hK := hE.1
  have hF : CallFix p m c cX9_passesNumber 2 s [.ref a0].toArray wsX9_passesNumber RX9 := ⟨hx, hb, hml, hown, hts⟩
  have k0 := hts (.fieldLink RX9 141 "LateExcusesModel" "number" "I") (List.mem_of_getElem? (i := 1) rfl)
  have k1 := hts (.fieldLink RX9 138 "LateExcusesModel" "at" "I") (List.mem_of_getElem? (i := 2) rfl)
  have k2 := hts (.fieldLink RX9 134 "LateExcusesModel" "length" "I") (List.mem_of_getElem? (i := 3) rfl)
  have k3 := hts (.fieldLink RX9 16 "LateExcusesModel" "text" "[I") (List.mem_of_getElem? (i := 4) rfl)
  have u9 : ∀ w ∈ u_ws RX9 TX9 8, w ∈ wsX9_passesNumber := by decide +kernel
  have hl : lv_has ls 2 [(0, .ref a0)] := hl
  refine lv_iconst (v := 0) hx hb dX9_passesNumber_0 (by decide) ?_
  refine lv_istore_n (lv' := [(1, .int 0), (0, .ref a0)]) hx hb dX9_passesNumber_1 rfl hl (by decide) rfl (fun ls hl => ?_)
  refine lv_aload_n hx hb dX9_passesNumber_2 rfl (lv_at hl 1 rfl) ?_
  refine lv_iconst (v := 0) hx hb dX9_passesNumber_3 (by decide) ?_
  refine va_put (D := D) (ci := 9) (v := .int 0) (ty := .int) (C := RX9) (T := TX9) (N := 8) hx hb hts u9 tyX9 tyX9_ok nmX9 hown hK hP hD hS 0 rfl rfl 6 (by decide) k0 (fun _ h9 => h9) rfl (by decide +kernel) rfl rfl (Nat.le_of_ble_eq_true rfl) dX9_passesNumber_4 (fun H locs hP hD hS => ?_)
  have hP : va_P D vwCl (wM I a0 a1 a2 a3 a4 now kept st text (nI L) (nI a) 0 rd) H := hP
  have hD : va_D A (wM I a0 a1 a2 a3 a4 now kept st text (nI L) (nI a) 0 rd) := hD
  have loop7 : ∀ (n : Nat) (b : Nat) (d : Nat) (z : Int32), (d + n = 5) → (b ≤ 1000 + d) → ∀ (H : Heap) (locs : List Loc) (ls : Array Slot), va_P D vwCl (wM I a0 a1 a2 a3 a4 now kept st text (nI L) (nI b) z rd) H → va_D A (wM I a0 a1 a2 a3 a4 now kept st text (nI L) (nI b) z rd) → va_S A s.heap H locs → lv_has ls 2 [(0, .ref a0), (1, .int (nI d))] → (t_nL text L n b d z = t_nL text L 5 a 0 0) → W p l e ({ frames := 1, cells := 0, slots := 0, locals := 22 } : Room) s m [.ref a0].toArray below meth c H locs 0 0 Q0 (F0 m 7 ls []) := by
    intro n
    induction n with
    | zero =>
      intro b d z hd hb2 H locs ls hP hD hS hl hr
      refine lv_aload_n hx hb dX9_passesNumber_7 rfl (lv_at hl 0 rfl) ?_
      refine va_get (D := D) (ci := 9) (v := .int (nI b)) (C := RX9) (T := TX9) (N := 8) hx hb hts u9 hown hK hP 0 rfl rfl 5 (by decide) k1 (fun _ h9 => h9) rfl dX9_passesNumber_8 ?_
      refine lv_aload_n hx hb dX9_passesNumber_11 rfl (lv_at hl 0 rfl) ?_
      refine va_get (D := D) (ci := 9) (v := .int (nI L)) (C := RX9) (T := TX9) (N := 8) hx hb hts u9 hown hK hP 0 rfl rfl 4 (by decide) k2 (fun _ h9 => h9) rfl dX9_passesNumber_12 ?_
      refine lv_icmp_ge (tgt := 82) hx hb dX9_passesNumber_15 (by decide) (fun c_15 => ?_) (fun c_15 => ?_)
      · have hle : L ≤ b := (nI_leI (a := L) (b := b) (by omega) (by omega)).mp c_15
        refine lv_iload_n hx hb dX9_passesNumber_82 rfl (lv_at hl 1 rfl) ?_
        refine lv_iconst (v := 1) hx hb dX9_passesNumber_83 (by decide) ?_
        refine lv_iconst (v := 4) hx hb dX9_passesNumber_84 (by decide) ?_
        refine k_i0 (va_runS (As := [.int (nI d), .int 1, .int 4]) (rest := []) hF (c_X9_isIn l D I C Q (nI d) 1 4 _) (va_cwS 3 hts gX9_passesNumber_X9_isIn rfl rfl rfl (by decide +kernel) ⟨Nat.le_of_ble_eq_true rfl, Nat.le_of_ble_eq_true rfl⟩) (kPreS hE k_P0 (k_D0 (A := A))) rfl rfl hl.1 rfl (lv_room (Nat.le_of_ble_eq_true rfl)) dX9_passesNumber_85 ⟨Nat.zero_le _, Nat.zero_le _⟩) hP hS hA (fun H locs hP hS => ?_)
        exact hend _ _ _ _ _ _ hP hD hS dX9_passesNumber_88 (m_isIn_b _ _ _) (by rw [t_A_eq, t_Z_eq, ← hr]; simp +decide only [t_nL, if_true, if_false, not_true_eq_false, not_false_eq_true, and_self, and_true, true_and, and_false, false_and, kn01, kn10, kn02, kn20, kn12, kn21, eq_self]) (by rw [t_O_eq, ← hr]; simp +decide only [t_nL, if_true, if_false, not_true_eq_false, not_false_eq_true, and_self, and_true, true_and, and_false, false_and, kn01, kn10, kn02, kn20, kn12, kn21, eq_self])
      · have hle : ¬ L ≤ b := fun h => c_15 ((nI_leI (a := L) (b := b) (by omega) (by omega)).mpr h)
        refine lv_aload_n hx hb dX9_passesNumber_18 rfl (lv_at hl 0 rfl) ?_
        refine va_get (D := D) (ci := 9) (v := .ref a3) (C := RX9) (T := TX9) (N := 8) hx hb hts u9 hown hK hP 0 rfl rfl 3 (by decide) k3 (fun _ h9 => h9) rfl dX9_passesNumber_19 ?_
        refine lv_aload_n hx hb dX9_passesNumber_22 rfl (lv_at hl 0 rfl) ?_
        refine va_get (D := D) (ci := 9) (v := .int (nI b)) (C := RX9) (T := TX9) (N := 8) hx hb hts u9 hown hK hP 0 rfl rfl 5 (by decide) k1 (fun _ h9 => h9) rfl dX9_passesNumber_23 ?_
        refine k_iald (j := b) (v := (text b)) hx hb hK hP 3 0 rfl rfl rfl (by omega) (by decide) rfl dX9_passesNumber_26 ?_
        refine lv_bipush (v := 48) hx hb dX9_passesNumber_27 (by decide) ?_
        refine lv_bipush (v := 57) hx hb dX9_passesNumber_29 (by decide) ?_
        refine k_i0 (va_runS (As := [.int (text b), .int 48, .int 57]) (rest := []) hF (c_X9_isIn l D I C Q (text b) 48 57 _) (va_cwS 3 hts gX9_passesNumber_X9_isIn rfl rfl rfl (by decide +kernel) ⟨Nat.le_of_ble_eq_true rfl, Nat.le_of_ble_eq_true rfl⟩) (kPreS hE k_P0 (k_D0 (A := A))) rfl rfl hl.1 rfl (lv_room (Nat.le_of_ble_eq_true rfl)) dX9_passesNumber_31 ⟨Nat.zero_le _, Nat.zero_le _⟩) hP hS hA (fun H locs hP hS => ?_)
        refine lv_if_eq (tgt := 82) hx hb dX9_passesNumber_34 (by decide) (fun c_34 => ?_) (fun c_34 => ?_)
        · refine lv_iload_n hx hb dX9_passesNumber_82 rfl (lv_at hl 1 rfl) ?_
          refine lv_iconst (v := 1) hx hb dX9_passesNumber_83 (by decide) ?_
          refine lv_iconst (v := 4) hx hb dX9_passesNumber_84 (by decide) ?_
          refine k_i0 (va_runS (As := [.int (nI d), .int 1, .int 4]) (rest := []) hF (c_X9_isIn l D I C Q (nI d) 1 4 _) (va_cwS 3 hts gX9_passesNumber_X9_isIn rfl rfl rfl (by decide +kernel) ⟨Nat.le_of_ble_eq_true rfl, Nat.le_of_ble_eq_true rfl⟩) (kPreS hE k_P0 (k_D0 (A := A))) rfl rfl hl.1 rfl (lv_room (Nat.le_of_ble_eq_true rfl)) dX9_passesNumber_85 ⟨Nat.zero_le _, Nat.zero_le _⟩) hP hS hA (fun H locs hP hS => ?_)
          exact hend _ _ _ _ _ _ hP hD hS dX9_passesNumber_88 (m_isIn_b _ _ _) (by rw [t_A_eq, t_Z_eq, ← hr]; simp +decide only [t_nL, if_true, if_false, not_true_eq_false, not_false_eq_true, and_self, and_true, true_and, and_false, false_and, kn01, kn10, kn02, kn20, kn12, kn21, eq_self]) (by rw [t_O_eq, ← hr]; simp +decide only [t_nL, if_true, if_false, not_true_eq_false, not_false_eq_true, and_self, and_true, true_and, and_false, false_and, kn01, kn10, kn02, kn20, kn12, kn21, eq_self])
        · refine lv_iload_n hx hb dX9_passesNumber_37 rfl (lv_at hl 1 rfl) ?_
          refine lv_iconst (v := 5) hx hb dX9_passesNumber_38 (by decide) ?_
          refine lv_icmp_ge (tgt := 82) hx hb dX9_passesNumber_39 (by decide) (fun c_39 => ?_) (fun c_39 => ?_)
          · refine lv_iload_n hx hb dX9_passesNumber_82 rfl (lv_at hl 1 rfl) ?_
            refine lv_iconst (v := 1) hx hb dX9_passesNumber_83 (by decide) ?_
            refine lv_iconst (v := 4) hx hb dX9_passesNumber_84 (by decide) ?_
            refine k_i0 (va_runS (As := [.int (nI d), .int 1, .int 4]) (rest := []) hF (c_X9_isIn l D I C Q (nI d) 1 4 _) (va_cwS 3 hts gX9_passesNumber_X9_isIn rfl rfl rfl (by decide +kernel) ⟨Nat.le_of_ble_eq_true rfl, Nat.le_of_ble_eq_true rfl⟩) (kPreS hE k_P0 (k_D0 (A := A))) rfl rfl hl.1 rfl (lv_room (Nat.le_of_ble_eq_true rfl)) dX9_passesNumber_85 ⟨Nat.zero_le _, Nat.zero_le _⟩) hP hS hA (fun H locs hP hS => ?_)
            exact hend _ _ _ _ _ _ hP hD hS dX9_passesNumber_88 (m_isIn_b _ _ _) (by rw [t_A_eq, t_Z_eq, ← hr]; simp +decide only [t_nL, if_true, if_false, not_true_eq_false, not_false_eq_true, and_self, and_true, true_and, and_false, false_and, kn01, kn10, kn02, kn20, kn12, kn21, eq_self]) (by rw [t_O_eq, ← hr]; simp +decide only [t_nL, if_true, if_false, not_true_eq_false, not_false_eq_true, and_self, and_true, true_and, and_false, false_and, kn01, kn10, kn02, kn20, kn12, kn21, eq_self])
          · exact absurd ((nI_leI (a := 5) (b := d) (by omega) (by omega)).mpr (by omega)) c_39
    | succ n ih =>
      intro b d z hd hb2 H locs ls hP hD hS hl hr
      refine lv_aload_n hx hb dX9_passesNumber_7 rfl (lv_at hl 0 rfl) ?_
      refine va_get (D := D) (ci := 9) (v := .int (nI b)) (C := RX9) (T := TX9) (N := 8) hx hb hts u9 hown hK hP 0 rfl rfl 5 (by decide) k1 (fun _ h9 => h9) rfl dX9_passesNumber_8 ?_
      refine lv_aload_n hx hb dX9_passesNumber_11 rfl (lv_at hl 0 rfl) ?_
      refine va_get (D := D) (ci := 9) (v := .int (nI L)) (C := RX9) (T := TX9) (N := 8) hx hb hts u9 hown hK hP 0 rfl rfl 4 (by decide) k2 (fun _ h9 => h9) rfl dX9_passesNumber_12 ?_
      refine lv_icmp_ge (tgt := 82) hx hb dX9_passesNumber_15 (by decide) (fun c_15 => ?_) (fun c_15 => ?_)
      · have hle : L ≤ b := (nI_leI (a := L) (b := b) (by omega) (by omega)).mp c_15
        refine lv_iload_n hx hb dX9_passesNumber_82 rfl (lv_at hl 1 rfl) ?_
        refine lv_iconst (v := 1) hx hb dX9_passesNumber_83 (by decide) ?_
        refine lv_iconst (v := 4) hx hb dX9_passesNumber_84 (by decide) ?_
        refine k_i0 (va_runS (As := [.int (nI d), .int 1, .int 4]) (rest := []) hF (c_X9_isIn l D I C Q (nI d) 1 4 _) (va_cwS 3 hts gX9_passesNumber_X9_isIn rfl rfl rfl (by decide +kernel) ⟨Nat.le_of_ble_eq_true rfl, Nat.le_of_ble_eq_true rfl⟩) (kPreS hE k_P0 (k_D0 (A := A))) rfl rfl hl.1 rfl (lv_room (Nat.le_of_ble_eq_true rfl)) dX9_passesNumber_85 ⟨Nat.zero_le _, Nat.zero_le _⟩) hP hS hA (fun H locs hP hS => ?_)
        exact hend _ _ _ _ _ _ hP hD hS dX9_passesNumber_88 (m_isIn_b _ _ _) (by rw [t_A_eq, t_Z_eq, ← hr]; simp +decide only [t_nL, hle, if_true, if_false, not_true_eq_false, not_false_eq_true, and_self, and_true, true_and, and_false, false_and, kn01, kn10, kn02, kn20, kn12, kn21, eq_self]) (by rw [t_O_eq, ← hr]; simp +decide only [t_nL, hle, if_true, if_false, not_true_eq_false, not_false_eq_true, and_self, and_true, true_and, and_false, false_and, kn01, kn10, kn02, kn20, kn12, kn21, eq_self])
      · have hle : ¬ L ≤ b := fun h => c_15 ((nI_leI (a := L) (b := b) (by omega) (by omega)).mpr h)
        refine lv_aload_n hx hb dX9_passesNumber_18 rfl (lv_at hl 0 rfl) ?_
        refine va_get (D := D) (ci := 9) (v := .ref a3) (C := RX9) (T := TX9) (N := 8) hx hb hts u9 hown hK hP 0 rfl rfl 3 (by decide) k3 (fun _ h9 => h9) rfl dX9_passesNumber_19 ?_
        refine lv_aload_n hx hb dX9_passesNumber_22 rfl (lv_at hl 0 rfl) ?_
        refine va_get (D := D) (ci := 9) (v := .int (nI b)) (C := RX9) (T := TX9) (N := 8) hx hb hts u9 hown hK hP 0 rfl rfl 5 (by decide) k1 (fun _ h9 => h9) rfl dX9_passesNumber_23 ?_
        refine k_iald (j := b) (v := (text b)) hx hb hK hP 3 0 rfl rfl rfl (by omega) (by decide) rfl dX9_passesNumber_26 ?_
        refine lv_bipush (v := 48) hx hb dX9_passesNumber_27 (by decide) ?_
        refine lv_bipush (v := 57) hx hb dX9_passesNumber_29 (by decide) ?_
        refine k_i0 (va_runS (As := [.int (text b), .int 48, .int 57]) (rest := []) hF (c_X9_isIn l D I C Q (text b) 48 57 _) (va_cwS 3 hts gX9_passesNumber_X9_isIn rfl rfl rfl (by decide +kernel) ⟨Nat.le_of_ble_eq_true rfl, Nat.le_of_ble_eq_true rfl⟩) (kPreS hE k_P0 (k_D0 (A := A))) rfl rfl hl.1 rfl (lv_room (Nat.le_of_ble_eq_true rfl)) dX9_passesNumber_31 ⟨Nat.zero_le _, Nat.zero_le _⟩) hP hS hA (fun H locs hP hS => ?_)
        refine lv_if_eq (tgt := 82) hx hb dX9_passesNumber_34 (by decide) (fun c_34 => ?_) (fun c_34 => ?_)
        · refine lv_iload_n hx hb dX9_passesNumber_82 rfl (lv_at hl 1 rfl) ?_
          refine lv_iconst (v := 1) hx hb dX9_passesNumber_83 (by decide) ?_
          refine lv_iconst (v := 4) hx hb dX9_passesNumber_84 (by decide) ?_
          refine k_i0 (va_runS (As := [.int (nI d), .int 1, .int 4]) (rest := []) hF (c_X9_isIn l D I C Q (nI d) 1 4 _) (va_cwS 3 hts gX9_passesNumber_X9_isIn rfl rfl rfl (by decide +kernel) ⟨Nat.le_of_ble_eq_true rfl, Nat.le_of_ble_eq_true rfl⟩) (kPreS hE k_P0 (k_D0 (A := A))) rfl rfl hl.1 rfl (lv_room (Nat.le_of_ble_eq_true rfl)) dX9_passesNumber_85 ⟨Nat.zero_le _, Nat.zero_le _⟩) hP hS hA (fun H locs hP hS => ?_)
          exact hend _ _ _ _ _ _ hP hD hS dX9_passesNumber_88 (m_isIn_b _ _ _) (by rw [t_A_eq, t_Z_eq, ← hr]; simp +decide only [t_nL, hle, c_34, if_true, if_false, not_true_eq_false, not_false_eq_true, and_self, and_true, true_and, and_false, false_and, kn01, kn10, kn02, kn20, kn12, kn21, eq_self]) (by rw [t_O_eq, ← hr]; simp +decide only [t_nL, hle, c_34, if_true, if_false, not_true_eq_false, not_false_eq_true, and_self, and_true, true_and, and_false, false_and, kn01, kn10, kn02, kn20, kn12, kn21, eq_self])
        · refine lv_iload_n hx hb dX9_passesNumber_37 rfl (lv_at hl 1 rfl) ?_
          refine lv_iconst (v := 5) hx hb dX9_passesNumber_38 (by decide) ?_
          refine lv_icmp_ge (tgt := 82) hx hb dX9_passesNumber_39 (by decide) (fun c_39 => ?_) (fun c_39 => ?_)
          · exact absurd ((nI_leI (a := 5) (b := d) (by omega) (by omega)).mp c_39) (by omega)
          · refine lv_aload_n hx hb dX9_passesNumber_42 rfl (lv_at hl 0 rfl) ?_
            refine lv_bipush (v := 10) hx hb dX9_passesNumber_43 (by decide) ?_
            refine lv_aload_n hx hb dX9_passesNumber_45 rfl (lv_at hl 0 rfl) ?_
            refine va_get (D := D) (ci := 9) (v := .int z) (C := RX9) (T := TX9) (N := 8) hx hb hts u9 hown hK hP 0 rfl rfl 6 (by decide) k0 (fun _ h9 => h9) rfl dX9_passesNumber_46 ?_
            refine lv_imul hx hb dX9_passesNumber_49 ?_
            refine lv_aload_n hx hb dX9_passesNumber_50 rfl (lv_at hl 0 rfl) ?_
            refine va_get (D := D) (ci := 9) (v := .ref a3) (C := RX9) (T := TX9) (N := 8) hx hb hts u9 hown hK hP 0 rfl rfl 3 (by decide) k3 (fun _ h9 => h9) rfl dX9_passesNumber_51 ?_
            refine lv_aload_n hx hb dX9_passesNumber_54 rfl (lv_at hl 0 rfl) ?_
            refine va_get (D := D) (ci := 9) (v := .int (nI b)) (C := RX9) (T := TX9) (N := 8) hx hb hts u9 hown hK hP 0 rfl rfl 5 (by decide) k1 (fun _ h9 => h9) rfl dX9_passesNumber_55 ?_
            refine k_iald (j := b) (v := (text b)) hx hb hK hP 3 0 rfl rfl rfl (by omega) (by decide) rfl dX9_passesNumber_58 ?_
            refine lv_iadd hx hb dX9_passesNumber_59 ?_
            refine lv_bipush (v := 48) hx hb dX9_passesNumber_60 (by decide) ?_
            refine lv_isub hx hb dX9_passesNumber_62 ?_
            refine va_put (D := D) (ci := 9) (v := .int (((10 * z) + (text b)) - 48)) (ty := .int) (C := RX9) (T := TX9) (N := 8) hx hb hts u9 tyX9 tyX9_ok nmX9 hown hK hP hD hS 0 rfl rfl 6 (by decide) k0 (fun _ h9 => h9) rfl (by decide +kernel) rfl rfl (Nat.le_of_ble_eq_true rfl) dX9_passesNumber_63 (fun H locs hP hD hS => ?_)
            have hP : va_P D vwCl (wM I a0 a1 a2 a3 a4 now kept st text (nI L) (nI b) (((10 * z) + (text b)) - 48) rd) H := hP
            have hD : va_D A (wM I a0 a1 a2 a3 a4 now kept st text (nI L) (nI b) (((10 * z) + (text b)) - 48) rd) := hD
            refine lv_iinc (v := nI (d + 1)) (lv' := [(1, .int (nI (d + 1))), (0, .ref a0)]) hx hb dX9_passesNumber_66 hl (k := 1) rfl (nI_inc d) (by decide) rfl (fun ls hl => ?_)
            refine lv_aload_n hx hb dX9_passesNumber_69 rfl (lv_at hl 1 rfl) ?_
            refine lv_dup hx hb dX9_passesNumber_70 rfl ?_
            refine va_get (D := D) (ci := 9) (v := .int (nI b)) (C := RX9) (T := TX9) (N := 8) hx hb hts u9 hown hK hP 0 rfl rfl 5 (by decide) k1 (fun _ h9 => h9) rfl dX9_passesNumber_71 ?_
            refine lv_iconst (v := 1) hx hb dX9_passesNumber_74 (by decide) ?_
            refine k_iadd (v := nI (b + 1)) hx hb dX9_passesNumber_75 (nI_add b 1) ?_
            refine va_put (D := D) (ci := 9) (v := .int (nI (b + 1))) (ty := .int) (C := RX9) (T := TX9) (N := 8) hx hb hts u9 tyX9 tyX9_ok nmX9 hown hK hP hD hS 0 rfl rfl 5 (by decide) k1 (fun _ h9 => h9) rfl (by decide +kernel) rfl rfl (Nat.le_of_ble_eq_true rfl) dX9_passesNumber_76 (fun H locs hP hD hS => ?_)
            have hP : va_P D vwCl (wM I a0 a1 a2 a3 a4 now kept st text (nI L) (nI (b + 1)) (((10 * z) + (text b)) - 48) rd) H := hP
            have hD : va_D A (wM I a0 a1 a2 a3 a4 now kept st text (nI L) (nI (b + 1)) (((10 * z) + (text b)) - 48) rd) := hD
            refine lv_goto (tgt := 7) hx hb dX9_passesNumber_79 (by decide) ?_
            exact ih (b + 1) (d + 1) (((10 * z) + (text b)) - 48) (by omega) (by omega) _ _ _ hP hD hS (lv_sub hl [1, 0] rfl) (by rw [← hr]; simp +decide only [t_nL, hle, c_34, if_true, if_false, not_true_eq_false, not_false_eq_true, and_self, and_true, true_and, and_false, false_and, kn01, kn10, kn02, kn20, kn12, kn21, eq_self])
  exact loop7 5 a 0 0 (by omega) (by omega) _ _ _ hP hD hS (lv_sub hl [1, 0] rfl) rfl
set_option maxHeartbeats 400000 in
set_option maxRecDepth 100000 in
theorem c_X9_excuseHere (l : Launch) (D : va_G) (I C Q : ClassId) (a0 a1 a2 a3 a4 : Nat) (now : Nat → Int32) (kept : Nat → Int32) (st : Int32) (text : Nat → Int32) (L : Nat) (a : Nat) (num : Int32) (rd : Nat → Int32) (hL : L ≤ 80) (ha : a ≤ 900) : KI l D (tyL I C Q) yX9_excuseHere wsX9_excuseHere { frames := 1, cells := 0, slots := 0, locals := 22 } [.ref a0] (wM I a0 a1 a2 a3 a4 now kept st text (nI L) (nI a) num rd) (wM I a0 a1 a2 a3 a4 now kept st text (nI L) (nI (t_XA text L a)) num rd) (t_X text L a) := by
  have h1 := t_pasA_le text L a 110
  have h2 := t_pasA_le text L (t_pasA text L a 110) 105
  refine KI.of (cc := cX9_excuseHere) (maxL := 1) (rt := .int) (own := RX9) (by decide) rfl rfl (Nat.le_of_ble_eq_true rfl) ?_
  intro p e s m below meth c A Q0 ls hx hb hml hown hts hE hA hP hD hS hl hend
  have hK := hE.1
  have hF : CallFix p m c cX9_excuseHere 1 s [.ref a0].toArray wsX9_excuseHere RX9 := ⟨hx, hb, hml, hown, hts⟩
  have hl : lv_has ls 1 [(0, .ref a0)] := hl
  refine lv_aload_n hx hb dX9_excuseHere_0 rfl (lv_at hl 0 rfl) ?_
  refine lv_bipush (v := 110) hx hb dX9_excuseHere_1 (by decide) ?_
  refine k_iF (va_runV (As := [.int 110]) (rest := []) hF (c_X9_passes l D I C Q a0 a1 a2 a3 a4 now kept st text L a num rd 110 hL (by omega) _) (cwV 1 hts gX9_excuseHere_X9_passes rfl rfl rfl (by decide +kernel) ⟨Nat.le_of_ble_eq_true rfl, Nat.le_of_ble_eq_true rfl⟩) (kPreV hE hP hD (ci := 9) (q0 := 0) rfl rfl) rfl rfl hl.1 rfl (lv_room (Nat.le_of_ble_eq_true rfl)) dX9_excuseHere_3 ⟨Nat.zero_le _, Nat.zero_le _⟩) hD hS hA (fun H locs hP hD hS => ?_)
  have hP : va_P D vwCl (wM I a0 a1 a2 a3 a4 now kept st text (nI L) (nI (t_pasA text L a 110)) num rd) H := hP
  have hD : va_D A (wM I a0 a1 a2 a3 a4 now kept st text (nI L) (nI (t_pasA text L a 110)) num rd) := hD
  refine lv_if_eq (tgt := 13) hx hb dX9_excuseHere_6 (by decide) (fun c_6 => ?_) (fun c_6 => ?_)
  · refine lv_aload_n hx hb dX9_excuseHere_13 rfl (lv_at hl 0 rfl) ?_
    refine lv_bipush (v := 105) hx hb dX9_excuseHere_14 (by decide) ?_
    refine k_iF (va_runV (As := [.int 105]) (rest := []) hF (c_X9_passes l D I C Q a0 a1 a2 a3 a4 now kept st text L (t_pasA text L a 110) num rd 105 hL (by omega) _) (cwV 1 hts gX9_excuseHere_X9_passes rfl rfl rfl (by decide +kernel) ⟨Nat.le_of_ble_eq_true rfl, Nat.le_of_ble_eq_true rfl⟩) (kPreV hE hP hD (ci := 9) (q0 := 0) rfl rfl) rfl rfl hl.1 rfl (lv_room (Nat.le_of_ble_eq_true rfl)) dX9_excuseHere_16 ⟨Nat.zero_le _, Nat.zero_le _⟩) hD hS hA (fun H locs hP hD hS => ?_)
    have hP : va_P D vwCl (wM I a0 a1 a2 a3 a4 now kept st text (nI L) (nI (t_pasA text L (t_pasA text L a 110) 105)) num rd) H := hP
    have hD : va_D A (wM I a0 a1 a2 a3 a4 now kept st text (nI L) (nI (t_pasA text L (t_pasA text L a 110) 105)) num rd) := hD
    refine lv_if_eq (tgt := 26) hx hb dX9_excuseHere_19 (by decide) (fun c_19 => ?_) (fun c_19 => ?_)
    · refine lv_aload_n hx hb dX9_excuseHere_26 rfl (lv_at hl 0 rfl) ?_
      refine lv_bipush (v := 102) hx hb dX9_excuseHere_27 (by decide) ?_
      refine k_iF (va_runV (As := [.int 102]) (rest := []) hF (c_X9_passes l D I C Q a0 a1 a2 a3 a4 now kept st text L (t_pasA text L (t_pasA text L a 110) 105) num rd 102 hL (by omega) _) (cwV 1 hts gX9_excuseHere_X9_passes rfl rfl rfl (by decide +kernel) ⟨Nat.le_of_ble_eq_true rfl, Nat.le_of_ble_eq_true rfl⟩) (kPreV hE hP hD (ci := 9) (q0 := 0) rfl rfl) rfl rfl hl.1 rfl (lv_room (Nat.le_of_ble_eq_true rfl)) dX9_excuseHere_29 ⟨Nat.zero_le _, Nat.zero_le _⟩) hD hS hA (fun H locs hP hD hS => ?_)
      have hP : va_P D vwCl (wM I a0 a1 a2 a3 a4 now kept st text (nI L) (nI (t_pasA text L (t_pasA text L (t_pasA text L a 110) 105) 102)) num rd) H := hP
      have hD : va_D A (wM I a0 a1 a2 a3 a4 now kept st text (nI L) (nI (t_pasA text L (t_pasA text L (t_pasA text L a 110) 105) 102)) num rd) := hD
      refine lv_if_eq (tgt := 39) hx hb dX9_excuseHere_32 (by decide) (fun c_32 => ?_) (fun c_32 => ?_)
      · refine lv_iconst (v := 0) hx hb dX9_excuseHere_39 (by decide) ?_
        exact hend _ _ _ _ _ _ hP hD hS dX9_excuseHere_40 rfl (by simp +decide only [t_XA_eq, c_6, c_19, c_32, if_true, if_false, not_true_eq_false, not_false_eq_true, and_self, and_true, true_and, and_false, false_and, kn01, kn10, kn02, kn20, kn12, kn21, eq_self]) (by simp +decide only [t_X_eq, c_6, c_19, c_32, if_true, if_false, not_true_eq_false, not_false_eq_true, and_self, and_true, true_and, and_false, false_and, kn01, kn10, kn02, kn20, kn12, kn21, eq_self])
      · refine lv_iconst (v := 3) hx hb dX9_excuseHere_35 (by decide) ?_
        refine lv_goto (tgt := 40) hx hb dX9_excuseHere_36 (by decide) ?_
        exact hend _ _ _ _ _ _ hP hD hS dX9_excuseHere_40 rfl (by simp +decide only [t_XA_eq, c_6, c_19, c_32, if_true, if_false, not_true_eq_false, not_false_eq_true, and_self, and_true, true_and, and_false, false_and, kn01, kn10, kn02, kn20, kn12, kn21, eq_self]) (by simp +decide only [t_X_eq, c_6, c_19, c_32, if_true, if_false, not_true_eq_false, not_false_eq_true, and_self, and_true, true_and, and_false, false_and, kn01, kn10, kn02, kn20, kn12, kn21, eq_self])
    · refine lv_iconst (v := 2) hx hb dX9_excuseHere_22 (by decide) ?_
      refine lv_goto (tgt := 40) hx hb dX9_excuseHere_23 (by decide) ?_
      exact hend _ _ _ _ _ _ hP hD hS dX9_excuseHere_40 rfl (by simp +decide only [t_XA_eq, c_6, c_19, if_true, if_false, not_true_eq_false, not_false_eq_true, and_self, and_true, true_and, and_false, false_and, kn01, kn10, kn02, kn20, kn12, kn21, eq_self]) (by simp +decide only [t_X_eq, c_6, c_19, if_true, if_false, not_true_eq_false, not_false_eq_true, and_self, and_true, true_and, and_false, false_and, kn01, kn10, kn02, kn20, kn12, kn21, eq_self])
  · refine lv_iconst (v := 1) hx hb dX9_excuseHere_9 (by decide) ?_
    refine lv_goto (tgt := 40) hx hb dX9_excuseHere_10 (by decide) ?_
    exact hend _ _ _ _ _ _ hP hD hS dX9_excuseHere_40 rfl (by simp +decide only [t_XA_eq, c_6, if_true, if_false, not_true_eq_false, not_false_eq_true, and_self, and_true, true_and, and_false, false_and, kn01, kn10, kn02, kn20, kn12, kn21, eq_self]) (by simp +decide only [t_X_eq, c_6, if_true, if_false, not_true_eq_false, not_false_eq_true, and_self, and_true, true_and, and_false, false_and, kn01, kn10, kn02, kn20, kn12, kn21, eq_self])
