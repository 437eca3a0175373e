set_option maxHeartbeats 400000 in
set_option maxRecDepth 100000 in
theorem c_X8_isEvent (l : Launch) (D : va_G) (I C Q : ClassId) (i : Int32) (t : Int32) (k : Int32) (a : Int32) : KI l D (tyL I C Q) yX8_isEvent wsX8_isEvent { frames := 1, cells := 0, slots := 0, locals := 22 } [.int i, .int t, .int k, .int a] [] [] (x_isE i t k a) := by
  refine KI.of (cc := cX8_isEvent) (maxL := 4) (rt := .boolean) (own := RX8) (by decide) rfl rfl (Nat.le_of_ble_eq_true rfl) ?_
  intro p e s m below meth c A Q0 ls hx hb hml hown hts hE hA hP hD hS hl hend
  have hK := hE.1
  have hF : CallFix p m c cX8_isEvent 4 s [.int i, .int t, .int k, .int a].toArray wsX8_isEvent RX8 := ⟨hx, hb, hml, hown, hts⟩
  have hl : lv_has ls 4 [(0, .int i), (1, .int t), (2, .int k), (3, .int a)] := hl
  refine lv_iload_n hx hb dX8_isEvent_0 rfl (lv_at hl 0 rfl) ?_
  refine lv_iconst (v := 0) hx hb dX8_isEvent_1 (by decide) ?_
  refine lv_bipush (v := 63) hx hb dX8_isEvent_2 (by decide) ?_
  refine k_i0 (va_runS (As := [.int i, .int 0, .int 63]) (rest := []) hF (c_X8_isWithin l D I C Q i 0 63 _) (va_cwS 3 hts gX8_isEvent_X8_isWithin rfl rfl rfl (by decide +kernel) ⟨Nat.le_of_ble_eq_true rfl, Nat.le_of_ble_eq_true rfl⟩) (kPreS hE k_P0 (k_D0 (A := A))) rfl rfl hl.1 rfl (lv_room (Nat.le_of_ble_eq_true rfl)) dX8_isEvent_4 ⟨Nat.zero_le _, Nat.zero_le _⟩) hP hS hA (fun H locs hP hS => ?_)
  refine lv_if_eq (tgt := 45) hx hb dX8_isEvent_7 (by decide) (fun c_7 => ?_) (fun c_7 => ?_)
  · refine lv_iconst (v := 0) hx hb dX8_isEvent_45 (by decide) ?_
    exact hend _ _ _ _ _ _ hP hD hS dX8_isEvent_46 (by decide) rfl (by simp +decide only [x_isE, c_7, if_true, if_false, not_true_eq_false, not_false_eq_true, and_self, and_true, true_and, and_false, false_and, kn01, kn10, kn02, kn20, kn12, kn21, eq_self])
  · refine lv_iload_n hx hb dX8_isEvent_10 rfl (lv_at hl 1 rfl) ?_
    refine lv_iconst (v := 0) hx hb dX8_isEvent_11 (by decide) ?_
    refine lv_sipush (v := 1999) hx hb dX8_isEvent_12 (by decide) ?_
    refine k_i0 (va_runS (As := [.int t, .int 0, .int 1999]) (rest := []) hF (c_X8_isWithin l D I C Q t 0 1999 _) (va_cwS 3 hts gX8_isEvent_X8_isWithin rfl rfl rfl (by decide +kernel) ⟨Nat.le_of_ble_eq_true rfl, Nat.le_of_ble_eq_true rfl⟩) (kPreS hE k_P0 (k_D0 (A := A))) rfl rfl hl.1 rfl (lv_room (Nat.le_of_ble_eq_true rfl)) dX8_isEvent_15 ⟨Nat.zero_le _, Nat.zero_le _⟩) hP hS hA (fun H locs hP hS => ?_)
    refine lv_if_eq (tgt := 45) hx hb dX8_isEvent_18 (by decide) (fun c_18 => ?_) (fun c_18 => ?_)
    · refine lv_iconst (v := 0) hx hb dX8_isEvent_45 (by decide) ?_
      exact hend _ _ _ _ _ _ hP hD hS dX8_isEvent_46 (by decide) rfl (by simp +decide only [x_isE, c_7, c_18, if_true, if_false, not_true_eq_false, not_false_eq_true, and_self, and_true, true_and, and_false, false_and, kn01, kn10, kn02, kn20, kn12, kn21, eq_self])
    · refine lv_iload_n hx hb dX8_isEvent_21 rfl (lv_at hl 2 rfl) ?_
      refine lv_iconst (v := 0) hx hb dX8_isEvent_22 (by decide) ?_
      refine lv_iconst (v := 5) hx hb dX8_isEvent_23 (by decide) ?_
      refine k_i0 (va_runS (As := [.int k, .int 0, .int 5]) (rest := []) hF (c_X8_isWithin l D I C Q k 0 5 _) (va_cwS 3 hts gX8_isEvent_X8_isWithin rfl rfl rfl (by decide +kernel) ⟨Nat.le_of_ble_eq_true rfl, Nat.le_of_ble_eq_true rfl⟩) (kPreS hE k_P0 (k_D0 (A := A))) rfl rfl hl.1 rfl (lv_room (Nat.le_of_ble_eq_true rfl)) dX8_isEvent_24 ⟨Nat.zero_le _, Nat.zero_le _⟩) hP hS hA (fun H locs hP hS => ?_)
      refine lv_if_eq (tgt := 45) hx hb dX8_isEvent_27 (by decide) (fun c_27 => ?_) (fun c_27 => ?_)
      · refine lv_iconst (v := 0) hx hb dX8_isEvent_45 (by decide) ?_
        exact hend _ _ _ _ _ _ hP hD hS dX8_isEvent_46 (by decide) rfl (by simp +decide only [x_isE, c_7, c_18, c_27, if_true, if_false, not_true_eq_false, not_false_eq_true, and_self, and_true, true_and, and_false, false_and, kn01, kn10, kn02, kn20, kn12, kn21, eq_self])
      · refine lv_iload_n hx hb dX8_isEvent_30 rfl (lv_at hl 3 rfl) ?_
        refine lv_bipush (v := (-100)) hx hb dX8_isEvent_31 (by decide) ?_
        refine lv_bipush (v := 100) hx hb dX8_isEvent_33 (by decide) ?_
        refine k_i0 (va_runS (As := [.int a, .int (-100), .int 100]) (rest := []) hF (c_X8_isWithin l D I C Q a (-100) 100 _) (va_cwS 3 hts gX8_isEvent_X8_isWithin rfl rfl rfl (by decide +kernel) ⟨Nat.le_of_ble_eq_true rfl, Nat.le_of_ble_eq_true rfl⟩) (kPreS hE k_P0 (k_D0 (A := A))) rfl rfl hl.1 rfl (lv_room (Nat.le_of_ble_eq_true rfl)) dX8_isEvent_35 ⟨Nat.zero_le _, Nat.zero_le _⟩) hP hS hA (fun H locs hP hS => ?_)
        refine lv_if_eq (tgt := 45) hx hb dX8_isEvent_38 (by decide) (fun c_38 => ?_) (fun c_38 => ?_)
        · refine lv_iconst (v := 0) hx hb dX8_isEvent_45 (by decide) ?_
          exact hend _ _ _ _ _ _ hP hD hS dX8_isEvent_46 (by decide) rfl (by simp +decide only [x_isE, c_7, c_18, c_27, c_38, if_true, if_false, not_true_eq_false, not_false_eq_true, and_self, and_true, true_and, and_false, false_and, kn01, kn10, kn02, kn20, kn12, kn21, eq_self])
        · refine lv_iconst (v := 1) hx hb dX8_isEvent_41 (by decide) ?_
          refine lv_goto (tgt := 46) hx hb dX8_isEvent_42 (by decide) ?_
          exact hend _ _ _ _ _ _ hP hD hS dX8_isEvent_46 (by decide) rfl (by simp +decide only [x_isE, c_7, c_18, c_27, c_38, if_true, if_false, not_true_eq_false, not_false_eq_true, and_self, and_true, true_and, and_false, false_and, kn01, kn10, kn02, kn20, kn12, kn21, eq_self])
