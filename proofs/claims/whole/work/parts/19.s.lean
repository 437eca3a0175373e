set_option maxHeartbeats 400000 in
set_option maxRecDepth 100000 in
theorem c_X6_readExcuse (l : Launch) (D : va_G) (I C Q : ClassId) (x0 x1 : Nat) (sg : Nat → Int32) (L : Nat) (a : Nat) (xn : Int32) (xi : Int32) (xt : Int32) (xk : Int32) (xa : Int32) (xe : Int32) (xf : Int32) (xr : Int32) (hL : L ≤ 80) (ha : a ≤ 900) (hsg : ∀ i, i < L → narrow .char (.int (sg i)) = .int (sg i)) : KI l D (tyL I C Q) yX6_readExcuse wsX6_readExcuse { frames := 2, cells := 0, slots := 0, locals := 41 } [.ref x0] (wX I C x0 x1 sg (nI L) (nI a) xn xi xt xk xa xe xf xr) (wX I C x0 x1 sg (nI L) (nI (x_XA sg L a)) xn xi xt xk xa xe xf xr) (x_X sg L a) := by
  refine KI.of (cc := cX6_readExcuse) (maxL := 1) (rt := .int) (own := RX6) (by decide) rfl rfl (Nat.le_of_ble_eq_true rfl) ?_
  intro p e s m below meth c A Q0 ls hx hb hml hown hts hE hA hP hD hS hl hend
  have hK := hE.1
  have hF : CallFix p m c cX6_readExcuse 1 s [.ref x0].toArray wsX6_readExcuse RX6 := ⟨hx, hb, hml, hown, hts⟩
  have hl : lv_has ls 1 [(0, .ref x0)] := hl
  refine lv_aload_n hx hb dX6_readExcuse_0 rfl (lv_at hl 0 rfl) ?_
  refine lv_bipush (v := 110) hx hb dX6_readExcuse_1 (by decide) ?_
  refine k_iF (va_runV (As := [.int 110]) (rest := []) hF (c_X6_readSign l D I C Q x0 x1 sg L a xn xi xt xk xa xe xf xr 110 hL (by omega) hsg _) (cwV 1 hts gX6_readExcuse_X6_readSign rfl rfl rfl (by decide +kernel) ⟨Nat.le_of_ble_eq_true rfl, Nat.le_of_ble_eq_true rfl⟩) (kPreV hE hP hD (ci := 6) (q0 := 0) rfl rfl) rfl rfl hl.1 rfl (lv_room (Nat.le_of_ble_eq_true rfl)) dX6_readExcuse_3 ⟨Nat.zero_le _, Nat.zero_le _⟩) hD hS hA (fun H locs hP hD hS => ?_)
  have hP : va_P D vwCl (wX I C x0 x1 sg (nI L) (nI (x_ra sg L a 110)) xn xi xt xk xa xe xf xr) H := hP
  have hD : va_D A (wX I C x0 x1 sg (nI L) (nI (x_ra sg L a 110)) xn xi xt xk xa xe xf xr) := hD
  refine lv_if_eq (tgt := 11) hx hb dX6_readExcuse_6 (by decide) (fun c_6 => ?_) (fun c_6 => ?_)
  · refine lv_aload_n hx hb dX6_readExcuse_11 rfl (lv_at hl 0 rfl) ?_
    refine lv_bipush (v := 105) hx hb dX6_readExcuse_12 (by decide) ?_
    refine k_iF (va_runV (As := [.int 105]) (rest := []) hF (c_X6_readSign l D I C Q x0 x1 sg L (x_ra sg L a 110) xn xi xt xk xa xe xf xr 105 hL (Nat.le_trans (x_ra_le sg L a 110) (by omega)) hsg _) (cwV 1 hts gX6_readExcuse_X6_readSign rfl rfl rfl (by decide +kernel) ⟨Nat.le_of_ble_eq_true rfl, Nat.le_of_ble_eq_true rfl⟩) (kPreV hE hP hD (ci := 6) (q0 := 0) rfl rfl) rfl rfl hl.1 rfl (lv_room (Nat.le_of_ble_eq_true rfl)) dX6_readExcuse_14 ⟨Nat.zero_le _, Nat.zero_le _⟩) hD hS hA (fun H locs hP hD hS => ?_)
    have hP : va_P D vwCl (wX I C x0 x1 sg (nI L) (nI (x_ra sg L (x_ra sg L a 110) 105)) xn xi xt xk xa xe xf xr) H := hP
    have hD : va_D A (wX I C x0 x1 sg (nI L) (nI (x_ra sg L (x_ra sg L a 110) 105)) xn xi xt xk xa xe xf xr) := hD
    refine lv_if_eq (tgt := 22) hx hb dX6_readExcuse_17 (by decide) (fun c_17 => ?_) (fun c_17 => ?_)
    · refine lv_aload_n hx hb dX6_readExcuse_22 rfl (lv_at hl 0 rfl) ?_
      refine lv_bipush (v := 102) hx hb dX6_readExcuse_23 (by decide) ?_
      refine k_iF (va_runV (As := [.int 102]) (rest := []) hF (c_X6_readSign l D I C Q x0 x1 sg L (x_ra sg L (x_ra sg L a 110) 105) xn xi xt xk xa xe xf xr 102 hL (Nat.le_trans (Nat.le_trans (x_ra_le sg L _ 105) (Nat.add_le_add_right (x_ra_le sg L a 110) 1)) (by omega)) hsg _) (cwV 1 hts gX6_readExcuse_X6_readSign rfl rfl rfl (by decide +kernel) ⟨Nat.le_of_ble_eq_true rfl, Nat.le_of_ble_eq_true rfl⟩) (kPreV hE hP hD (ci := 6) (q0 := 0) rfl rfl) rfl rfl hl.1 rfl (lv_room (Nat.le_of_ble_eq_true rfl)) dX6_readExcuse_25 ⟨Nat.zero_le _, Nat.zero_le _⟩) hD hS hA (fun H locs hP hD hS => ?_)
      have hP : va_P D vwCl (wX I C x0 x1 sg (nI L) (nI (x_ra sg L (x_ra sg L (x_ra sg L a 110) 105) 102)) xn xi xt xk xa xe xf xr) H := hP
      have hD : va_D A (wX I C x0 x1 sg (nI L) (nI (x_ra sg L (x_ra sg L (x_ra sg L a 110) 105) 102)) xn xi xt xk xa xe xf xr) := hD
      refine lv_if_eq (tgt := 35) hx hb dX6_readExcuse_28 (by decide) (fun c_28 => ?_) (fun c_28 => ?_)
      · refine lv_iconst (v := 0) hx hb dX6_readExcuse_35 (by decide) ?_
        exact hend _ _ _ _ _ _ hP hD hS dX6_readExcuse_36 rfl (by simp +decide only [x_XA_eq, c_6, c_17, c_28, if_true, if_false, not_true_eq_false, not_false_eq_true, and_self, and_true, true_and, and_false, false_and, kn01, kn10, kn02, kn20, kn12, kn21, eq_self]) (by simp +decide only [x_X_eq, c_6, c_17, c_28, if_true, if_false, not_true_eq_false, not_false_eq_true, and_self, and_true, true_and, and_false, false_and, kn01, kn10, kn02, kn20, kn12, kn21, eq_self])
      · refine lv_iconst (v := 3) hx hb dX6_readExcuse_31 (by decide) ?_
        refine lv_goto (tgt := 36) hx hb dX6_readExcuse_32 (by decide) ?_
        exact hend _ _ _ _ _ _ hP hD hS dX6_readExcuse_36 rfl (by simp +decide only [x_XA_eq, c_6, c_17, c_28, if_true, if_false, not_true_eq_false, not_false_eq_true, and_self, and_true, true_and, and_false, false_and, kn01, kn10, kn02, kn20, kn12, kn21, eq_self]) (by simp +decide only [x_X_eq, c_6, c_17, c_28, if_true, if_false, not_true_eq_false, not_false_eq_true, and_self, and_true, true_and, and_false, false_and, kn01, kn10, kn02, kn20, kn12, kn21, eq_self])
    · refine lv_iconst (v := 2) hx hb dX6_readExcuse_20 (by decide) ?_
      exact hend _ _ _ _ _ _ hP hD hS dX6_readExcuse_21 rfl (by simp +decide only [x_XA_eq, c_6, c_17, if_true, if_false, not_true_eq_false, not_false_eq_true, and_self, and_true, true_and, and_false, false_and, kn01, kn10, kn02, kn20, kn12, kn21, eq_self]) (by simp +decide only [x_X_eq, c_6, c_17, if_true, if_false, not_true_eq_false, not_false_eq_true, and_self, and_true, true_and, and_false, false_and, kn01, kn10, kn02, kn20, kn12, kn21, eq_self])
  · refine lv_iconst (v := 1) hx hb dX6_readExcuse_9 (by decide) ?_
    exact hend _ _ _ _ _ _ hP hD hS dX6_readExcuse_10 rfl (by simp +decide only [x_XA_eq, c_6, if_true, if_false, not_true_eq_false, not_false_eq_true, and_self, and_true, true_and, and_false, false_and, kn01, kn10, kn02, kn20, kn12, kn21, eq_self]) (by simp +decide only [x_X_eq, c_6, if_true, if_false, not_true_eq_false, not_false_eq_true, and_self, and_true, true_and, and_false, false_and, kn01, kn10, kn02, kn20, kn12, kn21, eq_self])
