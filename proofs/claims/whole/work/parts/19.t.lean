set_option maxHeartbeats 400000 in
set_option maxRecDepth 100000 in
theorem c_X6_readEvent (l : Launch) (D : va_G) (I C Q : ClassId) (x0 x1 : Nat) (sg : Nat → Int32) (L : Nat) (xp : Int32) (xn : Int32) (xi : Int32) (xt : Int32) (xk : Int32) (xa : Int32) (xe : Int32) (xf : Int32) (xr : Int32) (a : Nat) (hL : L ≤ 80) (ha : a ≤ 200) (hsg : ∀ i, i < L → narrow .char (.int (sg i)) = .int (sg i)) : KI l D (tyL I C Q) yX6_readEvent wsX6_readEvent { frames := 3, cells := 0, slots := 0, locals := 61 } [.ref x0, .int (nI a)] (wX I C x0 x1 sg (nI L) xp xn xi xt xk xa xe xf xr) (wX I C x0 x1 sg (nI L) ((x_J sg L a).1) ((x_J sg L a).2.1) ((x_J sg L a).2.2.1) ((x_J sg L a).2.2.2.1) ((x_J sg L a).2.2.2.2.1) ((x_J sg L a).2.2.2.2.2.1) ((x_J sg L a).2.2.2.2.2.2) xf xr) (x_r sg L a) := by
  refine KI.of (cc := cX6_readEvent) (maxL := 4) (rt := .int) (own := RX6) (by decide) rfl rfl (Nat.le_of_ble_eq_true rfl) ?_
  intro p e s m below meth c A Q0 ls hx hb hml hown hts hE hA hP hD hS hl hend
  have hK := hE.1
  have hF : CallFix p m c cX6_readEvent 4 s [.ref x0, .int (nI a)].toArray wsX6_readEvent RX6 := ⟨hx, hb, hml, hown, hts⟩
  have k0 := hts (.fieldLink RX6 45 "LateExcuses$Text" "place" "I") (List.mem_of_getElem? (i := 1) rfl)
  have k1 := hts (.fieldLink RX6 52 "LateExcuses$Text" "number" "I") (List.mem_of_getElem? (i := 2) rfl)
  have k2 := hts (.fieldLink RX6 29 "LateExcuses$Text" "id" "I") (List.mem_of_getElem? (i := 3) rfl)
  have k3 := hts (.fieldLink RX6 32 "LateExcuses$Text" "time" "I") (List.mem_of_getElem? (i := 4) rfl)
  have k4 := hts (.fieldLink RX6 35 "LateExcuses$Text" "key" "I") (List.mem_of_getElem? (i := 5) rfl)
  have k5 := hts (.fieldLink RX6 38 "LateExcuses$Text" "amount" "I") (List.mem_of_getElem? (i := 6) rfl)
  have k6 := hts (.fieldLink RX6 63 "LateExcuses$Text" "excuse" "I") (List.mem_of_getElem? (i := 7) rfl)
  have u6 : ∀ w ∈ u_ws RX6 TX6 11, w ∈ wsX6_readEvent := by decide +kernel
  have hl : lv_has ls 4 [(0, .ref x0), (1, .int (nI a))] := hl
  refine lv_aload_n hx hb dX6_readEvent_0 rfl (lv_at hl 0 rfl) ?_
  refine lv_iload_n hx hb dX6_readEvent_1 rfl (lv_at hl 1 rfl) ?_
  refine va_put (D := D) (ci := 6) (v := .int (nI a)) (ty := .int) (C := RX6) (T := TX6) (N := 11) hx hb hts u6 tyX6 tyX6_ok nmX6 hown hK hP hD hS 0 rfl rfl 2 (by decide) k0 (fun _ h9 => h9) rfl (by decide +kernel) rfl rfl (Nat.le_of_ble_eq_true rfl) dX6_readEvent_2 (fun H locs hP hD hS => ?_)
  have hP : va_P D vwCl (wX I C x0 x1 sg (nI L) (nI a) xn xi xt xk xa xe xf xr) H := hP
  have hD : va_D A (wX I C x0 x1 sg (nI L) (nI a) xn xi xt xk xa xe xf xr) := hD
  refine lv_aload_n hx hb dX6_readEvent_5 rfl (lv_at hl 0 rfl) ?_
  refine k_iF (va_runV (As := []) (rest := []) hF (c_X6_readNumber l D I C Q x0 x1 sg L a xn xi xt xk xa xe xf xr hL (by omega) hsg _) (cwV 0 hts gX6_readEvent_X6_readNumber rfl rfl rfl (by decide +kernel) ⟨Nat.le_of_ble_eq_true rfl, Nat.le_of_ble_eq_true rfl⟩) (kPreV hE hP hD (ci := 6) (q0 := 0) rfl rfl) rfl rfl hl.1 rfl (lv_room (Nat.le_of_ble_eq_true rfl)) dX6_readEvent_6 ⟨Nat.zero_le _, Nat.zero_le _⟩) hD hS hA (fun H locs hP hD hS => ?_)
  have hP : va_P D vwCl (wX I C x0 x1 sg (nI L) (nI (x_A sg L a)) (x_Z sg L a) xi xt xk xa xe xf xr) H := hP
  have hD : va_D A (wX I C x0 x1 sg (nI L) (nI (x_A sg L a)) (x_Z sg L a) xi xt xk xa xe xf xr) := hD
  refine lv_istore_n (lv' := [(2, .int (x_O sg L a)), (0, .ref x0), (1, .int (nI a))]) hx hb dX6_readEvent_9 rfl hl (by decide) rfl (fun ls hl => ?_)
  refine lv_aload_n hx hb dX6_readEvent_10 rfl (lv_at hl 1 rfl) ?_
  refine lv_aload_n hx hb dX6_readEvent_11 rfl (lv_at hl 1 rfl) ?_
  refine va_get (D := D) (ci := 6) (v := .int (x_Z sg L a)) (C := RX6) (T := TX6) (N := 11) hx hb hts u6 hown hK hP 0 rfl rfl 3 (by decide) k1 (fun _ h9 => h9) rfl dX6_readEvent_12 ?_
  refine va_put (D := D) (ci := 6) (v := .int (x_Z sg L a)) (ty := .int) (C := RX6) (T := TX6) (N := 11) hx hb hts u6 tyX6 tyX6_ok nmX6 hown hK hP hD hS 0 rfl rfl 4 (by decide) k2 (fun _ h9 => h9) rfl (by decide +kernel) rfl rfl (Nat.le_of_ble_eq_true rfl) dX6_readEvent_15 (fun H locs hP hD hS => ?_)
  have hP : va_P D vwCl (wX I C x0 x1 sg (nI L) (nI (x_A sg L a)) (x_Z sg L a) (x_Z sg L a) xt xk xa xe xf xr) H := hP
  have hD : va_D A (wX I C x0 x1 sg (nI L) (nI (x_A sg L a)) (x_Z sg L a) (x_Z sg L a) xt xk xa xe xf xr) := hD
  refine lv_iload_n hx hb dX6_readEvent_18 rfl (lv_at hl 0 rfl) ?_
  refine lv_if_eq (tgt := 42) hx hb dX6_readEvent_19 (by decide) (fun c_19 => ?_) (fun c_19 => ?_)
  · refine lv_iconst (v := 0) hx hb dX6_readEvent_42 (by decide) ?_
    have hT2 : x_T2 sg L a = (0, (x_A sg L a), x_Z sg L a) := by simp +decide only [x_T2_eq, x_st, x_T1_eq, c_19, if_true, if_false, not_true_eq_false, not_false_eq_true, and_self, and_true, true_and, and_false, false_and, kn01, kn10, kn02, kn20, kn12, kn21, eq_self]
    have hf2 : (x_T2 sg L a).1 = 0 := by rw [hT2]
    have hP : va_P D vwCl (wX I C x0 x1 sg (nI L) (nI (x_T2 sg L a).2.1) ((x_T2 sg L a).2.2) (x_Z sg L a) xt xk xa xe xf xr) H := by rw [hT2]; exact hP
    have hD : va_D A (wX I C x0 x1 sg (nI L) (nI (x_T2 sg L a).2.1) ((x_T2 sg L a).2.2) (x_Z sg L a) xt xk xa xe xf xr) := by rw [hT2]; exact hD
    refine lv_istore_n (lv' := [(2, .int 0), (0, .ref x0), (1, .int (nI a))]) hx hb dX6_readEvent_43 rfl hl (by decide) rfl (fun ls hl => ?_)
    refine lv_aload_n hx hb dX6_readEvent_44 rfl (lv_at hl 1 rfl) ?_
    refine lv_aload_n hx hb dX6_readEvent_45 rfl (lv_at hl 1 rfl) ?_
    refine va_get (D := D) (ci := 6) (v := .int ((x_T2 sg L a).2.2)) (C := RX6) (T := TX6) (N := 11) hx hb hts u6 hown hK hP 0 rfl rfl 3 (by decide) k1 (fun _ h9 => h9) rfl dX6_readEvent_46 ?_
    refine va_put (D := D) (ci := 6) (v := .int ((x_T2 sg L a).2.2)) (ty := .int) (C := RX6) (T := TX6) (N := 11) hx hb hts u6 tyX6 tyX6_ok nmX6 hown hK hP hD hS 0 rfl rfl 5 (by decide) k3 (fun _ h9 => h9) rfl (by decide +kernel) rfl rfl (Nat.le_of_ble_eq_true rfl) dX6_readEvent_49 (fun H locs hP hD hS => ?_)
    have hP : va_P D vwCl (wX I C x0 x1 sg (nI L) (nI (x_T2 sg L a).2.1) ((x_T2 sg L a).2.2) (x_Z sg L a) ((x_T2 sg L a).2.2) xk xa xe xf xr) H := hP
    have hD : va_D A (wX I C x0 x1 sg (nI L) (nI (x_T2 sg L a).2.1) ((x_T2 sg L a).2.2) (x_Z sg L a) ((x_T2 sg L a).2.2) xk xa xe xf xr) := hD
    refine lv_iload_n hx hb dX6_readEvent_52 rfl (lv_at hl 0 rfl) ?_
    refine lv_if_eq (tgt := 76) hx hb dX6_readEvent_53 (by decide) (fun c_53 => ?_) (fun c_53 => ?_)
    · refine lv_iconst (v := 0) hx hb dX6_readEvent_76 (by decide) ?_
      have hT3 : x_T3 sg L a = (0, ((x_T2 sg L a).2.1), (x_T2 sg L a).2.2) := by simp +decide only [x_T3_eq, x_st, hf2, if_true, if_false, not_true_eq_false, not_false_eq_true, and_self, and_true, true_and, and_false, false_and, kn01, kn10, kn02, kn20, kn12, kn21, eq_self]
      have hf3 : (x_T3 sg L a).1 = 0 := by rw [hT3]
      have hP : va_P D vwCl (wX I C x0 x1 sg (nI L) (nI (x_T3 sg L a).2.1) ((x_T3 sg L a).2.2) (x_Z sg L a) ((x_T2 sg L a).2.2) xk xa xe xf xr) H := by rw [hT3]; exact hP
      have hD : va_D A (wX I C x0 x1 sg (nI L) (nI (x_T3 sg L a).2.1) ((x_T3 sg L a).2.2) (x_Z sg L a) ((x_T2 sg L a).2.2) xk xa xe xf xr) := by rw [hT3]; exact hD
      refine lv_istore_n (lv' := [(2, .int 0), (0, .ref x0), (1, .int (nI a))]) hx hb dX6_readEvent_77 rfl hl (by decide) rfl (fun ls hl => ?_)
      refine lv_aload_n hx hb dX6_readEvent_78 rfl (lv_at hl 1 rfl) ?_
      refine lv_aload_n hx hb dX6_readEvent_79 rfl (lv_at hl 1 rfl) ?_
      refine va_get (D := D) (ci := 6) (v := .int ((x_T3 sg L a).2.2)) (C := RX6) (T := TX6) (N := 11) hx hb hts u6 hown hK hP 0 rfl rfl 3 (by decide) k1 (fun _ h9 => h9) rfl dX6_readEvent_80 ?_
      refine va_put (D := D) (ci := 6) (v := .int ((x_T3 sg L a).2.2)) (ty := .int) (C := RX6) (T := TX6) (N := 11) hx hb hts u6 tyX6 tyX6_ok nmX6 hown hK hP hD hS 0 rfl rfl 6 (by decide) k4 (fun _ h9 => h9) rfl (by decide +kernel) rfl rfl (Nat.le_of_ble_eq_true rfl) dX6_readEvent_83 (fun H locs hP hD hS => ?_)
      have hP : va_P D vwCl (wX I C x0 x1 sg (nI L) (nI (x_T3 sg L a).2.1) ((x_T3 sg L a).2.2) (x_Z sg L a) ((x_T2 sg L a).2.2) ((x_T3 sg L a).2.2) xa xe xf xr) H := hP
      have hD : va_D A (wX I C x0 x1 sg (nI L) (nI (x_T3 sg L a).2.1) ((x_T3 sg L a).2.2) (x_Z sg L a) ((x_T2 sg L a).2.2) ((x_T3 sg L a).2.2) xa xe xf xr) := hD
      refine lv_iload_n hx hb dX6_readEvent_86 rfl (lv_at hl 0 rfl) ?_
      refine lv_if_eq (tgt := 103) hx hb dX6_readEvent_87 (by decide) (fun c_87 => ?_) (fun c_87 => ?_)
      · refine lv_iconst (v := 0) hx hb dX6_readEvent_103 (by decide) ?_
        have hT4 : x_T4 sg L a = (0, ((x_T3 sg L a).2.1), (x_T3 sg L a).2.2) := by simp +decide only [x_T4_eq, x_cm, hf3, if_true, if_false, not_true_eq_false, not_false_eq_true, and_self, and_true, true_and, and_false, false_and, kn01, kn10, kn02, kn20, kn12, kn21, eq_self]
        have hf4 : (x_T4 sg L a).1 = 0 := by rw [hT4]
        have hP : va_P D vwCl (wX I C x0 x1 sg (nI L) (nI (x_T4 sg L a).2.1) ((x_T4 sg L a).2.2) (x_Z sg L a) ((x_T2 sg L a).2.2) ((x_T3 sg L a).2.2) xa xe xf xr) H := by rw [hT4]; exact hP
        have hD : va_D A (wX I C x0 x1 sg (nI L) (nI (x_T4 sg L a).2.1) ((x_T4 sg L a).2.2) (x_Z sg L a) ((x_T2 sg L a).2.2) ((x_T3 sg L a).2.2) xa xe xf xr) := by rw [hT4]; exact hD
        refine lv_istore_n (lv' := [(2, .int 0), (0, .ref x0), (1, .int (nI a))]) hx hb dX6_readEvent_104 rfl hl (by decide) rfl (fun ls hl => ?_)
        refine lv_aload_n hx hb dX6_readEvent_105 rfl (lv_at hl 1 rfl) ?_
        refine lv_bipush (v := 45) hx hb dX6_readEvent_106 (by decide) ?_
        refine k_iF (va_runV (As := [.int 45]) (rest := []) hF (c_X6_readSign l D I C Q x0 x1 sg L ((x_T4 sg L a).2.1) ((x_T4 sg L a).2.2) (x_Z sg L a) ((x_T2 sg L a).2.2) ((x_T3 sg L a).2.2) xa xe xf xr 45 hL (k_le2 (a := a) (c := 15) (x_T4b sg L a) ha (by decide)) hsg _) (cwV 1 hts gX6_readEvent_X6_readSign rfl rfl rfl (by decide +kernel) ⟨Nat.le_of_ble_eq_true rfl, Nat.le_of_ble_eq_true rfl⟩) (kPreV hE hP hD (ci := 6) (q0 := 0) rfl rfl) rfl rfl hl.1 rfl (lv_room (Nat.le_of_ble_eq_true rfl)) dX6_readEvent_108 ⟨Nat.zero_le _, Nat.zero_le _⟩) hD hS hA (fun H locs hP hD hS => ?_)
        have hP : va_P D vwCl (wX I C x0 x1 sg (nI L) (nI (x_ra sg L ((x_T4 sg L a).2.1) 45)) ((x_T4 sg L a).2.2) (x_Z sg L a) ((x_T2 sg L a).2.2) ((x_T3 sg L a).2.2) xa xe xf xr) H := hP
        have hD : va_D A (wX I C x0 x1 sg (nI L) (nI (x_ra sg L ((x_T4 sg L a).2.1) 45)) ((x_T4 sg L a).2.2) (x_Z sg L a) ((x_T2 sg L a).2.2) ((x_T3 sg L a).2.2) xa xe xf xr) := hD
        refine lv_istore_n (lv' := [(3, .int (x_rs sg L ((x_T4 sg L a).2.1) 45)), (2, .int 0), (0, .ref x0), (1, .int (nI a))]) hx hb dX6_readEvent_111 rfl hl (by decide) rfl (fun ls hl => ?_)
        refine lv_iload_n hx hb dX6_readEvent_112 rfl (lv_at hl 1 rfl) ?_
        refine lv_if_eq (tgt := 127) hx hb dX6_readEvent_113 (by decide) (fun c_113 => ?_) (fun c_113 => ?_)
        · refine lv_iconst (v := 0) hx hb dX6_readEvent_127 (by decide) ?_
          have hT5 : x_T5 sg L a = (0, (x_ra sg L ((x_T4 sg L a).2.1) 45), (x_T4 sg L a).2.2) := by simp +decide only [x_T5_eq, x_nm, hf4, if_true, if_false, not_true_eq_false, not_false_eq_true, and_self, and_true, true_and, and_false, false_and, kn01, kn10, kn02, kn20, kn12, kn21, eq_self]
          have hf5 : (x_T5 sg L a).1 = 0 := by rw [hT5]
          have hP : va_P D vwCl (wX I C x0 x1 sg (nI L) (nI (x_T5 sg L a).2.1) ((x_T5 sg L a).2.2) (x_Z sg L a) ((x_T2 sg L a).2.2) ((x_T3 sg L a).2.2) xa xe xf xr) H := by rw [hT5]; exact hP
          have hD : va_D A (wX I C x0 x1 sg (nI L) (nI (x_T5 sg L a).2.1) ((x_T5 sg L a).2.2) (x_Z sg L a) ((x_T2 sg L a).2.2) ((x_T3 sg L a).2.2) xa xe xf xr) := by rw [hT5]; exact hD
          refine lv_istore_n (lv' := [(2, .int 0), (3, .int (x_rs sg L ((x_T4 sg L a).2.1) 45)), (0, .ref x0), (1, .int (nI a))]) hx hb dX6_readEvent_128 rfl hl (by decide) rfl (fun ls hl => ?_)
          refine lv_aload_n hx hb dX6_readEvent_129 rfl (lv_at hl 2 rfl) ?_
          refine lv_iload_n hx hb dX6_readEvent_130 rfl (lv_at hl 1 rfl) ?_
          refine lv_if_eq (tgt := 142) hx hb dX6_readEvent_131 (by decide) (fun c_131 => ?_) (fun c_131 => ?_)
          · refine lv_aload_n hx hb dX6_readEvent_142 rfl (lv_at hl 2 rfl) ?_
            refine va_get (D := D) (ci := 6) (v := .int ((x_T5 sg L a).2.2)) (C := RX6) (T := TX6) (N := 11) hx hb hts u6 hown hK hP 0 rfl rfl 3 (by decide) k1 (fun _ h9 => h9) rfl dX6_readEvent_143 ?_
            refine va_put (D := D) (ci := 6) (v := .int ((x_T5 sg L a).2.2)) (ty := .int) (C := RX6) (T := TX6) (N := 11) hx hb hts u6 tyX6 tyX6_ok nmX6 hown hK hP hD hS 0 rfl rfl 7 (by decide) k5 (fun _ h9 => h9) rfl (by decide +kernel) rfl rfl (Nat.le_of_ble_eq_true rfl) dX6_readEvent_146 (fun H locs hP hD hS => ?_)
            have hP : va_P D vwCl (wX I C x0 x1 sg (nI L) (nI (x_T5 sg L a).2.1) ((x_T5 sg L a).2.2) (x_Z sg L a) ((x_T2 sg L a).2.2) ((x_T3 sg L a).2.2) ((x_T5 sg L a).2.2) xe xf xr) H := hP
            have hD : va_D A (wX I C x0 x1 sg (nI L) (nI (x_T5 sg L a).2.1) ((x_T5 sg L a).2.2) (x_Z sg L a) ((x_T2 sg L a).2.2) ((x_T3 sg L a).2.2) ((x_T5 sg L a).2.2) xe xf xr) := hD
            have hP : va_P D vwCl (wX I C x0 x1 sg (nI L) (nI (x_T5 sg L a).2.1) ((x_T5 sg L a).2.2) (x_Z sg L a) ((x_T2 sg L a).2.2) ((x_T3 sg L a).2.2) (x_am sg L a) xe xf xr) H := by rw [x_am_eq, x_ng_eq, if_pos c_131]; exact hP
            have hD : va_D A (wX I C x0 x1 sg (nI L) (nI (x_T5 sg L a).2.1) ((x_T5 sg L a).2.2) (x_Z sg L a) ((x_T2 sg L a).2.2) ((x_T3 sg L a).2.2) (x_am sg L a) xe xf xr) := by rw [x_am_eq, x_ng_eq, if_pos c_131]; exact hD
            refine lv_aload_n hx hb dX6_readEvent_149 rfl (lv_at hl 2 rfl) ?_
            refine lv_aload_n hx hb dX6_readEvent_150 rfl (lv_at hl 2 rfl) ?_
            refine k_iF (va_runV (As := []) (rest := [.ref x0]) hF (c_X6_readExcuse l D I C Q x0 x1 sg L ((x_T5 sg L a).2.1) ((x_T5 sg L a).2.2) (x_Z sg L a) ((x_T2 sg L a).2.2) ((x_T3 sg L a).2.2) (x_am sg L a) xe xf xr hL (k_le9 (a := a) (c := 20) (x_T5b sg L a) ha (by decide)) hsg _) (cwV 0 hts gX6_readEvent_X6_readExcuse rfl rfl rfl (by decide +kernel) ⟨Nat.le_of_ble_eq_true rfl, Nat.le_of_ble_eq_true rfl⟩) (kPreV hE hP hD (ci := 6) (q0 := 0) rfl rfl) rfl rfl hl.1 rfl (lv_room (Nat.le_of_ble_eq_true rfl)) dX6_readEvent_151 ⟨Nat.zero_le _, Nat.zero_le _⟩) hD hS hA (fun H locs hP hD hS => ?_)
            have hP : va_P D vwCl (wX I C x0 x1 sg (nI L) (nI (x_XA sg L ((x_T5 sg L a).2.1))) ((x_T5 sg L a).2.2) (x_Z sg L a) ((x_T2 sg L a).2.2) ((x_T3 sg L a).2.2) (x_am sg L a) xe xf xr) H := hP
            have hD : va_D A (wX I C x0 x1 sg (nI L) (nI (x_XA sg L ((x_T5 sg L a).2.1))) ((x_T5 sg L a).2.2) (x_Z sg L a) ((x_T2 sg L a).2.2) ((x_T3 sg L a).2.2) (x_am sg L a) xe xf xr) := hD
            refine va_put (D := D) (ci := 6) (v := .int (x_X sg L ((x_T5 sg L a).2.1))) (ty := .int) (C := RX6) (T := TX6) (N := 11) hx hb hts u6 tyX6 tyX6_ok nmX6 hown hK hP hD hS 0 rfl rfl 8 (by decide) k6 (fun _ h9 => h9) rfl (by decide +kernel) rfl rfl (Nat.le_of_ble_eq_true rfl) dX6_readEvent_154 (fun H locs hP hD hS => ?_)
            have hP : va_P D vwCl (wX I C x0 x1 sg (nI L) (nI (x_XA sg L ((x_T5 sg L a).2.1))) ((x_T5 sg L a).2.2) (x_Z sg L a) ((x_T2 sg L a).2.2) ((x_T3 sg L a).2.2) (x_am sg L a) (x_X sg L ((x_T5 sg L a).2.1)) xf xr) H := hP
            have hD : va_D A (wX I C x0 x1 sg (nI L) (nI (x_XA sg L ((x_T5 sg L a).2.1))) ((x_T5 sg L a).2.2) (x_Z sg L a) ((x_T2 sg L a).2.2) ((x_T3 sg L a).2.2) (x_am sg L a) (x_X sg L ((x_T5 sg L a).2.1)) xf xr) := hD
            refine lv_iload_n hx hb dX6_readEvent_157 rfl (lv_at hl 0 rfl) ?_
            refine lv_if_eq (tgt := 177) hx hb dX6_readEvent_158 (by decide) (fun c_158 => ?_) (fun c_158 => ?_)
            · refine lv_iconst (v := (-1)) hx hb dX6_readEvent_177 (by decide) ?_
              exact hend _ _ _ _ _ _ hP hD hS dX6_readEvent_178 rfl (by simp +decide only [x_J, x_en_eq, x_aX_eq, x_ex_eq, x_T1_eq, hf5, if_true, if_false, not_true_eq_false, not_false_eq_true, and_self, and_true, true_and, and_false, false_and, kn01, kn10, kn02, kn20, kn12, kn21, eq_self]) (by simp +decide only [x_r, x_eo_eq, x_en_eq, x_aX_eq, hf5, if_true, if_false, not_true_eq_false, not_false_eq_true, and_self, and_true, true_and, and_false, false_and, kn01, kn10, kn02, kn20, kn12, kn21, eq_self])
            · exact (c_158 (by decide)).elim
          · refine lv_aload_n hx hb dX6_readEvent_134 rfl (lv_at hl 2 rfl) ?_
            refine va_get (D := D) (ci := 6) (v := .int ((x_T5 sg L a).2.2)) (C := RX6) (T := TX6) (N := 11) hx hb hts u6 hown hK hP 0 rfl rfl 3 (by decide) k1 (fun _ h9 => h9) rfl dX6_readEvent_135 ?_
            refine lv_ineg hx hb dX6_readEvent_138 ?_
            refine lv_goto (tgt := 146) hx hb dX6_readEvent_139 (by decide) ?_
            refine va_put (D := D) (ci := 6) (v := .int (-((x_T5 sg L a).2.2))) (ty := .int) (C := RX6) (T := TX6) (N := 11) hx hb hts u6 tyX6 tyX6_ok nmX6 hown hK hP hD hS 0 rfl rfl 7 (by decide) k5 (fun _ h9 => h9) rfl (by decide +kernel) rfl rfl (Nat.le_of_ble_eq_true rfl) dX6_readEvent_146 (fun H locs hP hD hS => ?_)
            have hP : va_P D vwCl (wX I C x0 x1 sg (nI L) (nI (x_T5 sg L a).2.1) ((x_T5 sg L a).2.2) (x_Z sg L a) ((x_T2 sg L a).2.2) ((x_T3 sg L a).2.2) (-((x_T5 sg L a).2.2)) xe xf xr) H := hP
            have hD : va_D A (wX I C x0 x1 sg (nI L) (nI (x_T5 sg L a).2.1) ((x_T5 sg L a).2.2) (x_Z sg L a) ((x_T2 sg L a).2.2) ((x_T3 sg L a).2.2) (-((x_T5 sg L a).2.2)) xe xf xr) := hD
            have hP : va_P D vwCl (wX I C x0 x1 sg (nI L) (nI (x_T5 sg L a).2.1) ((x_T5 sg L a).2.2) (x_Z sg L a) ((x_T2 sg L a).2.2) ((x_T3 sg L a).2.2) (x_am sg L a) xe xf xr) H := by rw [x_am_eq, x_ng_eq, if_neg c_131]; exact hP
            have hD : va_D A (wX I C x0 x1 sg (nI L) (nI (x_T5 sg L a).2.1) ((x_T5 sg L a).2.2) (x_Z sg L a) ((x_T2 sg L a).2.2) ((x_T3 sg L a).2.2) (x_am sg L a) xe xf xr) := by rw [x_am_eq, x_ng_eq, if_neg c_131]; exact hD
            refine lv_aload_n hx hb dX6_readEvent_149 rfl (lv_at hl 2 rfl) ?_
            refine lv_aload_n hx hb dX6_readEvent_150 rfl (lv_at hl 2 rfl) ?_
            refine k_iF (va_runV (As := []) (rest := [.ref x0]) hF (c_X6_readExcuse l D I C Q x0 x1 sg L ((x_T5 sg L a).2.1) ((x_T5 sg L a).2.2) (x_Z sg L a) ((x_T2 sg L a).2.2) ((x_T3 sg L a).2.2) (x_am sg L a) xe xf xr hL (k_le9 (a := a) (c := 20) (x_T5b sg L a) ha (by decide)) hsg _) (cwV 0 hts gX6_readEvent_X6_readExcuse rfl rfl rfl (by decide +kernel) ⟨Nat.le_of_ble_eq_true rfl, Nat.le_of_ble_eq_true rfl⟩) (kPreV hE hP hD (ci := 6) (q0 := 0) rfl rfl) rfl rfl hl.1 rfl (lv_room (Nat.le_of_ble_eq_true rfl)) dX6_readEvent_151 ⟨Nat.zero_le _, Nat.zero_le _⟩) hD hS hA (fun H locs hP hD hS => ?_)
            have hP : va_P D vwCl (wX I C x0 x1 sg (nI L) (nI (x_XA sg L ((x_T5 sg L a).2.1))) ((x_T5 sg L a).2.2) (x_Z sg L a) ((x_T2 sg L a).2.2) ((x_T3 sg L a).2.2) (x_am sg L a) xe xf xr) H := hP
            have hD : va_D A (wX I C x0 x1 sg (nI L) (nI (x_XA sg L ((x_T5 sg L a).2.1))) ((x_T5 sg L a).2.2) (x_Z sg L a) ((x_T2 sg L a).2.2) ((x_T3 sg L a).2.2) (x_am sg L a) xe xf xr) := hD
            refine va_put (D := D) (ci := 6) (v := .int (x_X sg L ((x_T5 sg L a).2.1))) (ty := .int) (C := RX6) (T := TX6) (N := 11) hx hb hts u6 tyX6 tyX6_ok nmX6 hown hK hP hD hS 0 rfl rfl 8 (by decide) k6 (fun _ h9 => h9) rfl (by decide +kernel) rfl rfl (Nat.le_of_ble_eq_true rfl) dX6_readEvent_154 (fun H locs hP hD hS => ?_)
            have hP : va_P D vwCl (wX I C x0 x1 sg (nI L) (nI (x_XA sg L ((x_T5 sg L a).2.1))) ((x_T5 sg L a).2.2) (x_Z sg L a) ((x_T2 sg L a).2.2) ((x_T3 sg L a).2.2) (x_am sg L a) (x_X sg L ((x_T5 sg L a).2.1)) xf xr) H := hP
            have hD : va_D A (wX I C x0 x1 sg (nI L) (nI (x_XA sg L ((x_T5 sg L a).2.1))) ((x_T5 sg L a).2.2) (x_Z sg L a) ((x_T2 sg L a).2.2) ((x_T3 sg L a).2.2) (x_am sg L a) (x_X sg L ((x_T5 sg L a).2.1)) xf xr) := hD
            refine lv_iload_n hx hb dX6_readEvent_157 rfl (lv_at hl 0 rfl) ?_
            refine lv_if_eq (tgt := 177) hx hb dX6_readEvent_158 (by decide) (fun c_158 => ?_) (fun c_158 => ?_)
            · refine lv_iconst (v := (-1)) hx hb dX6_readEvent_177 (by decide) ?_
              exact hend _ _ _ _ _ _ hP hD hS dX6_readEvent_178 rfl (by simp +decide only [x_J, x_en_eq, x_aX_eq, x_ex_eq, x_T1_eq, hf5, if_true, if_false, not_true_eq_false, not_false_eq_true, and_self, and_true, true_and, and_false, false_and, kn01, kn10, kn02, kn20, kn12, kn21, eq_self]) (by simp +decide only [x_r, x_eo_eq, x_en_eq, x_aX_eq, hf5, if_true, if_false, not_true_eq_false, not_false_eq_true, and_self, and_true, true_and, and_false, false_and, kn01, kn10, kn02, kn20, kn12, kn21, eq_self])
            · exact (c_158 (by decide)).elim
        · exact (c_113 (by decide)).elim
      · exact (c_87 (by decide)).elim
    · exact (c_53 (by decide)).elim
  · refine lv_aload_n hx hb dX6_readEvent_22 rfl (lv_at hl 1 rfl) ?_
    refine lv_bipush (v := 44) hx hb dX6_readEvent_23 (by decide) ?_
    refine k_iF (va_runV (As := [.int 44]) (rest := []) hF (c_X6_readSign l D I C Q x0 x1 sg L (x_A sg L a) (x_Z sg L a) (x_Z sg L a) xt xk xa xe xf xr 44 hL (k_le2 (a := a) (c := 4) (x_A_le sg L a) ha (by decide)) hsg _) (cwV 1 hts gX6_readEvent_X6_readSign rfl rfl rfl (by decide +kernel) ⟨Nat.le_of_ble_eq_true rfl, Nat.le_of_ble_eq_true rfl⟩) (kPreV hE hP hD (ci := 6) (q0 := 0) rfl rfl) rfl rfl hl.1 rfl (lv_room (Nat.le_of_ble_eq_true rfl)) dX6_readEvent_25 ⟨Nat.zero_le _, Nat.zero_le _⟩) hD hS hA (fun H locs hP hD hS => ?_)
    have hP : va_P D vwCl (wX I C x0 x1 sg (nI L) (nI (x_ra sg L (x_A sg L a) 44)) (x_Z sg L a) (x_Z sg L a) xt xk xa xe xf xr) H := hP
    have hD : va_D A (wX I C x0 x1 sg (nI L) (nI (x_ra sg L (x_A sg L a) 44)) (x_Z sg L a) (x_Z sg L a) xt xk xa xe xf xr) := hD
    refine lv_if_eq (tgt := 42) hx hb dX6_readEvent_28 (by decide) (fun c_28 => ?_) (fun c_28 => ?_)
    · refine lv_iconst (v := 0) hx hb dX6_readEvent_42 (by decide) ?_
      have hT2 : x_T2 sg L a = (0, (x_ra sg L (x_A sg L a) 44), x_Z sg L a) := by simp +decide only [x_T2_eq, x_st, x_T1_eq, c_19, c_28, if_true, if_false, not_true_eq_false, not_false_eq_true, and_self, and_true, true_and, and_false, false_and, kn01, kn10, kn02, kn20, kn12, kn21, eq_self]
      have hf2 : (x_T2 sg L a).1 = 0 := by rw [hT2]
      have hP : va_P D vwCl (wX I C x0 x1 sg (nI L) (nI (x_T2 sg L a).2.1) ((x_T2 sg L a).2.2) (x_Z sg L a) xt xk xa xe xf xr) H := by rw [hT2]; exact hP
      have hD : va_D A (wX I C x0 x1 sg (nI L) (nI (x_T2 sg L a).2.1) ((x_T2 sg L a).2.2) (x_Z sg L a) xt xk xa xe xf xr) := by rw [hT2]; exact hD
      refine lv_istore_n (lv' := [(2, .int 0), (0, .ref x0), (1, .int (nI a))]) hx hb dX6_readEvent_43 rfl hl (by decide) rfl (fun ls hl => ?_)
      refine lv_aload_n hx hb dX6_readEvent_44 rfl (lv_at hl 1 rfl) ?_
      refine lv_aload_n hx hb dX6_readEvent_45 rfl (lv_at hl 1 rfl) ?_
      refine va_get (D := D) (ci := 6) (v := .int ((x_T2 sg L a).2.2)) (C := RX6) (T := TX6) (N := 11) hx hb hts u6 hown hK hP 0 rfl rfl 3 (by decide) k1 (fun _ h9 => h9) rfl dX6_readEvent_46 ?_
      refine va_put (D := D) (ci := 6) (v := .int ((x_T2 sg L a).2.2)) (ty := .int) (C := RX6) (T := TX6) (N := 11) hx hb hts u6 tyX6 tyX6_ok nmX6 hown hK hP hD hS 0 rfl rfl 5 (by decide) k3 (fun _ h9 => h9) rfl (by decide +kernel) rfl rfl (Nat.le_of_ble_eq_true rfl) dX6_readEvent_49 (fun H locs hP hD hS => ?_)
      have hP : va_P D vwCl (wX I C x0 x1 sg (nI L) (nI (x_T2 sg L a).2.1) ((x_T2 sg L a).2.2) (x_Z sg L a) ((x_T2 sg L a).2.2) xk xa xe xf xr) H := hP
      have hD : va_D A (wX I C x0 x1 sg (nI L) (nI (x_T2 sg L a).2.1) ((x_T2 sg L a).2.2) (x_Z sg L a) ((x_T2 sg L a).2.2) xk xa xe xf xr) := hD
      refine lv_iload_n hx hb dX6_readEvent_52 rfl (lv_at hl 0 rfl) ?_
      refine lv_if_eq (tgt := 76) hx hb dX6_readEvent_53 (by decide) (fun c_53 => ?_) (fun c_53 => ?_)
      · refine lv_iconst (v := 0) hx hb dX6_readEvent_76 (by decide) ?_
        have hT3 : x_T3 sg L a = (0, ((x_T2 sg L a).2.1), (x_T2 sg L a).2.2) := by simp +decide only [x_T3_eq, x_st, hf2, if_true, if_false, not_true_eq_false, not_false_eq_true, and_self, and_true, true_and, and_false, false_and, kn01, kn10, kn02, kn20, kn12, kn21, eq_self]
        have hf3 : (x_T3 sg L a).1 = 0 := by rw [hT3]
        have hP : va_P D vwCl (wX I C x0 x1 sg (nI L) (nI (x_T3 sg L a).2.1) ((x_T3 sg L a).2.2) (x_Z sg L a) ((x_T2 sg L a).2.2) xk xa xe xf xr) H := by rw [hT3]; exact hP
        have hD : va_D A (wX I C x0 x1 sg (nI L) (nI (x_T3 sg L a).2.1) ((x_T3 sg L a).2.2) (x_Z sg L a) ((x_T2 sg L a).2.2) xk xa xe xf xr) := by rw [hT3]; exact hD
        refine lv_istore_n (lv' := [(2, .int 0), (0, .ref x0), (1, .int (nI a))]) hx hb dX6_readEvent_77 rfl hl (by decide) rfl (fun ls hl => ?_)
        refine lv_aload_n hx hb dX6_readEvent_78 rfl (lv_at hl 1 rfl) ?_
        refine lv_aload_n hx hb dX6_readEvent_79 rfl (lv_at hl 1 rfl) ?_
        refine va_get (D := D) (ci := 6) (v := .int ((x_T3 sg L a).2.2)) (C := RX6) (T := TX6) (N := 11) hx hb hts u6 hown hK hP 0 rfl rfl 3 (by decide) k1 (fun _ h9 => h9) rfl dX6_readEvent_80 ?_
        refine va_put (D := D) (ci := 6) (v := .int ((x_T3 sg L a).2.2)) (ty := .int) (C := RX6) (T := TX6) (N := 11) hx hb hts u6 tyX6 tyX6_ok nmX6 hown hK hP hD hS 0 rfl rfl 6 (by decide) k4 (fun _ h9 => h9) rfl (by decide +kernel) rfl rfl (Nat.le_of_ble_eq_true rfl) dX6_readEvent_83 (fun H locs hP hD hS => ?_)
        have hP : va_P D vwCl (wX I C x0 x1 sg (nI L) (nI (x_T3 sg L a).2.1) ((x_T3 sg L a).2.2) (x_Z sg L a) ((x_T2 sg L a).2.2) ((x_T3 sg L a).2.2) xa xe xf xr) H := hP
        have hD : va_D A (wX I C x0 x1 sg (nI L) (nI (x_T3 sg L a).2.1) ((x_T3 sg L a).2.2) (x_Z sg L a) ((x_T2 sg L a).2.2) ((x_T3 sg L a).2.2) xa xe xf xr) := hD
        refine lv_iload_n hx hb dX6_readEvent_86 rfl (lv_at hl 0 rfl) ?_
        refine lv_if_eq (tgt := 103) hx hb dX6_readEvent_87 (by decide) (fun c_87 => ?_) (fun c_87 => ?_)
        · refine lv_iconst (v := 0) hx hb dX6_readEvent_103 (by decide) ?_
          have hT4 : x_T4 sg L a = (0, ((x_T3 sg L a).2.1), (x_T3 sg L a).2.2) := by simp +decide only [x_T4_eq, x_cm, hf3, if_true, if_false, not_true_eq_false, not_false_eq_true, and_self, and_true, true_and, and_false, false_and, kn01, kn10, kn02, kn20, kn12, kn21, eq_self]
          have hf4 : (x_T4 sg L a).1 = 0 := by rw [hT4]
          have hP : va_P D vwCl (wX I C x0 x1 sg (nI L) (nI (x_T4 sg L a).2.1) ((x_T4 sg L a).2.2) (x_Z sg L a) ((x_T2 sg L a).2.2) ((x_T3 sg L a).2.2) xa xe xf xr) H := by rw [hT4]; exact hP
          have hD : va_D A (wX I C x0 x1 sg (nI L) (nI (x_T4 sg L a).2.1) ((x_T4 sg L a).2.2) (x_Z sg L a) ((x_T2 sg L a).2.2) ((x_T3 sg L a).2.2) xa xe xf xr) := by rw [hT4]; exact hD
          refine lv_istore_n (lv' := [(2, .int 0), (0, .ref x0), (1, .int (nI a))]) hx hb dX6_readEvent_104 rfl hl (by decide) rfl (fun ls hl => ?_)
          refine lv_aload_n hx hb dX6_readEvent_105 rfl (lv_at hl 1 rfl) ?_
          refine lv_bipush (v := 45) hx hb dX6_readEvent_106 (by decide) ?_
          refine k_iF (va_runV (As := [.int 45]) (rest := []) hF (c_X6_readSign l D I C Q x0 x1 sg L ((x_T4 sg L a).2.1) ((x_T4 sg L a).2.2) (x_Z sg L a) ((x_T2 sg L a).2.2) ((x_T3 sg L a).2.2) xa xe xf xr 45 hL (k_le2 (a := a) (c := 15) (x_T4b sg L a) ha (by decide)) hsg _) (cwV 1 hts gX6_readEvent_X6_readSign rfl rfl rfl (by decide +kernel) ⟨Nat.le_of_ble_eq_true rfl, Nat.le_of_ble_eq_true rfl⟩) (kPreV hE hP hD (ci := 6) (q0 := 0) rfl rfl) rfl rfl hl.1 rfl (lv_room (Nat.le_of_ble_eq_true rfl)) dX6_readEvent_108 ⟨Nat.zero_le _, Nat.zero_le _⟩) hD hS hA (fun H locs hP hD hS => ?_)
          have hP : va_P D vwCl (wX I C x0 x1 sg (nI L) (nI (x_ra sg L ((x_T4 sg L a).2.1) 45)) ((x_T4 sg L a).2.2) (x_Z sg L a) ((x_T2 sg L a).2.2) ((x_T3 sg L a).2.2) xa xe xf xr) H := hP
          have hD : va_D A (wX I C x0 x1 sg (nI L) (nI (x_ra sg L ((x_T4 sg L a).2.1) 45)) ((x_T4 sg L a).2.2) (x_Z sg L a) ((x_T2 sg L a).2.2) ((x_T3 sg L a).2.2) xa xe xf xr) := hD
          refine lv_istore_n (lv' := [(3, .int (x_rs sg L ((x_T4 sg L a).2.1) 45)), (2, .int 0), (0, .ref x0), (1, .int (nI a))]) hx hb dX6_readEvent_111 rfl hl (by decide) rfl (fun ls hl => ?_)
          refine lv_iload_n hx hb dX6_readEvent_112 rfl (lv_at hl 1 rfl) ?_
          refine lv_if_eq (tgt := 127) hx hb dX6_readEvent_113 (by decide) (fun c_113 => ?_) (fun c_113 => ?_)
          · refine lv_iconst (v := 0) hx hb dX6_readEvent_127 (by decide) ?_
            have hT5 : x_T5 sg L a = (0, (x_ra sg L ((x_T4 sg L a).2.1) 45), (x_T4 sg L a).2.2) := by simp +decide only [x_T5_eq, x_nm, hf4, if_true, if_false, not_true_eq_false, not_false_eq_true, and_self, and_true, true_and, and_false, false_and, kn01, kn10, kn02, kn20, kn12, kn21, eq_self]
            have hf5 : (x_T5 sg L a).1 = 0 := by rw [hT5]
            have hP : va_P D vwCl (wX I C x0 x1 sg (nI L) (nI (x_T5 sg L a).2.1) ((x_T5 sg L a).2.2) (x_Z sg L a) ((x_T2 sg L a).2.2) ((x_T3 sg L a).2.2) xa xe xf xr) H := by rw [hT5]; exact hP
            have hD : va_D A (wX I C x0 x1 sg (nI L) (nI (x_T5 sg L a).2.1) ((x_T5 sg L a).2.2) (x_Z sg L a) ((x_T2 sg L a).2.2) ((x_T3 sg L a).2.2) xa xe xf xr) := by rw [hT5]; exact hD
            refine lv_istore_n (lv' := [(2, .int 0), (3, .int (x_rs sg L ((x_T4 sg L a).2.1) 45)), (0, .ref x0), (1, .int (nI a))]) hx hb dX6_readEvent_128 rfl hl (by decide) rfl (fun ls hl => ?_)
            refine lv_aload_n hx hb dX6_readEvent_129 rfl (lv_at hl 2 rfl) ?_
            refine lv_iload_n hx hb dX6_readEvent_130 rfl (lv_at hl 1 rfl) ?_
            refine lv_if_eq (tgt := 142) hx hb dX6_readEvent_131 (by decide) (fun c_131 => ?_) (fun c_131 => ?_)
            · refine lv_aload_n hx hb dX6_readEvent_142 rfl (lv_at hl 2 rfl) ?_
              refine va_get (D := D) (ci := 6) (v := .int ((x_T5 sg L a).2.2)) (C := RX6) (T := TX6) (N := 11) hx hb hts u6 hown hK hP 0 rfl rfl 3 (by decide) k1 (fun _ h9 => h9) rfl dX6_readEvent_143 ?_
              refine va_put (D := D) (ci := 6) (v := .int ((x_T5 sg L a).2.2)) (ty := .int) (C := RX6) (T := TX6) (N := 11) hx hb hts u6 tyX6 tyX6_ok nmX6 hown hK hP hD hS 0 rfl rfl 7 (by decide) k5 (fun _ h9 => h9) rfl (by decide +kernel) rfl rfl (Nat.le_of_ble_eq_true rfl) dX6_readEvent_146 (fun H locs hP hD hS => ?_)
              have hP : va_P D vwCl (wX I C x0 x1 sg (nI L) (nI (x_T5 sg L a).2.1) ((x_T5 sg L a).2.2) (x_Z sg L a) ((x_T2 sg L a).2.2) ((x_T3 sg L a).2.2) ((x_T5 sg L a).2.2) xe xf xr) H := hP
              have hD : va_D A (wX I C x0 x1 sg (nI L) (nI (x_T5 sg L a).2.1) ((x_T5 sg L a).2.2) (x_Z sg L a) ((x_T2 sg L a).2.2) ((x_T3 sg L a).2.2) ((x_T5 sg L a).2.2) xe xf xr) := hD
              have hP : va_P D vwCl (wX I C x0 x1 sg (nI L) (nI (x_T5 sg L a).2.1) ((x_T5 sg L a).2.2) (x_Z sg L a) ((x_T2 sg L a).2.2) ((x_T3 sg L a).2.2) (x_am sg L a) xe xf xr) H := by rw [x_am_eq, x_ng_eq, if_pos c_131]; exact hP
              have hD : va_D A (wX I C x0 x1 sg (nI L) (nI (x_T5 sg L a).2.1) ((x_T5 sg L a).2.2) (x_Z sg L a) ((x_T2 sg L a).2.2) ((x_T3 sg L a).2.2) (x_am sg L a) xe xf xr) := by rw [x_am_eq, x_ng_eq, if_pos c_131]; exact hD
              refine lv_aload_n hx hb dX6_readEvent_149 rfl (lv_at hl 2 rfl) ?_
              refine lv_aload_n hx hb dX6_readEvent_150 rfl (lv_at hl 2 rfl) ?_
              refine k_iF (va_runV (As := []) (rest := [.ref x0]) hF (c_X6_readExcuse l D I C Q x0 x1 sg L ((x_T5 sg L a).2.1) ((x_T5 sg L a).2.2) (x_Z sg L a) ((x_T2 sg L a).2.2) ((x_T3 sg L a).2.2) (x_am sg L a) xe xf xr hL (k_le9 (a := a) (c := 20) (x_T5b sg L a) ha (by decide)) hsg _) (cwV 0 hts gX6_readEvent_X6_readExcuse rfl rfl rfl (by decide +kernel) ⟨Nat.le_of_ble_eq_true rfl, Nat.le_of_ble_eq_true rfl⟩) (kPreV hE hP hD (ci := 6) (q0 := 0) rfl rfl) rfl rfl hl.1 rfl (lv_room (Nat.le_of_ble_eq_true rfl)) dX6_readEvent_151 ⟨Nat.zero_le _, Nat.zero_le _⟩) hD hS hA (fun H locs hP hD hS => ?_)
              have hP : va_P D vwCl (wX I C x0 x1 sg (nI L) (nI (x_XA sg L ((x_T5 sg L a).2.1))) ((x_T5 sg L a).2.2) (x_Z sg L a) ((x_T2 sg L a).2.2) ((x_T3 sg L a).2.2) (x_am sg L a) xe xf xr) H := hP
              have hD : va_D A (wX I C x0 x1 sg (nI L) (nI (x_XA sg L ((x_T5 sg L a).2.1))) ((x_T5 sg L a).2.2) (x_Z sg L a) ((x_T2 sg L a).2.2) ((x_T3 sg L a).2.2) (x_am sg L a) xe xf xr) := hD
              refine va_put (D := D) (ci := 6) (v := .int (x_X sg L ((x_T5 sg L a).2.1))) (ty := .int) (C := RX6) (T := TX6) (N := 11) hx hb hts u6 tyX6 tyX6_ok nmX6 hown hK hP hD hS 0 rfl rfl 8 (by decide) k6 (fun _ h9 => h9) rfl (by decide +kernel) rfl rfl (Nat.le_of_ble_eq_true rfl) dX6_readEvent_154 (fun H locs hP hD hS => ?_)
              have hP : va_P D vwCl (wX I C x0 x1 sg (nI L) (nI (x_XA sg L ((x_T5 sg L a).2.1))) ((x_T5 sg L a).2.2) (x_Z sg L a) ((x_T2 sg L a).2.2) ((x_T3 sg L a).2.2) (x_am sg L a) (x_X sg L ((x_T5 sg L a).2.1)) xf xr) H := hP
              have hD : va_D A (wX I C x0 x1 sg (nI L) (nI (x_XA sg L ((x_T5 sg L a).2.1))) ((x_T5 sg L a).2.2) (x_Z sg L a) ((x_T2 sg L a).2.2) ((x_T3 sg L a).2.2) (x_am sg L a) (x_X sg L ((x_T5 sg L a).2.1)) xf xr) := hD
              refine lv_iload_n hx hb dX6_readEvent_157 rfl (lv_at hl 0 rfl) ?_
              refine lv_if_eq (tgt := 177) hx hb dX6_readEvent_158 (by decide) (fun c_158 => ?_) (fun c_158 => ?_)
              · refine lv_iconst (v := (-1)) hx hb dX6_readEvent_177 (by decide) ?_
                exact hend _ _ _ _ _ _ hP hD hS dX6_readEvent_178 rfl (by simp +decide only [x_J, x_en_eq, x_aX_eq, x_ex_eq, x_T1_eq, hf5, if_true, if_false, not_true_eq_false, not_false_eq_true, and_self, and_true, true_and, and_false, false_and, kn01, kn10, kn02, kn20, kn12, kn21, eq_self]) (by simp +decide only [x_r, x_eo_eq, x_en_eq, x_aX_eq, hf5, if_true, if_false, not_true_eq_false, not_false_eq_true, and_self, and_true, true_and, and_false, false_and, kn01, kn10, kn02, kn20, kn12, kn21, eq_self])
              · exact (c_158 (by decide)).elim
            · refine lv_aload_n hx hb dX6_readEvent_134 rfl (lv_at hl 2 rfl) ?_
              refine va_get (D := D) (ci := 6) (v := .int ((x_T5 sg L a).2.2)) (C := RX6) (T := TX6) (N := 11) hx hb hts u6 hown hK hP 0 rfl rfl 3 (by decide) k1 (fun _ h9 => h9) rfl dX6_readEvent_135 ?_
              refine lv_ineg hx hb dX6_readEvent_138 ?_
              refine lv_goto (tgt := 146) hx hb dX6_readEvent_139 (by decide) ?_
              refine va_put (D := D) (ci := 6) (v := .int (-((x_T5 sg L a).2.2))) (ty := .int) (C := RX6) (T := TX6) (N := 11) hx hb hts u6 tyX6 tyX6_ok nmX6 hown hK hP hD hS 0 rfl rfl 7 (by decide) k5 (fun _ h9 => h9) rfl (by decide +kernel) rfl rfl (Nat.le_of_ble_eq_true rfl) dX6_readEvent_146 (fun H locs hP hD hS => ?_)
              have hP : va_P D vwCl (wX I C x0 x1 sg (nI L) (nI (x_T5 sg L a).2.1) ((x_T5 sg L a).2.2) (x_Z sg L a) ((x_T2 sg L a).2.2) ((x_T3 sg L a).2.2) (-((x_T5 sg L a).2.2)) xe xf xr) H := hP
              have hD : va_D A (wX I C x0 x1 sg (nI L) (nI (x_T5 sg L a).2.1) ((x_T5 sg L a).2.2) (x_Z sg L a) ((x_T2 sg L a).2.2) ((x_T3 sg L a).2.2) (-((x_T5 sg L a).2.2)) xe xf xr) := hD
              have hP : va_P D vwCl (wX I C x0 x1 sg (nI L) (nI (x_T5 sg L a).2.1) ((x_T5 sg L a).2.2) (x_Z sg L a) ((x_T2 sg L a).2.2) ((x_T3 sg L a).2.2) (x_am sg L a) xe xf xr) H := by rw [x_am_eq, x_ng_eq, if_neg c_131]; exact hP
              have hD : va_D A (wX I C x0 x1 sg (nI L) (nI (x_T5 sg L a).2.1) ((x_T5 sg L a).2.2) (x_Z sg L a) ((x_T2 sg L a).2.2) ((x_T3 sg L a).2.2) (x_am sg L a) xe xf xr) := by rw [x_am_eq, x_ng_eq, if_neg c_131]; exact hD
              refine lv_aload_n hx hb dX6_readEvent_149 rfl (lv_at hl 2 rfl) ?_
              refine lv_aload_n hx hb dX6_readEvent_150 rfl (lv_at hl 2 rfl) ?_
              refine k_iF (va_runV (As := []) (rest := [.ref x0]) hF (c_X6_readExcuse l D I C Q x0 x1 sg L ((x_T5 sg L a).2.1) ((x_T5 sg L a).2.2) (x_Z sg L a) ((x_T2 sg L a).2.2) ((x_T3 sg L a).2.2) (x_am sg L a) xe xf xr hL (k_le9 (a := a) (c := 20) (x_T5b sg L a) ha (by decide)) hsg _) (cwV 0 hts gX6_readEvent_X6_readExcuse rfl rfl rfl (by decide +kernel) ⟨Nat.le_of_ble_eq_true rfl, Nat.le_of_ble_eq_true rfl⟩) (kPreV hE hP hD (ci := 6) (q0 := 0) rfl rfl) rfl rfl hl.1 rfl (lv_room (Nat.le_of_ble_eq_true rfl)) dX6_readEvent_151 ⟨Nat.zero_le _, Nat.zero_le _⟩) hD hS hA (fun H locs hP hD hS => ?_)
              have hP : va_P D vwCl (wX I C x0 x1 sg (nI L) (nI (x_XA sg L ((x_T5 sg L a).2.1))) ((x_T5 sg L a).2.2) (x_Z sg L a) ((x_T2 sg L a).2.2) ((x_T3 sg L a).2.2) (x_am sg L a) xe xf xr) H := hP
              have hD : va_D A (wX I C x0 x1 sg (nI L) (nI (x_XA sg L ((x_T5 sg L a).2.1))) ((x_T5 sg L a).2.2) (x_Z sg L a) ((x_T2 sg L a).2.2) ((x_T3 sg L a).2.2) (x_am sg L a) xe xf xr) := hD
              refine va_put (D := D) (ci := 6) (v := .int (x_X sg L ((x_T5 sg L a).2.1))) (ty := .int) (C := RX6) (T := TX6) (N := 11) hx hb hts u6 tyX6 tyX6_ok nmX6 hown hK hP hD hS 0 rfl rfl 8 (by decide) k6 (fun _ h9 => h9) rfl (by decide +kernel) rfl rfl (Nat.le_of_ble_eq_true rfl) dX6_readEvent_154 (fun H locs hP hD hS => ?_)
              have hP : va_P D vwCl (wX I C x0 x1 sg (nI L) (nI (x_XA sg L ((x_T5 sg L a).2.1))) ((x_T5 sg L a).2.2) (x_Z sg L a) ((x_T2 sg L a).2.2) ((x_T3 sg L a).2.2) (x_am sg L a) (x_X sg L ((x_T5 sg L a).2.1)) xf xr) H := hP
              have hD : va_D A (wX I C x0 x1 sg (nI L) (nI (x_XA sg L ((x_T5 sg L a).2.1))) ((x_T5 sg L a).2.2) (x_Z sg L a) ((x_T2 sg L a).2.2) ((x_T3 sg L a).2.2) (x_am sg L a) (x_X sg L ((x_T5 sg L a).2.1)) xf xr) := hD
              refine lv_iload_n hx hb dX6_readEvent_157 rfl (lv_at hl 0 rfl) ?_
              refine lv_if_eq (tgt := 177) hx hb dX6_readEvent_158 (by decide) (fun c_158 => ?_) (fun c_158 => ?_)
              · refine lv_iconst (v := (-1)) hx hb dX6_readEvent_177 (by decide) ?_
                exact hend _ _ _ _ _ _ hP hD hS dX6_readEvent_178 rfl (by simp +decide only [x_J, x_en_eq, x_aX_eq, x_ex_eq, x_T1_eq, hf5, if_true, if_false, not_true_eq_false, not_false_eq_true, and_self, and_true, true_and, and_false, false_and, kn01, kn10, kn02, kn20, kn12, kn21, eq_self]) (by simp +decide only [x_r, x_eo_eq, x_en_eq, x_aX_eq, hf5, if_true, if_false, not_true_eq_false, not_false_eq_true, and_self, and_true, true_and, and_false, false_and, kn01, kn10, kn02, kn20, kn12, kn21, eq_self])
              · exact (c_158 (by decide)).elim
          · exact (c_113 (by decide)).elim
        · exact (c_87 (by decide)).elim
      · exact (c_53 (by decide)).elim
    · refine lv_aload_n hx hb dX6_readEvent_31 rfl (lv_at hl 1 rfl) ?_
      refine k_iF (va_runV (As := []) (rest := []) hF (c_X6_readNumber l D I C Q x0 x1 sg L (x_ra sg L (x_A sg L a) 44) (x_Z sg L a) (x_Z sg L a) xt xk xa xe xf xr hL (k_le1 (a := a) (c := 5) (Nat.le_trans (x_ra_le sg L _ 44) (Nat.add_le_add_right (x_A_le sg L a) 1)) ha (by decide)) hsg _) (cwV 0 hts gX6_readEvent_X6_readNumber rfl rfl rfl (by decide +kernel) ⟨Nat.le_of_ble_eq_true rfl, Nat.le_of_ble_eq_true rfl⟩) (kPreV hE hP hD (ci := 6) (q0 := 0) rfl rfl) rfl rfl hl.1 rfl (lv_room (Nat.le_of_ble_eq_true rfl)) dX6_readEvent_32 ⟨Nat.zero_le _, Nat.zero_le _⟩) hD hS hA (fun H locs hP hD hS => ?_)
      have hP : va_P D vwCl (wX I C x0 x1 sg (nI L) (nI (x_A sg L (x_ra sg L (x_A sg L a) 44))) (x_Z sg L (x_ra sg L (x_A sg L a) 44)) (x_Z sg L a) xt xk xa xe xf xr) H := hP
      have hD : va_D A (wX I C x0 x1 sg (nI L) (nI (x_A sg L (x_ra sg L (x_A sg L a) 44))) (x_Z sg L (x_ra sg L (x_A sg L a) 44)) (x_Z sg L a) xt xk xa xe xf xr) := hD
      refine lv_if_eq (tgt := 42) hx hb dX6_readEvent_35 (by decide) (fun c_35 => ?_) (fun c_35 => ?_)
      · refine lv_iconst (v := 0) hx hb dX6_readEvent_42 (by decide) ?_
        have hT2 : x_T2 sg L a = (0, (x_A sg L (x_ra sg L (x_A sg L a) 44)), x_Z sg L (x_ra sg L (x_A sg L a) 44)) := by simp +decide only [x_T2_eq, x_st, x_T1_eq, c_19, c_28, c_35, if_true, if_false, not_true_eq_false, not_false_eq_true, and_self, and_true, true_and, and_false, false_and, kn01, kn10, kn02, kn20, kn12, kn21, eq_self]
        have hf2 : (x_T2 sg L a).1 = 0 := by rw [hT2]
        have hP : va_P D vwCl (wX I C x0 x1 sg (nI L) (nI (x_T2 sg L a).2.1) ((x_T2 sg L a).2.2) (x_Z sg L a) xt xk xa xe xf xr) H := by rw [hT2]; exact hP
        have hD : va_D A (wX I C x0 x1 sg (nI L) (nI (x_T2 sg L a).2.1) ((x_T2 sg L a).2.2) (x_Z sg L a) xt xk xa xe xf xr) := by rw [hT2]; exact hD
        refine lv_istore_n (lv' := [(2, .int 0), (0, .ref x0), (1, .int (nI a))]) hx hb dX6_readEvent_43 rfl hl (by decide) rfl (fun ls hl => ?_)
        refine lv_aload_n hx hb dX6_readEvent_44 rfl (lv_at hl 1 rfl) ?_
        refine lv_aload_n hx hb dX6_readEvent_45 rfl (lv_at hl 1 rfl) ?_
        refine va_get (D := D) (ci := 6) (v := .int ((x_T2 sg L a).2.2)) (C := RX6) (T := TX6) (N := 11) hx hb hts u6 hown hK hP 0 rfl rfl 3 (by decide) k1 (fun _ h9 => h9) rfl dX6_readEvent_46 ?_
        refine va_put (D := D) (ci := 6) (v := .int ((x_T2 sg L a).2.2)) (ty := .int) (C := RX6) (T := TX6) (N := 11) hx hb hts u6 tyX6 tyX6_ok nmX6 hown hK hP hD hS 0 rfl rfl 5 (by decide) k3 (fun _ h9 => h9) rfl (by decide +kernel) rfl rfl (Nat.le_of_ble_eq_true rfl) dX6_readEvent_49 (fun H locs hP hD hS => ?_)
        have hP : va_P D vwCl (wX I C x0 x1 sg (nI L) (nI (x_T2 sg L a).2.1) ((x_T2 sg L a).2.2) (x_Z sg L a) ((x_T2 sg L a).2.2) xk xa xe xf xr) H := hP
        have hD : va_D A (wX I C x0 x1 sg (nI L) (nI (x_T2 sg L a).2.1) ((x_T2 sg L a).2.2) (x_Z sg L a) ((x_T2 sg L a).2.2) xk xa xe xf xr) := hD
        refine lv_iload_n hx hb dX6_readEvent_52 rfl (lv_at hl 0 rfl) ?_
        refine lv_if_eq (tgt := 76) hx hb dX6_readEvent_53 (by decide) (fun c_53 => ?_) (fun c_53 => ?_)
        · refine lv_iconst (v := 0) hx hb dX6_readEvent_76 (by decide) ?_
          have hT3 : x_T3 sg L a = (0, ((x_T2 sg L a).2.1), (x_T2 sg L a).2.2) := by simp +decide only [x_T3_eq, x_st, hf2, if_true, if_false, not_true_eq_false, not_false_eq_true, and_self, and_true, true_and, and_false, false_and, kn01, kn10, kn02, kn20, kn12, kn21, eq_self]
          have hf3 : (x_T3 sg L a).1 = 0 := by rw [hT3]
          have hP : va_P D vwCl (wX I C x0 x1 sg (nI L) (nI (x_T3 sg L a).2.1) ((x_T3 sg L a).2.2) (x_Z sg L a) ((x_T2 sg L a).2.2) xk xa xe xf xr) H := by rw [hT3]; exact hP
          have hD : va_D A (wX I C x0 x1 sg (nI L) (nI (x_T3 sg L a).2.1) ((x_T3 sg L a).2.2) (x_Z sg L a) ((x_T2 sg L a).2.2) xk xa xe xf xr) := by rw [hT3]; exact hD
          refine lv_istore_n (lv' := [(2, .int 0), (0, .ref x0), (1, .int (nI a))]) hx hb dX6_readEvent_77 rfl hl (by decide) rfl (fun ls hl => ?_)
          refine lv_aload_n hx hb dX6_readEvent_78 rfl (lv_at hl 1 rfl) ?_
          refine lv_aload_n hx hb dX6_readEvent_79 rfl (lv_at hl 1 rfl) ?_
          refine va_get (D := D) (ci := 6) (v := .int ((x_T3 sg L a).2.2)) (C := RX6) (T := TX6) (N := 11) hx hb hts u6 hown hK hP 0 rfl rfl 3 (by decide) k1 (fun _ h9 => h9) rfl dX6_readEvent_80 ?_
          refine va_put (D := D) (ci := 6) (v := .int ((x_T3 sg L a).2.2)) (ty := .int) (C := RX6) (T := TX6) (N := 11) hx hb hts u6 tyX6 tyX6_ok nmX6 hown hK hP hD hS 0 rfl rfl 6 (by decide) k4 (fun _ h9 => h9) rfl (by decide +kernel) rfl rfl (Nat.le_of_ble_eq_true rfl) dX6_readEvent_83 (fun H locs hP hD hS => ?_)
          have hP : va_P D vwCl (wX I C x0 x1 sg (nI L) (nI (x_T3 sg L a).2.1) ((x_T3 sg L a).2.2) (x_Z sg L a) ((x_T2 sg L a).2.2) ((x_T3 sg L a).2.2) xa xe xf xr) H := hP
          have hD : va_D A (wX I C x0 x1 sg (nI L) (nI (x_T3 sg L a).2.1) ((x_T3 sg L a).2.2) (x_Z sg L a) ((x_T2 sg L a).2.2) ((x_T3 sg L a).2.2) xa xe xf xr) := hD
          refine lv_iload_n hx hb dX6_readEvent_86 rfl (lv_at hl 0 rfl) ?_
          refine lv_if_eq (tgt := 103) hx hb dX6_readEvent_87 (by decide) (fun c_87 => ?_) (fun c_87 => ?_)
          · refine lv_iconst (v := 0) hx hb dX6_readEvent_103 (by decide) ?_
            have hT4 : x_T4 sg L a = (0, ((x_T3 sg L a).2.1), (x_T3 sg L a).2.2) := by simp +decide only [x_T4_eq, x_cm, hf3, if_true, if_false, not_true_eq_false, not_false_eq_true, and_self, and_true, true_and, and_false, false_and, kn01, kn10, kn02, kn20, kn12, kn21, eq_self]
            have hf4 : (x_T4 sg L a).1 = 0 := by rw [hT4]
            have hP : va_P D vwCl (wX I C x0 x1 sg (nI L) (nI (x_T4 sg L a).2.1) ((x_T4 sg L a).2.2) (x_Z sg L a) ((x_T2 sg L a).2.2) ((x_T3 sg L a).2.2) xa xe xf xr) H := by rw [hT4]; exact hP
            have hD : va_D A (wX I C x0 x1 sg (nI L) (nI (x_T4 sg L a).2.1) ((x_T4 sg L a).2.2) (x_Z sg L a) ((x_T2 sg L a).2.2) ((x_T3 sg L a).2.2) xa xe xf xr) := by rw [hT4]; exact hD
            refine lv_istore_n (lv' := [(2, .int 0), (0, .ref x0), (1, .int (nI a))]) hx hb dX6_readEvent_104 rfl hl (by decide) rfl (fun ls hl => ?_)
            refine lv_aload_n hx hb dX6_readEvent_105 rfl (lv_at hl 1 rfl) ?_
            refine lv_bipush (v := 45) hx hb dX6_readEvent_106 (by decide) ?_
            refine k_iF (va_runV (As := [.int 45]) (rest := []) hF (c_X6_readSign l D I C Q x0 x1 sg L ((x_T4 sg L a).2.1) ((x_T4 sg L a).2.2) (x_Z sg L a) ((x_T2 sg L a).2.2) ((x_T3 sg L a).2.2) xa xe xf xr 45 hL (k_le2 (a := a) (c := 15) (x_T4b sg L a) ha (by decide)) hsg _) (cwV 1 hts gX6_readEvent_X6_readSign rfl rfl rfl (by decide +kernel) ⟨Nat.le_of_ble_eq_true rfl, Nat.le_of_ble_eq_true rfl⟩) (kPreV hE hP hD (ci := 6) (q0 := 0) rfl rfl) rfl rfl hl.1 rfl (lv_room (Nat.le_of_ble_eq_true rfl)) dX6_readEvent_108 ⟨Nat.zero_le _, Nat.zero_le _⟩) hD hS hA (fun H locs hP hD hS => ?_)
            have hP : va_P D vwCl (wX I C x0 x1 sg (nI L) (nI (x_ra sg L ((x_T4 sg L a).2.1) 45)) ((x_T4 sg L a).2.2) (x_Z sg L a) ((x_T2 sg L a).2.2) ((x_T3 sg L a).2.2) xa xe xf xr) H := hP
            have hD : va_D A (wX I C x0 x1 sg (nI L) (nI (x_ra sg L ((x_T4 sg L a).2.1) 45)) ((x_T4 sg L a).2.2) (x_Z sg L a) ((x_T2 sg L a).2.2) ((x_T3 sg L a).2.2) xa xe xf xr) := hD
            refine lv_istore_n (lv' := [(3, .int (x_rs sg L ((x_T4 sg L a).2.1) 45)), (2, .int 0), (0, .ref x0), (1, .int (nI a))]) hx hb dX6_readEvent_111 rfl hl (by decide) rfl (fun ls hl => ?_)
            refine lv_iload_n hx hb dX6_readEvent_112 rfl (lv_at hl 1 rfl) ?_
            refine lv_if_eq (tgt := 127) hx hb dX6_readEvent_113 (by decide) (fun c_113 => ?_) (fun c_113 => ?_)
            · refine lv_iconst (v := 0) hx hb dX6_readEvent_127 (by decide) ?_
              have hT5 : x_T5 sg L a = (0, (x_ra sg L ((x_T4 sg L a).2.1) 45), (x_T4 sg L a).2.2) := by simp +decide only [x_T5_eq, x_nm, hf4, if_true, if_false, not_true_eq_false, not_false_eq_true, and_self, and_true, true_and, and_false, false_and, kn01, kn10, kn02, kn20, kn12, kn21, eq_self]
              have hf5 : (x_T5 sg L a).1 = 0 := by rw [hT5]
              have hP : va_P D vwCl (wX I C x0 x1 sg (nI L) (nI (x_T5 sg L a).2.1) ((x_T5 sg L a).2.2) (x_Z sg L a) ((x_T2 sg L a).2.2) ((x_T3 sg L a).2.2) xa xe xf xr) H := by rw [hT5]; exact hP
              have hD : va_D A (wX I C x0 x1 sg (nI L) (nI (x_T5 sg L a).2.1) ((x_T5 sg L a).2.2) (x_Z sg L a) ((x_T2 sg L a).2.2) ((x_T3 sg L a).2.2) xa xe xf xr) := by rw [hT5]; exact hD
              refine lv_istore_n (lv' := [(2, .int 0), (3, .int (x_rs sg L ((x_T4 sg L a).2.1) 45)), (0, .ref x0), (1, .int (nI a))]) hx hb dX6_readEvent_128 rfl hl (by decide) rfl (fun ls hl => ?_)
              refine lv_aload_n hx hb dX6_readEvent_129 rfl (lv_at hl 2 rfl) ?_
              refine lv_iload_n hx hb dX6_readEvent_130 rfl (lv_at hl 1 rfl) ?_
              refine lv_if_eq (tgt := 142) hx hb dX6_readEvent_131 (by decide) (fun c_131 => ?_) (fun c_131 => ?_)
              · refine lv_aload_n hx hb dX6_readEvent_142 rfl (lv_at hl 2 rfl) ?_
                refine va_get (D := D) (ci := 6) (v := .int ((x_T5 sg L a).2.2)) (C := RX6) (T := TX6) (N := 11) hx hb hts u6 hown hK hP 0 rfl rfl 3 (by decide) k1 (fun _ h9 => h9) rfl dX6_readEvent_143 ?_
                refine va_put (D := D) (ci := 6) (v := .int ((x_T5 sg L a).2.2)) (ty := .int) (C := RX6) (T := TX6) (N := 11) hx hb hts u6 tyX6 tyX6_ok nmX6 hown hK hP hD hS 0 rfl rfl 7 (by decide) k5 (fun _ h9 => h9) rfl (by decide +kernel) rfl rfl (Nat.le_of_ble_eq_true rfl) dX6_readEvent_146 (fun H locs hP hD hS => ?_)
                have hP : va_P D vwCl (wX I C x0 x1 sg (nI L) (nI (x_T5 sg L a).2.1) ((x_T5 sg L a).2.2) (x_Z sg L a) ((x_T2 sg L a).2.2) ((x_T3 sg L a).2.2) ((x_T5 sg L a).2.2) xe xf xr) H := hP
                have hD : va_D A (wX I C x0 x1 sg (nI L) (nI (x_T5 sg L a).2.1) ((x_T5 sg L a).2.2) (x_Z sg L a) ((x_T2 sg L a).2.2) ((x_T3 sg L a).2.2) ((x_T5 sg L a).2.2) xe xf xr) := hD
                have hP : va_P D vwCl (wX I C x0 x1 sg (nI L) (nI (x_T5 sg L a).2.1) ((x_T5 sg L a).2.2) (x_Z sg L a) ((x_T2 sg L a).2.2) ((x_T3 sg L a).2.2) (x_am sg L a) xe xf xr) H := by rw [x_am_eq, x_ng_eq, if_pos c_131]; exact hP
                have hD : va_D A (wX I C x0 x1 sg (nI L) (nI (x_T5 sg L a).2.1) ((x_T5 sg L a).2.2) (x_Z sg L a) ((x_T2 sg L a).2.2) ((x_T3 sg L a).2.2) (x_am sg L a) xe xf xr) := by rw [x_am_eq, x_ng_eq, if_pos c_131]; exact hD
                refine lv_aload_n hx hb dX6_readEvent_149 rfl (lv_at hl 2 rfl) ?_
                refine lv_aload_n hx hb dX6_readEvent_150 rfl (lv_at hl 2 rfl) ?_
                refine k_iF (va_runV (As := []) (rest := [.ref x0]) hF (c_X6_readExcuse l D I C Q x0 x1 sg L ((x_T5 sg L a).2.1) ((x_T5 sg L a).2.2) (x_Z sg L a) ((x_T2 sg L a).2.2) ((x_T3 sg L a).2.2) (x_am sg L a) xe xf xr hL (k_le9 (a := a) (c := 20) (x_T5b sg L a) ha (by decide)) hsg _) (cwV 0 hts gX6_readEvent_X6_readExcuse rfl rfl rfl (by decide +kernel) ⟨Nat.le_of_ble_eq_true rfl, Nat.le_of_ble_eq_true rfl⟩) (kPreV hE hP hD (ci := 6) (q0 := 0) rfl rfl) rfl rfl hl.1 rfl (lv_room (Nat.le_of_ble_eq_true rfl)) dX6_readEvent_151 ⟨Nat.zero_le _, Nat.zero_le _⟩) hD hS hA (fun H locs hP hD hS => ?_)
                have hP : va_P D vwCl (wX I C x0 x1 sg (nI L) (nI (x_XA sg L ((x_T5 sg L a).2.1))) ((x_T5 sg L a).2.2) (x_Z sg L a) ((x_T2 sg L a).2.2) ((x_T3 sg L a).2.2) (x_am sg L a) xe xf xr) H := hP
                have hD : va_D A (wX I C x0 x1 sg (nI L) (nI (x_XA sg L ((x_T5 sg L a).2.1))) ((x_T5 sg L a).2.2) (x_Z sg L a) ((x_T2 sg L a).2.2) ((x_T3 sg L a).2.2) (x_am sg L a) xe xf xr) := hD
                refine va_put (D := D) (ci := 6) (v := .int (x_X sg L ((x_T5 sg L a).2.1))) (ty := .int) (C := RX6) (T := TX6) (N := 11) hx hb hts u6 tyX6 tyX6_ok nmX6 hown hK hP hD hS 0 rfl rfl 8 (by decide) k6 (fun _ h9 => h9) rfl (by decide +kernel) rfl rfl (Nat.le_of_ble_eq_true rfl) dX6_readEvent_154 (fun H locs hP hD hS => ?_)
                have hP : va_P D vwCl (wX I C x0 x1 sg (nI L) (nI (x_XA sg L ((x_T5 sg L a).2.1))) ((x_T5 sg L a).2.2) (x_Z sg L a) ((x_T2 sg L a).2.2) ((x_T3 sg L a).2.2) (x_am sg L a) (x_X sg L ((x_T5 sg L a).2.1)) xf xr) H := hP
                have hD : va_D A (wX I C x0 x1 sg (nI L) (nI (x_XA sg L ((x_T5 sg L a).2.1))) ((x_T5 sg L a).2.2) (x_Z sg L a) ((x_T2 sg L a).2.2) ((x_T3 sg L a).2.2) (x_am sg L a) (x_X sg L ((x_T5 sg L a).2.1)) xf xr) := hD
                refine lv_iload_n hx hb dX6_readEvent_157 rfl (lv_at hl 0 rfl) ?_
                refine lv_if_eq (tgt := 177) hx hb dX6_readEvent_158 (by decide) (fun c_158 => ?_) (fun c_158 => ?_)
                · refine lv_iconst (v := (-1)) hx hb dX6_readEvent_177 (by decide) ?_
                  exact hend _ _ _ _ _ _ hP hD hS dX6_readEvent_178 rfl (by simp +decide only [x_J, x_en_eq, x_aX_eq, x_ex_eq, x_T1_eq, hf5, if_true, if_false, not_true_eq_false, not_false_eq_true, and_self, and_true, true_and, and_false, false_and, kn01, kn10, kn02, kn20, kn12, kn21, eq_self]) (by simp +decide only [x_r, x_eo_eq, x_en_eq, x_aX_eq, hf5, if_true, if_false, not_true_eq_false, not_false_eq_true, and_self, and_true, true_and, and_false, false_and, kn01, kn10, kn02, kn20, kn12, kn21, eq_self])
                · exact (c_158 (by decide)).elim
              · refine lv_aload_n hx hb dX6_readEvent_134 rfl (lv_at hl 2 rfl) ?_
                refine va_get (D := D) (ci := 6) (v := .int ((x_T5 sg L a).2.2)) (C := RX6) (T := TX6) (N := 11) hx hb hts u6 hown hK hP 0 rfl rfl 3 (by decide) k1 (fun _ h9 => h9) rfl dX6_readEvent_135 ?_
                refine lv_ineg hx hb dX6_readEvent_138 ?_
                refine lv_goto (tgt := 146) hx hb dX6_readEvent_139 (by decide) ?_
                refine va_put (D := D) (ci := 6) (v := .int (-((x_T5 sg L a).2.2))) (ty := .int) (C := RX6) (T := TX6) (N := 11) hx hb hts u6 tyX6 tyX6_ok nmX6 hown hK hP hD hS 0 rfl rfl 7 (by decide) k5 (fun _ h9 => h9) rfl (by decide +kernel) rfl rfl (Nat.le_of_ble_eq_true rfl) dX6_readEvent_146 (fun H locs hP hD hS => ?_)
                have hP : va_P D vwCl (wX I C x0 x1 sg (nI L) (nI (x_T5 sg L a).2.1) ((x_T5 sg L a).2.2) (x_Z sg L a) ((x_T2 sg L a).2.2) ((x_T3 sg L a).2.2) (-((x_T5 sg L a).2.2)) xe xf xr) H := hP
                have hD : va_D A (wX I C x0 x1 sg (nI L) (nI (x_T5 sg L a).2.1) ((x_T5 sg L a).2.2) (x_Z sg L a) ((x_T2 sg L a).2.2) ((x_T3 sg L a).2.2) (-((x_T5 sg L a).2.2)) xe xf xr) := hD
                have hP : va_P D vwCl (wX I C x0 x1 sg (nI L) (nI (x_T5 sg L a).2.1) ((x_T5 sg L a).2.2) (x_Z sg L a) ((x_T2 sg L a).2.2) ((x_T3 sg L a).2.2) (x_am sg L a) xe xf xr) H := by rw [x_am_eq, x_ng_eq, if_neg c_131]; exact hP
                have hD : va_D A (wX I C x0 x1 sg (nI L) (nI (x_T5 sg L a).2.1) ((x_T5 sg L a).2.2) (x_Z sg L a) ((x_T2 sg L a).2.2) ((x_T3 sg L a).2.2) (x_am sg L a) xe xf xr) := by rw [x_am_eq, x_ng_eq, if_neg c_131]; exact hD
                refine lv_aload_n hx hb dX6_readEvent_149 rfl (lv_at hl 2 rfl) ?_
                refine lv_aload_n hx hb dX6_readEvent_150 rfl (lv_at hl 2 rfl) ?_
                refine k_iF (va_runV (As := []) (rest := [.ref x0]) hF (c_X6_readExcuse l D I C Q x0 x1 sg L ((x_T5 sg L a).2.1) ((x_T5 sg L a).2.2) (x_Z sg L a) ((x_T2 sg L a).2.2) ((x_T3 sg L a).2.2) (x_am sg L a) xe xf xr hL (k_le9 (a := a) (c := 20) (x_T5b sg L a) ha (by decide)) hsg _) (cwV 0 hts gX6_readEvent_X6_readExcuse rfl rfl rfl (by decide +kernel) ⟨Nat.le_of_ble_eq_true rfl, Nat.le_of_ble_eq_true rfl⟩) (kPreV hE hP hD (ci := 6) (q0 := 0) rfl rfl) rfl rfl hl.1 rfl (lv_room (Nat.le_of_ble_eq_true rfl)) dX6_readEvent_151 ⟨Nat.zero_le _, Nat.zero_le _⟩) hD hS hA (fun H locs hP hD hS => ?_)
                have hP : va_P D vwCl (wX I C x0 x1 sg (nI L) (nI (x_XA sg L ((x_T5 sg L a).2.1))) ((x_T5 sg L a).2.2) (x_Z sg L a) ((x_T2 sg L a).2.2) ((x_T3 sg L a).2.2) (x_am sg L a) xe xf xr) H := hP
                have hD : va_D A (wX I C x0 x1 sg (nI L) (nI (x_XA sg L ((x_T5 sg L a).2.1))) ((x_T5 sg L a).2.2) (x_Z sg L a) ((x_T2 sg L a).2.2) ((x_T3 sg L a).2.2) (x_am sg L a) xe xf xr) := hD
                refine va_put (D := D) (ci := 6) (v := .int (x_X sg L ((x_T5 sg L a).2.1))) (ty := .int) (C := RX6) (T := TX6) (N := 11) hx hb hts u6 tyX6 tyX6_ok nmX6 hown hK hP hD hS 0 rfl rfl 8 (by decide) k6 (fun _ h9 => h9) rfl (by decide +kernel) rfl rfl (Nat.le_of_ble_eq_true rfl) dX6_readEvent_154 (fun H locs hP hD hS => ?_)
                have hP : va_P D vwCl (wX I C x0 x1 sg (nI L) (nI (x_XA sg L ((x_T5 sg L a).2.1))) ((x_T5 sg L a).2.2) (x_Z sg L a) ((x_T2 sg L a).2.2) ((x_T3 sg L a).2.2) (x_am sg L a) (x_X sg L ((x_T5 sg L a).2.1)) xf xr) H := hP
                have hD : va_D A (wX I C x0 x1 sg (nI L) (nI (x_XA sg L ((x_T5 sg L a).2.1))) ((x_T5 sg L a).2.2) (x_Z sg L a) ((x_T2 sg L a).2.2) ((x_T3 sg L a).2.2) (x_am sg L a) (x_X sg L ((x_T5 sg L a).2.1)) xf xr) := hD
                refine lv_iload_n hx hb dX6_readEvent_157 rfl (lv_at hl 0 rfl) ?_
                refine lv_if_eq (tgt := 177) hx hb dX6_readEvent_158 (by decide) (fun c_158 => ?_) (fun c_158 => ?_)
                · refine lv_iconst (v := (-1)) hx hb dX6_readEvent_177 (by decide) ?_
                  exact hend _ _ _ _ _ _ hP hD hS dX6_readEvent_178 rfl (by simp +decide only [x_J, x_en_eq, x_aX_eq, x_ex_eq, x_T1_eq, hf5, if_true, if_false, not_true_eq_false, not_false_eq_true, and_self, and_true, true_and, and_false, false_and, kn01, kn10, kn02, kn20, kn12, kn21, eq_self]) (by simp +decide only [x_r, x_eo_eq, x_en_eq, x_aX_eq, hf5, if_true, if_false, not_true_eq_false, not_false_eq_true, and_self, and_true, true_and, and_false, false_and, kn01, kn10, kn02, kn20, kn12, kn21, eq_self])
                · exact (c_158 (by decide)).elim
            · exact (c_113 (by decide)).elim
          · exact (c_87 (by decide)).elim
        · exact (c_53 (by decide)).elim
      · refine lv_iconst (v := 1) hx hb dX6_readEvent_38 (by decide) ?_
        refine lv_goto (tgt := 43) hx hb dX6_readEvent_39 (by decide) ?_
        have hT2 : x_T2 sg L a = (1, (x_A sg L (x_ra sg L (x_A sg L a) 44)), x_Z sg L (x_ra sg L (x_A sg L a) 44)) := by simp +decide only [x_T2_eq, x_st, x_T1_eq, c_19, c_28, c_35, if_true, if_false, not_true_eq_false, not_false_eq_true, and_self, and_true, true_and, and_false, false_and, kn01, kn10, kn02, kn20, kn12, kn21, eq_self]
        have hf2 : (x_T2 sg L a).1 = 1 := by rw [hT2]
        have hP : va_P D vwCl (wX I C x0 x1 sg (nI L) (nI (x_T2 sg L a).2.1) ((x_T2 sg L a).2.2) (x_Z sg L a) xt xk xa xe xf xr) H := by rw [hT2]; exact hP
        have hD : va_D A (wX I C x0 x1 sg (nI L) (nI (x_T2 sg L a).2.1) ((x_T2 sg L a).2.2) (x_Z sg L a) xt xk xa xe xf xr) := by rw [hT2]; exact hD
        refine lv_istore_n (lv' := [(2, .int 1), (0, .ref x0), (1, .int (nI a))]) hx hb dX6_readEvent_43 rfl hl (by decide) rfl (fun ls hl => ?_)
        refine lv_aload_n hx hb dX6_readEvent_44 rfl (lv_at hl 1 rfl) ?_
        refine lv_aload_n hx hb dX6_readEvent_45 rfl (lv_at hl 1 rfl) ?_
        refine va_get (D := D) (ci := 6) (v := .int ((x_T2 sg L a).2.2)) (C := RX6) (T := TX6) (N := 11) hx hb hts u6 hown hK hP 0 rfl rfl 3 (by decide) k1 (fun _ h9 => h9) rfl dX6_readEvent_46 ?_
        refine va_put (D := D) (ci := 6) (v := .int ((x_T2 sg L a).2.2)) (ty := .int) (C := RX6) (T := TX6) (N := 11) hx hb hts u6 tyX6 tyX6_ok nmX6 hown hK hP hD hS 0 rfl rfl 5 (by decide) k3 (fun _ h9 => h9) rfl (by decide +kernel) rfl rfl (Nat.le_of_ble_eq_true rfl) dX6_readEvent_49 (fun H locs hP hD hS => ?_)
        have hP : va_P D vwCl (wX I C x0 x1 sg (nI L) (nI (x_T2 sg L a).2.1) ((x_T2 sg L a).2.2) (x_Z sg L a) ((x_T2 sg L a).2.2) xk xa xe xf xr) H := hP
        have hD : va_D A (wX I C x0 x1 sg (nI L) (nI (x_T2 sg L a).2.1) ((x_T2 sg L a).2.2) (x_Z sg L a) ((x_T2 sg L a).2.2) xk xa xe xf xr) := hD
        refine lv_iload_n hx hb dX6_readEvent_52 rfl (lv_at hl 0 rfl) ?_
        refine lv_if_eq (tgt := 76) hx hb dX6_readEvent_53 (by decide) (fun c_53 => ?_) (fun c_53 => ?_)
        · exact absurd c_53 (by decide)
        · refine lv_aload_n hx hb dX6_readEvent_56 rfl (lv_at hl 1 rfl) ?_
          refine lv_bipush (v := 44) hx hb dX6_readEvent_57 (by decide) ?_
          refine k_iF (va_runV (As := [.int 44]) (rest := []) hF (c_X6_readSign l D I C Q x0 x1 sg L ((x_T2 sg L a).2.1) ((x_T2 sg L a).2.2) (x_Z sg L a) ((x_T2 sg L a).2.2) xk xa xe xf xr 44 hL (k_le2 (a := a) (c := 9) (x_T2b sg L a) ha (by decide)) hsg _) (cwV 1 hts gX6_readEvent_X6_readSign rfl rfl rfl (by decide +kernel) ⟨Nat.le_of_ble_eq_true rfl, Nat.le_of_ble_eq_true rfl⟩) (kPreV hE hP hD (ci := 6) (q0 := 0) rfl rfl) rfl rfl hl.1 rfl (lv_room (Nat.le_of_ble_eq_true rfl)) dX6_readEvent_59 ⟨Nat.zero_le _, Nat.zero_le _⟩) hD hS hA (fun H locs hP hD hS => ?_)
          have hP : va_P D vwCl (wX I C x0 x1 sg (nI L) (nI (x_ra sg L ((x_T2 sg L a).2.1) 44)) ((x_T2 sg L a).2.2) (x_Z sg L a) ((x_T2 sg L a).2.2) xk xa xe xf xr) H := hP
          have hD : va_D A (wX I C x0 x1 sg (nI L) (nI (x_ra sg L ((x_T2 sg L a).2.1) 44)) ((x_T2 sg L a).2.2) (x_Z sg L a) ((x_T2 sg L a).2.2) xk xa xe xf xr) := hD
          refine lv_if_eq (tgt := 76) hx hb dX6_readEvent_62 (by decide) (fun c_62 => ?_) (fun c_62 => ?_)
          · refine lv_iconst (v := 0) hx hb dX6_readEvent_76 (by decide) ?_
            have hT3 : x_T3 sg L a = (0, (x_ra sg L ((x_T2 sg L a).2.1) 44), (x_T2 sg L a).2.2) := by simp +decide only [x_T3_eq, x_st, c_62, hf2, if_true, if_false, not_true_eq_false, not_false_eq_true, and_self, and_true, true_and, and_false, false_and, kn01, kn10, kn02, kn20, kn12, kn21, eq_self]
            have hf3 : (x_T3 sg L a).1 = 0 := by rw [hT3]
            have hP : va_P D vwCl (wX I C x0 x1 sg (nI L) (nI (x_T3 sg L a).2.1) ((x_T3 sg L a).2.2) (x_Z sg L a) ((x_T2 sg L a).2.2) xk xa xe xf xr) H := by rw [hT3]; exact hP
            have hD : va_D A (wX I C x0 x1 sg (nI L) (nI (x_T3 sg L a).2.1) ((x_T3 sg L a).2.2) (x_Z sg L a) ((x_T2 sg L a).2.2) xk xa xe xf xr) := by rw [hT3]; exact hD
            refine lv_istore_n (lv' := [(2, .int 0), (0, .ref x0), (1, .int (nI a))]) hx hb dX6_readEvent_77 rfl hl (by decide) rfl (fun ls hl => ?_)
            refine lv_aload_n hx hb dX6_readEvent_78 rfl (lv_at hl 1 rfl) ?_
            refine lv_aload_n hx hb dX6_readEvent_79 rfl (lv_at hl 1 rfl) ?_
            refine va_get (D := D) (ci := 6) (v := .int ((x_T3 sg L a).2.2)) (C := RX6) (T := TX6) (N := 11) hx hb hts u6 hown hK hP 0 rfl rfl 3 (by decide) k1 (fun _ h9 => h9) rfl dX6_readEvent_80 ?_
            refine va_put (D := D) (ci := 6) (v := .int ((x_T3 sg L a).2.2)) (ty := .int) (C := RX6) (T := TX6) (N := 11) hx hb hts u6 tyX6 tyX6_ok nmX6 hown hK hP hD hS 0 rfl rfl 6 (by decide) k4 (fun _ h9 => h9) rfl (by decide +kernel) rfl rfl (Nat.le_of_ble_eq_true rfl) dX6_readEvent_83 (fun H locs hP hD hS => ?_)
            have hP : va_P D vwCl (wX I C x0 x1 sg (nI L) (nI (x_T3 sg L a).2.1) ((x_T3 sg L a).2.2) (x_Z sg L a) ((x_T2 sg L a).2.2) ((x_T3 sg L a).2.2) xa xe xf xr) H := hP
            have hD : va_D A (wX I C x0 x1 sg (nI L) (nI (x_T3 sg L a).2.1) ((x_T3 sg L a).2.2) (x_Z sg L a) ((x_T2 sg L a).2.2) ((x_T3 sg L a).2.2) xa xe xf xr) := hD
            refine lv_iload_n hx hb dX6_readEvent_86 rfl (lv_at hl 0 rfl) ?_
            refine lv_if_eq (tgt := 103) hx hb dX6_readEvent_87 (by decide) (fun c_87 => ?_) (fun c_87 => ?_)
            · refine lv_iconst (v := 0) hx hb dX6_readEvent_103 (by decide) ?_
              have hT4 : x_T4 sg L a = (0, ((x_T3 sg L a).2.1), (x_T3 sg L a).2.2) := by simp +decide only [x_T4_eq, x_cm, hf3, if_true, if_false, not_true_eq_false, not_false_eq_true, and_self, and_true, true_and, and_false, false_and, kn01, kn10, kn02, kn20, kn12, kn21, eq_self]
              have hf4 : (x_T4 sg L a).1 = 0 := by rw [hT4]
              have hP : va_P D vwCl (wX I C x0 x1 sg (nI L) (nI (x_T4 sg L a).2.1) ((x_T4 sg L a).2.2) (x_Z sg L a) ((x_T2 sg L a).2.2) ((x_T3 sg L a).2.2) xa xe xf xr) H := by rw [hT4]; exact hP
              have hD : va_D A (wX I C x0 x1 sg (nI L) (nI (x_T4 sg L a).2.1) ((x_T4 sg L a).2.2) (x_Z sg L a) ((x_T2 sg L a).2.2) ((x_T3 sg L a).2.2) xa xe xf xr) := by rw [hT4]; exact hD
              refine lv_istore_n (lv' := [(2, .int 0), (0, .ref x0), (1, .int (nI a))]) hx hb dX6_readEvent_104 rfl hl (by decide) rfl (fun ls hl => ?_)
              refine lv_aload_n hx hb dX6_readEvent_105 rfl (lv_at hl 1 rfl) ?_
              refine lv_bipush (v := 45) hx hb dX6_readEvent_106 (by decide) ?_
              refine k_iF (va_runV (As := [.int 45]) (rest := []) hF (c_X6_readSign l D I C Q x0 x1 sg L ((x_T4 sg L a).2.1) ((x_T4 sg L a).2.2) (x_Z sg L a) ((x_T2 sg L a).2.2) ((x_T3 sg L a).2.2) xa xe xf xr 45 hL (k_le2 (a := a) (c := 15) (x_T4b sg L a) ha (by decide)) hsg _) (cwV 1 hts gX6_readEvent_X6_readSign rfl rfl rfl (by decide +kernel) ⟨Nat.le_of_ble_eq_true rfl, Nat.le_of_ble_eq_true rfl⟩) (kPreV hE hP hD (ci := 6) (q0 := 0) rfl rfl) rfl rfl hl.1 rfl (lv_room (Nat.le_of_ble_eq_true rfl)) dX6_readEvent_108 ⟨Nat.zero_le _, Nat.zero_le _⟩) hD hS hA (fun H locs hP hD hS => ?_)
              have hP : va_P D vwCl (wX I C x0 x1 sg (nI L) (nI (x_ra sg L ((x_T4 sg L a).2.1) 45)) ((x_T4 sg L a).2.2) (x_Z sg L a) ((x_T2 sg L a).2.2) ((x_T3 sg L a).2.2) xa xe xf xr) H := hP
              have hD : va_D A (wX I C x0 x1 sg (nI L) (nI (x_ra sg L ((x_T4 sg L a).2.1) 45)) ((x_T4 sg L a).2.2) (x_Z sg L a) ((x_T2 sg L a).2.2) ((x_T3 sg L a).2.2) xa xe xf xr) := hD
              refine lv_istore_n (lv' := [(3, .int (x_rs sg L ((x_T4 sg L a).2.1) 45)), (2, .int 0), (0, .ref x0), (1, .int (nI a))]) hx hb dX6_readEvent_111 rfl hl (by decide) rfl (fun ls hl => ?_)
              refine lv_iload_n hx hb dX6_readEvent_112 rfl (lv_at hl 1 rfl) ?_
              refine lv_if_eq (tgt := 127) hx hb dX6_readEvent_113 (by decide) (fun c_113 => ?_) (fun c_113 => ?_)
              · refine lv_iconst (v := 0) hx hb dX6_readEvent_127 (by decide) ?_
                have hT5 : x_T5 sg L a = (0, (x_ra sg L ((x_T4 sg L a).2.1) 45), (x_T4 sg L a).2.2) := by simp +decide only [x_T5_eq, x_nm, hf4, if_true, if_false, not_true_eq_false, not_false_eq_true, and_self, and_true, true_and, and_false, false_and, kn01, kn10, kn02, kn20, kn12, kn21, eq_self]
                have hf5 : (x_T5 sg L a).1 = 0 := by rw [hT5]
                have hP : va_P D vwCl (wX I C x0 x1 sg (nI L) (nI (x_T5 sg L a).2.1) ((x_T5 sg L a).2.2) (x_Z sg L a) ((x_T2 sg L a).2.2) ((x_T3 sg L a).2.2) xa xe xf xr) H := by rw [hT5]; exact hP
                have hD : va_D A (wX I C x0 x1 sg (nI L) (nI (x_T5 sg L a).2.1) ((x_T5 sg L a).2.2) (x_Z sg L a) ((x_T2 sg L a).2.2) ((x_T3 sg L a).2.2) xa xe xf xr) := by rw [hT5]; exact hD
                refine lv_istore_n (lv' := [(2, .int 0), (3, .int (x_rs sg L ((x_T4 sg L a).2.1) 45)), (0, .ref x0), (1, .int (nI a))]) hx hb dX6_readEvent_128 rfl hl (by decide) rfl (fun ls hl => ?_)
                refine lv_aload_n hx hb dX6_readEvent_129 rfl (lv_at hl 2 rfl) ?_
                refine lv_iload_n hx hb dX6_readEvent_130 rfl (lv_at hl 1 rfl) ?_
                refine lv_if_eq (tgt := 142) hx hb dX6_readEvent_131 (by decide) (fun c_131 => ?_) (fun c_131 => ?_)
                · refine lv_aload_n hx hb dX6_readEvent_142 rfl (lv_at hl 2 rfl) ?_
                  refine va_get (D := D) (ci := 6) (v := .int ((x_T5 sg L a).2.2)) (C := RX6) (T := TX6) (N := 11) hx hb hts u6 hown hK hP 0 rfl rfl 3 (by decide) k1 (fun _ h9 => h9) rfl dX6_readEvent_143 ?_
                  refine va_put (D := D) (ci := 6) (v := .int ((x_T5 sg L a).2.2)) (ty := .int) (C := RX6) (T := TX6) (N := 11) hx hb hts u6 tyX6 tyX6_ok nmX6 hown hK hP hD hS 0 rfl rfl 7 (by decide) k5 (fun _ h9 => h9) rfl (by decide +kernel) rfl rfl (Nat.le_of_ble_eq_true rfl) dX6_readEvent_146 (fun H locs hP hD hS => ?_)
                  have hP : va_P D vwCl (wX I C x0 x1 sg (nI L) (nI (x_T5 sg L a).2.1) ((x_T5 sg L a).2.2) (x_Z sg L a) ((x_T2 sg L a).2.2) ((x_T3 sg L a).2.2) ((x_T5 sg L a).2.2) xe xf xr) H := hP
                  have hD : va_D A (wX I C x0 x1 sg (nI L) (nI (x_T5 sg L a).2.1) ((x_T5 sg L a).2.2) (x_Z sg L a) ((x_T2 sg L a).2.2) ((x_T3 sg L a).2.2) ((x_T5 sg L a).2.2) xe xf xr) := hD
                  have hP : va_P D vwCl (wX I C x0 x1 sg (nI L) (nI (x_T5 sg L a).2.1) ((x_T5 sg L a).2.2) (x_Z sg L a) ((x_T2 sg L a).2.2) ((x_T3 sg L a).2.2) (x_am sg L a) xe xf xr) H := by rw [x_am_eq, x_ng_eq, if_pos c_131]; exact hP
                  have hD : va_D A (wX I C x0 x1 sg (nI L) (nI (x_T5 sg L a).2.1) ((x_T5 sg L a).2.2) (x_Z sg L a) ((x_T2 sg L a).2.2) ((x_T3 sg L a).2.2) (x_am sg L a) xe xf xr) := by rw [x_am_eq, x_ng_eq, if_pos c_131]; exact hD
                  refine lv_aload_n hx hb dX6_readEvent_149 rfl (lv_at hl 2 rfl) ?_
                  refine lv_aload_n hx hb dX6_readEvent_150 rfl (lv_at hl 2 rfl) ?_
                  refine k_iF (va_runV (As := []) (rest := [.ref x0]) hF (c_X6_readExcuse l D I C Q x0 x1 sg L ((x_T5 sg L a).2.1) ((x_T5 sg L a).2.2) (x_Z sg L a) ((x_T2 sg L a).2.2) ((x_T3 sg L a).2.2) (x_am sg L a) xe xf xr hL (k_le9 (a := a) (c := 20) (x_T5b sg L a) ha (by decide)) hsg _) (cwV 0 hts gX6_readEvent_X6_readExcuse rfl rfl rfl (by decide +kernel) ⟨Nat.le_of_ble_eq_true rfl, Nat.le_of_ble_eq_true rfl⟩) (kPreV hE hP hD (ci := 6) (q0 := 0) rfl rfl) rfl rfl hl.1 rfl (lv_room (Nat.le_of_ble_eq_true rfl)) dX6_readEvent_151 ⟨Nat.zero_le _, Nat.zero_le _⟩) hD hS hA (fun H locs hP hD hS => ?_)
                  have hP : va_P D vwCl (wX I C x0 x1 sg (nI L) (nI (x_XA sg L ((x_T5 sg L a).2.1))) ((x_T5 sg L a).2.2) (x_Z sg L a) ((x_T2 sg L a).2.2) ((x_T3 sg L a).2.2) (x_am sg L a) xe xf xr) H := hP
                  have hD : va_D A (wX I C x0 x1 sg (nI L) (nI (x_XA sg L ((x_T5 sg L a).2.1))) ((x_T5 sg L a).2.2) (x_Z sg L a) ((x_T2 sg L a).2.2) ((x_T3 sg L a).2.2) (x_am sg L a) xe xf xr) := hD
                  refine va_put (D := D) (ci := 6) (v := .int (x_X sg L ((x_T5 sg L a).2.1))) (ty := .int) (C := RX6) (T := TX6) (N := 11) hx hb hts u6 tyX6 tyX6_ok nmX6 hown hK hP hD hS 0 rfl rfl 8 (by decide) k6 (fun _ h9 => h9) rfl (by decide +kernel) rfl rfl (Nat.le_of_ble_eq_true rfl) dX6_readEvent_154 (fun H locs hP hD hS => ?_)
                  have hP : va_P D vwCl (wX I C x0 x1 sg (nI L) (nI (x_XA sg L ((x_T5 sg L a).2.1))) ((x_T5 sg L a).2.2) (x_Z sg L a) ((x_T2 sg L a).2.2) ((x_T3 sg L a).2.2) (x_am sg L a) (x_X sg L ((x_T5 sg L a).2.1)) xf xr) H := hP
                  have hD : va_D A (wX I C x0 x1 sg (nI L) (nI (x_XA sg L ((x_T5 sg L a).2.1))) ((x_T5 sg L a).2.2) (x_Z sg L a) ((x_T2 sg L a).2.2) ((x_T3 sg L a).2.2) (x_am sg L a) (x_X sg L ((x_T5 sg L a).2.1)) xf xr) := hD
                  refine lv_iload_n hx hb dX6_readEvent_157 rfl (lv_at hl 0 rfl) ?_
                  refine lv_if_eq (tgt := 177) hx hb dX6_readEvent_158 (by decide) (fun c_158 => ?_) (fun c_158 => ?_)
                  · refine lv_iconst (v := (-1)) hx hb dX6_readEvent_177 (by decide) ?_
                    exact hend _ _ _ _ _ _ hP hD hS dX6_readEvent_178 rfl (by simp +decide only [x_J, x_en_eq, x_aX_eq, x_ex_eq, x_T1_eq, hf5, if_true, if_false, not_true_eq_false, not_false_eq_true, and_self, and_true, true_and, and_false, false_and, kn01, kn10, kn02, kn20, kn12, kn21, eq_self]) (by simp +decide only [x_r, x_eo_eq, x_en_eq, x_aX_eq, hf5, if_true, if_false, not_true_eq_false, not_false_eq_true, and_self, and_true, true_and, and_false, false_and, kn01, kn10, kn02, kn20, kn12, kn21, eq_self])
                  · exact (c_158 (by decide)).elim
                · refine lv_aload_n hx hb dX6_readEvent_134 rfl (lv_at hl 2 rfl) ?_
                  refine va_get (D := D) (ci := 6) (v := .int ((x_T5 sg L a).2.2)) (C := RX6) (T := TX6) (N := 11) hx hb hts u6 hown hK hP 0 rfl rfl 3 (by decide) k1 (fun _ h9 => h9) rfl dX6_readEvent_135 ?_
                  refine lv_ineg hx hb dX6_readEvent_138 ?_
                  refine lv_goto (tgt := 146) hx hb dX6_readEvent_139 (by decide) ?_
                  refine va_put (D := D) (ci := 6) (v := .int (-((x_T5 sg L a).2.2))) (ty := .int) (C := RX6) (T := TX6) (N := 11) hx hb hts u6 tyX6 tyX6_ok nmX6 hown hK hP hD hS 0 rfl rfl 7 (by decide) k5 (fun _ h9 => h9) rfl (by decide +kernel) rfl rfl (Nat.le_of_ble_eq_true rfl) dX6_readEvent_146 (fun H locs hP hD hS => ?_)
                  have hP : va_P D vwCl (wX I C x0 x1 sg (nI L) (nI (x_T5 sg L a).2.1) ((x_T5 sg L a).2.2) (x_Z sg L a) ((x_T2 sg L a).2.2) ((x_T3 sg L a).2.2) (-((x_T5 sg L a).2.2)) xe xf xr) H := hP
                  have hD : va_D A (wX I C x0 x1 sg (nI L) (nI (x_T5 sg L a).2.1) ((x_T5 sg L a).2.2) (x_Z sg L a) ((x_T2 sg L a).2.2) ((x_T3 sg L a).2.2) (-((x_T5 sg L a).2.2)) xe xf xr) := hD
                  have hP : va_P D vwCl (wX I C x0 x1 sg (nI L) (nI (x_T5 sg L a).2.1) ((x_T5 sg L a).2.2) (x_Z sg L a) ((x_T2 sg L a).2.2) ((x_T3 sg L a).2.2) (x_am sg L a) xe xf xr) H := by rw [x_am_eq, x_ng_eq, if_neg c_131]; exact hP
                  have hD : va_D A (wX I C x0 x1 sg (nI L) (nI (x_T5 sg L a).2.1) ((x_T5 sg L a).2.2) (x_Z sg L a) ((x_T2 sg L a).2.2) ((x_T3 sg L a).2.2) (x_am sg L a) xe xf xr) := by rw [x_am_eq, x_ng_eq, if_neg c_131]; exact hD
                  refine lv_aload_n hx hb dX6_readEvent_149 rfl (lv_at hl 2 rfl) ?_
                  refine lv_aload_n hx hb dX6_readEvent_150 rfl (lv_at hl 2 rfl) ?_
                  refine k_iF (va_runV (As := []) (rest := [.ref x0]) hF (c_X6_readExcuse l D I C Q x0 x1 sg L ((x_T5 sg L a).2.1) ((x_T5 sg L a).2.2) (x_Z sg L a) ((x_T2 sg L a).2.2) ((x_T3 sg L a).2.2) (x_am sg L a) xe xf xr hL (k_le9 (a := a) (c := 20) (x_T5b sg L a) ha (by decide)) hsg _) (cwV 0 hts gX6_readEvent_X6_readExcuse rfl rfl rfl (by decide +kernel) ⟨Nat.le_of_ble_eq_true rfl, Nat.le_of_ble_eq_true rfl⟩) (kPreV hE hP hD (ci := 6) (q0 := 0) rfl rfl) rfl rfl hl.1 rfl (lv_room (Nat.le_of_ble_eq_true rfl)) dX6_readEvent_151 ⟨Nat.zero_le _, Nat.zero_le _⟩) hD hS hA (fun H locs hP hD hS => ?_)
                  have hP : va_P D vwCl (wX I C x0 x1 sg (nI L) (nI (x_XA sg L ((x_T5 sg L a).2.1))) ((x_T5 sg L a).2.2) (x_Z sg L a) ((x_T2 sg L a).2.2) ((x_T3 sg L a).2.2) (x_am sg L a) xe xf xr) H := hP
                  have hD : va_D A (wX I C x0 x1 sg (nI L) (nI (x_XA sg L ((x_T5 sg L a).2.1))) ((x_T5 sg L a).2.2) (x_Z sg L a) ((x_T2 sg L a).2.2) ((x_T3 sg L a).2.2) (x_am sg L a) xe xf xr) := hD
                  refine va_put (D := D) (ci := 6) (v := .int (x_X sg L ((x_T5 sg L a).2.1))) (ty := .int) (C := RX6) (T := TX6) (N := 11) hx hb hts u6 tyX6 tyX6_ok nmX6 hown hK hP hD hS 0 rfl rfl 8 (by decide) k6 (fun _ h9 => h9) rfl (by decide +kernel) rfl rfl (Nat.le_of_ble_eq_true rfl) dX6_readEvent_154 (fun H locs hP hD hS => ?_)
                  have hP : va_P D vwCl (wX I C x0 x1 sg (nI L) (nI (x_XA sg L ((x_T5 sg L a).2.1))) ((x_T5 sg L a).2.2) (x_Z sg L a) ((x_T2 sg L a).2.2) ((x_T3 sg L a).2.2) (x_am sg L a) (x_X sg L ((x_T5 sg L a).2.1)) xf xr) H := hP
                  have hD : va_D A (wX I C x0 x1 sg (nI L) (nI (x_XA sg L ((x_T5 sg L a).2.1))) ((x_T5 sg L a).2.2) (x_Z sg L a) ((x_T2 sg L a).2.2) ((x_T3 sg L a).2.2) (x_am sg L a) (x_X sg L ((x_T5 sg L a).2.1)) xf xr) := hD
                  refine lv_iload_n hx hb dX6_readEvent_157 rfl (lv_at hl 0 rfl) ?_
                  refine lv_if_eq (tgt := 177) hx hb dX6_readEvent_158 (by decide) (fun c_158 => ?_) (fun c_158 => ?_)
                  · refine lv_iconst (v := (-1)) hx hb dX6_readEvent_177 (by decide) ?_
                    exact hend _ _ _ _ _ _ hP hD hS dX6_readEvent_178 rfl (by simp +decide only [x_J, x_en_eq, x_aX_eq, x_ex_eq, x_T1_eq, hf5, if_true, if_false, not_true_eq_false, not_false_eq_true, and_self, and_true, true_and, and_false, false_and, kn01, kn10, kn02, kn20, kn12, kn21, eq_self]) (by simp +decide only [x_r, x_eo_eq, x_en_eq, x_aX_eq, hf5, if_true, if_false, not_true_eq_false, not_false_eq_true, and_self, and_true, true_and, and_false, false_and, kn01, kn10, kn02, kn20, kn12, kn21, eq_self])
                  · exact (c_158 (by decide)).elim
              · exact (c_113 (by decide)).elim
            · exact (c_87 (by decide)).elim
          · refine lv_aload_n hx hb dX6_readEvent_65 rfl (lv_at hl 1 rfl) ?_
            refine k_iF (va_runV (As := []) (rest := []) hF (c_X6_readNumber l D I C Q x0 x1 sg L (x_ra sg L ((x_T2 sg L a).2.1) 44) ((x_T2 sg L a).2.2) (x_Z sg L a) ((x_T2 sg L a).2.2) xk xa xe xf xr hL (k_le1 (a := a) (c := 10) (Nat.le_trans (x_ra_le sg L _ 44) (Nat.add_le_add_right (x_T2b sg L a) 1)) ha (by decide)) hsg _) (cwV 0 hts gX6_readEvent_X6_readNumber rfl rfl rfl (by decide +kernel) ⟨Nat.le_of_ble_eq_true rfl, Nat.le_of_ble_eq_true rfl⟩) (kPreV hE hP hD (ci := 6) (q0 := 0) rfl rfl) rfl rfl hl.1 rfl (lv_room (Nat.le_of_ble_eq_true rfl)) dX6_readEvent_66 ⟨Nat.zero_le _, Nat.zero_le _⟩) hD hS hA (fun H locs hP hD hS => ?_)
            have hP : va_P D vwCl (wX I C x0 x1 sg (nI L) (nI (x_A sg L (x_ra sg L ((x_T2 sg L a).2.1) 44))) (x_Z sg L (x_ra sg L ((x_T2 sg L a).2.1) 44)) (x_Z sg L a) ((x_T2 sg L a).2.2) xk xa xe xf xr) H := hP
            have hD : va_D A (wX I C x0 x1 sg (nI L) (nI (x_A sg L (x_ra sg L ((x_T2 sg L a).2.1) 44))) (x_Z sg L (x_ra sg L ((x_T2 sg L a).2.1) 44)) (x_Z sg L a) ((x_T2 sg L a).2.2) xk xa xe xf xr) := hD
            refine lv_if_eq (tgt := 76) hx hb dX6_readEvent_69 (by decide) (fun c_69 => ?_) (fun c_69 => ?_)
            · refine lv_iconst (v := 0) hx hb dX6_readEvent_76 (by decide) ?_
              have hT3 : x_T3 sg L a = (0, (x_A sg L (x_ra sg L ((x_T2 sg L a).2.1) 44)), x_Z sg L (x_ra sg L ((x_T2 sg L a).2.1) 44)) := by simp +decide only [x_T3_eq, x_st, c_62, c_69, hf2, if_true, if_false, not_true_eq_false, not_false_eq_true, and_self, and_true, true_and, and_false, false_and, kn01, kn10, kn02, kn20, kn12, kn21, eq_self]
              have hf3 : (x_T3 sg L a).1 = 0 := by rw [hT3]
              have hP : va_P D vwCl (wX I C x0 x1 sg (nI L) (nI (x_T3 sg L a).2.1) ((x_T3 sg L a).2.2) (x_Z sg L a) ((x_T2 sg L a).2.2) xk xa xe xf xr) H := by rw [hT3]; exact hP
              have hD : va_D A (wX I C x0 x1 sg (nI L) (nI (x_T3 sg L a).2.1) ((x_T3 sg L a).2.2) (x_Z sg L a) ((x_T2 sg L a).2.2) xk xa xe xf xr) := by rw [hT3]; exact hD
              refine lv_istore_n (lv' := [(2, .int 0), (0, .ref x0), (1, .int (nI a))]) hx hb dX6_readEvent_77 rfl hl (by decide) rfl (fun ls hl => ?_)
              refine lv_aload_n hx hb dX6_readEvent_78 rfl (lv_at hl 1 rfl) ?_
              refine lv_aload_n hx hb dX6_readEvent_79 rfl (lv_at hl 1 rfl) ?_
              refine va_get (D := D) (ci := 6) (v := .int ((x_T3 sg L a).2.2)) (C := RX6) (T := TX6) (N := 11) hx hb hts u6 hown hK hP 0 rfl rfl 3 (by decide) k1 (fun _ h9 => h9) rfl dX6_readEvent_80 ?_
              refine va_put (D := D) (ci := 6) (v := .int ((x_T3 sg L a).2.2)) (ty := .int) (C := RX6) (T := TX6) (N := 11) hx hb hts u6 tyX6 tyX6_ok nmX6 hown hK hP hD hS 0 rfl rfl 6 (by decide) k4 (fun _ h9 => h9) rfl (by decide +kernel) rfl rfl (Nat.le_of_ble_eq_true rfl) dX6_readEvent_83 (fun H locs hP hD hS => ?_)
              have hP : va_P D vwCl (wX I C x0 x1 sg (nI L) (nI (x_T3 sg L a).2.1) ((x_T3 sg L a).2.2) (x_Z sg L a) ((x_T2 sg L a).2.2) ((x_T3 sg L a).2.2) xa xe xf xr) H := hP
              have hD : va_D A (wX I C x0 x1 sg (nI L) (nI (x_T3 sg L a).2.1) ((x_T3 sg L a).2.2) (x_Z sg L a) ((x_T2 sg L a).2.2) ((x_T3 sg L a).2.2) xa xe xf xr) := hD
              refine lv_iload_n hx hb dX6_readEvent_86 rfl (lv_at hl 0 rfl) ?_
              refine lv_if_eq (tgt := 103) hx hb dX6_readEvent_87 (by decide) (fun c_87 => ?_) (fun c_87 => ?_)
              · refine lv_iconst (v := 0) hx hb dX6_readEvent_103 (by decide) ?_
                have hT4 : x_T4 sg L a = (0, ((x_T3 sg L a).2.1), (x_T3 sg L a).2.2) := by simp +decide only [x_T4_eq, x_cm, hf3, if_true, if_false, not_true_eq_false, not_false_eq_true, and_self, and_true, true_and, and_false, false_and, kn01, kn10, kn02, kn20, kn12, kn21, eq_self]
                have hf4 : (x_T4 sg L a).1 = 0 := by rw [hT4]
                have hP : va_P D vwCl (wX I C x0 x1 sg (nI L) (nI (x_T4 sg L a).2.1) ((x_T4 sg L a).2.2) (x_Z sg L a) ((x_T2 sg L a).2.2) ((x_T3 sg L a).2.2) xa xe xf xr) H := by rw [hT4]; exact hP
                have hD : va_D A (wX I C x0 x1 sg (nI L) (nI (x_T4 sg L a).2.1) ((x_T4 sg L a).2.2) (x_Z sg L a) ((x_T2 sg L a).2.2) ((x_T3 sg L a).2.2) xa xe xf xr) := by rw [hT4]; exact hD
                refine lv_istore_n (lv' := [(2, .int 0), (0, .ref x0), (1, .int (nI a))]) hx hb dX6_readEvent_104 rfl hl (by decide) rfl (fun ls hl => ?_)
                refine lv_aload_n hx hb dX6_readEvent_105 rfl (lv_at hl 1 rfl) ?_
                refine lv_bipush (v := 45) hx hb dX6_readEvent_106 (by decide) ?_
                refine k_iF (va_runV (As := [.int 45]) (rest := []) hF (c_X6_readSign l D I C Q x0 x1 sg L ((x_T4 sg L a).2.1) ((x_T4 sg L a).2.2) (x_Z sg L a) ((x_T2 sg L a).2.2) ((x_T3 sg L a).2.2) xa xe xf xr 45 hL (k_le2 (a := a) (c := 15) (x_T4b sg L a) ha (by decide)) hsg _) (cwV 1 hts gX6_readEvent_X6_readSign rfl rfl rfl (by decide +kernel) ⟨Nat.le_of_ble_eq_true rfl, Nat.le_of_ble_eq_true rfl⟩) (kPreV hE hP hD (ci := 6) (q0 := 0) rfl rfl) rfl rfl hl.1 rfl (lv_room (Nat.le_of_ble_eq_true rfl)) dX6_readEvent_108 ⟨Nat.zero_le _, Nat.zero_le _⟩) hD hS hA (fun H locs hP hD hS => ?_)
                have hP : va_P D vwCl (wX I C x0 x1 sg (nI L) (nI (x_ra sg L ((x_T4 sg L a).2.1) 45)) ((x_T4 sg L a).2.2) (x_Z sg L a) ((x_T2 sg L a).2.2) ((x_T3 sg L a).2.2) xa xe xf xr) H := hP
                have hD : va_D A (wX I C x0 x1 sg (nI L) (nI (x_ra sg L ((x_T4 sg L a).2.1) 45)) ((x_T4 sg L a).2.2) (x_Z sg L a) ((x_T2 sg L a).2.2) ((x_T3 sg L a).2.2) xa xe xf xr) := hD
                refine lv_istore_n (lv' := [(3, .int (x_rs sg L ((x_T4 sg L a).2.1) 45)), (2, .int 0), (0, .ref x0), (1, .int (nI a))]) hx hb dX6_readEvent_111 rfl hl (by decide) rfl (fun ls hl => ?_)
                refine lv_iload_n hx hb dX6_readEvent_112 rfl (lv_at hl 1 rfl) ?_
                refine lv_if_eq (tgt := 127) hx hb dX6_readEvent_113 (by decide) (fun c_113 => ?_) (fun c_113 => ?_)
                · refine lv_iconst (v := 0) hx hb dX6_readEvent_127 (by decide) ?_
                  have hT5 : x_T5 sg L a = (0, (x_ra sg L ((x_T4 sg L a).2.1) 45), (x_T4 sg L a).2.2) := by simp +decide only [x_T5_eq, x_nm, hf4, if_true, if_false, not_true_eq_false, not_false_eq_true, and_self, and_true, true_and, and_false, false_and, kn01, kn10, kn02, kn20, kn12, kn21, eq_self]
                  have hf5 : (x_T5 sg L a).1 = 0 := by rw [hT5]
                  have hP : va_P D vwCl (wX I C x0 x1 sg (nI L) (nI (x_T5 sg L a).2.1) ((x_T5 sg L a).2.2) (x_Z sg L a) ((x_T2 sg L a).2.2) ((x_T3 sg L a).2.2) xa xe xf xr) H := by rw [hT5]; exact hP
                  have hD : va_D A (wX I C x0 x1 sg (nI L) (nI (x_T5 sg L a).2.1) ((x_T5 sg L a).2.2) (x_Z sg L a) ((x_T2 sg L a).2.2) ((x_T3 sg L a).2.2) xa xe xf xr) := by rw [hT5]; exact hD
                  refine lv_istore_n (lv' := [(2, .int 0), (3, .int (x_rs sg L ((x_T4 sg L a).2.1) 45)), (0, .ref x0), (1, .int (nI a))]) hx hb dX6_readEvent_128 rfl hl (by decide) rfl (fun ls hl => ?_)
                  refine lv_aload_n hx hb dX6_readEvent_129 rfl (lv_at hl 2 rfl) ?_
                  refine lv_iload_n hx hb dX6_readEvent_130 rfl (lv_at hl 1 rfl) ?_
                  refine lv_if_eq (tgt := 142) hx hb dX6_readEvent_131 (by decide) (fun c_131 => ?_) (fun c_131 => ?_)
                  · refine lv_aload_n hx hb dX6_readEvent_142 rfl (lv_at hl 2 rfl) ?_
                    refine va_get (D := D) (ci := 6) (v := .int ((x_T5 sg L a).2.2)) (C := RX6) (T := TX6) (N := 11) hx hb hts u6 hown hK hP 0 rfl rfl 3 (by decide) k1 (fun _ h9 => h9) rfl dX6_readEvent_143 ?_
                    refine va_put (D := D) (ci := 6) (v := .int ((x_T5 sg L a).2.2)) (ty := .int) (C := RX6) (T := TX6) (N := 11) hx hb hts u6 tyX6 tyX6_ok nmX6 hown hK hP hD hS 0 rfl rfl 7 (by decide) k5 (fun _ h9 => h9) rfl (by decide +kernel) rfl rfl (Nat.le_of_ble_eq_true rfl) dX6_readEvent_146 (fun H locs hP hD hS => ?_)
                    have hP : va_P D vwCl (wX I C x0 x1 sg (nI L) (nI (x_T5 sg L a).2.1) ((x_T5 sg L a).2.2) (x_Z sg L a) ((x_T2 sg L a).2.2) ((x_T3 sg L a).2.2) ((x_T5 sg L a).2.2) xe xf xr) H := hP
                    have hD : va_D A (wX I C x0 x1 sg (nI L) (nI (x_T5 sg L a).2.1) ((x_T5 sg L a).2.2) (x_Z sg L a) ((x_T2 sg L a).2.2) ((x_T3 sg L a).2.2) ((x_T5 sg L a).2.2) xe xf xr) := hD
                    have hP : va_P D vwCl (wX I C x0 x1 sg (nI L) (nI (x_T5 sg L a).2.1) ((x_T5 sg L a).2.2) (x_Z sg L a) ((x_T2 sg L a).2.2) ((x_T3 sg L a).2.2) (x_am sg L a) xe xf xr) H := by rw [x_am_eq, x_ng_eq, if_pos c_131]; exact hP
                    have hD : va_D A (wX I C x0 x1 sg (nI L) (nI (x_T5 sg L a).2.1) ((x_T5 sg L a).2.2) (x_Z sg L a) ((x_T2 sg L a).2.2) ((x_T3 sg L a).2.2) (x_am sg L a) xe xf xr) := by rw [x_am_eq, x_ng_eq, if_pos c_131]; exact hD
                    refine lv_aload_n hx hb dX6_readEvent_149 rfl (lv_at hl 2 rfl) ?_
                    refine lv_aload_n hx hb dX6_readEvent_150 rfl (lv_at hl 2 rfl) ?_
                    refine k_iF (va_runV (As := []) (rest := [.ref x0]) hF (c_X6_readExcuse l D I C Q x0 x1 sg L ((x_T5 sg L a).2.1) ((x_T5 sg L a).2.2) (x_Z sg L a) ((x_T2 sg L a).2.2) ((x_T3 sg L a).2.2) (x_am sg L a) xe xf xr hL (k_le9 (a := a) (c := 20) (x_T5b sg L a) ha (by decide)) hsg _) (cwV 0 hts gX6_readEvent_X6_readExcuse rfl rfl rfl (by decide +kernel) ⟨Nat.le_of_ble_eq_true rfl, Nat.le_of_ble_eq_true rfl⟩) (kPreV hE hP hD (ci := 6) (q0 := 0) rfl rfl) rfl rfl hl.1 rfl (lv_room (Nat.le_of_ble_eq_true rfl)) dX6_readEvent_151 ⟨Nat.zero_le _, Nat.zero_le _⟩) hD hS hA (fun H locs hP hD hS => ?_)
                    have hP : va_P D vwCl (wX I C x0 x1 sg (nI L) (nI (x_XA sg L ((x_T5 sg L a).2.1))) ((x_T5 sg L a).2.2) (x_Z sg L a) ((x_T2 sg L a).2.2) ((x_T3 sg L a).2.2) (x_am sg L a) xe xf xr) H := hP
                    have hD : va_D A (wX I C x0 x1 sg (nI L) (nI (x_XA sg L ((x_T5 sg L a).2.1))) ((x_T5 sg L a).2.2) (x_Z sg L a) ((x_T2 sg L a).2.2) ((x_T3 sg L a).2.2) (x_am sg L a) xe xf xr) := hD
                    refine va_put (D := D) (ci := 6) (v := .int (x_X sg L ((x_T5 sg L a).2.1))) (ty := .int) (C := RX6) (T := TX6) (N := 11) hx hb hts u6 tyX6 tyX6_ok nmX6 hown hK hP hD hS 0 rfl rfl 8 (by decide) k6 (fun _ h9 => h9) rfl (by decide +kernel) rfl rfl (Nat.le_of_ble_eq_true rfl) dX6_readEvent_154 (fun H locs hP hD hS => ?_)
                    have hP : va_P D vwCl (wX I C x0 x1 sg (nI L) (nI (x_XA sg L ((x_T5 sg L a).2.1))) ((x_T5 sg L a).2.2) (x_Z sg L a) ((x_T2 sg L a).2.2) ((x_T3 sg L a).2.2) (x_am sg L a) (x_X sg L ((x_T5 sg L a).2.1)) xf xr) H := hP
                    have hD : va_D A (wX I C x0 x1 sg (nI L) (nI (x_XA sg L ((x_T5 sg L a).2.1))) ((x_T5 sg L a).2.2) (x_Z sg L a) ((x_T2 sg L a).2.2) ((x_T3 sg L a).2.2) (x_am sg L a) (x_X sg L ((x_T5 sg L a).2.1)) xf xr) := hD
                    refine lv_iload_n hx hb dX6_readEvent_157 rfl (lv_at hl 0 rfl) ?_
                    refine lv_if_eq (tgt := 177) hx hb dX6_readEvent_158 (by decide) (fun c_158 => ?_) (fun c_158 => ?_)
                    · refine lv_iconst (v := (-1)) hx hb dX6_readEvent_177 (by decide) ?_
                      exact hend _ _ _ _ _ _ hP hD hS dX6_readEvent_178 rfl (by simp +decide only [x_J, x_en_eq, x_aX_eq, x_ex_eq, x_T1_eq, hf5, if_true, if_false, not_true_eq_false, not_false_eq_true, and_self, and_true, true_and, and_false, false_and, kn01, kn10, kn02, kn20, kn12, kn21, eq_self]) (by simp +decide only [x_r, x_eo_eq, x_en_eq, x_aX_eq, hf5, if_true, if_false, not_true_eq_false, not_false_eq_true, and_self, and_true, true_and, and_false, false_and, kn01, kn10, kn02, kn20, kn12, kn21, eq_self])
                    · exact (c_158 (by decide)).elim
                  · refine lv_aload_n hx hb dX6_readEvent_134 rfl (lv_at hl 2 rfl) ?_
                    refine va_get (D := D) (ci := 6) (v := .int ((x_T5 sg L a).2.2)) (C := RX6) (T := TX6) (N := 11) hx hb hts u6 hown hK hP 0 rfl rfl 3 (by decide) k1 (fun _ h9 => h9) rfl dX6_readEvent_135 ?_
                    refine lv_ineg hx hb dX6_readEvent_138 ?_
                    refine lv_goto (tgt := 146) hx hb dX6_readEvent_139 (by decide) ?_
                    refine va_put (D := D) (ci := 6) (v := .int (-((x_T5 sg L a).2.2))) (ty := .int) (C := RX6) (T := TX6) (N := 11) hx hb hts u6 tyX6 tyX6_ok nmX6 hown hK hP hD hS 0 rfl rfl 7 (by decide) k5 (fun _ h9 => h9) rfl (by decide +kernel) rfl rfl (Nat.le_of_ble_eq_true rfl) dX6_readEvent_146 (fun H locs hP hD hS => ?_)
                    have hP : va_P D vwCl (wX I C x0 x1 sg (nI L) (nI (x_T5 sg L a).2.1) ((x_T5 sg L a).2.2) (x_Z sg L a) ((x_T2 sg L a).2.2) ((x_T3 sg L a).2.2) (-((x_T5 sg L a).2.2)) xe xf xr) H := hP
                    have hD : va_D A (wX I C x0 x1 sg (nI L) (nI (x_T5 sg L a).2.1) ((x_T5 sg L a).2.2) (x_Z sg L a) ((x_T2 sg L a).2.2) ((x_T3 sg L a).2.2) (-((x_T5 sg L a).2.2)) xe xf xr) := hD
                    have hP : va_P D vwCl (wX I C x0 x1 sg (nI L) (nI (x_T5 sg L a).2.1) ((x_T5 sg L a).2.2) (x_Z sg L a) ((x_T2 sg L a).2.2) ((x_T3 sg L a).2.2) (x_am sg L a) xe xf xr) H := by rw [x_am_eq, x_ng_eq, if_neg c_131]; exact hP
                    have hD : va_D A (wX I C x0 x1 sg (nI L) (nI (x_T5 sg L a).2.1) ((x_T5 sg L a).2.2) (x_Z sg L a) ((x_T2 sg L a).2.2) ((x_T3 sg L a).2.2) (x_am sg L a) xe xf xr) := by rw [x_am_eq, x_ng_eq, if_neg c_131]; exact hD
                    refine lv_aload_n hx hb dX6_readEvent_149 rfl (lv_at hl 2 rfl) ?_
                    refine lv_aload_n hx hb dX6_readEvent_150 rfl (lv_at hl 2 rfl) ?_
                    refine k_iF (va_runV (As := []) (rest := [.ref x0]) hF (c_X6_readExcuse l D I C Q x0 x1 sg L ((x_T5 sg L a).2.1) ((x_T5 sg L a).2.2) (x_Z sg L a) ((x_T2 sg L a).2.2) ((x_T3 sg L a).2.2) (x_am sg L a) xe xf xr hL (k_le9 (a := a) (c := 20) (x_T5b sg L a) ha (by decide)) hsg _) (cwV 0 hts gX6_readEvent_X6_readExcuse rfl rfl rfl (by decide +kernel) ⟨Nat.le_of_ble_eq_true rfl, Nat.le_of_ble_eq_true rfl⟩) (kPreV hE hP hD (ci := 6) (q0 := 0) rfl rfl) rfl rfl hl.1 rfl (lv_room (Nat.le_of_ble_eq_true rfl)) dX6_readEvent_151 ⟨Nat.zero_le _, Nat.zero_le _⟩) hD hS hA (fun H locs hP hD hS => ?_)
                    have hP : va_P D vwCl (wX I C x0 x1 sg (nI L) (nI (x_XA sg L ((x_T5 sg L a).2.1))) ((x_T5 sg L a).2.2) (x_Z sg L a) ((x_T2 sg L a).2.2) ((x_T3 sg L a).2.2) (x_am sg L a) xe xf xr) H := hP
                    have hD : va_D A (wX I C x0 x1 sg (nI L) (nI (x_XA sg L ((x_T5 sg L a).2.1))) ((x_T5 sg L a).2.2) (x_Z sg L a) ((x_T2 sg L a).2.2) ((x_T3 sg L a).2.2) (x_am sg L a) xe xf xr) := hD
                    refine va_put (D := D) (ci := 6) (v := .int (x_X sg L ((x_T5 sg L a).2.1))) (ty := .int) (C := RX6) (T := TX6) (N := 11) hx hb hts u6 tyX6 tyX6_ok nmX6 hown hK hP hD hS 0 rfl rfl 8 (by decide) k6 (fun _ h9 => h9) rfl (by decide +kernel) rfl rfl (Nat.le_of_ble_eq_true rfl) dX6_readEvent_154 (fun H locs hP hD hS => ?_)
                    have hP : va_P D vwCl (wX I C x0 x1 sg (nI L) (nI (x_XA sg L ((x_T5 sg L a).2.1))) ((x_T5 sg L a).2.2) (x_Z sg L a) ((x_T2 sg L a).2.2) ((x_T3 sg L a).2.2) (x_am sg L a) (x_X sg L ((x_T5 sg L a).2.1)) xf xr) H := hP
                    have hD : va_D A (wX I C x0 x1 sg (nI L) (nI (x_XA sg L ((x_T5 sg L a).2.1))) ((x_T5 sg L a).2.2) (x_Z sg L a) ((x_T2 sg L a).2.2) ((x_T3 sg L a).2.2) (x_am sg L a) (x_X sg L ((x_T5 sg L a).2.1)) xf xr) := hD
                    refine lv_iload_n hx hb dX6_readEvent_157 rfl (lv_at hl 0 rfl) ?_
                    refine lv_if_eq (tgt := 177) hx hb dX6_readEvent_158 (by decide) (fun c_158 => ?_) (fun c_158 => ?_)
                    · refine lv_iconst (v := (-1)) hx hb dX6_readEvent_177 (by decide) ?_
                      exact hend _ _ _ _ _ _ hP hD hS dX6_readEvent_178 rfl (by simp +decide only [x_J, x_en_eq, x_aX_eq, x_ex_eq, x_T1_eq, hf5, if_true, if_false, not_true_eq_false, not_false_eq_true, and_self, and_true, true_and, and_false, false_and, kn01, kn10, kn02, kn20, kn12, kn21, eq_self]) (by simp +decide only [x_r, x_eo_eq, x_en_eq, x_aX_eq, hf5, if_true, if_false, not_true_eq_false, not_false_eq_true, and_self, and_true, true_and, and_false, false_and, kn01, kn10, kn02, kn20, kn12, kn21, eq_self])
                    · exact (c_158 (by decide)).elim
                · exact (c_113 (by decide)).elim
              · exact (c_87 (by decide)).elim
            · refine lv_iconst (v := 1) hx hb dX6_readEvent_72 (by decide) ?_
              refine lv_goto (tgt := 77) hx hb dX6_readEvent_73 (by decide) ?_
              have hT3 : x_T3 sg L a = (1, (x_A sg L (x_ra sg L ((x_T2 sg L a).2.1) 44)), x_Z sg L (x_ra sg L ((x_T2 sg L a).2.1) 44)) := by simp +decide only [x_T3_eq, x_st, c_62, c_69, hf2, if_true, if_false, not_true_eq_false, not_false_eq_true, and_self, and_true, true_and, and_false, false_and, kn01, kn10, kn02, kn20, kn12, kn21, eq_self]
              have hf3 : (x_T3 sg L a).1 = 1 := by rw [hT3]
              have hP : va_P D vwCl (wX I C x0 x1 sg (nI L) (nI (x_T3 sg L a).2.1) ((x_T3 sg L a).2.2) (x_Z sg L a) ((x_T2 sg L a).2.2) xk xa xe xf xr) H := by rw [hT3]; exact hP
              have hD : va_D A (wX I C x0 x1 sg (nI L) (nI (x_T3 sg L a).2.1) ((x_T3 sg L a).2.2) (x_Z sg L a) ((x_T2 sg L a).2.2) xk xa xe xf xr) := by rw [hT3]; exact hD
              refine lv_istore_n (lv' := [(2, .int 1), (0, .ref x0), (1, .int (nI a))]) hx hb dX6_readEvent_77 rfl hl (by decide) rfl (fun ls hl => ?_)
              refine lv_aload_n hx hb dX6_readEvent_78 rfl (lv_at hl 1 rfl) ?_
              refine lv_aload_n hx hb dX6_readEvent_79 rfl (lv_at hl 1 rfl) ?_
              refine va_get (D := D) (ci := 6) (v := .int ((x_T3 sg L a).2.2)) (C := RX6) (T := TX6) (N := 11) hx hb hts u6 hown hK hP 0 rfl rfl 3 (by decide) k1 (fun _ h9 => h9) rfl dX6_readEvent_80 ?_
              refine va_put (D := D) (ci := 6) (v := .int ((x_T3 sg L a).2.2)) (ty := .int) (C := RX6) (T := TX6) (N := 11) hx hb hts u6 tyX6 tyX6_ok nmX6 hown hK hP hD hS 0 rfl rfl 6 (by decide) k4 (fun _ h9 => h9) rfl (by decide +kernel) rfl rfl (Nat.le_of_ble_eq_true rfl) dX6_readEvent_83 (fun H locs hP hD hS => ?_)
              have hP : va_P D vwCl (wX I C x0 x1 sg (nI L) (nI (x_T3 sg L a).2.1) ((x_T3 sg L a).2.2) (x_Z sg L a) ((x_T2 sg L a).2.2) ((x_T3 sg L a).2.2) xa xe xf xr) H := hP
              have hD : va_D A (wX I C x0 x1 sg (nI L) (nI (x_T3 sg L a).2.1) ((x_T3 sg L a).2.2) (x_Z sg L a) ((x_T2 sg L a).2.2) ((x_T3 sg L a).2.2) xa xe xf xr) := hD
              refine lv_iload_n hx hb dX6_readEvent_86 rfl (lv_at hl 0 rfl) ?_
              refine lv_if_eq (tgt := 103) hx hb dX6_readEvent_87 (by decide) (fun c_87 => ?_) (fun c_87 => ?_)
              · exact absurd c_87 (by decide)
              · refine lv_aload_n hx hb dX6_readEvent_90 rfl (lv_at hl 1 rfl) ?_
                refine lv_bipush (v := 44) hx hb dX6_readEvent_91 (by decide) ?_
                refine k_iF (va_runV (As := [.int 44]) (rest := []) hF (c_X6_readSign l D I C Q x0 x1 sg L ((x_T3 sg L a).2.1) ((x_T3 sg L a).2.2) (x_Z sg L a) ((x_T2 sg L a).2.2) ((x_T3 sg L a).2.2) xa xe xf xr 44 hL (k_le2 (a := a) (c := 14) (x_T3b sg L a) ha (by decide)) hsg _) (cwV 1 hts gX6_readEvent_X6_readSign rfl rfl rfl (by decide +kernel) ⟨Nat.le_of_ble_eq_true rfl, Nat.le_of_ble_eq_true rfl⟩) (kPreV hE hP hD (ci := 6) (q0 := 0) rfl rfl) rfl rfl hl.1 rfl (lv_room (Nat.le_of_ble_eq_true rfl)) dX6_readEvent_93 ⟨Nat.zero_le _, Nat.zero_le _⟩) hD hS hA (fun H locs hP hD hS => ?_)
                have hP : va_P D vwCl (wX I C x0 x1 sg (nI L) (nI (x_ra sg L ((x_T3 sg L a).2.1) 44)) ((x_T3 sg L a).2.2) (x_Z sg L a) ((x_T2 sg L a).2.2) ((x_T3 sg L a).2.2) xa xe xf xr) H := hP
                have hD : va_D A (wX I C x0 x1 sg (nI L) (nI (x_ra sg L ((x_T3 sg L a).2.1) 44)) ((x_T3 sg L a).2.2) (x_Z sg L a) ((x_T2 sg L a).2.2) ((x_T3 sg L a).2.2) xa xe xf xr) := hD
                refine lv_if_eq (tgt := 103) hx hb dX6_readEvent_96 (by decide) (fun c_96 => ?_) (fun c_96 => ?_)
                · refine lv_iconst (v := 0) hx hb dX6_readEvent_103 (by decide) ?_
                  have hT4 : x_T4 sg L a = (0, (x_ra sg L ((x_T3 sg L a).2.1) 44), (x_T3 sg L a).2.2) := by simp +decide only [x_T4_eq, x_cm, c_96, hf3, if_true, if_false, not_true_eq_false, not_false_eq_true, and_self, and_true, true_and, and_false, false_and, kn01, kn10, kn02, kn20, kn12, kn21, eq_self]
                  have hf4 : (x_T4 sg L a).1 = 0 := by rw [hT4]
                  have hP : va_P D vwCl (wX I C x0 x1 sg (nI L) (nI (x_T4 sg L a).2.1) ((x_T4 sg L a).2.2) (x_Z sg L a) ((x_T2 sg L a).2.2) ((x_T3 sg L a).2.2) xa xe xf xr) H := by rw [hT4]; exact hP
                  have hD : va_D A (wX I C x0 x1 sg (nI L) (nI (x_T4 sg L a).2.1) ((x_T4 sg L a).2.2) (x_Z sg L a) ((x_T2 sg L a).2.2) ((x_T3 sg L a).2.2) xa xe xf xr) := by rw [hT4]; exact hD
                  refine lv_istore_n (lv' := [(2, .int 0), (0, .ref x0), (1, .int (nI a))]) hx hb dX6_readEvent_104 rfl hl (by decide) rfl (fun ls hl => ?_)
                  refine lv_aload_n hx hb dX6_readEvent_105 rfl (lv_at hl 1 rfl) ?_
                  refine lv_bipush (v := 45) hx hb dX6_readEvent_106 (by decide) ?_
                  refine k_iF (va_runV (As := [.int 45]) (rest := []) hF (c_X6_readSign l D I C Q x0 x1 sg L ((x_T4 sg L a).2.1) ((x_T4 sg L a).2.2) (x_Z sg L a) ((x_T2 sg L a).2.2) ((x_T3 sg L a).2.2) xa xe xf xr 45 hL (k_le2 (a := a) (c := 15) (x_T4b sg L a) ha (by decide)) hsg _) (cwV 1 hts gX6_readEvent_X6_readSign rfl rfl rfl (by decide +kernel) ⟨Nat.le_of_ble_eq_true rfl, Nat.le_of_ble_eq_true rfl⟩) (kPreV hE hP hD (ci := 6) (q0 := 0) rfl rfl) rfl rfl hl.1 rfl (lv_room (Nat.le_of_ble_eq_true rfl)) dX6_readEvent_108 ⟨Nat.zero_le _, Nat.zero_le _⟩) hD hS hA (fun H locs hP hD hS => ?_)
                  have hP : va_P D vwCl (wX I C x0 x1 sg (nI L) (nI (x_ra sg L ((x_T4 sg L a).2.1) 45)) ((x_T4 sg L a).2.2) (x_Z sg L a) ((x_T2 sg L a).2.2) ((x_T3 sg L a).2.2) xa xe xf xr) H := hP
                  have hD : va_D A (wX I C x0 x1 sg (nI L) (nI (x_ra sg L ((x_T4 sg L a).2.1) 45)) ((x_T4 sg L a).2.2) (x_Z sg L a) ((x_T2 sg L a).2.2) ((x_T3 sg L a).2.2) xa xe xf xr) := hD
                  refine lv_istore_n (lv' := [(3, .int (x_rs sg L ((x_T4 sg L a).2.1) 45)), (2, .int 0), (0, .ref x0), (1, .int (nI a))]) hx hb dX6_readEvent_111 rfl hl (by decide) rfl (fun ls hl => ?_)
                  refine lv_iload_n hx hb dX6_readEvent_112 rfl (lv_at hl 1 rfl) ?_
                  refine lv_if_eq (tgt := 127) hx hb dX6_readEvent_113 (by decide) (fun c_113 => ?_) (fun c_113 => ?_)
                  · refine lv_iconst (v := 0) hx hb dX6_readEvent_127 (by decide) ?_
                    have hT5 : x_T5 sg L a = (0, (x_ra sg L ((x_T4 sg L a).2.1) 45), (x_T4 sg L a).2.2) := by simp +decide only [x_T5_eq, x_nm, hf4, if_true, if_false, not_true_eq_false, not_false_eq_true, and_self, and_true, true_and, and_false, false_and, kn01, kn10, kn02, kn20, kn12, kn21, eq_self]
                    have hf5 : (x_T5 sg L a).1 = 0 := by rw [hT5]
                    have hP : va_P D vwCl (wX I C x0 x1 sg (nI L) (nI (x_T5 sg L a).2.1) ((x_T5 sg L a).2.2) (x_Z sg L a) ((x_T2 sg L a).2.2) ((x_T3 sg L a).2.2) xa xe xf xr) H := by rw [hT5]; exact hP
                    have hD : va_D A (wX I C x0 x1 sg (nI L) (nI (x_T5 sg L a).2.1) ((x_T5 sg L a).2.2) (x_Z sg L a) ((x_T2 sg L a).2.2) ((x_T3 sg L a).2.2) xa xe xf xr) := by rw [hT5]; exact hD
                    refine lv_istore_n (lv' := [(2, .int 0), (3, .int (x_rs sg L ((x_T4 sg L a).2.1) 45)), (0, .ref x0), (1, .int (nI a))]) hx hb dX6_readEvent_128 rfl hl (by decide) rfl (fun ls hl => ?_)
                    refine lv_aload_n hx hb dX6_readEvent_129 rfl (lv_at hl 2 rfl) ?_
                    refine lv_iload_n hx hb dX6_readEvent_130 rfl (lv_at hl 1 rfl) ?_
                    refine lv_if_eq (tgt := 142) hx hb dX6_readEvent_131 (by decide) (fun c_131 => ?_) (fun c_131 => ?_)
                    · refine lv_aload_n hx hb dX6_readEvent_142 rfl (lv_at hl 2 rfl) ?_
                      refine va_get (D := D) (ci := 6) (v := .int ((x_T5 sg L a).2.2)) (C := RX6) (T := TX6) (N := 11) hx hb hts u6 hown hK hP 0 rfl rfl 3 (by decide) k1 (fun _ h9 => h9) rfl dX6_readEvent_143 ?_
                      refine va_put (D := D) (ci := 6) (v := .int ((x_T5 sg L a).2.2)) (ty := .int) (C := RX6) (T := TX6) (N := 11) hx hb hts u6 tyX6 tyX6_ok nmX6 hown hK hP hD hS 0 rfl rfl 7 (by decide) k5 (fun _ h9 => h9) rfl (by decide +kernel) rfl rfl (Nat.le_of_ble_eq_true rfl) dX6_readEvent_146 (fun H locs hP hD hS => ?_)
                      have hP : va_P D vwCl (wX I C x0 x1 sg (nI L) (nI (x_T5 sg L a).2.1) ((x_T5 sg L a).2.2) (x_Z sg L a) ((x_T2 sg L a).2.2) ((x_T3 sg L a).2.2) ((x_T5 sg L a).2.2) xe xf xr) H := hP
                      have hD : va_D A (wX I C x0 x1 sg (nI L) (nI (x_T5 sg L a).2.1) ((x_T5 sg L a).2.2) (x_Z sg L a) ((x_T2 sg L a).2.2) ((x_T3 sg L a).2.2) ((x_T5 sg L a).2.2) xe xf xr) := hD
                      have hP : va_P D vwCl (wX I C x0 x1 sg (nI L) (nI (x_T5 sg L a).2.1) ((x_T5 sg L a).2.2) (x_Z sg L a) ((x_T2 sg L a).2.2) ((x_T3 sg L a).2.2) (x_am sg L a) xe xf xr) H := by rw [x_am_eq, x_ng_eq, if_pos c_131]; exact hP
                      have hD : va_D A (wX I C x0 x1 sg (nI L) (nI (x_T5 sg L a).2.1) ((x_T5 sg L a).2.2) (x_Z sg L a) ((x_T2 sg L a).2.2) ((x_T3 sg L a).2.2) (x_am sg L a) xe xf xr) := by rw [x_am_eq, x_ng_eq, if_pos c_131]; exact hD
                      refine lv_aload_n hx hb dX6_readEvent_149 rfl (lv_at hl 2 rfl) ?_
                      refine lv_aload_n hx hb dX6_readEvent_150 rfl (lv_at hl 2 rfl) ?_
                      refine k_iF (va_runV (As := []) (rest := [.ref x0]) hF (c_X6_readExcuse l D I C Q x0 x1 sg L ((x_T5 sg L a).2.1) ((x_T5 sg L a).2.2) (x_Z sg L a) ((x_T2 sg L a).2.2) ((x_T3 sg L a).2.2) (x_am sg L a) xe xf xr hL (k_le9 (a := a) (c := 20) (x_T5b sg L a) ha (by decide)) hsg _) (cwV 0 hts gX6_readEvent_X6_readExcuse rfl rfl rfl (by decide +kernel) ⟨Nat.le_of_ble_eq_true rfl, Nat.le_of_ble_eq_true rfl⟩) (kPreV hE hP hD (ci := 6) (q0 := 0) rfl rfl) rfl rfl hl.1 rfl (lv_room (Nat.le_of_ble_eq_true rfl)) dX6_readEvent_151 ⟨Nat.zero_le _, Nat.zero_le _⟩) hD hS hA (fun H locs hP hD hS => ?_)
                      have hP : va_P D vwCl (wX I C x0 x1 sg (nI L) (nI (x_XA sg L ((x_T5 sg L a).2.1))) ((x_T5 sg L a).2.2) (x_Z sg L a) ((x_T2 sg L a).2.2) ((x_T3 sg L a).2.2) (x_am sg L a) xe xf xr) H := hP
                      have hD : va_D A (wX I C x0 x1 sg (nI L) (nI (x_XA sg L ((x_T5 sg L a).2.1))) ((x_T5 sg L a).2.2) (x_Z sg L a) ((x_T2 sg L a).2.2) ((x_T3 sg L a).2.2) (x_am sg L a) xe xf xr) := hD
                      refine va_put (D := D) (ci := 6) (v := .int (x_X sg L ((x_T5 sg L a).2.1))) (ty := .int) (C := RX6) (T := TX6) (N := 11) hx hb hts u6 tyX6 tyX6_ok nmX6 hown hK hP hD hS 0 rfl rfl 8 (by decide) k6 (fun _ h9 => h9) rfl (by decide +kernel) rfl rfl (Nat.le_of_ble_eq_true rfl) dX6_readEvent_154 (fun H locs hP hD hS => ?_)
                      have hP : va_P D vwCl (wX I C x0 x1 sg (nI L) (nI (x_XA sg L ((x_T5 sg L a).2.1))) ((x_T5 sg L a).2.2) (x_Z sg L a) ((x_T2 sg L a).2.2) ((x_T3 sg L a).2.2) (x_am sg L a) (x_X sg L ((x_T5 sg L a).2.1)) xf xr) H := hP
                      have hD : va_D A (wX I C x0 x1 sg (nI L) (nI (x_XA sg L ((x_T5 sg L a).2.1))) ((x_T5 sg L a).2.2) (x_Z sg L a) ((x_T2 sg L a).2.2) ((x_T3 sg L a).2.2) (x_am sg L a) (x_X sg L ((x_T5 sg L a).2.1)) xf xr) := hD
                      refine lv_iload_n hx hb dX6_readEvent_157 rfl (lv_at hl 0 rfl) ?_
                      refine lv_if_eq (tgt := 177) hx hb dX6_readEvent_158 (by decide) (fun c_158 => ?_) (fun c_158 => ?_)
                      · refine lv_iconst (v := (-1)) hx hb dX6_readEvent_177 (by decide) ?_
                        exact hend _ _ _ _ _ _ hP hD hS dX6_readEvent_178 rfl (by simp +decide only [x_J, x_en_eq, x_aX_eq, x_ex_eq, x_T1_eq, hf5, if_true, if_false, not_true_eq_false, not_false_eq_true, and_self, and_true, true_and, and_false, false_and, kn01, kn10, kn02, kn20, kn12, kn21, eq_self]) (by simp +decide only [x_r, x_eo_eq, x_en_eq, x_aX_eq, hf5, if_true, if_false, not_true_eq_false, not_false_eq_true, and_self, and_true, true_and, and_false, false_and, kn01, kn10, kn02, kn20, kn12, kn21, eq_self])
                      · exact (c_158 (by decide)).elim
                    · refine lv_aload_n hx hb dX6_readEvent_134 rfl (lv_at hl 2 rfl) ?_
                      refine va_get (D := D) (ci := 6) (v := .int ((x_T5 sg L a).2.2)) (C := RX6) (T := TX6) (N := 11) hx hb hts u6 hown hK hP 0 rfl rfl 3 (by decide) k1 (fun _ h9 => h9) rfl dX6_readEvent_135 ?_
                      refine lv_ineg hx hb dX6_readEvent_138 ?_
                      refine lv_goto (tgt := 146) hx hb dX6_readEvent_139 (by decide) ?_
                      refine va_put (D := D) (ci := 6) (v := .int (-((x_T5 sg L a).2.2))) (ty := .int) (C := RX6) (T := TX6) (N := 11) hx hb hts u6 tyX6 tyX6_ok nmX6 hown hK hP hD hS 0 rfl rfl 7 (by decide) k5 (fun _ h9 => h9) rfl (by decide +kernel) rfl rfl (Nat.le_of_ble_eq_true rfl) dX6_readEvent_146 (fun H locs hP hD hS => ?_)
                      have hP : va_P D vwCl (wX I C x0 x1 sg (nI L) (nI (x_T5 sg L a).2.1) ((x_T5 sg L a).2.2) (x_Z sg L a) ((x_T2 sg L a).2.2) ((x_T3 sg L a).2.2) (-((x_T5 sg L a).2.2)) xe xf xr) H := hP
                      have hD : va_D A (wX I C x0 x1 sg (nI L) (nI (x_T5 sg L a).2.1) ((x_T5 sg L a).2.2) (x_Z sg L a) ((x_T2 sg L a).2.2) ((x_T3 sg L a).2.2) (-((x_T5 sg L a).2.2)) xe xf xr) := hD
                      have hP : va_P D vwCl (wX I C x0 x1 sg (nI L) (nI (x_T5 sg L a).2.1) ((x_T5 sg L a).2.2) (x_Z sg L a) ((x_T2 sg L a).2.2) ((x_T3 sg L a).2.2) (x_am sg L a) xe xf xr) H := by rw [x_am_eq, x_ng_eq, if_neg c_131]; exact hP
                      have hD : va_D A (wX I C x0 x1 sg (nI L) (nI (x_T5 sg L a).2.1) ((x_T5 sg L a).2.2) (x_Z sg L a) ((x_T2 sg L a).2.2) ((x_T3 sg L a).2.2) (x_am sg L a) xe xf xr) := by rw [x_am_eq, x_ng_eq, if_neg c_131]; exact hD
                      refine lv_aload_n hx hb dX6_readEvent_149 rfl (lv_at hl 2 rfl) ?_
                      refine lv_aload_n hx hb dX6_readEvent_150 rfl (lv_at hl 2 rfl) ?_
                      refine k_iF (va_runV (As := []) (rest := [.ref x0]) hF (c_X6_readExcuse l D I C Q x0 x1 sg L ((x_T5 sg L a).2.1) ((x_T5 sg L a).2.2) (x_Z sg L a) ((x_T2 sg L a).2.2) ((x_T3 sg L a).2.2) (x_am sg L a) xe xf xr hL (k_le9 (a := a) (c := 20) (x_T5b sg L a) ha (by decide)) hsg _) (cwV 0 hts gX6_readEvent_X6_readExcuse rfl rfl rfl (by decide +kernel) ⟨Nat.le_of_ble_eq_true rfl, Nat.le_of_ble_eq_true rfl⟩) (kPreV hE hP hD (ci := 6) (q0 := 0) rfl rfl) rfl rfl hl.1 rfl (lv_room (Nat.le_of_ble_eq_true rfl)) dX6_readEvent_151 ⟨Nat.zero_le _, Nat.zero_le _⟩) hD hS hA (fun H locs hP hD hS => ?_)
                      have hP : va_P D vwCl (wX I C x0 x1 sg (nI L) (nI (x_XA sg L ((x_T5 sg L a).2.1))) ((x_T5 sg L a).2.2) (x_Z sg L a) ((x_T2 sg L a).2.2) ((x_T3 sg L a).2.2) (x_am sg L a) xe xf xr) H := hP
                      have hD : va_D A (wX I C x0 x1 sg (nI L) (nI (x_XA sg L ((x_T5 sg L a).2.1))) ((x_T5 sg L a).2.2) (x_Z sg L a) ((x_T2 sg L a).2.2) ((x_T3 sg L a).2.2) (x_am sg L a) xe xf xr) := hD
                      refine va_put (D := D) (ci := 6) (v := .int (x_X sg L ((x_T5 sg L a).2.1))) (ty := .int) (C := RX6) (T := TX6) (N := 11) hx hb hts u6 tyX6 tyX6_ok nmX6 hown hK hP hD hS 0 rfl rfl 8 (by decide) k6 (fun _ h9 => h9) rfl (by decide +kernel) rfl rfl (Nat.le_of_ble_eq_true rfl) dX6_readEvent_154 (fun H locs hP hD hS => ?_)
                      have hP : va_P D vwCl (wX I C x0 x1 sg (nI L) (nI (x_XA sg L ((x_T5 sg L a).2.1))) ((x_T5 sg L a).2.2) (x_Z sg L a) ((x_T2 sg L a).2.2) ((x_T3 sg L a).2.2) (x_am sg L a) (x_X sg L ((x_T5 sg L a).2.1)) xf xr) H := hP
                      have hD : va_D A (wX I C x0 x1 sg (nI L) (nI (x_XA sg L ((x_T5 sg L a).2.1))) ((x_T5 sg L a).2.2) (x_Z sg L a) ((x_T2 sg L a).2.2) ((x_T3 sg L a).2.2) (x_am sg L a) (x_X sg L ((x_T5 sg L a).2.1)) xf xr) := hD
                      refine lv_iload_n hx hb dX6_readEvent_157 rfl (lv_at hl 0 rfl) ?_
                      refine lv_if_eq (tgt := 177) hx hb dX6_readEvent_158 (by decide) (fun c_158 => ?_) (fun c_158 => ?_)
                      · refine lv_iconst (v := (-1)) hx hb dX6_readEvent_177 (by decide) ?_
                        exact hend _ _ _ _ _ _ hP hD hS dX6_readEvent_178 rfl (by simp +decide only [x_J, x_en_eq, x_aX_eq, x_ex_eq, x_T1_eq, hf5, if_true, if_false, not_true_eq_false, not_false_eq_true, and_self, and_true, true_and, and_false, false_and, kn01, kn10, kn02, kn20, kn12, kn21, eq_self]) (by simp +decide only [x_r, x_eo_eq, x_en_eq, x_aX_eq, hf5, if_true, if_false, not_true_eq_false, not_false_eq_true, and_self, and_true, true_and, and_false, false_and, kn01, kn10, kn02, kn20, kn12, kn21, eq_self])
                      · exact (c_158 (by decide)).elim
                  · exact (c_113 (by decide)).elim
                · refine lv_iconst (v := 1) hx hb dX6_readEvent_99 (by decide) ?_
                  refine lv_goto (tgt := 104) hx hb dX6_readEvent_100 (by decide) ?_
                  have hT4 : x_T4 sg L a = (1, (x_ra sg L ((x_T3 sg L a).2.1) 44), (x_T3 sg L a).2.2) := by simp +decide only [x_T4_eq, x_cm, c_96, hf3, if_true, if_false, not_true_eq_false, not_false_eq_true, and_self, and_true, true_and, and_false, false_and, kn01, kn10, kn02, kn20, kn12, kn21, eq_self]
                  have hf4 : (x_T4 sg L a).1 = 1 := by rw [hT4]
                  have hP : va_P D vwCl (wX I C x0 x1 sg (nI L) (nI (x_T4 sg L a).2.1) ((x_T4 sg L a).2.2) (x_Z sg L a) ((x_T2 sg L a).2.2) ((x_T3 sg L a).2.2) xa xe xf xr) H := by rw [hT4]; exact hP
                  have hD : va_D A (wX I C x0 x1 sg (nI L) (nI (x_T4 sg L a).2.1) ((x_T4 sg L a).2.2) (x_Z sg L a) ((x_T2 sg L a).2.2) ((x_T3 sg L a).2.2) xa xe xf xr) := by rw [hT4]; exact hD
                  refine lv_istore_n (lv' := [(2, .int 1), (0, .ref x0), (1, .int (nI a))]) hx hb dX6_readEvent_104 rfl hl (by decide) rfl (fun ls hl => ?_)
                  refine lv_aload_n hx hb dX6_readEvent_105 rfl (lv_at hl 1 rfl) ?_
                  refine lv_bipush (v := 45) hx hb dX6_readEvent_106 (by decide) ?_
                  refine k_iF (va_runV (As := [.int 45]) (rest := []) hF (c_X6_readSign l D I C Q x0 x1 sg L ((x_T4 sg L a).2.1) ((x_T4 sg L a).2.2) (x_Z sg L a) ((x_T2 sg L a).2.2) ((x_T3 sg L a).2.2) xa xe xf xr 45 hL (k_le2 (a := a) (c := 15) (x_T4b sg L a) ha (by decide)) hsg _) (cwV 1 hts gX6_readEvent_X6_readSign rfl rfl rfl (by decide +kernel) ⟨Nat.le_of_ble_eq_true rfl, Nat.le_of_ble_eq_true rfl⟩) (kPreV hE hP hD (ci := 6) (q0 := 0) rfl rfl) rfl rfl hl.1 rfl (lv_room (Nat.le_of_ble_eq_true rfl)) dX6_readEvent_108 ⟨Nat.zero_le _, Nat.zero_le _⟩) hD hS hA (fun H locs hP hD hS => ?_)
                  have hP : va_P D vwCl (wX I C x0 x1 sg (nI L) (nI (x_ra sg L ((x_T4 sg L a).2.1) 45)) ((x_T4 sg L a).2.2) (x_Z sg L a) ((x_T2 sg L a).2.2) ((x_T3 sg L a).2.2) xa xe xf xr) H := hP
                  have hD : va_D A (wX I C x0 x1 sg (nI L) (nI (x_ra sg L ((x_T4 sg L a).2.1) 45)) ((x_T4 sg L a).2.2) (x_Z sg L a) ((x_T2 sg L a).2.2) ((x_T3 sg L a).2.2) xa xe xf xr) := hD
                  refine lv_istore_n (lv' := [(3, .int (x_rs sg L ((x_T4 sg L a).2.1) 45)), (2, .int 1), (0, .ref x0), (1, .int (nI a))]) hx hb dX6_readEvent_111 rfl hl (by decide) rfl (fun ls hl => ?_)
                  refine lv_iload_n hx hb dX6_readEvent_112 rfl (lv_at hl 1 rfl) ?_
                  refine lv_if_eq (tgt := 127) hx hb dX6_readEvent_113 (by decide) (fun c_113 => ?_) (fun c_113 => ?_)
                  · exact absurd c_113 (by decide)
                  · refine lv_aload_n hx hb dX6_readEvent_116 rfl (lv_at hl 2 rfl) ?_
                    refine k_iF (va_runV (As := []) (rest := []) hF (c_X6_readNumber l D I C Q x0 x1 sg L (x_ra sg L ((x_T4 sg L a).2.1) 45) ((x_T4 sg L a).2.2) (x_Z sg L a) ((x_T2 sg L a).2.2) ((x_T3 sg L a).2.2) xa xe xf xr hL (k_le1 (a := a) (c := 16) (x_T4r sg L a) ha (by decide)) hsg _) (cwV 0 hts gX6_readEvent_X6_readNumber rfl rfl rfl (by decide +kernel) ⟨Nat.le_of_ble_eq_true rfl, Nat.le_of_ble_eq_true rfl⟩) (kPreV hE hP hD (ci := 6) (q0 := 0) rfl rfl) rfl rfl hl.1 rfl (lv_room (Nat.le_of_ble_eq_true rfl)) dX6_readEvent_117 ⟨Nat.zero_le _, Nat.zero_le _⟩) hD hS hA (fun H locs hP hD hS => ?_)
                    have hP : va_P D vwCl (wX I C x0 x1 sg (nI L) (nI (x_A sg L (x_ra sg L ((x_T4 sg L a).2.1) 45))) (x_Z sg L (x_ra sg L ((x_T4 sg L a).2.1) 45)) (x_Z sg L a) ((x_T2 sg L a).2.2) ((x_T3 sg L a).2.2) xa xe xf xr) H := hP
                    have hD : va_D A (wX I C x0 x1 sg (nI L) (nI (x_A sg L (x_ra sg L ((x_T4 sg L a).2.1) 45))) (x_Z sg L (x_ra sg L ((x_T4 sg L a).2.1) 45)) (x_Z sg L a) ((x_T2 sg L a).2.2) ((x_T3 sg L a).2.2) xa xe xf xr) := hD
                    refine lv_if_eq (tgt := 127) hx hb dX6_readEvent_120 (by decide) (fun c_120 => ?_) (fun c_120 => ?_)
                    · refine lv_iconst (v := 0) hx hb dX6_readEvent_127 (by decide) ?_
                      have hT5 : x_T5 sg L a = (0, (x_A sg L (x_ra sg L ((x_T4 sg L a).2.1) 45)), x_Z sg L (x_ra sg L ((x_T4 sg L a).2.1) 45)) := by simp +decide only [x_T5_eq, x_nm, c_120, hf4, if_true, if_false, not_true_eq_false, not_false_eq_true, and_self, and_true, true_and, and_false, false_and, kn01, kn10, kn02, kn20, kn12, kn21, eq_self]
                      have hf5 : (x_T5 sg L a).1 = 0 := by rw [hT5]
                      have hP : va_P D vwCl (wX I C x0 x1 sg (nI L) (nI (x_T5 sg L a).2.1) ((x_T5 sg L a).2.2) (x_Z sg L a) ((x_T2 sg L a).2.2) ((x_T3 sg L a).2.2) xa xe xf xr) H := by rw [hT5]; exact hP
                      have hD : va_D A (wX I C x0 x1 sg (nI L) (nI (x_T5 sg L a).2.1) ((x_T5 sg L a).2.2) (x_Z sg L a) ((x_T2 sg L a).2.2) ((x_T3 sg L a).2.2) xa xe xf xr) := by rw [hT5]; exact hD
                      refine lv_istore_n (lv' := [(2, .int 0), (3, .int (x_rs sg L ((x_T4 sg L a).2.1) 45)), (0, .ref x0), (1, .int (nI a))]) hx hb dX6_readEvent_128 rfl hl (by decide) rfl (fun ls hl => ?_)
                      refine lv_aload_n hx hb dX6_readEvent_129 rfl (lv_at hl 2 rfl) ?_
                      refine lv_iload_n hx hb dX6_readEvent_130 rfl (lv_at hl 1 rfl) ?_
                      refine lv_if_eq (tgt := 142) hx hb dX6_readEvent_131 (by decide) (fun c_131 => ?_) (fun c_131 => ?_)
                      · refine lv_aload_n hx hb dX6_readEvent_142 rfl (lv_at hl 2 rfl) ?_
                        refine va_get (D := D) (ci := 6) (v := .int ((x_T5 sg L a).2.2)) (C := RX6) (T := TX6) (N := 11) hx hb hts u6 hown hK hP 0 rfl rfl 3 (by decide) k1 (fun _ h9 => h9) rfl dX6_readEvent_143 ?_
                        refine va_put (D := D) (ci := 6) (v := .int ((x_T5 sg L a).2.2)) (ty := .int) (C := RX6) (T := TX6) (N := 11) hx hb hts u6 tyX6 tyX6_ok nmX6 hown hK hP hD hS 0 rfl rfl 7 (by decide) k5 (fun _ h9 => h9) rfl (by decide +kernel) rfl rfl (Nat.le_of_ble_eq_true rfl) dX6_readEvent_146 (fun H locs hP hD hS => ?_)
                        have hP : va_P D vwCl (wX I C x0 x1 sg (nI L) (nI (x_T5 sg L a).2.1) ((x_T5 sg L a).2.2) (x_Z sg L a) ((x_T2 sg L a).2.2) ((x_T3 sg L a).2.2) ((x_T5 sg L a).2.2) xe xf xr) H := hP
                        have hD : va_D A (wX I C x0 x1 sg (nI L) (nI (x_T5 sg L a).2.1) ((x_T5 sg L a).2.2) (x_Z sg L a) ((x_T2 sg L a).2.2) ((x_T3 sg L a).2.2) ((x_T5 sg L a).2.2) xe xf xr) := hD
                        have hP : va_P D vwCl (wX I C x0 x1 sg (nI L) (nI (x_T5 sg L a).2.1) ((x_T5 sg L a).2.2) (x_Z sg L a) ((x_T2 sg L a).2.2) ((x_T3 sg L a).2.2) (x_am sg L a) xe xf xr) H := by rw [x_am_eq, x_ng_eq, if_pos c_131]; exact hP
                        have hD : va_D A (wX I C x0 x1 sg (nI L) (nI (x_T5 sg L a).2.1) ((x_T5 sg L a).2.2) (x_Z sg L a) ((x_T2 sg L a).2.2) ((x_T3 sg L a).2.2) (x_am sg L a) xe xf xr) := by rw [x_am_eq, x_ng_eq, if_pos c_131]; exact hD
                        refine lv_aload_n hx hb dX6_readEvent_149 rfl (lv_at hl 2 rfl) ?_
                        refine lv_aload_n hx hb dX6_readEvent_150 rfl (lv_at hl 2 rfl) ?_
                        refine k_iF (va_runV (As := []) (rest := [.ref x0]) hF (c_X6_readExcuse l D I C Q x0 x1 sg L ((x_T5 sg L a).2.1) ((x_T5 sg L a).2.2) (x_Z sg L a) ((x_T2 sg L a).2.2) ((x_T3 sg L a).2.2) (x_am sg L a) xe xf xr hL (k_le9 (a := a) (c := 20) (x_T5b sg L a) ha (by decide)) hsg _) (cwV 0 hts gX6_readEvent_X6_readExcuse rfl rfl rfl (by decide +kernel) ⟨Nat.le_of_ble_eq_true rfl, Nat.le_of_ble_eq_true rfl⟩) (kPreV hE hP hD (ci := 6) (q0 := 0) rfl rfl) rfl rfl hl.1 rfl (lv_room (Nat.le_of_ble_eq_true rfl)) dX6_readEvent_151 ⟨Nat.zero_le _, Nat.zero_le _⟩) hD hS hA (fun H locs hP hD hS => ?_)
                        have hP : va_P D vwCl (wX I C x0 x1 sg (nI L) (nI (x_XA sg L ((x_T5 sg L a).2.1))) ((x_T5 sg L a).2.2) (x_Z sg L a) ((x_T2 sg L a).2.2) ((x_T3 sg L a).2.2) (x_am sg L a) xe xf xr) H := hP
                        have hD : va_D A (wX I C x0 x1 sg (nI L) (nI (x_XA sg L ((x_T5 sg L a).2.1))) ((x_T5 sg L a).2.2) (x_Z sg L a) ((x_T2 sg L a).2.2) ((x_T3 sg L a).2.2) (x_am sg L a) xe xf xr) := hD
                        refine va_put (D := D) (ci := 6) (v := .int (x_X sg L ((x_T5 sg L a).2.1))) (ty := .int) (C := RX6) (T := TX6) (N := 11) hx hb hts u6 tyX6 tyX6_ok nmX6 hown hK hP hD hS 0 rfl rfl 8 (by decide) k6 (fun _ h9 => h9) rfl (by decide +kernel) rfl rfl (Nat.le_of_ble_eq_true rfl) dX6_readEvent_154 (fun H locs hP hD hS => ?_)
                        have hP : va_P D vwCl (wX I C x0 x1 sg (nI L) (nI (x_XA sg L ((x_T5 sg L a).2.1))) ((x_T5 sg L a).2.2) (x_Z sg L a) ((x_T2 sg L a).2.2) ((x_T3 sg L a).2.2) (x_am sg L a) (x_X sg L ((x_T5 sg L a).2.1)) xf xr) H := hP
                        have hD : va_D A (wX I C x0 x1 sg (nI L) (nI (x_XA sg L ((x_T5 sg L a).2.1))) ((x_T5 sg L a).2.2) (x_Z sg L a) ((x_T2 sg L a).2.2) ((x_T3 sg L a).2.2) (x_am sg L a) (x_X sg L ((x_T5 sg L a).2.1)) xf xr) := hD
                        refine lv_iload_n hx hb dX6_readEvent_157 rfl (lv_at hl 0 rfl) ?_
                        refine lv_if_eq (tgt := 177) hx hb dX6_readEvent_158 (by decide) (fun c_158 => ?_) (fun c_158 => ?_)
                        · refine lv_iconst (v := (-1)) hx hb dX6_readEvent_177 (by decide) ?_
                          exact hend _ _ _ _ _ _ hP hD hS dX6_readEvent_178 rfl (by simp +decide only [x_J, x_en_eq, x_aX_eq, x_ex_eq, x_T1_eq, hf5, if_true, if_false, not_true_eq_false, not_false_eq_true, and_self, and_true, true_and, and_false, false_and, kn01, kn10, kn02, kn20, kn12, kn21, eq_self]) (by simp +decide only [x_r, x_eo_eq, x_en_eq, x_aX_eq, hf5, if_true, if_false, not_true_eq_false, not_false_eq_true, and_self, and_true, true_and, and_false, false_and, kn01, kn10, kn02, kn20, kn12, kn21, eq_self])
                        · exact (c_158 (by decide)).elim
                      · refine lv_aload_n hx hb dX6_readEvent_134 rfl (lv_at hl 2 rfl) ?_
                        refine va_get (D := D) (ci := 6) (v := .int ((x_T5 sg L a).2.2)) (C := RX6) (T := TX6) (N := 11) hx hb hts u6 hown hK hP 0 rfl rfl 3 (by decide) k1 (fun _ h9 => h9) rfl dX6_readEvent_135 ?_
                        refine lv_ineg hx hb dX6_readEvent_138 ?_
                        refine lv_goto (tgt := 146) hx hb dX6_readEvent_139 (by decide) ?_
                        refine va_put (D := D) (ci := 6) (v := .int (-((x_T5 sg L a).2.2))) (ty := .int) (C := RX6) (T := TX6) (N := 11) hx hb hts u6 tyX6 tyX6_ok nmX6 hown hK hP hD hS 0 rfl rfl 7 (by decide) k5 (fun _ h9 => h9) rfl (by decide +kernel) rfl rfl (Nat.le_of_ble_eq_true rfl) dX6_readEvent_146 (fun H locs hP hD hS => ?_)
                        have hP : va_P D vwCl (wX I C x0 x1 sg (nI L) (nI (x_T5 sg L a).2.1) ((x_T5 sg L a).2.2) (x_Z sg L a) ((x_T2 sg L a).2.2) ((x_T3 sg L a).2.2) (-((x_T5 sg L a).2.2)) xe xf xr) H := hP
                        have hD : va_D A (wX I C x0 x1 sg (nI L) (nI (x_T5 sg L a).2.1) ((x_T5 sg L a).2.2) (x_Z sg L a) ((x_T2 sg L a).2.2) ((x_T3 sg L a).2.2) (-((x_T5 sg L a).2.2)) xe xf xr) := hD
                        have hP : va_P D vwCl (wX I C x0 x1 sg (nI L) (nI (x_T5 sg L a).2.1) ((x_T5 sg L a).2.2) (x_Z sg L a) ((x_T2 sg L a).2.2) ((x_T3 sg L a).2.2) (x_am sg L a) xe xf xr) H := by rw [x_am_eq, x_ng_eq, if_neg c_131]; exact hP
                        have hD : va_D A (wX I C x0 x1 sg (nI L) (nI (x_T5 sg L a).2.1) ((x_T5 sg L a).2.2) (x_Z sg L a) ((x_T2 sg L a).2.2) ((x_T3 sg L a).2.2) (x_am sg L a) xe xf xr) := by rw [x_am_eq, x_ng_eq, if_neg c_131]; exact hD
                        refine lv_aload_n hx hb dX6_readEvent_149 rfl (lv_at hl 2 rfl) ?_
                        refine lv_aload_n hx hb dX6_readEvent_150 rfl (lv_at hl 2 rfl) ?_
                        refine k_iF (va_runV (As := []) (rest := [.ref x0]) hF (c_X6_readExcuse l D I C Q x0 x1 sg L ((x_T5 sg L a).2.1) ((x_T5 sg L a).2.2) (x_Z sg L a) ((x_T2 sg L a).2.2) ((x_T3 sg L a).2.2) (x_am sg L a) xe xf xr hL (k_le9 (a := a) (c := 20) (x_T5b sg L a) ha (by decide)) hsg _) (cwV 0 hts gX6_readEvent_X6_readExcuse rfl rfl rfl (by decide +kernel) ⟨Nat.le_of_ble_eq_true rfl, Nat.le_of_ble_eq_true rfl⟩) (kPreV hE hP hD (ci := 6) (q0 := 0) rfl rfl) rfl rfl hl.1 rfl (lv_room (Nat.le_of_ble_eq_true rfl)) dX6_readEvent_151 ⟨Nat.zero_le _, Nat.zero_le _⟩) hD hS hA (fun H locs hP hD hS => ?_)
                        have hP : va_P D vwCl (wX I C x0 x1 sg (nI L) (nI (x_XA sg L ((x_T5 sg L a).2.1))) ((x_T5 sg L a).2.2) (x_Z sg L a) ((x_T2 sg L a).2.2) ((x_T3 sg L a).2.2) (x_am sg L a) xe xf xr) H := hP
                        have hD : va_D A (wX I C x0 x1 sg (nI L) (nI (x_XA sg L ((x_T5 sg L a).2.1))) ((x_T5 sg L a).2.2) (x_Z sg L a) ((x_T2 sg L a).2.2) ((x_T3 sg L a).2.2) (x_am sg L a) xe xf xr) := hD
                        refine va_put (D := D) (ci := 6) (v := .int (x_X sg L ((x_T5 sg L a).2.1))) (ty := .int) (C := RX6) (T := TX6) (N := 11) hx hb hts u6 tyX6 tyX6_ok nmX6 hown hK hP hD hS 0 rfl rfl 8 (by decide) k6 (fun _ h9 => h9) rfl (by decide +kernel) rfl rfl (Nat.le_of_ble_eq_true rfl) dX6_readEvent_154 (fun H locs hP hD hS => ?_)
                        have hP : va_P D vwCl (wX I C x0 x1 sg (nI L) (nI (x_XA sg L ((x_T5 sg L a).2.1))) ((x_T5 sg L a).2.2) (x_Z sg L a) ((x_T2 sg L a).2.2) ((x_T3 sg L a).2.2) (x_am sg L a) (x_X sg L ((x_T5 sg L a).2.1)) xf xr) H := hP
                        have hD : va_D A (wX I C x0 x1 sg (nI L) (nI (x_XA sg L ((x_T5 sg L a).2.1))) ((x_T5 sg L a).2.2) (x_Z sg L a) ((x_T2 sg L a).2.2) ((x_T3 sg L a).2.2) (x_am sg L a) (x_X sg L ((x_T5 sg L a).2.1)) xf xr) := hD
                        refine lv_iload_n hx hb dX6_readEvent_157 rfl (lv_at hl 0 rfl) ?_
                        refine lv_if_eq (tgt := 177) hx hb dX6_readEvent_158 (by decide) (fun c_158 => ?_) (fun c_158 => ?_)
                        · refine lv_iconst (v := (-1)) hx hb dX6_readEvent_177 (by decide) ?_
                          exact hend _ _ _ _ _ _ hP hD hS dX6_readEvent_178 rfl (by simp +decide only [x_J, x_en_eq, x_aX_eq, x_ex_eq, x_T1_eq, hf5, if_true, if_false, not_true_eq_false, not_false_eq_true, and_self, and_true, true_and, and_false, false_and, kn01, kn10, kn02, kn20, kn12, kn21, eq_self]) (by simp +decide only [x_r, x_eo_eq, x_en_eq, x_aX_eq, hf5, if_true, if_false, not_true_eq_false, not_false_eq_true, and_self, and_true, true_and, and_false, false_and, kn01, kn10, kn02, kn20, kn12, kn21, eq_self])
                        · exact (c_158 (by decide)).elim
                    · refine lv_iconst (v := 1) hx hb dX6_readEvent_123 (by decide) ?_
                      refine lv_goto (tgt := 128) hx hb dX6_readEvent_124 (by decide) ?_
                      have hT5 : x_T5 sg L a = (1, (x_A sg L (x_ra sg L ((x_T4 sg L a).2.1) 45)), x_Z sg L (x_ra sg L ((x_T4 sg L a).2.1) 45)) := by simp +decide only [x_T5_eq, x_nm, c_120, hf4, if_true, if_false, not_true_eq_false, not_false_eq_true, and_self, and_true, true_and, and_false, false_and, kn01, kn10, kn02, kn20, kn12, kn21, eq_self]
                      have hf5 : (x_T5 sg L a).1 = 1 := by rw [hT5]
                      have hP : va_P D vwCl (wX I C x0 x1 sg (nI L) (nI (x_T5 sg L a).2.1) ((x_T5 sg L a).2.2) (x_Z sg L a) ((x_T2 sg L a).2.2) ((x_T3 sg L a).2.2) xa xe xf xr) H := by rw [hT5]; exact hP
                      have hD : va_D A (wX I C x0 x1 sg (nI L) (nI (x_T5 sg L a).2.1) ((x_T5 sg L a).2.2) (x_Z sg L a) ((x_T2 sg L a).2.2) ((x_T3 sg L a).2.2) xa xe xf xr) := by rw [hT5]; exact hD
                      refine lv_istore_n (lv' := [(2, .int 1), (3, .int (x_rs sg L ((x_T4 sg L a).2.1) 45)), (0, .ref x0), (1, .int (nI a))]) hx hb dX6_readEvent_128 rfl hl (by decide) rfl (fun ls hl => ?_)
                      refine lv_aload_n hx hb dX6_readEvent_129 rfl (lv_at hl 2 rfl) ?_
                      refine lv_iload_n hx hb dX6_readEvent_130 rfl (lv_at hl 1 rfl) ?_
                      refine lv_if_eq (tgt := 142) hx hb dX6_readEvent_131 (by decide) (fun c_131 => ?_) (fun c_131 => ?_)
                      · refine lv_aload_n hx hb dX6_readEvent_142 rfl (lv_at hl 2 rfl) ?_
                        refine va_get (D := D) (ci := 6) (v := .int ((x_T5 sg L a).2.2)) (C := RX6) (T := TX6) (N := 11) hx hb hts u6 hown hK hP 0 rfl rfl 3 (by decide) k1 (fun _ h9 => h9) rfl dX6_readEvent_143 ?_
                        refine va_put (D := D) (ci := 6) (v := .int ((x_T5 sg L a).2.2)) (ty := .int) (C := RX6) (T := TX6) (N := 11) hx hb hts u6 tyX6 tyX6_ok nmX6 hown hK hP hD hS 0 rfl rfl 7 (by decide) k5 (fun _ h9 => h9) rfl (by decide +kernel) rfl rfl (Nat.le_of_ble_eq_true rfl) dX6_readEvent_146 (fun H locs hP hD hS => ?_)
                        have hP : va_P D vwCl (wX I C x0 x1 sg (nI L) (nI (x_T5 sg L a).2.1) ((x_T5 sg L a).2.2) (x_Z sg L a) ((x_T2 sg L a).2.2) ((x_T3 sg L a).2.2) ((x_T5 sg L a).2.2) xe xf xr) H := hP
                        have hD : va_D A (wX I C x0 x1 sg (nI L) (nI (x_T5 sg L a).2.1) ((x_T5 sg L a).2.2) (x_Z sg L a) ((x_T2 sg L a).2.2) ((x_T3 sg L a).2.2) ((x_T5 sg L a).2.2) xe xf xr) := hD
                        have hP : va_P D vwCl (wX I C x0 x1 sg (nI L) (nI (x_T5 sg L a).2.1) ((x_T5 sg L a).2.2) (x_Z sg L a) ((x_T2 sg L a).2.2) ((x_T3 sg L a).2.2) (x_am sg L a) xe xf xr) H := by rw [x_am_eq, x_ng_eq, if_pos c_131]; exact hP
                        have hD : va_D A (wX I C x0 x1 sg (nI L) (nI (x_T5 sg L a).2.1) ((x_T5 sg L a).2.2) (x_Z sg L a) ((x_T2 sg L a).2.2) ((x_T3 sg L a).2.2) (x_am sg L a) xe xf xr) := by rw [x_am_eq, x_ng_eq, if_pos c_131]; exact hD
                        refine lv_aload_n hx hb dX6_readEvent_149 rfl (lv_at hl 2 rfl) ?_
                        refine lv_aload_n hx hb dX6_readEvent_150 rfl (lv_at hl 2 rfl) ?_
                        refine k_iF (va_runV (As := []) (rest := [.ref x0]) hF (c_X6_readExcuse l D I C Q x0 x1 sg L ((x_T5 sg L a).2.1) ((x_T5 sg L a).2.2) (x_Z sg L a) ((x_T2 sg L a).2.2) ((x_T3 sg L a).2.2) (x_am sg L a) xe xf xr hL (k_le9 (a := a) (c := 20) (x_T5b sg L a) ha (by decide)) hsg _) (cwV 0 hts gX6_readEvent_X6_readExcuse rfl rfl rfl (by decide +kernel) ⟨Nat.le_of_ble_eq_true rfl, Nat.le_of_ble_eq_true rfl⟩) (kPreV hE hP hD (ci := 6) (q0 := 0) rfl rfl) rfl rfl hl.1 rfl (lv_room (Nat.le_of_ble_eq_true rfl)) dX6_readEvent_151 ⟨Nat.zero_le _, Nat.zero_le _⟩) hD hS hA (fun H locs hP hD hS => ?_)
                        have hP : va_P D vwCl (wX I C x0 x1 sg (nI L) (nI (x_XA sg L ((x_T5 sg L a).2.1))) ((x_T5 sg L a).2.2) (x_Z sg L a) ((x_T2 sg L a).2.2) ((x_T3 sg L a).2.2) (x_am sg L a) xe xf xr) H := hP
                        have hD : va_D A (wX I C x0 x1 sg (nI L) (nI (x_XA sg L ((x_T5 sg L a).2.1))) ((x_T5 sg L a).2.2) (x_Z sg L a) ((x_T2 sg L a).2.2) ((x_T3 sg L a).2.2) (x_am sg L a) xe xf xr) := hD
                        refine va_put (D := D) (ci := 6) (v := .int (x_X sg L ((x_T5 sg L a).2.1))) (ty := .int) (C := RX6) (T := TX6) (N := 11) hx hb hts u6 tyX6 tyX6_ok nmX6 hown hK hP hD hS 0 rfl rfl 8 (by decide) k6 (fun _ h9 => h9) rfl (by decide +kernel) rfl rfl (Nat.le_of_ble_eq_true rfl) dX6_readEvent_154 (fun H locs hP hD hS => ?_)
                        have hP : va_P D vwCl (wX I C x0 x1 sg (nI L) (nI (x_XA sg L ((x_T5 sg L a).2.1))) ((x_T5 sg L a).2.2) (x_Z sg L a) ((x_T2 sg L a).2.2) ((x_T3 sg L a).2.2) (x_am sg L a) (x_X sg L ((x_T5 sg L a).2.1)) xf xr) H := hP
                        have hD : va_D A (wX I C x0 x1 sg (nI L) (nI (x_XA sg L ((x_T5 sg L a).2.1))) ((x_T5 sg L a).2.2) (x_Z sg L a) ((x_T2 sg L a).2.2) ((x_T3 sg L a).2.2) (x_am sg L a) (x_X sg L ((x_T5 sg L a).2.1)) xf xr) := hD
                        refine lv_iload_n hx hb dX6_readEvent_157 rfl (lv_at hl 0 rfl) ?_
                        refine lv_if_eq (tgt := 177) hx hb dX6_readEvent_158 (by decide) (fun c_158 => ?_) (fun c_158 => ?_)
                        · exact absurd c_158 (by decide)
                        · refine lv_aload_n hx hb dX6_readEvent_161 rfl (lv_at hl 2 rfl) ?_
                          refine lv_bipush (v := 59) hx hb dX6_readEvent_162 (by decide) ?_
                          refine k_iF (va_runV (As := [.int 59]) (rest := []) hF (c_X6_readSign l D I C Q x0 x1 sg L (x_XA sg L ((x_T5 sg L a).2.1)) ((x_T5 sg L a).2.2) (x_Z sg L a) ((x_T2 sg L a).2.2) ((x_T3 sg L a).2.2) (x_am sg L a) (x_X sg L ((x_T5 sg L a).2.1)) xf xr 59 hL (k_le2 (a := a) (c := 23) (Nat.le_trans (x_XA_le sg L _) (Nat.add_le_add_right (x_T5b sg L a) 3)) ha (by decide)) hsg _) (cwV 1 hts gX6_readEvent_X6_readSign rfl rfl rfl (by decide +kernel) ⟨Nat.le_of_ble_eq_true rfl, Nat.le_of_ble_eq_true rfl⟩) (kPreV hE hP hD (ci := 6) (q0 := 0) rfl rfl) rfl rfl hl.1 rfl (lv_room (Nat.le_of_ble_eq_true rfl)) dX6_readEvent_164 ⟨Nat.zero_le _, Nat.zero_le _⟩) hD hS hA (fun H locs hP hD hS => ?_)
                          have hP : va_P D vwCl (wX I C x0 x1 sg (nI L) (nI (x_ra sg L (x_XA sg L ((x_T5 sg L a).2.1)) 59)) ((x_T5 sg L a).2.2) (x_Z sg L a) ((x_T2 sg L a).2.2) ((x_T3 sg L a).2.2) (x_am sg L a) (x_X sg L ((x_T5 sg L a).2.1)) xf xr) H := hP
                          have hD : va_D A (wX I C x0 x1 sg (nI L) (nI (x_ra sg L (x_XA sg L ((x_T5 sg L a).2.1)) 59)) ((x_T5 sg L a).2.2) (x_Z sg L a) ((x_T2 sg L a).2.2) ((x_T3 sg L a).2.2) (x_am sg L a) (x_X sg L ((x_T5 sg L a).2.1)) xf xr) := hD
                          refine lv_if_eq (tgt := 177) hx hb dX6_readEvent_167 (by decide) (fun c_167 => ?_) (fun c_167 => ?_)
                          · refine lv_iconst (v := (-1)) hx hb dX6_readEvent_177 (by decide) ?_
                            exact hend _ _ _ _ _ _ hP hD hS dX6_readEvent_178 rfl (by simp +decide only [x_J, x_en_eq, x_aX_eq, x_ex_eq, x_T1_eq, hf5, if_true, if_false, not_true_eq_false, not_false_eq_true, and_self, and_true, true_and, and_false, false_and, kn01, kn10, kn02, kn20, kn12, kn21, eq_self]) (by simp +decide only [x_r, x_eo_eq, x_en_eq, x_aX_eq, hf5, c_167, if_true, if_false, not_true_eq_false, not_false_eq_true, and_self, and_true, true_and, and_false, false_and, kn01, kn10, kn02, kn20, kn12, kn21, eq_self])
                          · refine lv_aload_n hx hb dX6_readEvent_170 rfl (lv_at hl 2 rfl) ?_
                            refine va_get (D := D) (ci := 6) (v := .int (nI (x_ra sg L (x_XA sg L ((x_T5 sg L a).2.1)) 59))) (C := RX6) (T := TX6) (N := 11) hx hb hts u6 hown hK hP 0 rfl rfl 2 (by decide) k0 (fun _ h9 => h9) rfl dX6_readEvent_171 ?_
                            refine lv_goto (tgt := 178) hx hb dX6_readEvent_174 (by decide) ?_
                            exact hend _ _ _ _ _ _ hP hD hS dX6_readEvent_178 rfl (by simp +decide only [x_J, x_en_eq, x_aX_eq, x_ex_eq, x_T1_eq, hf5, if_true, if_false, not_true_eq_false, not_false_eq_true, and_self, and_true, true_and, and_false, false_and, kn01, kn10, kn02, kn20, kn12, kn21, eq_self]) (by simp +decide only [x_r, x_eo_eq, x_en_eq, x_aX_eq, hf5, c_167, if_true, if_false, not_true_eq_false, not_false_eq_true, and_self, and_true, true_and, and_false, false_and, kn01, kn10, kn02, kn20, kn12, kn21, eq_self])
                      · refine lv_aload_n hx hb dX6_readEvent_134 rfl (lv_at hl 2 rfl) ?_
                        refine va_get (D := D) (ci := 6) (v := .int ((x_T5 sg L a).2.2)) (C := RX6) (T := TX6) (N := 11) hx hb hts u6 hown hK hP 0 rfl rfl 3 (by decide) k1 (fun _ h9 => h9) rfl dX6_readEvent_135 ?_
                        refine lv_ineg hx hb dX6_readEvent_138 ?_
                        refine lv_goto (tgt := 146) hx hb dX6_readEvent_139 (by decide) ?_
                        refine va_put (D := D) (ci := 6) (v := .int (-((x_T5 sg L a).2.2))) (ty := .int) (C := RX6) (T := TX6) (N := 11) hx hb hts u6 tyX6 tyX6_ok nmX6 hown hK hP hD hS 0 rfl rfl 7 (by decide) k5 (fun _ h9 => h9) rfl (by decide +kernel) rfl rfl (Nat.le_of_ble_eq_true rfl) dX6_readEvent_146 (fun H locs hP hD hS => ?_)
                        have hP : va_P D vwCl (wX I C x0 x1 sg (nI L) (nI (x_T5 sg L a).2.1) ((x_T5 sg L a).2.2) (x_Z sg L a) ((x_T2 sg L a).2.2) ((x_T3 sg L a).2.2) (-((x_T5 sg L a).2.2)) xe xf xr) H := hP
                        have hD : va_D A (wX I C x0 x1 sg (nI L) (nI (x_T5 sg L a).2.1) ((x_T5 sg L a).2.2) (x_Z sg L a) ((x_T2 sg L a).2.2) ((x_T3 sg L a).2.2) (-((x_T5 sg L a).2.2)) xe xf xr) := hD
                        have hP : va_P D vwCl (wX I C x0 x1 sg (nI L) (nI (x_T5 sg L a).2.1) ((x_T5 sg L a).2.2) (x_Z sg L a) ((x_T2 sg L a).2.2) ((x_T3 sg L a).2.2) (x_am sg L a) xe xf xr) H := by rw [x_am_eq, x_ng_eq, if_neg c_131]; exact hP
                        have hD : va_D A (wX I C x0 x1 sg (nI L) (nI (x_T5 sg L a).2.1) ((x_T5 sg L a).2.2) (x_Z sg L a) ((x_T2 sg L a).2.2) ((x_T3 sg L a).2.2) (x_am sg L a) xe xf xr) := by rw [x_am_eq, x_ng_eq, if_neg c_131]; exact hD
                        refine lv_aload_n hx hb dX6_readEvent_149 rfl (lv_at hl 2 rfl) ?_
                        refine lv_aload_n hx hb dX6_readEvent_150 rfl (lv_at hl 2 rfl) ?_
                        refine k_iF (va_runV (As := []) (rest := [.ref x0]) hF (c_X6_readExcuse l D I C Q x0 x1 sg L ((x_T5 sg L a).2.1) ((x_T5 sg L a).2.2) (x_Z sg L a) ((x_T2 sg L a).2.2) ((x_T3 sg L a).2.2) (x_am sg L a) xe xf xr hL (k_le9 (a := a) (c := 20) (x_T5b sg L a) ha (by decide)) hsg _) (cwV 0 hts gX6_readEvent_X6_readExcuse rfl rfl rfl (by decide +kernel) ⟨Nat.le_of_ble_eq_true rfl, Nat.le_of_ble_eq_true rfl⟩) (kPreV hE hP hD (ci := 6) (q0 := 0) rfl rfl) rfl rfl hl.1 rfl (lv_room (Nat.le_of_ble_eq_true rfl)) dX6_readEvent_151 ⟨Nat.zero_le _, Nat.zero_le _⟩) hD hS hA (fun H locs hP hD hS => ?_)
                        have hP : va_P D vwCl (wX I C x0 x1 sg (nI L) (nI (x_XA sg L ((x_T5 sg L a).2.1))) ((x_T5 sg L a).2.2) (x_Z sg L a) ((x_T2 sg L a).2.2) ((x_T3 sg L a).2.2) (x_am sg L a) xe xf xr) H := hP
                        have hD : va_D A (wX I C x0 x1 sg (nI L) (nI (x_XA sg L ((x_T5 sg L a).2.1))) ((x_T5 sg L a).2.2) (x_Z sg L a) ((x_T2 sg L a).2.2) ((x_T3 sg L a).2.2) (x_am sg L a) xe xf xr) := hD
                        refine va_put (D := D) (ci := 6) (v := .int (x_X sg L ((x_T5 sg L a).2.1))) (ty := .int) (C := RX6) (T := TX6) (N := 11) hx hb hts u6 tyX6 tyX6_ok nmX6 hown hK hP hD hS 0 rfl rfl 8 (by decide) k6 (fun _ h9 => h9) rfl (by decide +kernel) rfl rfl (Nat.le_of_ble_eq_true rfl) dX6_readEvent_154 (fun H locs hP hD hS => ?_)
                        have hP : va_P D vwCl (wX I C x0 x1 sg (nI L) (nI (x_XA sg L ((x_T5 sg L a).2.1))) ((x_T5 sg L a).2.2) (x_Z sg L a) ((x_T2 sg L a).2.2) ((x_T3 sg L a).2.2) (x_am sg L a) (x_X sg L ((x_T5 sg L a).2.1)) xf xr) H := hP
                        have hD : va_D A (wX I C x0 x1 sg (nI L) (nI (x_XA sg L ((x_T5 sg L a).2.1))) ((x_T5 sg L a).2.2) (x_Z sg L a) ((x_T2 sg L a).2.2) ((x_T3 sg L a).2.2) (x_am sg L a) (x_X sg L ((x_T5 sg L a).2.1)) xf xr) := hD
                        refine lv_iload_n hx hb dX6_readEvent_157 rfl (lv_at hl 0 rfl) ?_
                        refine lv_if_eq (tgt := 177) hx hb dX6_readEvent_158 (by decide) (fun c_158 => ?_) (fun c_158 => ?_)
                        · exact absurd c_158 (by decide)
                        · refine lv_aload_n hx hb dX6_readEvent_161 rfl (lv_at hl 2 rfl) ?_
                          refine lv_bipush (v := 59) hx hb dX6_readEvent_162 (by decide) ?_
                          refine k_iF (va_runV (As := [.int 59]) (rest := []) hF (c_X6_readSign l D I C Q x0 x1 sg L (x_XA sg L ((x_T5 sg L a).2.1)) ((x_T5 sg L a).2.2) (x_Z sg L a) ((x_T2 sg L a).2.2) ((x_T3 sg L a).2.2) (x_am sg L a) (x_X sg L ((x_T5 sg L a).2.1)) xf xr 59 hL (k_le2 (a := a) (c := 23) (Nat.le_trans (x_XA_le sg L _) (Nat.add_le_add_right (x_T5b sg L a) 3)) ha (by decide)) hsg _) (cwV 1 hts gX6_readEvent_X6_readSign rfl rfl rfl (by decide +kernel) ⟨Nat.le_of_ble_eq_true rfl, Nat.le_of_ble_eq_true rfl⟩) (kPreV hE hP hD (ci := 6) (q0 := 0) rfl rfl) rfl rfl hl.1 rfl (lv_room (Nat.le_of_ble_eq_true rfl)) dX6_readEvent_164 ⟨Nat.zero_le _, Nat.zero_le _⟩) hD hS hA (fun H locs hP hD hS => ?_)
                          have hP : va_P D vwCl (wX I C x0 x1 sg (nI L) (nI (x_ra sg L (x_XA sg L ((x_T5 sg L a).2.1)) 59)) ((x_T5 sg L a).2.2) (x_Z sg L a) ((x_T2 sg L a).2.2) ((x_T3 sg L a).2.2) (x_am sg L a) (x_X sg L ((x_T5 sg L a).2.1)) xf xr) H := hP
                          have hD : va_D A (wX I C x0 x1 sg (nI L) (nI (x_ra sg L (x_XA sg L ((x_T5 sg L a).2.1)) 59)) ((x_T5 sg L a).2.2) (x_Z sg L a) ((x_T2 sg L a).2.2) ((x_T3 sg L a).2.2) (x_am sg L a) (x_X sg L ((x_T5 sg L a).2.1)) xf xr) := hD
                          refine lv_if_eq (tgt := 177) hx hb dX6_readEvent_167 (by decide) (fun c_167 => ?_) (fun c_167 => ?_)
                          · refine lv_iconst (v := (-1)) hx hb dX6_readEvent_177 (by decide) ?_
                            exact hend _ _ _ _ _ _ hP hD hS dX6_readEvent_178 rfl (by simp +decide only [x_J, x_en_eq, x_aX_eq, x_ex_eq, x_T1_eq, hf5, if_true, if_false, not_true_eq_false, not_false_eq_true, and_self, and_true, true_and, and_false, false_and, kn01, kn10, kn02, kn20, kn12, kn21, eq_self]) (by simp +decide only [x_r, x_eo_eq, x_en_eq, x_aX_eq, hf5, c_167, if_true, if_false, not_true_eq_false, not_false_eq_true, and_self, and_true, true_and, and_false, false_and, kn01, kn10, kn02, kn20, kn12, kn21, eq_self])
                          · refine lv_aload_n hx hb dX6_readEvent_170 rfl (lv_at hl 2 rfl) ?_
                            refine va_get (D := D) (ci := 6) (v := .int (nI (x_ra sg L (x_XA sg L ((x_T5 sg L a).2.1)) 59))) (C := RX6) (T := TX6) (N := 11) hx hb hts u6 hown hK hP 0 rfl rfl 2 (by decide) k0 (fun _ h9 => h9) rfl dX6_readEvent_171 ?_
                            refine lv_goto (tgt := 178) hx hb dX6_readEvent_174 (by decide) ?_
                            exact hend _ _ _ _ _ _ hP hD hS dX6_readEvent_178 rfl (by simp +decide only [x_J, x_en_eq, x_aX_eq, x_ex_eq, x_T1_eq, hf5, if_true, if_false, not_true_eq_false, not_false_eq_true, and_self, and_true, true_and, and_false, false_and, kn01, kn10, kn02, kn20, kn12, kn21, eq_self]) (by simp +decide only [x_r, x_eo_eq, x_en_eq, x_aX_eq, hf5, c_167, if_true, if_false, not_true_eq_false, not_false_eq_true, and_self, and_true, true_and, and_false, false_and, kn01, kn10, kn02, kn20, kn12, kn21, eq_self])
set_option maxHeartbeats 400000 in
set_option maxRecDepth 100000 in
theorem c_X8_isEvent (l : Launch) (D : va_G) (I C Q : ClassId) (i : Int32) (t : Int32) (k : Int32) (a : Int32) : KI l D (tyL I C Q) yX8_isEvent wsX8_isEvent { frames := 1, cells := 0, slots := 0, locals := 22 } [.int i, .int t, .int k, .int a] [] [] (x_isE i t k a) := by
  refine KI.of (cc := cX8_isEvent) (maxL := 4) (rt := .boolean) (own := RX8) (by decide) rfl rfl (Nat.le_of_ble_eq_true rfl) ?_
  intro p e s m below meth c A Q0 ls hx hb hml hown hts hE hA hP hD hS hl hend
  have hK := hE.1
  have hF : CallFix p m c cX8_isEvent 4 s [.int i, .int t, .int k, .int a].toArray wsX8_isEvent RX8 := ⟨hx, hb, hml, hown, hts⟩
  have hl : lv_has ls 4 [(0, .int i), (1, .int t), (2, .int k), (3, .int a)] := hl
  refine lv_iload_n hx hb dX8_isEvent_0 rfl (lv_at hl 0 rfl) ?_
  refine lv_iconst (v := 0) hx hb dX8_isEvent_1 (by decide) ?_
  refine lv_bipush (v := 63) hx hb dX8_isEvent_2 (by decide) ?_
  refine k_i0 (va_runS (As := [.int i, .int 0, .int 63]) (rest := []) hF (c_X8_isWithin l D I C Q i 0 63 _) (va_cwS 3 hts gX8_isEvent_X8_isWithin rfl rfl rfl (by decide +kernel) ⟨Nat.le_of_ble_eq_true rfl, Nat.le_of_ble_eq_true rfl⟩) (kPreS hE k_P0 (k_D0 (A := A))) rfl rfl hl.1 rfl (lv_room (Nat.le_of_ble_eq_true rfl)) dX8_isEvent_4 ⟨Nat.zero_le _, Nat.zero_le _⟩) hP hS hA (fun H locs hP hS => ?_)
  refine lv_if_eq (tgt := 45) hx hb dX8_isEvent_7 (by decide) (fun c_7 => ?_) (fun c_7 => ?_)
  · refine lv_iconst (v := 0) hx hb dX8_isEvent_45 (by decide) ?_
    exact hend _ _ _ _ _ _ hP hD hS dX8_isEvent_46 (by decide) rfl (by simp +decide only [x_isE, c_7, if_true, if_false, not_true_eq_false, not_false_eq_true, and_self, and_true, true_and, and_false, false_and, kn01, kn10, kn02, kn20, kn12, kn21, eq_self])
  · refine lv_iload_n hx hb dX8_isEvent_10 rfl (lv_at hl 1 rfl) ?_
    refine lv_iconst (v := 0) hx hb dX8_isEvent_11 (by decide) ?_
    refine lv_sipush (v := 1999) hx hb dX8_isEvent_12 (by decide) ?_
    refine k_i0 (va_runS (As := [.int t, .int 0, .int 1999]) (rest := []) hF (c_X8_isWithin l D I C Q t 0 1999 _) (va_cwS 3 hts gX8_isEvent_X8_isWithin rfl rfl rfl (by decide +kernel) ⟨Nat.le_of_ble_eq_true rfl, Nat.le_of_ble_eq_true rfl⟩) (kPreS hE k_P0 (k_D0 (A := A))) rfl rfl hl.1 rfl (lv_room (Nat.le_of_ble_eq_true rfl)) dX8_isEvent_15 ⟨Nat.zero_le _, Nat.zero_le _⟩) hP hS hA (fun H locs hP hS => ?_)
    refine lv_if_eq (tgt := 45) hx hb dX8_isEvent_18 (by decide) (fun c_18 => ?_) (fun c_18 => ?_)
    · refine lv_iconst (v := 0) hx hb dX8_isEvent_45 (by decide) ?_
      exact hend _ _ _ _ _ _ hP hD hS dX8_isEvent_46 (by decide) rfl (by simp +decide only [x_isE, c_7, c_18, if_true, if_false, not_true_eq_false, not_false_eq_true, and_self, and_true, true_and, and_false, false_and, kn01, kn10, kn02, kn20, kn12, kn21, eq_self])
    · refine lv_iload_n hx hb dX8_isEvent_21 rfl (lv_at hl 2 rfl) ?_
      refine lv_iconst (v := 0) hx hb dX8_isEvent_22 (by decide) ?_
      refine lv_iconst (v := 5) hx hb dX8_isEvent_23 (by decide) ?_
      refine k_i0 (va_runS (As := [.int k, .int 0, .int 5]) (rest := []) hF (c_X8_isWithin l D I C Q k 0 5 _) (va_cwS 3 hts gX8_isEvent_X8_isWithin rfl rfl rfl (by decide +kernel) ⟨Nat.le_of_ble_eq_true rfl, Nat.le_of_ble_eq_true rfl⟩) (kPreS hE k_P0 (k_D0 (A := A))) rfl rfl hl.1 rfl (lv_room (Nat.le_of_ble_eq_true rfl)) dX8_isEvent_24 ⟨Nat.zero_le _, Nat.zero_le _⟩) hP hS hA (fun H locs hP hS => ?_)
      refine lv_if_eq (tgt := 45) hx hb dX8_isEvent_27 (by decide) (fun c_27 => ?_) (fun c_27 => ?_)
      · refine lv_iconst (v := 0) hx hb dX8_isEvent_45 (by decide) ?_
        exact hend _ _ _ _ _ _ hP hD hS dX8_isEvent_46 (by decide) rfl (by simp +decide only [x_isE, c_7, c_18, c_27, if_true, if_false, not_true_eq_false, not_false_eq_true, and_self, and_true, true_and, and_false, false_and, kn01, kn10, kn02, kn20, kn12, kn21, eq_self])
      · refine lv_iload_n hx hb dX8_isEvent_30 rfl (lv_at hl 3 rfl) ?_
        refine lv_bipush (v := (-100)) hx hb dX8_isEvent_31 (by decide) ?_
        refine lv_bipush (v := 100) hx hb dX8_isEvent_33 (by decide) ?_
        refine k_i0 (va_runS (As := [.int a, .int (-100), .int 100]) (rest := []) hF (c_X8_isWithin l D I C Q a (-100) 100 _) (va_cwS 3 hts gX8_isEvent_X8_isWithin rfl rfl rfl (by decide +kernel) ⟨Nat.le_of_ble_eq_true rfl, Nat.le_of_ble_eq_true rfl⟩) (kPreS hE k_P0 (k_D0 (A := A))) rfl rfl hl.1 rfl (lv_room (Nat.le_of_ble_eq_true rfl)) dX8_isEvent_35 ⟨Nat.zero_le _, Nat.zero_le _⟩) hP hS hA (fun H locs hP hS => ?_)
        refine lv_if_eq (tgt := 45) hx hb dX8_isEvent_38 (by decide) (fun c_38 => ?_) (fun c_38 => ?_)
        · refine lv_iconst (v := 0) hx hb dX8_isEvent_45 (by decide) ?_
          exact hend _ _ _ _ _ _ hP hD hS dX8_isEvent_46 (by decide) rfl (by simp +decide only [x_isE, c_7, c_18, c_27, c_38, if_true, if_false, not_true_eq_false, not_false_eq_true, and_self, and_true, true_and, and_false, false_and, kn01, kn10, kn02, kn20, kn12, kn21, eq_self])
        · refine lv_iconst (v := 1) hx hb dX8_isEvent_41 (by decide) ?_
          refine lv_goto (tgt := 46) hx hb dX8_isEvent_42 (by decide) ?_
          exact hend _ _ _ _ _ _ hP hD hS dX8_isEvent_46 (by decide) rfl (by simp +decide only [x_isE, c_7, c_18, c_27, c_38, if_true, if_false, not_true_eq_false, not_false_eq_true, and_self, and_true, true_and, and_false, false_and, kn01, kn10, kn02, kn20, kn12, kn21, eq_self])
