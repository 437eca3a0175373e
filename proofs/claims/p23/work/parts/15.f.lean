set_option maxHeartbeats 400000 in
set_option maxRecDepth 100000 in
theorem c_X7_read (l : Launch) (D : va_G) (I C Q : ClassId) (w0 w1 w2 : Nat) (wd : Nat → Int32) (w : Nat) (tl : Int32) (tk : Int32) (ix : Nat) (c1 : Nat) (hw40 : w ≤ 40) (hix : ix < 2 ^ 31) (hc4 : c1 < 4) : KI l D (tyL I C Q) yX7_read wsX7_read { frames := 1, cells := 0, slots := 0, locals := 23 } [.ref w0, .int (nI ix), .int (nI c1)] (wWd I w0 w1 w2 wd (nI w) tl tk) (wWd I w0 w1 w2 wd (nI w) tl tk) (if w ≤ ix then -1000004 else wd (ix * 4 + c1)) := by
  refine KI.of (cc := cX7_read) (maxL := 3) (rt := .int) (own := RX7) (by decide) rfl rfl (Nat.le_of_ble_eq_true rfl) ?_
  intro p e s m below meth c A Q0 ls hx hb hml hown hts hE hA hP hD hS hl hend
  have hK := hE.1
  have hF : CallFix p m c cX7_read 3 s [.ref w0, .int (nI ix), .int (nI c1)].toArray wsX7_read RX7 := ⟨hx, hb, hml, hown, hts⟩
  have k0 := hts (.fieldLink RX7 24 "LateExcuses$Words" "kept" "I") (List.mem_of_getElem? (i := 1) rfl)
  have k1 := hts (.constant RX7 38 (-1000004)) (List.mem_of_getElem? (i := 3) rfl)
  have k2 := hts (.fieldLink RX7 16 "LateExcuses$Words" "rows" "LLateExcuses$Table;") (List.mem_of_getElem? (i := 2) rfl)
  have u7 : ∀ w ∈ u_ws RX7 TX7 4, w ∈ wsX7_read := by decide +kernel
  have hl : lv_has ls 3 [(0, .ref w0), (1, .int (nI ix)), (2, .int (nI c1))] := hl
  refine lv_iload_n hx hb dX7_read_0 rfl (lv_at hl 1 rfl) ?_
  refine lv_aload_n hx hb dX7_read_1 rfl (lv_at hl 0 rfl) ?_
  refine va_get (D := D) (ci := 7) (v := .int (nI w)) (C := RX7) (T := TX7) (N := 4) hx hb hts u7 hown hK hP 0 rfl rfl 1 (by decide) k0 (fun _ h9 => h9) rfl dX7_read_2 ?_
  refine lv_icmp_ge (tgt := 20) hx hb dX7_read_5 (by decide) (fun c_5 => ?_) (fun c_5 => ?_)
  · have hle : w ≤ ix := (nI_leI (a := w) (b := ix) (by omega) hix).mp c_5
    refine lv_ldc (v := (-1000004)) hx hb hown k1 dX7_read_20 ?_
    exact hend _ _ _ _ _ _ hP hD hS dX7_read_22 rfl rfl (by simp +decide only [hle, if_true, if_false, not_true_eq_false, not_false_eq_true, and_self, and_true, true_and, and_false, false_and, kn01, kn10, kn02, kn20, kn12, kn21, eq_self])
  · have hle : ¬ w ≤ ix := fun h => c_5 ((nI_leI (a := w) (b := ix) (by omega) hix).mpr h)
    refine lv_aload_n hx hb dX7_read_8 rfl (lv_at hl 0 rfl) ?_
    refine va_get (D := D) (ci := 7) (v := .ref w1) (C := RX7) (T := TX7) (N := 4) hx hb hts u7 hown hK hP 0 rfl rfl 0 (by decide) k2 (fun _ h9 => h9) rfl dX7_read_9 ?_
    refine lv_iload_n hx hb dX7_read_12 rfl (lv_at hl 1 rfl) ?_
    refine lv_iload_n hx hb dX7_read_13 rfl (lv_at hl 2 rfl) ?_
    have hPc := hP.sub (ws' := (wT I w1 w2 40 4 wd)) [1, 2] rfl
    have hDc := hD.sub (ws' := (wT I w1 w2 40 4 wd)) [1, 2] (by decide) rfl
    refine k_i (wr := [(w0, .inr (7, [.ref w1, .int (nI w), .int tl, .int tk]))]) (ws' := (wWd I w0 w1 w2 wd (nI w) tl tk)) (va_runV (As := [.int (nI ix), .int (nI c1)]) (rest := []) hF (c_X5_get l D I C Q w1 w2 40 4 wd ix c1 (by omega) hc4 (by omega) (by omega) (by omega) _) (cwV 2 hts gX7_read_X5_get rfl rfl rfl (by decide +kernel) ⟨Nat.le_of_ble_eq_true rfl, Nat.le_of_ble_eq_true rfl⟩) (kPreV hE hPc hDc (ci := 5) (q0 := 0) rfl rfl) rfl rfl hl.1 rfl (lv_room (Nat.le_of_ble_eq_true rfl)) dX7_read_14 ⟨Nat.zero_le _, Nat.zero_le _⟩) hP hD hS hA [1, 2] [0] [0, 1, 2] rfl rfl (by decide) (by decide) rfl (by decide) (fun H locs hP hD hS => ?_)
    refine lv_goto (tgt := 22) hx hb dX7_read_17 (by decide) ?_
    exact hend _ _ _ _ _ _ hP hD hS dX7_read_22 rfl rfl (by simp +decide only [hle, if_true, if_false, not_true_eq_false, not_false_eq_true, and_self, and_true, true_and, and_false, false_and, kn01, kn10, kn02, kn20, kn12, kn21, eq_self])
set_option maxHeartbeats 400000 in
set_option maxRecDepth 100000 in
theorem c_X7_addT (l : Launch) (D : va_G) (I C Q : ClassId) (w0 w1 w2 : Nat) (wd : Nat → Int32) (w : Nat) (tl : Int32) (tk : Int32) (kd : Int32) (pa : Int32) (ma : Int32) (su : Int32) (hw40 : w ≤ 40) (hkd : kd = 0) : KV l D (tyL I C Q) yX7_add wsX7_add { frames := 2, cells := 0, slots := 0, locals := 60 } [.ref w0, .int kd, .int pa, .int ma, .int su] (wWd I w0 w1 w2 wd (nI w) tl tk) (wWd I w0 w1 w2 (w_add wd w kd pa ma su) (nI (w_n w)) (tl + 1) tk) := by
  refine KV.of (cc := cX7_add) (maxL := 5) (own := RX7) (by decide) rfl rfl (Nat.le_of_ble_eq_true rfl) ?_
  intro p e s m below meth c A Q0 ls hx hb hml hown hts hE hA hP hD hS hl hend
  have hK := hE.1
  have hF : CallFix p m c cX7_add 5 s [.ref w0, .int kd, .int pa, .int ma, .int su].toArray wsX7_add RX7 := ⟨hx, hb, hml, hown, hts⟩
  have k0 := hts (.fieldLink RX7 24 "LateExcuses$Words" "kept" "I") (List.mem_of_getElem? (i := 1) rfl)
  have k1 := hts (.fieldLink RX7 16 "LateExcuses$Words" "rows" "LLateExcuses$Table;") (List.mem_of_getElem? (i := 2) rfl)
  have k2 := hts (.fieldLink RX7 28 "LateExcuses$Words" "told" "I") (List.mem_of_getElem? (i := 3) rfl)
  have u7 : ∀ w ∈ u_ws RX7 TX7 4, w ∈ wsX7_add := by decide +kernel
  have hl : lv_has ls 5 [(0, .ref w0), (1, .int kd), (2, .int pa), (3, .int ma), (4, .int su)] := hl
  rcases Nat.lt_or_ge w 40 with hlt | hge
  · have hlt2 := hlt
    refine lv_aload_n hx hb dX7_add_0 rfl (lv_at hl 0 rfl) ?_
    refine va_get (D := D) (ci := 7) (v := .int (nI w)) (C := RX7) (T := TX7) (N := 4) hx hb hts u7 hown hK hP 0 rfl rfl 1 (by decide) k0 (fun _ h9 => h9) rfl dX7_add_1 ?_
    refine lv_bipush (v := 40) hx hb dX7_add_4 (by decide) ?_
    refine lv_icmp_ne (tgt := 26) hx hb dX7_add_6 (by decide) (fun c_6 => ?_) (fun c_6 => ?_)
    · refine lv_aload_n hx hb dX7_add_26 rfl (lv_at hl 0 rfl) ?_
      refine va_get (D := D) (ci := 7) (v := .ref w1) (C := RX7) (T := TX7) (N := 4) hx hb hts u7 hown hK hP 0 rfl rfl 0 (by decide) k1 (fun _ h9 => h9) rfl dX7_add_27 ?_
      refine lv_aload_n hx hb dX7_add_30 rfl (lv_at hl 0 rfl) ?_
      refine va_get (D := D) (ci := 7) (v := .int (nI w)) (C := RX7) (T := TX7) (N := 4) hx hb hts u7 hown hK hP 0 rfl rfl 1 (by decide) k0 (fun _ h9 => h9) rfl dX7_add_31 ?_
      refine lv_iconst (v := 0) hx hb dX7_add_34 (by decide) ?_
      refine lv_iload_n hx hb dX7_add_35 rfl (lv_at hl 1 rfl) ?_
      have hPc := hP.sub (ws' := (wT I w1 w2 40 4 wd)) [1, 2] rfl
      have hDc := hD.sub (ws' := (wT I w1 w2 40 4 wd)) [1, 2] (by decide) rfl
      refine k_v (wr := [(w0, .inr (7, [.ref w1, .int (nI w), .int tl, .int tk]))]) (ws' := (wWd I w0 w1 w2 (upd wd (w * 4 + 0) kd) (nI w) tl tk)) (va_runV (As := [.int (nI w), .int 0, .int kd]) (rest := []) hF (c_X5_put l D I C Q w1 w2 40 4 wd w 0 kd (by omega) (by omega) (by omega) (by omega) (by omega) _) (cwV 3 hts gX7_add_X5_put rfl rfl rfl (by decide +kernel) ⟨Nat.le_of_ble_eq_true rfl, Nat.le_of_ble_eq_true rfl⟩) (kPreV hE hPc hDc (ci := 5) (q0 := 0) rfl rfl) rfl rfl hl.1 rfl (lv_room (Nat.le_of_ble_eq_true rfl)) dX7_add_36 ⟨Nat.zero_le _, Nat.zero_le _⟩) hP hD hS hA [1, 2] [0] [0, 1, 2] rfl rfl (by decide) (by decide) rfl (by decide) (fun H locs hP hD hS => ?_)
      refine lv_aload_n hx hb dX7_add_39 rfl (lv_at hl 0 rfl) ?_
      refine va_get (D := D) (ci := 7) (v := .ref w1) (C := RX7) (T := TX7) (N := 4) hx hb hts u7 hown hK hP 0 rfl rfl 0 (by decide) k1 (fun _ h9 => h9) rfl dX7_add_40 ?_
      refine lv_aload_n hx hb dX7_add_43 rfl (lv_at hl 0 rfl) ?_
      refine va_get (D := D) (ci := 7) (v := .int (nI w)) (C := RX7) (T := TX7) (N := 4) hx hb hts u7 hown hK hP 0 rfl rfl 1 (by decide) k0 (fun _ h9 => h9) rfl dX7_add_44 ?_
      refine lv_iconst (v := 1) hx hb dX7_add_47 (by decide) ?_
      refine lv_iload_n hx hb dX7_add_48 rfl (lv_at hl 2 rfl) ?_
      have hPc := hP.sub (ws' := (wT I w1 w2 40 4 (upd wd (w * 4 + 0) kd))) [1, 2] rfl
      have hDc := hD.sub (ws' := (wT I w1 w2 40 4 (upd wd (w * 4 + 0) kd))) [1, 2] (by decide) rfl
      refine k_v (wr := [(w0, .inr (7, [.ref w1, .int (nI w), .int tl, .int tk]))]) (ws' := (wWd I w0 w1 w2 (upd (upd wd (w * 4 + 0) kd) (w * 4 + 1) pa) (nI w) tl tk)) (va_runV (As := [.int (nI w), .int 1, .int pa]) (rest := []) hF (c_X5_put l D I C Q w1 w2 40 4 (upd wd (w * 4 + 0) kd) w 1 pa (by omega) (by omega) (by omega) (by omega) (by omega) _) (cwV 3 hts gX7_add_X5_put rfl rfl rfl (by decide +kernel) ⟨Nat.le_of_ble_eq_true rfl, Nat.le_of_ble_eq_true rfl⟩) (kPreV hE hPc hDc (ci := 5) (q0 := 0) rfl rfl) rfl rfl hl.1 rfl (lv_room (Nat.le_of_ble_eq_true rfl)) dX7_add_49 ⟨Nat.zero_le _, Nat.zero_le _⟩) hP hD hS hA [1, 2] [0] [0, 1, 2] rfl rfl (by decide) (by decide) rfl (by decide) (fun H locs hP hD hS => ?_)
      refine lv_aload_n hx hb dX7_add_52 rfl (lv_at hl 0 rfl) ?_
      refine va_get (D := D) (ci := 7) (v := .ref w1) (C := RX7) (T := TX7) (N := 4) hx hb hts u7 hown hK hP 0 rfl rfl 0 (by decide) k1 (fun _ h9 => h9) rfl dX7_add_53 ?_
      refine lv_aload_n hx hb dX7_add_56 rfl (lv_at hl 0 rfl) ?_
      refine va_get (D := D) (ci := 7) (v := .int (nI w)) (C := RX7) (T := TX7) (N := 4) hx hb hts u7 hown hK hP 0 rfl rfl 1 (by decide) k0 (fun _ h9 => h9) rfl dX7_add_57 ?_
      refine lv_iconst (v := 2) hx hb dX7_add_60 (by decide) ?_
      refine lv_iload_n hx hb dX7_add_61 rfl (lv_at hl 3 rfl) ?_
      have hPc := hP.sub (ws' := (wT I w1 w2 40 4 (upd (upd wd (w * 4 + 0) kd) (w * 4 + 1) pa))) [1, 2] rfl
      have hDc := hD.sub (ws' := (wT I w1 w2 40 4 (upd (upd wd (w * 4 + 0) kd) (w * 4 + 1) pa))) [1, 2] (by decide) rfl
      refine k_v (wr := [(w0, .inr (7, [.ref w1, .int (nI w), .int tl, .int tk]))]) (ws' := (wWd I w0 w1 w2 (upd (upd (upd wd (w * 4 + 0) kd) (w * 4 + 1) pa) (w * 4 + 2) ma) (nI w) tl tk)) (va_runV (As := [.int (nI w), .int 2, .int ma]) (rest := []) hF (c_X5_put l D I C Q w1 w2 40 4 (upd (upd wd (w * 4 + 0) kd) (w * 4 + 1) pa) w 2 ma (by omega) (by omega) (by omega) (by omega) (by omega) _) (cwV 3 hts gX7_add_X5_put rfl rfl rfl (by decide +kernel) ⟨Nat.le_of_ble_eq_true rfl, Nat.le_of_ble_eq_true rfl⟩) (kPreV hE hPc hDc (ci := 5) (q0 := 0) rfl rfl) rfl rfl hl.1 rfl (lv_room (Nat.le_of_ble_eq_true rfl)) dX7_add_62 ⟨Nat.zero_le _, Nat.zero_le _⟩) hP hD hS hA [1, 2] [0] [0, 1, 2] rfl rfl (by decide) (by decide) rfl (by decide) (fun H locs hP hD hS => ?_)
      refine lv_aload_n hx hb dX7_add_65 rfl (lv_at hl 0 rfl) ?_
      refine va_get (D := D) (ci := 7) (v := .ref w1) (C := RX7) (T := TX7) (N := 4) hx hb hts u7 hown hK hP 0 rfl rfl 0 (by decide) k1 (fun _ h9 => h9) rfl dX7_add_66 ?_
      refine lv_aload_n hx hb dX7_add_69 rfl (lv_at hl 0 rfl) ?_
      refine va_get (D := D) (ci := 7) (v := .int (nI w)) (C := RX7) (T := TX7) (N := 4) hx hb hts u7 hown hK hP 0 rfl rfl 1 (by decide) k0 (fun _ h9 => h9) rfl dX7_add_70 ?_
      refine lv_iconst (v := 3) hx hb dX7_add_73 (by decide) ?_
      refine lv_iload hx hb dX7_add_74 (lv_at hl 4 rfl) ?_
      have hPc := hP.sub (ws' := (wT I w1 w2 40 4 (upd (upd (upd wd (w * 4 + 0) kd) (w * 4 + 1) pa) (w * 4 + 2) ma))) [1, 2] rfl
      have hDc := hD.sub (ws' := (wT I w1 w2 40 4 (upd (upd (upd wd (w * 4 + 0) kd) (w * 4 + 1) pa) (w * 4 + 2) ma))) [1, 2] (by decide) rfl
      refine k_v (wr := [(w0, .inr (7, [.ref w1, .int (nI w), .int tl, .int tk]))]) (ws' := (wWd I w0 w1 w2 (upd (upd (upd (upd wd (w * 4 + 0) kd) (w * 4 + 1) pa) (w * 4 + 2) ma) (w * 4 + 3) su) (nI w) tl tk)) (va_runV (As := [.int (nI w), .int 3, .int su]) (rest := []) hF (c_X5_put l D I C Q w1 w2 40 4 (upd (upd (upd wd (w * 4 + 0) kd) (w * 4 + 1) pa) (w * 4 + 2) ma) w 3 su (by omega) (by omega) (by omega) (by omega) (by omega) _) (cwV 3 hts gX7_add_X5_put rfl rfl rfl (by decide +kernel) ⟨Nat.le_of_ble_eq_true rfl, Nat.le_of_ble_eq_true rfl⟩) (kPreV hE hPc hDc (ci := 5) (q0 := 0) rfl rfl) rfl rfl hl.1 rfl (lv_room (Nat.le_of_ble_eq_true rfl)) dX7_add_76 ⟨Nat.zero_le _, Nat.zero_le _⟩) hP hD hS hA [1, 2] [0] [0, 1, 2] rfl rfl (by decide) (by decide) rfl (by decide) (fun H locs hP hD hS => ?_)
      refine lv_aload_n hx hb dX7_add_79 rfl (lv_at hl 0 rfl) ?_
      refine lv_dup hx hb dX7_add_80 rfl ?_
      refine va_get (D := D) (ci := 7) (v := .int (nI w)) (C := RX7) (T := TX7) (N := 4) hx hb hts u7 hown hK hP 0 rfl rfl 1 (by decide) k0 (fun _ h9 => h9) rfl dX7_add_81 ?_
      refine lv_iconst (v := 1) hx hb dX7_add_84 (by decide) ?_
      refine k_iadd (v := nI (w + 1)) hx hb dX7_add_85 (nI_add w 1) ?_
      refine va_put (D := D) (ci := 7) (v := .int (nI (w + 1))) (ty := .int) (C := RX7) (T := TX7) (N := 4) hx hb hts u7 tyX7 tyX7_ok nmX7 hown hK hP hD hS 0 rfl rfl 1 (by decide) k0 (fun _ h9 => h9) rfl (by decide +kernel) rfl rfl (Nat.le_of_ble_eq_true rfl) dX7_add_86 (fun H locs hP hD hS => ?_)
      have hP : va_P D vwCl (wWd I w0 w1 w2 (upd (upd (upd (upd wd (w * 4 + 0) kd) (w * 4 + 1) pa) (w * 4 + 2) ma) (w * 4 + 3) su) (nI (w + 1)) tl tk) H := hP
      have hD : va_D A (wWd I w0 w1 w2 (upd (upd (upd (upd wd (w * 4 + 0) kd) (w * 4 + 1) pa) (w * 4 + 2) ma) (w * 4 + 3) su) (nI (w + 1)) tl tk) := hD
      refine lv_iload_n hx hb dX7_add_89 rfl (lv_at hl 1 rfl) ?_
      refine lv_if_ne (tgt := 106) hx hb dX7_add_90 (by decide) (fun c_90 => ?_) (fun c_90 => ?_)
      · exact absurd hkd c_90
      · refine lv_aload_n hx hb dX7_add_93 rfl (lv_at hl 0 rfl) ?_
        refine lv_dup hx hb dX7_add_94 rfl ?_
        refine va_get (D := D) (ci := 7) (v := .int tl) (C := RX7) (T := TX7) (N := 4) hx hb hts u7 hown hK hP 0 rfl rfl 2 (by decide) k2 (fun _ h9 => h9) rfl dX7_add_95 ?_
        refine lv_iconst (v := 1) hx hb dX7_add_98 (by decide) ?_
        refine lv_iadd hx hb dX7_add_99 ?_
        refine va_put (D := D) (ci := 7) (v := .int (tl + 1)) (ty := .int) (C := RX7) (T := TX7) (N := 4) hx hb hts u7 tyX7 tyX7_ok nmX7 hown hK hP hD hS 0 rfl rfl 2 (by decide) k2 (fun _ h9 => h9) rfl (by decide +kernel) rfl rfl (Nat.le_of_ble_eq_true rfl) dX7_add_100 (fun H locs hP hD hS => ?_)
        have hP : va_P D vwCl (wWd I w0 w1 w2 (upd (upd (upd (upd wd (w * 4 + 0) kd) (w * 4 + 1) pa) (w * 4 + 2) ma) (w * 4 + 3) su) (nI (w + 1)) (tl + 1) tk) H := hP
        have hD : va_D A (wWd I w0 w1 w2 (upd (upd (upd (upd wd (w * 4 + 0) kd) (w * 4 + 1) pa) (w * 4 + 2) ma) (w * 4 + 3) su) (nI (w + 1)) (tl + 1) tk) := hD
        refine lv_goto (tgt := 116) hx hb dX7_add_103 (by decide) ?_
        exact hend _ _ _ _ _ hP hD hS dX7_add_116 (by rw [w_add, w_n, if_pos hlt2, if_pos hlt2])
    · exact absurd ((nI_eq (a := w) (b := 40) (by omega) (by omega)).mp c_6) (by omega)
  · have h4 : w = 40 := by omega
    subst h4
    refine lv_aload_n hx hb dX7_add_0 rfl (lv_at hl 0 rfl) ?_
    refine va_get (D := D) (ci := 7) (v := .int 40) (C := RX7) (T := TX7) (N := 4) hx hb hts u7 hown hK hP 0 rfl rfl 1 (by decide) k0 (fun _ h9 => h9) rfl dX7_add_1 ?_
    refine lv_bipush (v := 40) hx hb dX7_add_4 (by decide) ?_
    refine lv_icmp_ne (tgt := 26) hx hb dX7_add_6 (by decide) (fun c_6 => ?_) (fun c_6 => ?_)
    · exact absurd rfl c_6
    · refine lv_aload_n hx hb dX7_add_9 rfl (lv_at hl 0 rfl) ?_
      refine va_get (D := D) (ci := 7) (v := .ref w1) (C := RX7) (T := TX7) (N := 4) hx hb hts u7 hown hK hP 0 rfl rfl 0 (by decide) k1 (fun _ h9 => h9) rfl dX7_add_10 ?_
      have hPc := hP.sub (ws' := (wT I w1 w2 40 4 wd)) [1, 2] rfl
      have hDc := hD.sub (ws' := (wT I w1 w2 40 4 wd)) [1, 2] (by decide) rfl
      refine k_v (wr := [(w0, .inr (7, [.ref w1, .int 40, .int tl, .int tk]))]) (ws' := (wWd I w0 w1 w2 (va_cpy wd wd 4 0 156) 40 tl tk)) (va_runV (As := []) (rest := []) hF (c_X5_dropFirstRow l D I C Q w1 w2 wd _) (cwV 0 hts gX7_add_X5_dropFirstRow rfl rfl rfl (by decide +kernel) ⟨Nat.le_of_ble_eq_true rfl, Nat.le_of_ble_eq_true rfl⟩) (kPreV hE hPc hDc (ci := 5) (q0 := 0) rfl rfl) rfl rfl hl.1 rfl (lv_room (Nat.le_of_ble_eq_true rfl)) dX7_add_13 ⟨Nat.zero_le _, Nat.zero_le _⟩) hP hD hS hA [1, 2] [0] [0, 1, 2] rfl rfl (by decide) (by decide) rfl (by decide) (fun H locs hP hD hS => ?_)
      refine lv_aload_n hx hb dX7_add_16 rfl (lv_at hl 0 rfl) ?_
      refine lv_dup hx hb dX7_add_17 rfl ?_
      refine va_get (D := D) (ci := 7) (v := .int 40) (C := RX7) (T := TX7) (N := 4) hx hb hts u7 hown hK hP 0 rfl rfl 1 (by decide) k0 (fun _ h9 => h9) rfl dX7_add_18 ?_
      refine lv_iconst (v := 1) hx hb dX7_add_21 (by decide) ?_
      refine k_isub (v := 39) hx hb dX7_add_22 (by decide) ?_
      refine va_put (D := D) (ci := 7) (v := .int 39) (ty := .int) (C := RX7) (T := TX7) (N := 4) hx hb hts u7 tyX7 tyX7_ok nmX7 hown hK hP hD hS 0 rfl rfl 1 (by decide) k0 (fun _ h9 => h9) rfl (by decide +kernel) rfl rfl (Nat.le_of_ble_eq_true rfl) dX7_add_23 (fun H locs hP hD hS => ?_)
      have hP : va_P D vwCl (wWd I w0 w1 w2 (va_cpy wd wd 4 0 156) 39 tl tk) H := hP
      have hD : va_D A (wWd I w0 w1 w2 (va_cpy wd wd 4 0 156) 39 tl tk) := hD
      refine lv_aload_n hx hb dX7_add_26 rfl (lv_at hl 0 rfl) ?_
      refine va_get (D := D) (ci := 7) (v := .ref w1) (C := RX7) (T := TX7) (N := 4) hx hb hts u7 hown hK hP 0 rfl rfl 0 (by decide) k1 (fun _ h9 => h9) rfl dX7_add_27 ?_
      refine lv_aload_n hx hb dX7_add_30 rfl (lv_at hl 0 rfl) ?_
      refine va_get (D := D) (ci := 7) (v := .int 39) (C := RX7) (T := TX7) (N := 4) hx hb hts u7 hown hK hP 0 rfl rfl 1 (by decide) k0 (fun _ h9 => h9) rfl dX7_add_31 ?_
      refine lv_iconst (v := 0) hx hb dX7_add_34 (by decide) ?_
      refine lv_iload_n hx hb dX7_add_35 rfl (lv_at hl 1 rfl) ?_
      have hPc := hP.sub (ws' := (wT I w1 w2 40 4 (va_cpy wd wd 4 0 156))) [1, 2] rfl
      have hDc := hD.sub (ws' := (wT I w1 w2 40 4 (va_cpy wd wd 4 0 156))) [1, 2] (by decide) rfl
      refine k_v (wr := [(w0, .inr (7, [.ref w1, .int 39, .int tl, .int tk]))]) (ws' := (wWd I w0 w1 w2 (upd (va_cpy wd wd 4 0 156) (39 * 4 + 0) kd) 39 tl tk)) (va_runV (As := [.int 39, .int 0, .int kd]) (rest := []) hF (c_X5_put l D I C Q w1 w2 40 4 (va_cpy wd wd 4 0 156) 39 0 kd (by omega) (by omega) (by omega) (by omega) (by omega) _) (cwV 3 hts gX7_add_X5_put rfl rfl rfl (by decide +kernel) ⟨Nat.le_of_ble_eq_true rfl, Nat.le_of_ble_eq_true rfl⟩) (kPreV hE hPc hDc (ci := 5) (q0 := 0) rfl rfl) rfl rfl hl.1 rfl (lv_room (Nat.le_of_ble_eq_true rfl)) dX7_add_36 ⟨Nat.zero_le _, Nat.zero_le _⟩) hP hD hS hA [1, 2] [0] [0, 1, 2] rfl rfl (by decide) (by decide) rfl (by decide) (fun H locs hP hD hS => ?_)
      refine lv_aload_n hx hb dX7_add_39 rfl (lv_at hl 0 rfl) ?_
      refine va_get (D := D) (ci := 7) (v := .ref w1) (C := RX7) (T := TX7) (N := 4) hx hb hts u7 hown hK hP 0 rfl rfl 0 (by decide) k1 (fun _ h9 => h9) rfl dX7_add_40 ?_
      refine lv_aload_n hx hb dX7_add_43 rfl (lv_at hl 0 rfl) ?_
      refine va_get (D := D) (ci := 7) (v := .int 39) (C := RX7) (T := TX7) (N := 4) hx hb hts u7 hown hK hP 0 rfl rfl 1 (by decide) k0 (fun _ h9 => h9) rfl dX7_add_44 ?_
      refine lv_iconst (v := 1) hx hb dX7_add_47 (by decide) ?_
      refine lv_iload_n hx hb dX7_add_48 rfl (lv_at hl 2 rfl) ?_
      have hPc := hP.sub (ws' := (wT I w1 w2 40 4 (upd (va_cpy wd wd 4 0 156) (39 * 4 + 0) kd))) [1, 2] rfl
      have hDc := hD.sub (ws' := (wT I w1 w2 40 4 (upd (va_cpy wd wd 4 0 156) (39 * 4 + 0) kd))) [1, 2] (by decide) rfl
      refine k_v (wr := [(w0, .inr (7, [.ref w1, .int 39, .int tl, .int tk]))]) (ws' := (wWd I w0 w1 w2 (upd (upd (va_cpy wd wd 4 0 156) (39 * 4 + 0) kd) (39 * 4 + 1) pa) 39 tl tk)) (va_runV (As := [.int 39, .int 1, .int pa]) (rest := []) hF (c_X5_put l D I C Q w1 w2 40 4 (upd (va_cpy wd wd 4 0 156) (39 * 4 + 0) kd) 39 1 pa (by omega) (by omega) (by omega) (by omega) (by omega) _) (cwV 3 hts gX7_add_X5_put rfl rfl rfl (by decide +kernel) ⟨Nat.le_of_ble_eq_true rfl, Nat.le_of_ble_eq_true rfl⟩) (kPreV hE hPc hDc (ci := 5) (q0 := 0) rfl rfl) rfl rfl hl.1 rfl (lv_room (Nat.le_of_ble_eq_true rfl)) dX7_add_49 ⟨Nat.zero_le _, Nat.zero_le _⟩) hP hD hS hA [1, 2] [0] [0, 1, 2] rfl rfl (by decide) (by decide) rfl (by decide) (fun H locs hP hD hS => ?_)
      refine lv_aload_n hx hb dX7_add_52 rfl (lv_at hl 0 rfl) ?_
      refine va_get (D := D) (ci := 7) (v := .ref w1) (C := RX7) (T := TX7) (N := 4) hx hb hts u7 hown hK hP 0 rfl rfl 0 (by decide) k1 (fun _ h9 => h9) rfl dX7_add_53 ?_
      refine lv_aload_n hx hb dX7_add_56 rfl (lv_at hl 0 rfl) ?_
      refine va_get (D := D) (ci := 7) (v := .int 39) (C := RX7) (T := TX7) (N := 4) hx hb hts u7 hown hK hP 0 rfl rfl 1 (by decide) k0 (fun _ h9 => h9) rfl dX7_add_57 ?_
      refine lv_iconst (v := 2) hx hb dX7_add_60 (by decide) ?_
      refine lv_iload_n hx hb dX7_add_61 rfl (lv_at hl 3 rfl) ?_
      have hPc := hP.sub (ws' := (wT I w1 w2 40 4 (upd (upd (va_cpy wd wd 4 0 156) (39 * 4 + 0) kd) (39 * 4 + 1) pa))) [1, 2] rfl
      have hDc := hD.sub (ws' := (wT I w1 w2 40 4 (upd (upd (va_cpy wd wd 4 0 156) (39 * 4 + 0) kd) (39 * 4 + 1) pa))) [1, 2] (by decide) rfl
      refine k_v (wr := [(w0, .inr (7, [.ref w1, .int 39, .int tl, .int tk]))]) (ws' := (wWd I w0 w1 w2 (upd (upd (upd (va_cpy wd wd 4 0 156) (39 * 4 + 0) kd) (39 * 4 + 1) pa) (39 * 4 + 2) ma) 39 tl tk)) (va_runV (As := [.int 39, .int 2, .int ma]) (rest := []) hF (c_X5_put l D I C Q w1 w2 40 4 (upd (upd (va_cpy wd wd 4 0 156) (39 * 4 + 0) kd) (39 * 4 + 1) pa) 39 2 ma (by omega) (by omega) (by omega) (by omega) (by omega) _) (cwV 3 hts gX7_add_X5_put rfl rfl rfl (by decide +kernel) ⟨Nat.le_of_ble_eq_true rfl, Nat.le_of_ble_eq_true rfl⟩) (kPreV hE hPc hDc (ci := 5) (q0 := 0) rfl rfl) rfl rfl hl.1 rfl (lv_room (Nat.le_of_ble_eq_true rfl)) dX7_add_62 ⟨Nat.zero_le _, Nat.zero_le _⟩) hP hD hS hA [1, 2] [0] [0, 1, 2] rfl rfl (by decide) (by decide) rfl (by decide) (fun H locs hP hD hS => ?_)
      refine lv_aload_n hx hb dX7_add_65 rfl (lv_at hl 0 rfl) ?_
      refine va_get (D := D) (ci := 7) (v := .ref w1) (C := RX7) (T := TX7) (N := 4) hx hb hts u7 hown hK hP 0 rfl rfl 0 (by decide) k1 (fun _ h9 => h9) rfl dX7_add_66 ?_
      refine lv_aload_n hx hb dX7_add_69 rfl (lv_at hl 0 rfl) ?_
      refine va_get (D := D) (ci := 7) (v := .int 39) (C := RX7) (T := TX7) (N := 4) hx hb hts u7 hown hK hP 0 rfl rfl 1 (by decide) k0 (fun _ h9 => h9) rfl dX7_add_70 ?_
      refine lv_iconst (v := 3) hx hb dX7_add_73 (by decide) ?_
      refine lv_iload hx hb dX7_add_74 (lv_at hl 4 rfl) ?_
      have hPc := hP.sub (ws' := (wT I w1 w2 40 4 (upd (upd (upd (va_cpy wd wd 4 0 156) (39 * 4 + 0) kd) (39 * 4 + 1) pa) (39 * 4 + 2) ma))) [1, 2] rfl
      have hDc := hD.sub (ws' := (wT I w1 w2 40 4 (upd (upd (upd (va_cpy wd wd 4 0 156) (39 * 4 + 0) kd) (39 * 4 + 1) pa) (39 * 4 + 2) ma))) [1, 2] (by decide) rfl
      refine k_v (wr := [(w0, .inr (7, [.ref w1, .int 39, .int tl, .int tk]))]) (ws' := (wWd I w0 w1 w2 (upd (upd (upd (upd (va_cpy wd wd 4 0 156) (39 * 4 + 0) kd) (39 * 4 + 1) pa) (39 * 4 + 2) ma) (39 * 4 + 3) su) 39 tl tk)) (va_runV (As := [.int 39, .int 3, .int su]) (rest := []) hF (c_X5_put l D I C Q w1 w2 40 4 (upd (upd (upd (va_cpy wd wd 4 0 156) (39 * 4 + 0) kd) (39 * 4 + 1) pa) (39 * 4 + 2) ma) 39 3 su (by omega) (by omega) (by omega) (by omega) (by omega) _) (cwV 3 hts gX7_add_X5_put rfl rfl rfl (by decide +kernel) ⟨Nat.le_of_ble_eq_true rfl, Nat.le_of_ble_eq_true rfl⟩) (kPreV hE hPc hDc (ci := 5) (q0 := 0) rfl rfl) rfl rfl hl.1 rfl (lv_room (Nat.le_of_ble_eq_true rfl)) dX7_add_76 ⟨Nat.zero_le _, Nat.zero_le _⟩) hP hD hS hA [1, 2] [0] [0, 1, 2] rfl rfl (by decide) (by decide) rfl (by decide) (fun H locs hP hD hS => ?_)
      refine lv_aload_n hx hb dX7_add_79 rfl (lv_at hl 0 rfl) ?_
      refine lv_dup hx hb dX7_add_80 rfl ?_
      refine va_get (D := D) (ci := 7) (v := .int 39) (C := RX7) (T := TX7) (N := 4) hx hb hts u7 hown hK hP 0 rfl rfl 1 (by decide) k0 (fun _ h9 => h9) rfl dX7_add_81 ?_
      refine lv_iconst (v := 1) hx hb dX7_add_84 (by decide) ?_
      refine k_iadd (v := 40) hx hb dX7_add_85 (nI_add 39 1) ?_
      refine va_put (D := D) (ci := 7) (v := .int 40) (ty := .int) (C := RX7) (T := TX7) (N := 4) hx hb hts u7 tyX7 tyX7_ok nmX7 hown hK hP hD hS 0 rfl rfl 1 (by decide) k0 (fun _ h9 => h9) rfl (by decide +kernel) rfl rfl (Nat.le_of_ble_eq_true rfl) dX7_add_86 (fun H locs hP hD hS => ?_)
      have hP : va_P D vwCl (wWd I w0 w1 w2 (upd (upd (upd (upd (va_cpy wd wd 4 0 156) (39 * 4 + 0) kd) (39 * 4 + 1) pa) (39 * 4 + 2) ma) (39 * 4 + 3) su) 40 tl tk) H := hP
      have hD : va_D A (wWd I w0 w1 w2 (upd (upd (upd (upd (va_cpy wd wd 4 0 156) (39 * 4 + 0) kd) (39 * 4 + 1) pa) (39 * 4 + 2) ma) (39 * 4 + 3) su) 40 tl tk) := hD
      refine lv_iload_n hx hb dX7_add_89 rfl (lv_at hl 1 rfl) ?_
      refine lv_if_ne (tgt := 106) hx hb dX7_add_90 (by decide) (fun c_90 => ?_) (fun c_90 => ?_)
      · exact absurd hkd c_90
      · refine lv_aload_n hx hb dX7_add_93 rfl (lv_at hl 0 rfl) ?_
        refine lv_dup hx hb dX7_add_94 rfl ?_
        refine va_get (D := D) (ci := 7) (v := .int tl) (C := RX7) (T := TX7) (N := 4) hx hb hts u7 hown hK hP 0 rfl rfl 2 (by decide) k2 (fun _ h9 => h9) rfl dX7_add_95 ?_
        refine lv_iconst (v := 1) hx hb dX7_add_98 (by decide) ?_
        refine lv_iadd hx hb dX7_add_99 ?_
        refine va_put (D := D) (ci := 7) (v := .int (tl + 1)) (ty := .int) (C := RX7) (T := TX7) (N := 4) hx hb hts u7 tyX7 tyX7_ok nmX7 hown hK hP hD hS 0 rfl rfl 2 (by decide) k2 (fun _ h9 => h9) rfl (by decide +kernel) rfl rfl (Nat.le_of_ble_eq_true rfl) dX7_add_100 (fun H locs hP hD hS => ?_)
        have hP : va_P D vwCl (wWd I w0 w1 w2 (upd (upd (upd (upd (va_cpy wd wd 4 0 156) (39 * 4 + 0) kd) (39 * 4 + 1) pa) (39 * 4 + 2) ma) (39 * 4 + 3) su) 40 (tl + 1) tk) H := hP
        have hD : va_D A (wWd I w0 w1 w2 (upd (upd (upd (upd (va_cpy wd wd 4 0 156) (39 * 4 + 0) kd) (39 * 4 + 1) pa) (39 * 4 + 2) ma) (39 * 4 + 3) su) 40 (tl + 1) tk) := hD
        refine lv_goto (tgt := 116) hx hb dX7_add_103 (by decide) ?_
        exact hend _ _ _ _ _ hP hD hS dX7_add_116 (by rw [w_add, w_n, if_neg (by omega), if_neg (by omega)]; rfl)
set_option maxHeartbeats 400000 in
set_option maxRecDepth 100000 in
theorem c_X7_addK (l : Launch) (D : va_G) (I C Q : ClassId) (w0 w1 w2 : Nat) (wd : Nat → Int32) (w : Nat) (tl : Int32) (tk : Int32) (kd : Int32) (pa : Int32) (ma : Int32) (su : Int32) (hw40 : w ≤ 40) (hkd : kd = 1) : KV l D (tyL I C Q) yX7_add wsX7_add { frames := 2, cells := 0, slots := 0, locals := 60 } [.ref w0, .int kd, .int pa, .int ma, .int su] (wWd I w0 w1 w2 wd (nI w) tl tk) (wWd I w0 w1 w2 (w_add wd w kd pa ma su) (nI (w_n w)) tl (tk + 1)) := by
  refine KV.of (cc := cX7_add) (maxL := 5) (own := RX7) (by decide) rfl rfl (Nat.le_of_ble_eq_true rfl) ?_
  intro p e s m below meth c A Q0 ls hx hb hml hown hts hE hA hP hD hS hl hend
  have hK := hE.1
  have hF : CallFix p m c cX7_add 5 s [.ref w0, .int kd, .int pa, .int ma, .int su].toArray wsX7_add RX7 := ⟨hx, hb, hml, hown, hts⟩
  have k0 := hts (.fieldLink RX7 24 "LateExcuses$Words" "kept" "I") (List.mem_of_getElem? (i := 1) rfl)
  have k1 := hts (.fieldLink RX7 16 "LateExcuses$Words" "rows" "LLateExcuses$Table;") (List.mem_of_getElem? (i := 2) rfl)
  have k2 := hts (.fieldLink RX7 31 "LateExcuses$Words" "takenBack" "I") (List.mem_of_getElem? (i := 4) rfl)
  have u7 : ∀ w ∈ u_ws RX7 TX7 4, w ∈ wsX7_add := by decide +kernel
  have hl : lv_has ls 5 [(0, .ref w0), (1, .int kd), (2, .int pa), (3, .int ma), (4, .int su)] := hl
  rcases Nat.lt_or_ge w 40 with hlt | hge
  · have hlt2 := hlt
    refine lv_aload_n hx hb dX7_add_0 rfl (lv_at hl 0 rfl) ?_
    refine va_get (D := D) (ci := 7) (v := .int (nI w)) (C := RX7) (T := TX7) (N := 4) hx hb hts u7 hown hK hP 0 rfl rfl 1 (by decide) k0 (fun _ h9 => h9) rfl dX7_add_1 ?_
    refine lv_bipush (v := 40) hx hb dX7_add_4 (by decide) ?_
    refine lv_icmp_ne (tgt := 26) hx hb dX7_add_6 (by decide) (fun c_6 => ?_) (fun c_6 => ?_)
    · refine lv_aload_n hx hb dX7_add_26 rfl (lv_at hl 0 rfl) ?_
      refine va_get (D := D) (ci := 7) (v := .ref w1) (C := RX7) (T := TX7) (N := 4) hx hb hts u7 hown hK hP 0 rfl rfl 0 (by decide) k1 (fun _ h9 => h9) rfl dX7_add_27 ?_
      refine lv_aload_n hx hb dX7_add_30 rfl (lv_at hl 0 rfl) ?_
      refine va_get (D := D) (ci := 7) (v := .int (nI w)) (C := RX7) (T := TX7) (N := 4) hx hb hts u7 hown hK hP 0 rfl rfl 1 (by decide) k0 (fun _ h9 => h9) rfl dX7_add_31 ?_
      refine lv_iconst (v := 0) hx hb dX7_add_34 (by decide) ?_
      refine lv_iload_n hx hb dX7_add_35 rfl (lv_at hl 1 rfl) ?_
      have hPc := hP.sub (ws' := (wT I w1 w2 40 4 wd)) [1, 2] rfl
      have hDc := hD.sub (ws' := (wT I w1 w2 40 4 wd)) [1, 2] (by decide) rfl
      refine k_v (wr := [(w0, .inr (7, [.ref w1, .int (nI w), .int tl, .int tk]))]) (ws' := (wWd I w0 w1 w2 (upd wd (w * 4 + 0) kd) (nI w) tl tk)) (va_runV (As := [.int (nI w), .int 0, .int kd]) (rest := []) hF (c_X5_put l D I C Q w1 w2 40 4 wd w 0 kd (by omega) (by omega) (by omega) (by omega) (by omega) _) (cwV 3 hts gX7_add_X5_put rfl rfl rfl (by decide +kernel) ⟨Nat.le_of_ble_eq_true rfl, Nat.le_of_ble_eq_true rfl⟩) (kPreV hE hPc hDc (ci := 5) (q0 := 0) rfl rfl) rfl rfl hl.1 rfl (lv_room (Nat.le_of_ble_eq_true rfl)) dX7_add_36 ⟨Nat.zero_le _, Nat.zero_le _⟩) hP hD hS hA [1, 2] [0] [0, 1, 2] rfl rfl (by decide) (by decide) rfl (by decide) (fun H locs hP hD hS => ?_)
      refine lv_aload_n hx hb dX7_add_39 rfl (lv_at hl 0 rfl) ?_
      refine va_get (D := D) (ci := 7) (v := .ref w1) (C := RX7) (T := TX7) (N := 4) hx hb hts u7 hown hK hP 0 rfl rfl 0 (by decide) k1 (fun _ h9 => h9) rfl dX7_add_40 ?_
      refine lv_aload_n hx hb dX7_add_43 rfl (lv_at hl 0 rfl) ?_
      refine va_get (D := D) (ci := 7) (v := .int (nI w)) (C := RX7) (T := TX7) (N := 4) hx hb hts u7 hown hK hP 0 rfl rfl 1 (by decide) k0 (fun _ h9 => h9) rfl dX7_add_44 ?_
      refine lv_iconst (v := 1) hx hb dX7_add_47 (by decide) ?_
      refine lv_iload_n hx hb dX7_add_48 rfl (lv_at hl 2 rfl) ?_
      have hPc := hP.sub (ws' := (wT I w1 w2 40 4 (upd wd (w * 4 + 0) kd))) [1, 2] rfl
      have hDc := hD.sub (ws' := (wT I w1 w2 40 4 (upd wd (w * 4 + 0) kd))) [1, 2] (by decide) rfl
      refine k_v (wr := [(w0, .inr (7, [.ref w1, .int (nI w), .int tl, .int tk]))]) (ws' := (wWd I w0 w1 w2 (upd (upd wd (w * 4 + 0) kd) (w * 4 + 1) pa) (nI w) tl tk)) (va_runV (As := [.int (nI w), .int 1, .int pa]) (rest := []) hF (c_X5_put l D I C Q w1 w2 40 4 (upd wd (w * 4 + 0) kd) w 1 pa (by omega) (by omega) (by omega) (by omega) (by omega) _) (cwV 3 hts gX7_add_X5_put rfl rfl rfl (by decide +kernel) ⟨Nat.le_of_ble_eq_true rfl, Nat.le_of_ble_eq_true rfl⟩) (kPreV hE hPc hDc (ci := 5) (q0 := 0) rfl rfl) rfl rfl hl.1 rfl (lv_room (Nat.le_of_ble_eq_true rfl)) dX7_add_49 ⟨Nat.zero_le _, Nat.zero_le _⟩) hP hD hS hA [1, 2] [0] [0, 1, 2] rfl rfl (by decide) (by decide) rfl (by decide) (fun H locs hP hD hS => ?_)
      refine lv_aload_n hx hb dX7_add_52 rfl (lv_at hl 0 rfl) ?_
      refine va_get (D := D) (ci := 7) (v := .ref w1) (C := RX7) (T := TX7) (N := 4) hx hb hts u7 hown hK hP 0 rfl rfl 0 (by decide) k1 (fun _ h9 => h9) rfl dX7_add_53 ?_
      refine lv_aload_n hx hb dX7_add_56 rfl (lv_at hl 0 rfl) ?_
      refine va_get (D := D) (ci := 7) (v := .int (nI w)) (C := RX7) (T := TX7) (N := 4) hx hb hts u7 hown hK hP 0 rfl rfl 1 (by decide) k0 (fun _ h9 => h9) rfl dX7_add_57 ?_
      refine lv_iconst (v := 2) hx hb dX7_add_60 (by decide) ?_
      refine lv_iload_n hx hb dX7_add_61 rfl (lv_at hl 3 rfl) ?_
      have hPc := hP.sub (ws' := (wT I w1 w2 40 4 (upd (upd wd (w * 4 + 0) kd) (w * 4 + 1) pa))) [1, 2] rfl
      have hDc := hD.sub (ws' := (wT I w1 w2 40 4 (upd (upd wd (w * 4 + 0) kd) (w * 4 + 1) pa))) [1, 2] (by decide) rfl
      refine k_v (wr := [(w0, .inr (7, [.ref w1, .int (nI w), .int tl, .int tk]))]) (ws' := (wWd I w0 w1 w2 (upd (upd (upd wd (w * 4 + 0) kd) (w * 4 + 1) pa) (w * 4 + 2) ma) (nI w) tl tk)) (va_runV (As := [.int (nI w), .int 2, .int ma]) (rest := []) hF (c_X5_put l D I C Q w1 w2 40 4 (upd (upd wd (w * 4 + 0) kd) (w * 4 + 1) pa) w 2 ma (by omega) (by omega) (by omega) (by omega) (by omega) _) (cwV 3 hts gX7_add_X5_put rfl rfl rfl (by decide +kernel) ⟨Nat.le_of_ble_eq_true rfl, Nat.le_of_ble_eq_true rfl⟩) (kPreV hE hPc hDc (ci := 5) (q0 := 0) rfl rfl) rfl rfl hl.1 rfl (lv_room (Nat.le_of_ble_eq_true rfl)) dX7_add_62 ⟨Nat.zero_le _, Nat.zero_le _⟩) hP hD hS hA [1, 2] [0] [0, 1, 2] rfl rfl (by decide) (by decide) rfl (by decide) (fun H locs hP hD hS => ?_)
      refine lv_aload_n hx hb dX7_add_65 rfl (lv_at hl 0 rfl) ?_
      refine va_get (D := D) (ci := 7) (v := .ref w1) (C := RX7) (T := TX7) (N := 4) hx hb hts u7 hown hK hP 0 rfl rfl 0 (by decide) k1 (fun _ h9 => h9) rfl dX7_add_66 ?_
      refine lv_aload_n hx hb dX7_add_69 rfl (lv_at hl 0 rfl) ?_
      refine va_get (D := D) (ci := 7) (v := .int (nI w)) (C := RX7) (T := TX7) (N := 4) hx hb hts u7 hown hK hP 0 rfl rfl 1 (by decide) k0 (fun _ h9 => h9) rfl dX7_add_70 ?_
      refine lv_iconst (v := 3) hx hb dX7_add_73 (by decide) ?_
      refine lv_iload hx hb dX7_add_74 (lv_at hl 4 rfl) ?_
      have hPc := hP.sub (ws' := (wT I w1 w2 40 4 (upd (upd (upd wd (w * 4 + 0) kd) (w * 4 + 1) pa) (w * 4 + 2) ma))) [1, 2] rfl
      have hDc := hD.sub (ws' := (wT I w1 w2 40 4 (upd (upd (upd wd (w * 4 + 0) kd) (w * 4 + 1) pa) (w * 4 + 2) ma))) [1, 2] (by decide) rfl
      refine k_v (wr := [(w0, .inr (7, [.ref w1, .int (nI w), .int tl, .int tk]))]) (ws' := (wWd I w0 w1 w2 (upd (upd (upd (upd wd (w * 4 + 0) kd) (w * 4 + 1) pa) (w * 4 + 2) ma) (w * 4 + 3) su) (nI w) tl tk)) (va_runV (As := [.int (nI w), .int 3, .int su]) (rest := []) hF (c_X5_put l D I C Q w1 w2 40 4 (upd (upd (upd wd (w * 4 + 0) kd) (w * 4 + 1) pa) (w * 4 + 2) ma) w 3 su (by omega) (by omega) (by omega) (by omega) (by omega) _) (cwV 3 hts gX7_add_X5_put rfl rfl rfl (by decide +kernel) ⟨Nat.le_of_ble_eq_true rfl, Nat.le_of_ble_eq_true rfl⟩) (kPreV hE hPc hDc (ci := 5) (q0 := 0) rfl rfl) rfl rfl hl.1 rfl (lv_room (Nat.le_of_ble_eq_true rfl)) dX7_add_76 ⟨Nat.zero_le _, Nat.zero_le _⟩) hP hD hS hA [1, 2] [0] [0, 1, 2] rfl rfl (by decide) (by decide) rfl (by decide) (fun H locs hP hD hS => ?_)
      refine lv_aload_n hx hb dX7_add_79 rfl (lv_at hl 0 rfl) ?_
      refine lv_dup hx hb dX7_add_80 rfl ?_
      refine va_get (D := D) (ci := 7) (v := .int (nI w)) (C := RX7) (T := TX7) (N := 4) hx hb hts u7 hown hK hP 0 rfl rfl 1 (by decide) k0 (fun _ h9 => h9) rfl dX7_add_81 ?_
      refine lv_iconst (v := 1) hx hb dX7_add_84 (by decide) ?_
      refine k_iadd (v := nI (w + 1)) hx hb dX7_add_85 (nI_add w 1) ?_
      refine va_put (D := D) (ci := 7) (v := .int (nI (w + 1))) (ty := .int) (C := RX7) (T := TX7) (N := 4) hx hb hts u7 tyX7 tyX7_ok nmX7 hown hK hP hD hS 0 rfl rfl 1 (by decide) k0 (fun _ h9 => h9) rfl (by decide +kernel) rfl rfl (Nat.le_of_ble_eq_true rfl) dX7_add_86 (fun H locs hP hD hS => ?_)
      have hP : va_P D vwCl (wWd I w0 w1 w2 (upd (upd (upd (upd wd (w * 4 + 0) kd) (w * 4 + 1) pa) (w * 4 + 2) ma) (w * 4 + 3) su) (nI (w + 1)) tl tk) H := hP
      have hD : va_D A (wWd I w0 w1 w2 (upd (upd (upd (upd wd (w * 4 + 0) kd) (w * 4 + 1) pa) (w * 4 + 2) ma) (w * 4 + 3) su) (nI (w + 1)) tl tk) := hD
      refine lv_iload_n hx hb dX7_add_89 rfl (lv_at hl 1 rfl) ?_
      refine lv_if_ne (tgt := 106) hx hb dX7_add_90 (by decide) (fun c_90 => ?_) (fun c_90 => ?_)
      · refine lv_aload_n hx hb dX7_add_106 rfl (lv_at hl 0 rfl) ?_
        refine lv_dup hx hb dX7_add_107 rfl ?_
        refine va_get (D := D) (ci := 7) (v := .int tk) (C := RX7) (T := TX7) (N := 4) hx hb hts u7 hown hK hP 0 rfl rfl 3 (by decide) k2 (fun _ h9 => h9) rfl dX7_add_108 ?_
        refine lv_iconst (v := 1) hx hb dX7_add_111 (by decide) ?_
        refine lv_iadd hx hb dX7_add_112 ?_
        refine va_put (D := D) (ci := 7) (v := .int (tk + 1)) (ty := .int) (C := RX7) (T := TX7) (N := 4) hx hb hts u7 tyX7 tyX7_ok nmX7 hown hK hP hD hS 0 rfl rfl 3 (by decide) k2 (fun _ h9 => h9) rfl (by decide +kernel) rfl rfl (Nat.le_of_ble_eq_true rfl) dX7_add_113 (fun H locs hP hD hS => ?_)
        have hP : va_P D vwCl (wWd I w0 w1 w2 (upd (upd (upd (upd wd (w * 4 + 0) kd) (w * 4 + 1) pa) (w * 4 + 2) ma) (w * 4 + 3) su) (nI (w + 1)) tl (tk + 1)) H := hP
        have hD : va_D A (wWd I w0 w1 w2 (upd (upd (upd (upd wd (w * 4 + 0) kd) (w * 4 + 1) pa) (w * 4 + 2) ma) (w * 4 + 3) su) (nI (w + 1)) tl (tk + 1)) := hD
        exact hend _ _ _ _ _ hP hD hS dX7_add_116 (by rw [w_add, w_n, if_pos hlt2, if_pos hlt2])
      · exact absurd (hkd.symm.trans c_90) (by decide)
    · exact absurd ((nI_eq (a := w) (b := 40) (by omega) (by omega)).mp c_6) (by omega)
  · have h4 : w = 40 := by omega
    subst h4
    refine lv_aload_n hx hb dX7_add_0 rfl (lv_at hl 0 rfl) ?_
    refine va_get (D := D) (ci := 7) (v := .int 40) (C := RX7) (T := TX7) (N := 4) hx hb hts u7 hown hK hP 0 rfl rfl 1 (by decide) k0 (fun _ h9 => h9) rfl dX7_add_1 ?_
    refine lv_bipush (v := 40) hx hb dX7_add_4 (by decide) ?_
    refine lv_icmp_ne (tgt := 26) hx hb dX7_add_6 (by decide) (fun c_6 => ?_) (fun c_6 => ?_)
    · exact absurd rfl c_6
    · refine lv_aload_n hx hb dX7_add_9 rfl (lv_at hl 0 rfl) ?_
      refine va_get (D := D) (ci := 7) (v := .ref w1) (C := RX7) (T := TX7) (N := 4) hx hb hts u7 hown hK hP 0 rfl rfl 0 (by decide) k1 (fun _ h9 => h9) rfl dX7_add_10 ?_
      have hPc := hP.sub (ws' := (wT I w1 w2 40 4 wd)) [1, 2] rfl
      have hDc := hD.sub (ws' := (wT I w1 w2 40 4 wd)) [1, 2] (by decide) rfl
      refine k_v (wr := [(w0, .inr (7, [.ref w1, .int 40, .int tl, .int tk]))]) (ws' := (wWd I w0 w1 w2 (va_cpy wd wd 4 0 156) 40 tl tk)) (va_runV (As := []) (rest := []) hF (c_X5_dropFirstRow l D I C Q w1 w2 wd _) (cwV 0 hts gX7_add_X5_dropFirstRow rfl rfl rfl (by decide +kernel) ⟨Nat.le_of_ble_eq_true rfl, Nat.le_of_ble_eq_true rfl⟩) (kPreV hE hPc hDc (ci := 5) (q0 := 0) rfl rfl) rfl rfl hl.1 rfl (lv_room (Nat.le_of_ble_eq_true rfl)) dX7_add_13 ⟨Nat.zero_le _, Nat.zero_le _⟩) hP hD hS hA [1, 2] [0] [0, 1, 2] rfl rfl (by decide) (by decide) rfl (by decide) (fun H locs hP hD hS => ?_)
      refine lv_aload_n hx hb dX7_add_16 rfl (lv_at hl 0 rfl) ?_
      refine lv_dup hx hb dX7_add_17 rfl ?_
      refine va_get (D := D) (ci := 7) (v := .int 40) (C := RX7) (T := TX7) (N := 4) hx hb hts u7 hown hK hP 0 rfl rfl 1 (by decide) k0 (fun _ h9 => h9) rfl dX7_add_18 ?_
      refine lv_iconst (v := 1) hx hb dX7_add_21 (by decide) ?_
      refine k_isub (v := 39) hx hb dX7_add_22 (by decide) ?_
      refine va_put (D := D) (ci := 7) (v := .int 39) (ty := .int) (C := RX7) (T := TX7) (N := 4) hx hb hts u7 tyX7 tyX7_ok nmX7 hown hK hP hD hS 0 rfl rfl 1 (by decide) k0 (fun _ h9 => h9) rfl (by decide +kernel) rfl rfl (Nat.le_of_ble_eq_true rfl) dX7_add_23 (fun H locs hP hD hS => ?_)
      have hP : va_P D vwCl (wWd I w0 w1 w2 (va_cpy wd wd 4 0 156) 39 tl tk) H := hP
      have hD : va_D A (wWd I w0 w1 w2 (va_cpy wd wd 4 0 156) 39 tl tk) := hD
      refine lv_aload_n hx hb dX7_add_26 rfl (lv_at hl 0 rfl) ?_
      refine va_get (D := D) (ci := 7) (v := .ref w1) (C := RX7) (T := TX7) (N := 4) hx hb hts u7 hown hK hP 0 rfl rfl 0 (by decide) k1 (fun _ h9 => h9) rfl dX7_add_27 ?_
      refine lv_aload_n hx hb dX7_add_30 rfl (lv_at hl 0 rfl) ?_
      refine va_get (D := D) (ci := 7) (v := .int 39) (C := RX7) (T := TX7) (N := 4) hx hb hts u7 hown hK hP 0 rfl rfl 1 (by decide) k0 (fun _ h9 => h9) rfl dX7_add_31 ?_
      refine lv_iconst (v := 0) hx hb dX7_add_34 (by decide) ?_
      refine lv_iload_n hx hb dX7_add_35 rfl (lv_at hl 1 rfl) ?_
      have hPc := hP.sub (ws' := (wT I w1 w2 40 4 (va_cpy wd wd 4 0 156))) [1, 2] rfl
      have hDc := hD.sub (ws' := (wT I w1 w2 40 4 (va_cpy wd wd 4 0 156))) [1, 2] (by decide) rfl
      refine k_v (wr := [(w0, .inr (7, [.ref w1, .int 39, .int tl, .int tk]))]) (ws' := (wWd I w0 w1 w2 (upd (va_cpy wd wd 4 0 156) (39 * 4 + 0) kd) 39 tl tk)) (va_runV (As := [.int 39, .int 0, .int kd]) (rest := []) hF (c_X5_put l D I C Q w1 w2 40 4 (va_cpy wd wd 4 0 156) 39 0 kd (by omega) (by omega) (by omega) (by omega) (by omega) _) (cwV 3 hts gX7_add_X5_put rfl rfl rfl (by decide +kernel) ⟨Nat.le_of_ble_eq_true rfl, Nat.le_of_ble_eq_true rfl⟩) (kPreV hE hPc hDc (ci := 5) (q0 := 0) rfl rfl) rfl rfl hl.1 rfl (lv_room (Nat.le_of_ble_eq_true rfl)) dX7_add_36 ⟨Nat.zero_le _, Nat.zero_le _⟩) hP hD hS hA [1, 2] [0] [0, 1, 2] rfl rfl (by decide) (by decide) rfl (by decide) (fun H locs hP hD hS => ?_)
      refine lv_aload_n hx hb dX7_add_39 rfl (lv_at hl 0 rfl) ?_
      refine va_get (D := D) (ci := 7) (v := .ref w1) (C := RX7) (T := TX7) (N := 4) hx hb hts u7 hown hK hP 0 rfl rfl 0 (by decide) k1 (fun _ h9 => h9) rfl dX7_add_40 ?_
      refine lv_aload_n hx hb dX7_add_43 rfl (lv_at hl 0 rfl) ?_
      refine va_get (D := D) (ci := 7) (v := .int 39) (C := RX7) (T := TX7) (N := 4) hx hb hts u7 hown hK hP 0 rfl rfl 1 (by decide) k0 (fun _ h9 => h9) rfl dX7_add_44 ?_
      refine lv_iconst (v := 1) hx hb dX7_add_47 (by decide) ?_
      refine lv_iload_n hx hb dX7_add_48 rfl (lv_at hl 2 rfl) ?_
      have hPc := hP.sub (ws' := (wT I w1 w2 40 4 (upd (va_cpy wd wd 4 0 156) (39 * 4 + 0) kd))) [1, 2] rfl
      have hDc := hD.sub (ws' := (wT I w1 w2 40 4 (upd (va_cpy wd wd 4 0 156) (39 * 4 + 0) kd))) [1, 2] (by decide) rfl
      refine k_v (wr := [(w0, .inr (7, [.ref w1, .int 39, .int tl, .int tk]))]) (ws' := (wWd I w0 w1 w2 (upd (upd (va_cpy wd wd 4 0 156) (39 * 4 + 0) kd) (39 * 4 + 1) pa) 39 tl tk)) (va_runV (As := [.int 39, .int 1, .int pa]) (rest := []) hF (c_X5_put l D I C Q w1 w2 40 4 (upd (va_cpy wd wd 4 0 156) (39 * 4 + 0) kd) 39 1 pa (by omega) (by omega) (by omega) (by omega) (by omega) _) (cwV 3 hts gX7_add_X5_put rfl rfl rfl (by decide +kernel) ⟨Nat.le_of_ble_eq_true rfl, Nat.le_of_ble_eq_true rfl⟩) (kPreV hE hPc hDc (ci := 5) (q0 := 0) rfl rfl) rfl rfl hl.1 rfl (lv_room (Nat.le_of_ble_eq_true rfl)) dX7_add_49 ⟨Nat.zero_le _, Nat.zero_le _⟩) hP hD hS hA [1, 2] [0] [0, 1, 2] rfl rfl (by decide) (by decide) rfl (by decide) (fun H locs hP hD hS => ?_)
      refine lv_aload_n hx hb dX7_add_52 rfl (lv_at hl 0 rfl) ?_
      refine va_get (D := D) (ci := 7) (v := .ref w1) (C := RX7) (T := TX7) (N := 4) hx hb hts u7 hown hK hP 0 rfl rfl 0 (by decide) k1 (fun _ h9 => h9) rfl dX7_add_53 ?_
      refine lv_aload_n hx hb dX7_add_56 rfl (lv_at hl 0 rfl) ?_
      refine va_get (D := D) (ci := 7) (v := .int 39) (C := RX7) (T := TX7) (N := 4) hx hb hts u7 hown hK hP 0 rfl rfl 1 (by decide) k0 (fun _ h9 => h9) rfl dX7_add_57 ?_
      refine lv_iconst (v := 2) hx hb dX7_add_60 (by decide) ?_
      refine lv_iload_n hx hb dX7_add_61 rfl (lv_at hl 3 rfl) ?_
      have hPc := hP.sub (ws' := (wT I w1 w2 40 4 (upd (upd (va_cpy wd wd 4 0 156) (39 * 4 + 0) kd) (39 * 4 + 1) pa))) [1, 2] rfl
      have hDc := hD.sub (ws' := (wT I w1 w2 40 4 (upd (upd (va_cpy wd wd 4 0 156) (39 * 4 + 0) kd) (39 * 4 + 1) pa))) [1, 2] (by decide) rfl
      refine k_v (wr := [(w0, .inr (7, [.ref w1, .int 39, .int tl, .int tk]))]) (ws' := (wWd I w0 w1 w2 (upd (upd (upd (va_cpy wd wd 4 0 156) (39 * 4 + 0) kd) (39 * 4 + 1) pa) (39 * 4 + 2) ma) 39 tl tk)) (va_runV (As := [.int 39, .int 2, .int ma]) (rest := []) hF (c_X5_put l D I C Q w1 w2 40 4 (upd (upd (va_cpy wd wd 4 0 156) (39 * 4 + 0) kd) (39 * 4 + 1) pa) 39 2 ma (by omega) (by omega) (by omega) (by omega) (by omega) _) (cwV 3 hts gX7_add_X5_put rfl rfl rfl (by decide +kernel) ⟨Nat.le_of_ble_eq_true rfl, Nat.le_of_ble_eq_true rfl⟩) (kPreV hE hPc hDc (ci := 5) (q0 := 0) rfl rfl) rfl rfl hl.1 rfl (lv_room (Nat.le_of_ble_eq_true rfl)) dX7_add_62 ⟨Nat.zero_le _, Nat.zero_le _⟩) hP hD hS hA [1, 2] [0] [0, 1, 2] rfl rfl (by decide) (by decide) rfl (by decide) (fun H locs hP hD hS => ?_)
      refine lv_aload_n hx hb dX7_add_65 rfl (lv_at hl 0 rfl) ?_
      refine va_get (D := D) (ci := 7) (v := .ref w1) (C := RX7) (T := TX7) (N := 4) hx hb hts u7 hown hK hP 0 rfl rfl 0 (by decide) k1 (fun _ h9 => h9) rfl dX7_add_66 ?_
      refine lv_aload_n hx hb dX7_add_69 rfl (lv_at hl 0 rfl) ?_
      refine va_get (D := D) (ci := 7) (v := .int 39) (C := RX7) (T := TX7) (N := 4) hx hb hts u7 hown hK hP 0 rfl rfl 1 (by decide) k0 (fun _ h9 => h9) rfl dX7_add_70 ?_
      refine lv_iconst (v := 3) hx hb dX7_add_73 (by decide) ?_
      refine lv_iload hx hb dX7_add_74 (lv_at hl 4 rfl) ?_
      have hPc := hP.sub (ws' := (wT I w1 w2 40 4 (upd (upd (upd (va_cpy wd wd 4 0 156) (39 * 4 + 0) kd) (39 * 4 + 1) pa) (39 * 4 + 2) ma))) [1, 2] rfl
      have hDc := hD.sub (ws' := (wT I w1 w2 40 4 (upd (upd (upd (va_cpy wd wd 4 0 156) (39 * 4 + 0) kd) (39 * 4 + 1) pa) (39 * 4 + 2) ma))) [1, 2] (by decide) rfl
      refine k_v (wr := [(w0, .inr (7, [.ref w1, .int 39, .int tl, .int tk]))]) (ws' := (wWd I w0 w1 w2 (upd (upd (upd (upd (va_cpy wd wd 4 0 156) (39 * 4 + 0) kd) (39 * 4 + 1) pa) (39 * 4 + 2) ma) (39 * 4 + 3) su) 39 tl tk)) (va_runV (As := [.int 39, .int 3, .int su]) (rest := []) hF (c_X5_put l D I C Q w1 w2 40 4 (upd (upd (upd (va_cpy wd wd 4 0 156) (39 * 4 + 0) kd) (39 * 4 + 1) pa) (39 * 4 + 2) ma) 39 3 su (by omega) (by omega) (by omega) (by omega) (by omega) _) (cwV 3 hts gX7_add_X5_put rfl rfl rfl (by decide +kernel) ⟨Nat.le_of_ble_eq_true rfl, Nat.le_of_ble_eq_true rfl⟩) (kPreV hE hPc hDc (ci := 5) (q0 := 0) rfl rfl) rfl rfl hl.1 rfl (lv_room (Nat.le_of_ble_eq_true rfl)) dX7_add_76 ⟨Nat.zero_le _, Nat.zero_le _⟩) hP hD hS hA [1, 2] [0] [0, 1, 2] rfl rfl (by decide) (by decide) rfl (by decide) (fun H locs hP hD hS => ?_)
      refine lv_aload_n hx hb dX7_add_79 rfl (lv_at hl 0 rfl) ?_
      refine lv_dup hx hb dX7_add_80 rfl ?_
      refine va_get (D := D) (ci := 7) (v := .int 39) (C := RX7) (T := TX7) (N := 4) hx hb hts u7 hown hK hP 0 rfl rfl 1 (by decide) k0 (fun _ h9 => h9) rfl dX7_add_81 ?_
      refine lv_iconst (v := 1) hx hb dX7_add_84 (by decide) ?_
      refine k_iadd (v := 40) hx hb dX7_add_85 (nI_add 39 1) ?_
      refine va_put (D := D) (ci := 7) (v := .int 40) (ty := .int) (C := RX7) (T := TX7) (N := 4) hx hb hts u7 tyX7 tyX7_ok nmX7 hown hK hP hD hS 0 rfl rfl 1 (by decide) k0 (fun _ h9 => h9) rfl (by decide +kernel) rfl rfl (Nat.le_of_ble_eq_true rfl) dX7_add_86 (fun H locs hP hD hS => ?_)
      have hP : va_P D vwCl (wWd I w0 w1 w2 (upd (upd (upd (upd (va_cpy wd wd 4 0 156) (39 * 4 + 0) kd) (39 * 4 + 1) pa) (39 * 4 + 2) ma) (39 * 4 + 3) su) 40 tl tk) H := hP
      have hD : va_D A (wWd I w0 w1 w2 (upd (upd (upd (upd (va_cpy wd wd 4 0 156) (39 * 4 + 0) kd) (39 * 4 + 1) pa) (39 * 4 + 2) ma) (39 * 4 + 3) su) 40 tl tk) := hD
      refine lv_iload_n hx hb dX7_add_89 rfl (lv_at hl 1 rfl) ?_
      refine lv_if_ne (tgt := 106) hx hb dX7_add_90 (by decide) (fun c_90 => ?_) (fun c_90 => ?_)
      · refine lv_aload_n hx hb dX7_add_106 rfl (lv_at hl 0 rfl) ?_
        refine lv_dup hx hb dX7_add_107 rfl ?_
        refine va_get (D := D) (ci := 7) (v := .int tk) (C := RX7) (T := TX7) (N := 4) hx hb hts u7 hown hK hP 0 rfl rfl 3 (by decide) k2 (fun _ h9 => h9) rfl dX7_add_108 ?_
        refine lv_iconst (v := 1) hx hb dX7_add_111 (by decide) ?_
        refine lv_iadd hx hb dX7_add_112 ?_
        refine va_put (D := D) (ci := 7) (v := .int (tk + 1)) (ty := .int) (C := RX7) (T := TX7) (N := 4) hx hb hts u7 tyX7 tyX7_ok nmX7 hown hK hP hD hS 0 rfl rfl 3 (by decide) k2 (fun _ h9 => h9) rfl (by decide +kernel) rfl rfl (Nat.le_of_ble_eq_true rfl) dX7_add_113 (fun H locs hP hD hS => ?_)
        have hP : va_P D vwCl (wWd I w0 w1 w2 (upd (upd (upd (upd (va_cpy wd wd 4 0 156) (39 * 4 + 0) kd) (39 * 4 + 1) pa) (39 * 4 + 2) ma) (39 * 4 + 3) su) 40 tl (tk + 1)) H := hP
        have hD : va_D A (wWd I w0 w1 w2 (upd (upd (upd (upd (va_cpy wd wd 4 0 156) (39 * 4 + 0) kd) (39 * 4 + 1) pa) (39 * 4 + 2) ma) (39 * 4 + 3) su) 40 tl (tk + 1)) := hD
        exact hend _ _ _ _ _ hP hD hS dX7_add_116 (by rw [w_add, w_n, if_neg (by omega), if_neg (by omega)]; rfl)
      · exact absurd (hkd.symm.trans c_90) (by decide)
