set_option maxHeartbeats 4000000 in
set_option maxRecDepth 100000 in
theorem c_X5_init (l : Launch) (D : va_G) (I C Q : ClassId) (b0 : Nat) (r : Nat) (c1 : Nat) (hr : r < 100) (hc : c1 < 100) (hz : r * c1 < 10000) : KVe l D (tyL I C Q) false yX5_init wsX5_init { frames := 1, cells := 1, slots := r * c1, locals := 14 } [.ref b0, .int (nI r), .int (nI c1)] [(b0, .inr (5, [.int 0, .int 0, .null]))] 1 (r * c1) (fun w => ∃ b1 : Nat, w = wT I b0 b1 r c1 (fun _ => 0)) := by
  refine KVe.of (cc := cX5_init) (maxL := 3) (own := RX5) (by decide) rfl rfl (Nat.le_of_ble_eq_true rfl) ?_
  intro p e s m below meth c A Q0 ls hx hb hml hown hts hE hAO hnm hA hP hD hS hl hend
  have hin : meth.name = "<init>" := hnm
  have hK := hE.1
  have hF : CallFix p m c cX5_init 3 s [.ref b0, .int (nI r), .int (nI c1)].toArray wsX5_init RX5 := ⟨hx, hb, hml, hown, hts⟩
  have k0 := hts (.methodLink RX5 1 objectInit) (List.mem_of_getElem? (i := 1) rfl)
  have k1 := hts (.instanceMethod objectInit) (List.mem_of_getElem? (i := 2) rfl)
  have k2 := hts (.code objectInit ⟨#[0xb1]⟩ 1 none) (List.mem_of_getElem? (i := 3) rfl)
  have k3 := hts (.methodLink RX5 7 Lib.Math.max.name) (List.mem_of_getElem? (i := 4) rfl)
  have k4 := hts (.static Lib.Math.max.name) (List.mem_of_getElem? (i := 5) rfl)
  have k5 := hts (.initialized "java/lang/Math") (List.mem_of_getElem? (i := 6) rfl)
  have k6 := hts (.code Lib.Math.max.name Lib.Math.max.code 2 (some .int)) (List.mem_of_getElem? (i := 7) rfl)
  have k7 := hts (.fieldLink RX5 13 "LateExcuses$Table" "rows" "I") (List.mem_of_getElem? (i := 8) rfl)
  have k8 := hts (.fieldLink RX5 19 "LateExcuses$Table" "columns" "I") (List.mem_of_getElem? (i := 9) rfl)
  have k9 := hts (.arrayClass .int) (List.mem_of_getElem? (i := 10) rfl)
  have k10 := hts (.fieldLink RX5 22 "LateExcuses$Table" "cells" "[I") (List.mem_of_getElem? (i := 11) rfl)
  have u5 : ∀ w ∈ u_ws RX5 TX5 3, w ∈ wsX5_init := by decide +kernel
  have hl : lv_has ls 3 [(0, .ref b0), (1, .int (nI r)), (2, .int (nI c1))] := hl
  refine lv_aload_n hx hb dX5_init_0 rfl (lv_at hl 0 rfl) ?_
  refine W.objInit hx hb hown k0 k1 k2 rfl (by rw [hml]; exact hl.1) rfl dX5_init_1 (Nat.le_of_ble_eq_true rfl) (Nat.le_of_ble_eq_true rfl) ?_
  refine lv_aload_n hx hb dX5_init_4 rfl (lv_at hl 0 rfl) ?_
  refine lv_iconst (v := 0) hx hb dX5_init_5 (by decide) ?_
  refine lv_iload_n hx hb dX5_init_6 rfl (lv_at hl 1 rfl) ?_
  refine va_mmax hx hb (hml.trans hl.1.symm) hown k3 k4 k5 k6 (Nat.le_of_ble_eq_true rfl) (Nat.le_of_ble_eq_true rfl) (Nat.zero_le _) (Nat.zero_le _) dX5_init_7 ?_
  refine k_top (y := nI r) (k_max0 (by omega)) ?_
  refine va_putF (D := D) (ci := 5) (v := .int (nI r)) (ty := .int) (C := RX5) (T := TX5) (N := 3) hx hb hts u5 tyX5 tyX5_ok nmX5 hown hK hP hD hS 0 rfl rfl 0 (by decide) k7 (fun _ h9 => h9) rfl hin rfl (by decide +kernel) rfl rfl (Nat.le_of_ble_eq_true rfl) dX5_init_10 (fun H locs hP hD hS => ?_)
  have hP : va_P D vwCl [(b0, .inr (5, [.int (nI r), .int 0, .null]))] H := hP
  have hD : va_D A [(b0, .inr (5, [.int (nI r), .int 0, .null]))] := hD
  refine lv_aload_n hx hb dX5_init_13 rfl (lv_at hl 0 rfl) ?_
  refine lv_iconst (v := 0) hx hb dX5_init_14 (by decide) ?_
  refine lv_iload_n hx hb dX5_init_15 rfl (lv_at hl 2 rfl) ?_
  refine va_mmax hx hb (hml.trans hl.1.symm) hown k3 k4 k5 k6 (Nat.le_of_ble_eq_true rfl) (Nat.le_of_ble_eq_true rfl) (Nat.zero_le _) (Nat.zero_le _) dX5_init_16 ?_
  refine k_top (y := nI c1) (k_max0 (by omega)) ?_
  refine va_putF (D := D) (ci := 5) (v := .int (nI c1)) (ty := .int) (C := RX5) (T := TX5) (N := 3) hx hb hts u5 tyX5 tyX5_ok nmX5 hown hK hP hD hS 0 rfl rfl 1 (by decide) k8 (fun _ h9 => h9) rfl hin rfl (by decide +kernel) rfl rfl (Nat.le_of_ble_eq_true rfl) dX5_init_19 (fun H locs hP hD hS => ?_)
  have hP : va_P D vwCl [(b0, .inr (5, [.int (nI r), .int (nI c1), .null]))] H := hP
  have hD : va_D A [(b0, .inr (5, [.int (nI r), .int (nI c1), .null]))] := hD
  refine lv_aload_n hx hb dX5_init_22 rfl (lv_at hl 0 rfl) ?_
  refine lv_iconst (v := 0) hx hb dX5_init_23 (by decide) ?_
  refine lv_aload_n hx hb dX5_init_24 rfl (lv_at hl 0 rfl) ?_
  refine va_get (D := D) (ci := 5) (v := .int (nI r)) (C := RX5) (T := TX5) (N := 3) hx hb hts u5 hown hK hP 0 rfl rfl 0 (by decide) k7 (fun _ h9 => h9) rfl dX5_init_25 ?_
  refine lv_aload_n hx hb dX5_init_28 rfl (lv_at hl 0 rfl) ?_
  refine va_get (D := D) (ci := 5) (v := .int (nI c1)) (C := RX5) (T := TX5) (N := 3) hx hb hts u5 hown hK hP 0 rfl rfl 1 (by decide) k8 (fun _ h9 => h9) rfl dX5_init_29 ?_
  refine k_imul (v := nI (r * c1)) hx hb dX5_init_32 (k_mul r c1) ?_
  refine va_mmax hx hb (hml.trans hl.1.symm) hown k3 k4 k5 k6 (Nat.le_of_ble_eq_true rfl) (Nat.le_of_ble_eq_true rfl) (Nat.zero_le _) (Nat.zero_le _) dX5_init_33 ?_
  refine k_top (y := nI (r * c1)) (k_max0 (by omega)) ?_
  refine va_newa (atype := .int) (ty := .int) (n := nI (r * c1)) (N' := r * c1) (a0 := (r * c1, .inl (fun _ => 0))) hx hb k9 rfl hK hP hD hS hA (fun cA => rfl) (nI_pos (by omega)) (nI_clamp (by omega)) (by show (r * c1) * 4 ≤ 536870912; omega) (Nat.le_of_ble_eq_true rfl) (Nat.le_of_eq (Nat.zero_add _)) dX5_init_36 (fun q1 cA H hK9 hP hD hS => ?_)
  have hcA : cA = I := k_sameI ((hK9.2 3 (cA, .int) rfl).2) ((hK.2 0 (I, .int) rfl).2)
  rw [hcA] at hP hD
  have hP : va_P D vwCl [(b0, .inr (5, [.int (nI r), .int (nI c1), .null])), (q1, .inl (I, r * c1, .inl (fun _ => 0)))] H := hP
  have hD : va_D A [(b0, .inr (5, [.int (nI r), .int (nI c1), .null])), (q1, .inl (I, r * c1, .inl (fun _ => 0)))] := hD
  refine W.widen (k := 1) (n := r * c1) (by omega) (by omega) ?_
  refine va_putF (D := D) (ci := 5) (v := .ref q1) (ty := .array .int) (C := RX5) (T := TX5) (N := 3) hx hb hts u5 tyX5 tyX5_ok nmX5 hown hK hP hD hS 0 rfl rfl 2 (by decide) k10 (fun _ h9 => h9) rfl hin rfl (by decide +kernel) rfl rfl (Nat.le_of_ble_eq_true rfl) dX5_init_38 (fun H locs hP hD hS => ?_)
  have hP : va_P D vwCl [(b0, .inr (5, [.int (nI r), .int (nI c1), .ref q1])), (q1, .inl (I, r * c1, .inl (fun _ => 0)))] H := hP
  have hD : va_D A [(b0, .inr (5, [.int (nI r), .int (nI c1), .ref q1])), (q1, .inl (I, r * c1, .inl (fun _ => 0)))] := hD
  exact hend _ _ _ _ _ (hP.sub (ws' := wT I b0 q1 r c1 (fun _ => 0)) [0, 1] rfl) (hD.sub (ws' := wT I b0 q1 r c1 (fun _ => 0)) [0, 1] (by decide) rfl) hS dX5_init_41 ⟨q1, rfl⟩
set_option maxHeartbeats 4000000 in
set_option maxRecDepth 100000 in
theorem c_X2_init (l : Launch) (D : va_G) (I C Q : ClassId) (e0 : Nat) : KVe l D (tyL I C Q) false yX2_init wsX2_init { frames := 2, cells := 2, slots := 451, locals := 36 } [.ref e0] [(e0, .inr (2, [.null, .int 0]))] 2 451 (fun w => ∃ e1 e2 : Nat, w = wEv I e0 e1 e2 (fun _ => 0) 0) := by
  refine KVe.of (cc := cX2_init) (maxL := 1) (own := RX2) (by decide) rfl rfl (Nat.le_of_ble_eq_true rfl) ?_
  intro p e s m below meth c A Q0 ls hx hb hml hown hts hE hAO hnm hA hP hD hS hl hend
  have hin : meth.name = "<init>" := hnm
  have hK := hE.1
  have hF : CallFix p m c cX2_init 1 s [.ref e0].toArray wsX2_init RX2 := ⟨hx, hb, hml, hown, hts⟩
  have k0 := hts (.methodLink RX2 3 objectInit) (List.mem_of_getElem? (i := 1) rfl)
  have k1 := hts (.instanceMethod objectInit) (List.mem_of_getElem? (i := 2) rfl)
  have k2 := hts (.code objectInit ⟨#[0xb1]⟩ 1 none) (List.mem_of_getElem? (i := 3) rfl)
  have k3 := hts (.classLink RX2 9 RX5) (List.mem_of_getElem? (i := 4) rfl)
  have k4 := hts (.instantiable RX5 3) (List.mem_of_getElem? (i := 5) rfl)
  have k5 := hts (.initialized RX5) (List.mem_of_getElem? (i := 6) rfl)
  have k6 := hts (.instanceMethod yX5_init) (List.mem_of_getElem? (i := 9) rfl)
  have k7 := hts (.methodLink RX2 11 yX5_init) (List.mem_of_getElem? (i := 8) rfl)
  have k8 := hts (.fieldLink RX2 14 "LateExcuses$Events" "rows" "LLateExcuses$Table;") (List.mem_of_getElem? (i := 7) rfl)
  have u5 : ∀ w ∈ u_ws RX5 TX5 3, w ∈ wsX2_init := by decide +kernel
  have u2 : ∀ w ∈ u_ws RX2 TX2 2, w ∈ wsX2_init := by decide +kernel
  have hl : lv_has ls 1 [(0, .ref e0)] := hl
  refine lv_aload_n hx hb dX2_init_0 rfl (lv_at hl 0 rfl) ?_
  refine W.objInit hx hb hown k0 k1 k2 rfl (by rw [hml]; exact hl.1) rfl dX2_init_1 (Nat.le_of_ble_eq_true rfl) (Nat.le_of_ble_eq_true rfl) ?_
  refine lv_aload_n hx hb dX2_init_4 rfl (lv_at hl 0 rfl) ?_
  refine va_new (ci := 5) (fs := [.int 0, .int 0, .null]) (C := RX5) (T := TX5) (N := 3) hx hb hts u5 tyX5 tyX5_ok hown k3 k4 k5 hK hP hD hS hA rfl (fun j hj => by rcases (show j = 0 ∨ j = 1 ∨ j = 2 by omega) with rfl | rfl | rfl <;> rfl) (Nat.le_of_ble_eq_true rfl) (Nat.le_of_ble_eq_true rfl) dX2_init_5 (fun q1 H hP hD hS => ?_)
  have hP : va_P D vwCl [(e0, .inr (2, [.null, .int 0])), (q1, .inr (5, [.int 0, .int 0, .null]))] H := hP
  have hD : va_D A [(e0, .inr (2, [.null, .int 0])), (q1, .inr (5, [.int 0, .int 0, .null]))] := hD
  refine W.widen (k := 1) (n := 3) (by omega) (by omega) ?_
  refine lv_dup hx hb dX2_init_8 rfl ?_
  refine lv_bipush (v := 64) hx hb dX2_init_9 (by decide) ?_
  refine lv_bipush (v := 7) hx hb dX2_init_11 (by decide) ?_
  have hPc := hP.sub (ws' := [(q1, .inr (5, [.int 0, .int 0, .null]))]) [1] rfl
  have hDc := hD.sub (ws' := [(q1, .inr (5, [.int 0, .int 0, .null]))]) [1] (by decide) rfl
  refine k_ve (wr := [(e0, .inr (2, [.null, .int 0]))]) (va_runI (As := [.int 64, .int 7]) (rest := [.ref q1, .ref e0]) hF (c_X5_init l D I C Q q1 64 7 (by decide) (by decide) (by decide) _) (cwI 2 hts gX2_init_X5_init rfl rfl rfl k5 k7 k6 rfl (by decide +kernel) ⟨Nat.le_of_ble_eq_true rfl, Nat.le_of_ble_eq_true rfl⟩) (kPreSX hE k_noX hPc hDc) rfl rfl hl.1 rfl (lv_room (Nat.le_of_ble_eq_true rfl)) dX2_init_13 ⟨Nat.le_of_ble_eq_true rfl, Nat.le_of_ble_eq_true rfl⟩) hP hD hS hA [1] [0] rfl rfl (by decide) (by decide) (fun H locs w9 hw9 hP hD hS => ?_)
  obtain ⟨q2, hw9⟩ := hw9
  subst hw9
  have hP : va_P D vwCl [(e0, .inr (2, [.null, .int 0])), (q1, .inr (5, [.int (nI 64), .int (nI 7), .ref q2])), (q2, .inl (I, 64 * 7, .inl (fun _ => 0)))] H := hP
  have hD : va_D A [(e0, .inr (2, [.null, .int 0])), (q1, .inr (5, [.int (nI 64), .int (nI 7), .ref q2])), (q2, .inl (I, 64 * 7, .inl (fun _ => 0)))] := hD
  refine W.widen (k := 2) (n := 3 + 64 * 7) (by omega) (by omega) ?_
  refine va_putF (D := D) (ci := 2) (v := .ref q1) (ty := .object "LateExcuses$Table") (C := RX2) (T := TX2) (N := 2) hx hb hts u2 tyX2 tyX2_ok nmX2 hown hK hP hD hS 0 rfl rfl 0 (by decide) k8 (fun _ h9 => h9) rfl hin rfl (by decide +kernel) rfl rfl (Nat.le_of_ble_eq_true rfl) dX2_init_16 (fun H locs hP hD hS => ?_)
  have hP : va_P D vwCl [(e0, .inr (2, [.ref q1, .int 0])), (q1, .inr (5, [.int (nI 64), .int (nI 7), .ref q2])), (q2, .inl (I, 64 * 7, .inl (fun _ => 0)))] H := hP
  have hD : va_D A [(e0, .inr (2, [.ref q1, .int 0])), (q1, .inr (5, [.int (nI 64), .int (nI 7), .ref q2])), (q2, .inl (I, 64 * 7, .inl (fun _ => 0)))] := hD
  exact hend _ _ _ _ _ (hP.sub (ws' := wEv I e0 q1 q2 (fun _ => 0) 0) [0, 1, 2] rfl) (hD.sub (ws' := wEv I e0 q1 q2 (fun _ => 0) 0) [0, 1, 2] (by decide) rfl) hS dX2_init_19 ⟨q1, q2, rfl⟩
set_option maxHeartbeats 4000000 in
set_option maxRecDepth 100000 in
theorem c_X0_init (l : Launch) (D : va_G) (I C Q : ClassId) (g0 : Nat) : KVe l D (tyL I C Q) false yX0_init wsX0_init { frames := 2, cells := 2, slots := 18, locals := 36 } [.ref g0] [(g0, .inr (0, [.null]))] 2 18 (fun w => ∃ g1 g2 : Nat, w = wCb I g0 g1 g2 (fun _ => 0)) := by
  refine KVe.of (cc := cX0_init) (maxL := 1) (own := RX0) (by decide) rfl rfl (Nat.le_of_ble_eq_true rfl) ?_
  intro p e s m below meth c A Q0 ls hx hb hml hown hts hE hAO hnm hA hP hD hS hl hend
  have hin : meth.name = "<init>" := hnm
  have hK := hE.1
  have hF : CallFix p m c cX0_init 1 s [.ref g0].toArray wsX0_init RX0 := ⟨hx, hb, hml, hown, hts⟩
  have k0 := hts (.methodLink RX0 5 objectInit) (List.mem_of_getElem? (i := 1) rfl)
  have k1 := hts (.instanceMethod objectInit) (List.mem_of_getElem? (i := 2) rfl)
  have k2 := hts (.code objectInit ⟨#[0xb1]⟩ 1 none) (List.mem_of_getElem? (i := 3) rfl)
  have k3 := hts (.classLink RX0 11 RX5) (List.mem_of_getElem? (i := 4) rfl)
  have k4 := hts (.instantiable RX5 3) (List.mem_of_getElem? (i := 5) rfl)
  have k5 := hts (.initialized RX5) (List.mem_of_getElem? (i := 6) rfl)
  have k6 := hts (.instanceMethod yX5_init) (List.mem_of_getElem? (i := 9) rfl)
  have k7 := hts (.methodLink RX0 13 yX5_init) (List.mem_of_getElem? (i := 8) rfl)
  have k8 := hts (.fieldLink RX0 16 "LateExcuses$Cabinets" "rows" "LLateExcuses$Table;") (List.mem_of_getElem? (i := 7) rfl)
  have u5 : ∀ w ∈ u_ws RX5 TX5 3, w ∈ wsX0_init := by decide +kernel
  have u0 : ∀ w ∈ u_ws RX0 TX0 1, w ∈ wsX0_init := by decide +kernel
  have hl : lv_has ls 1 [(0, .ref g0)] := hl
  refine lv_aload_n hx hb dX0_init_0 rfl (lv_at hl 0 rfl) ?_
  refine W.objInit hx hb hown k0 k1 k2 rfl (by rw [hml]; exact hl.1) rfl dX0_init_1 (Nat.le_of_ble_eq_true rfl) (Nat.le_of_ble_eq_true rfl) ?_
  refine lv_aload_n hx hb dX0_init_4 rfl (lv_at hl 0 rfl) ?_
  refine va_new (ci := 5) (fs := [.int 0, .int 0, .null]) (C := RX5) (T := TX5) (N := 3) hx hb hts u5 tyX5 tyX5_ok hown k3 k4 k5 hK hP hD hS hA rfl (fun j hj => by rcases (show j = 0 ∨ j = 1 ∨ j = 2 by omega) with rfl | rfl | rfl <;> rfl) (Nat.le_of_ble_eq_true rfl) (Nat.le_of_ble_eq_true rfl) dX0_init_5 (fun q1 H hP hD hS => ?_)
  have hP : va_P D vwCl [(g0, .inr (0, [.null])), (q1, .inr (5, [.int 0, .int 0, .null]))] H := hP
  have hD : va_D A [(g0, .inr (0, [.null])), (q1, .inr (5, [.int 0, .int 0, .null]))] := hD
  refine W.widen (k := 1) (n := 3) (by omega) (by omega) ?_
  refine lv_dup hx hb dX0_init_8 rfl ?_
  refine lv_iconst (v := 3) hx hb dX0_init_9 (by decide) ?_
  refine lv_iconst (v := 5) hx hb dX0_init_10 (by decide) ?_
  have hPc := hP.sub (ws' := [(q1, .inr (5, [.int 0, .int 0, .null]))]) [1] rfl
  have hDc := hD.sub (ws' := [(q1, .inr (5, [.int 0, .int 0, .null]))]) [1] (by decide) rfl
  refine k_ve (wr := [(g0, .inr (0, [.null]))]) (va_runI (As := [.int 3, .int 5]) (rest := [.ref q1, .ref g0]) hF (c_X5_init l D I C Q q1 3 5 (by decide) (by decide) (by decide) _) (cwI 2 hts gX0_init_X5_init rfl rfl rfl k5 k7 k6 rfl (by decide +kernel) ⟨Nat.le_of_ble_eq_true rfl, Nat.le_of_ble_eq_true rfl⟩) (kPreSX hE k_noX hPc hDc) rfl rfl hl.1 rfl (lv_room (Nat.le_of_ble_eq_true rfl)) dX0_init_11 ⟨Nat.le_of_ble_eq_true rfl, Nat.le_of_ble_eq_true rfl⟩) hP hD hS hA [1] [0] rfl rfl (by decide) (by decide) (fun H locs w9 hw9 hP hD hS => ?_)
  obtain ⟨q2, hw9⟩ := hw9
  subst hw9
  have hP : va_P D vwCl [(g0, .inr (0, [.null])), (q1, .inr (5, [.int (nI 3), .int (nI 5), .ref q2])), (q2, .inl (I, 3 * 5, .inl (fun _ => 0)))] H := hP
  have hD : va_D A [(g0, .inr (0, [.null])), (q1, .inr (5, [.int (nI 3), .int (nI 5), .ref q2])), (q2, .inl (I, 3 * 5, .inl (fun _ => 0)))] := hD
  refine W.widen (k := 2) (n := 3 + 3 * 5) (by omega) (by omega) ?_
  refine va_putF (D := D) (ci := 0) (v := .ref q1) (ty := .object "LateExcuses$Table") (C := RX0) (T := TX0) (N := 1) hx hb hts u0 tyX0 tyX0_ok nmX0 hown hK hP hD hS 0 rfl rfl 0 (by decide) k8 (fun _ h9 => h9) rfl hin rfl (by decide +kernel) rfl rfl (Nat.le_of_ble_eq_true rfl) dX0_init_14 (fun H locs hP hD hS => ?_)
  have hP : va_P D vwCl [(g0, .inr (0, [.ref q1])), (q1, .inr (5, [.int (nI 3), .int (nI 5), .ref q2])), (q2, .inl (I, 3 * 5, .inl (fun _ => 0)))] H := hP
  have hD : va_D A [(g0, .inr (0, [.ref q1])), (q1, .inr (5, [.int (nI 3), .int (nI 5), .ref q2])), (q2, .inl (I, 3 * 5, .inl (fun _ => 0)))] := hD
  exact hend _ _ _ _ _ (hP.sub (ws' := wCb I g0 q1 q2 (fun _ => 0)) [0, 1, 2] rfl) (hD.sub (ws' := wCb I g0 q1 q2 (fun _ => 0)) [0, 1, 2] (by decide) rfl) hS dX0_init_17 ⟨q1, q2, rfl⟩
set_option maxHeartbeats 4000000 in
set_option maxRecDepth 100000 in
theorem c_X7_init (l : Launch) (D : va_G) (I C Q : ClassId) (w0 : Nat) : KVe l D (tyL I C Q) false yX7_init wsX7_init { frames := 2, cells := 2, slots := 163, locals := 36 } [.ref w0] [(w0, .inr (7, [.null, .int 0, .int 0, .int 0]))] 2 163 (fun w => ∃ w1 w2 : Nat, w = wWd I w0 w1 w2 (fun _ => 0) 0 0 0) := by
  refine KVe.of (cc := cX7_init) (maxL := 1) (own := RX7) (by decide) rfl rfl (Nat.le_of_ble_eq_true rfl) ?_
  intro p e s m below meth c A Q0 ls hx hb hml hown hts hE hAO hnm hA hP hD hS hl hend
  have hin : meth.name = "<init>" := hnm
  have hK := hE.1
  have hF : CallFix p m c cX7_init 1 s [.ref w0].toArray wsX7_init RX7 := ⟨hx, hb, hml, hown, hts⟩
  have k0 := hts (.methodLink RX7 3 objectInit) (List.mem_of_getElem? (i := 1) rfl)
  have k1 := hts (.instanceMethod objectInit) (List.mem_of_getElem? (i := 2) rfl)
  have k2 := hts (.code objectInit ⟨#[0xb1]⟩ 1 none) (List.mem_of_getElem? (i := 3) rfl)
  have k3 := hts (.classLink RX7 9 RX5) (List.mem_of_getElem? (i := 4) rfl)
  have k4 := hts (.instantiable RX5 3) (List.mem_of_getElem? (i := 5) rfl)
  have k5 := hts (.initialized RX5) (List.mem_of_getElem? (i := 6) rfl)
  have k6 := hts (.instanceMethod yX5_init) (List.mem_of_getElem? (i := 9) rfl)
  have k7 := hts (.methodLink RX7 13 yX5_init) (List.mem_of_getElem? (i := 8) rfl)
  have k8 := hts (.fieldLink RX7 16 "LateExcuses$Words" "rows" "LLateExcuses$Table;") (List.mem_of_getElem? (i := 7) rfl)
  have u5 : ∀ w ∈ u_ws RX5 TX5 3, w ∈ wsX7_init := by decide +kernel
  have u7 : ∀ w ∈ u_ws RX7 TX7 4, w ∈ wsX7_init := by decide +kernel
  have hl : lv_has ls 1 [(0, .ref w0)] := hl
  refine lv_aload_n hx hb dX7_init_0 rfl (lv_at hl 0 rfl) ?_
  refine W.objInit hx hb hown k0 k1 k2 rfl (by rw [hml]; exact hl.1) rfl dX7_init_1 (Nat.le_of_ble_eq_true rfl) (Nat.le_of_ble_eq_true rfl) ?_
  refine lv_aload_n hx hb dX7_init_4 rfl (lv_at hl 0 rfl) ?_
  refine va_new (ci := 5) (fs := [.int 0, .int 0, .null]) (C := RX5) (T := TX5) (N := 3) hx hb hts u5 tyX5 tyX5_ok hown k3 k4 k5 hK hP hD hS hA rfl (fun j hj => by rcases (show j = 0 ∨ j = 1 ∨ j = 2 by omega) with rfl | rfl | rfl <;> rfl) (Nat.le_of_ble_eq_true rfl) (Nat.le_of_ble_eq_true rfl) dX7_init_5 (fun q1 H hP hD hS => ?_)
  have hP : va_P D vwCl [(w0, .inr (7, [.null, .int 0, .int 0, .int 0])), (q1, .inr (5, [.int 0, .int 0, .null]))] H := hP
  have hD : va_D A [(w0, .inr (7, [.null, .int 0, .int 0, .int 0])), (q1, .inr (5, [.int 0, .int 0, .null]))] := hD
  refine W.widen (k := 1) (n := 3) (by omega) (by omega) ?_
  refine lv_dup hx hb dX7_init_8 rfl ?_
  refine lv_bipush (v := 40) hx hb dX7_init_9 (by decide) ?_
  refine lv_iconst (v := 4) hx hb dX7_init_11 (by decide) ?_
  have hPc := hP.sub (ws' := [(q1, .inr (5, [.int 0, .int 0, .null]))]) [1] rfl
  have hDc := hD.sub (ws' := [(q1, .inr (5, [.int 0, .int 0, .null]))]) [1] (by decide) rfl
  refine k_ve (wr := [(w0, .inr (7, [.null, .int 0, .int 0, .int 0]))]) (va_runI (As := [.int 40, .int 4]) (rest := [.ref q1, .ref w0]) hF (c_X5_init l D I C Q q1 40 4 (by decide) (by decide) (by decide) _) (cwI 2 hts gX7_init_X5_init rfl rfl rfl k5 k7 k6 rfl (by decide +kernel) ⟨Nat.le_of_ble_eq_true rfl, Nat.le_of_ble_eq_true rfl⟩) (kPreSX hE k_noX hPc hDc) rfl rfl hl.1 rfl (lv_room (Nat.le_of_ble_eq_true rfl)) dX7_init_12 ⟨Nat.le_of_ble_eq_true rfl, Nat.le_of_ble_eq_true rfl⟩) hP hD hS hA [1] [0] rfl rfl (by decide) (by decide) (fun H locs w9 hw9 hP hD hS => ?_)
  obtain ⟨q2, hw9⟩ := hw9
  subst hw9
  have hP : va_P D vwCl [(w0, .inr (7, [.null, .int 0, .int 0, .int 0])), (q1, .inr (5, [.int (nI 40), .int (nI 4), .ref q2])), (q2, .inl (I, 40 * 4, .inl (fun _ => 0)))] H := hP
  have hD : va_D A [(w0, .inr (7, [.null, .int 0, .int 0, .int 0])), (q1, .inr (5, [.int (nI 40), .int (nI 4), .ref q2])), (q2, .inl (I, 40 * 4, .inl (fun _ => 0)))] := hD
  refine W.widen (k := 2) (n := 3 + 40 * 4) (by omega) (by omega) ?_
  refine va_putF (D := D) (ci := 7) (v := .ref q1) (ty := .object "LateExcuses$Table") (C := RX7) (T := TX7) (N := 4) hx hb hts u7 tyX7 tyX7_ok nmX7 hown hK hP hD hS 0 rfl rfl 0 (by decide) k8 (fun _ h9 => h9) rfl hin rfl (by decide +kernel) rfl rfl (Nat.le_of_ble_eq_true rfl) dX7_init_15 (fun H locs hP hD hS => ?_)
  have hP : va_P D vwCl [(w0, .inr (7, [.ref q1, .int 0, .int 0, .int 0])), (q1, .inr (5, [.int (nI 40), .int (nI 4), .ref q2])), (q2, .inl (I, 40 * 4, .inl (fun _ => 0)))] H := hP
  have hD : va_D A [(w0, .inr (7, [.ref q1, .int 0, .int 0, .int 0])), (q1, .inr (5, [.int (nI 40), .int (nI 4), .ref q2])), (q2, .inl (I, 40 * 4, .inl (fun _ => 0)))] := hD
  exact hend _ _ _ _ _ (hP.sub (ws' := wWd I w0 q1 q2 (fun _ => 0) 0 0 0) [0, 1, 2] rfl) (hD.sub (ws' := wWd I w0 q1 q2 (fun _ => 0) 0 0 0) [0, 1, 2] (by decide) rfl) hS dX7_init_18 ⟨q1, q2, rfl⟩
set_option maxHeartbeats 4000000 in
set_option maxRecDepth 100000 in
theorem c_X4_init (l : Launch) (D : va_G) (I C Q : ClassId) (p0 : Nat) : KVe l D (tyL I C Q) false yX4_init wsX4_init { frames := 3, cells := 5, slots := 682, locals := 56 } [.ref p0] [(p0, .inr (4, [.null, .null, .int 0]))] 5 682 (fun w => ∃ p1 p2 w0 w1 w2 : Nat, w = wPn I p0 p1 p2 w0 w1 w2 (fun _ => 0) 0 (fun _ => 0) 0 0 0) := by
  refine KVe.of (cc := cX4_init) (maxL := 1) (own := RX4) (by decide) rfl rfl (Nat.le_of_ble_eq_true rfl) ?_
  intro p e s m below meth c A Q0 ls hx hb hml hown hts hE hAO hnm hA hP hD hS hl hend
  have hin : meth.name = "<init>" := hnm
  have hK := hE.1
  have hF : CallFix p m c cX4_init 1 s [.ref p0].toArray wsX4_init RX4 := ⟨hx, hb, hml, hown, hts⟩
  have k0 := hts (.methodLink RX4 3 objectInit) (List.mem_of_getElem? (i := 1) rfl)
  have k1 := hts (.instanceMethod objectInit) (List.mem_of_getElem? (i := 2) rfl)
  have k2 := hts (.code objectInit ⟨#[0xb1]⟩ 1 none) (List.mem_of_getElem? (i := 3) rfl)
  have k3 := hts (.classLink RX4 9 RX5) (List.mem_of_getElem? (i := 4) rfl)
  have k4 := hts (.instantiable RX5 3) (List.mem_of_getElem? (i := 5) rfl)
  have k5 := hts (.initialized RX5) (List.mem_of_getElem? (i := 6) rfl)
  have k6 := hts (.instanceMethod yX5_init) (List.mem_of_getElem? (i := 13) rfl)
  have k7 := hts (.methodLink RX4 13 yX5_init) (List.mem_of_getElem? (i := 12) rfl)
  have k8 := hts (.fieldLink RX4 16 "LateExcuses$Panes" "rows" "LLateExcuses$Table;") (List.mem_of_getElem? (i := 7) rfl)
  have k9 := hts (.classLink RX4 20 RX7) (List.mem_of_getElem? (i := 8) rfl)
  have k10 := hts (.instantiable RX7 4) (List.mem_of_getElem? (i := 9) rfl)
  have k11 := hts (.initialized RX7) (List.mem_of_getElem? (i := 10) rfl)
  have k12 := hts (.instanceMethod yX7_init) (List.mem_of_getElem? (i := 24) rfl)
  have k13 := hts (.fieldLink RX4 23 "LateExcuses$Panes" "words" "LLateExcuses$Words;") (List.mem_of_getElem? (i := 11) rfl)
  have u5 : ∀ w ∈ u_ws RX5 TX5 3, w ∈ wsX4_init := by decide +kernel
  have u4 : ∀ w ∈ u_ws RX4 TX4 3, w ∈ wsX4_init := by decide +kernel
  have u7 : ∀ w ∈ u_ws RX7 TX7 4, w ∈ wsX4_init := by decide +kernel
  have hl : lv_has ls 1 [(0, .ref p0)] := hl
  refine lv_aload_n hx hb dX4_init_0 rfl (lv_at hl 0 rfl) ?_
  refine W.objInit hx hb hown k0 k1 k2 rfl (by rw [hml]; exact hl.1) rfl dX4_init_1 (Nat.le_of_ble_eq_true rfl) (Nat.le_of_ble_eq_true rfl) ?_
  refine lv_aload_n hx hb dX4_init_4 rfl (lv_at hl 0 rfl) ?_
  refine va_new (ci := 5) (fs := [.int 0, .int 0, .null]) (C := RX5) (T := TX5) (N := 3) hx hb hts u5 tyX5 tyX5_ok hown k3 k4 k5 hK hP hD hS hA rfl (fun j hj => by rcases (show j = 0 ∨ j = 1 ∨ j = 2 by omega) with rfl | rfl | rfl <;> rfl) (Nat.le_of_ble_eq_true rfl) (Nat.le_of_ble_eq_true rfl) dX4_init_5 (fun q1 H hP hD hS => ?_)
  have hP : va_P D vwCl [(p0, .inr (4, [.null, .null, .int 0])), (q1, .inr (5, [.int 0, .int 0, .null]))] H := hP
  have hD : va_D A [(p0, .inr (4, [.null, .null, .int 0])), (q1, .inr (5, [.int 0, .int 0, .null]))] := hD
  refine W.widen (k := 1) (n := 3) (by omega) (by omega) ?_
  refine lv_dup hx hb dX4_init_8 rfl ?_
  refine lv_bipush (v := 64) hx hb dX4_init_9 (by decide) ?_
  refine lv_bipush (v := 8) hx hb dX4_init_11 (by decide) ?_
  have hPc := hP.sub (ws' := [(q1, .inr (5, [.int 0, .int 0, .null]))]) [1] rfl
  have hDc := hD.sub (ws' := [(q1, .inr (5, [.int 0, .int 0, .null]))]) [1] (by decide) rfl
  refine k_ve (wr := [(p0, .inr (4, [.null, .null, .int 0]))]) (va_runI (As := [.int 64, .int 8]) (rest := [.ref q1, .ref p0]) hF (c_X5_init l D I C Q q1 64 8 (by decide) (by decide) (by decide) _) (cwI 2 hts gX4_init_X5_init rfl rfl rfl k5 k7 k6 rfl (by decide +kernel) ⟨Nat.le_of_ble_eq_true rfl, Nat.le_of_ble_eq_true rfl⟩) (kPreSX hE k_noX hPc hDc) rfl rfl hl.1 rfl (lv_room (Nat.le_of_ble_eq_true rfl)) dX4_init_13 ⟨Nat.le_of_ble_eq_true rfl, Nat.le_of_ble_eq_true rfl⟩) hP hD hS hA [1] [0] rfl rfl (by decide) (by decide) (fun H locs w9 hw9 hP hD hS => ?_)
  obtain ⟨q2, hw9⟩ := hw9
  subst hw9
  have hP : va_P D vwCl [(p0, .inr (4, [.null, .null, .int 0])), (q1, .inr (5, [.int (nI 64), .int (nI 8), .ref q2])), (q2, .inl (I, 64 * 8, .inl (fun _ => 0)))] H := hP
  have hD : va_D A [(p0, .inr (4, [.null, .null, .int 0])), (q1, .inr (5, [.int (nI 64), .int (nI 8), .ref q2])), (q2, .inl (I, 64 * 8, .inl (fun _ => 0)))] := hD
  refine W.widen (k := 2) (n := 3 + 64 * 8) (by omega) (by omega) ?_
  refine va_putF (D := D) (ci := 4) (v := .ref q1) (ty := .object "LateExcuses$Table") (C := RX4) (T := TX4) (N := 3) hx hb hts u4 tyX4 tyX4_ok nmX4 hown hK hP hD hS 0 rfl rfl 0 (by decide) k8 (fun _ h9 => h9) rfl hin rfl (by decide +kernel) rfl rfl (Nat.le_of_ble_eq_true rfl) dX4_init_16 (fun H locs hP hD hS => ?_)
  have hP : va_P D vwCl [(p0, .inr (4, [.ref q1, .null, .int 0])), (q1, .inr (5, [.int (nI 64), .int (nI 8), .ref q2])), (q2, .inl (I, 64 * 8, .inl (fun _ => 0)))] H := hP
  have hD : va_D A [(p0, .inr (4, [.ref q1, .null, .int 0])), (q1, .inr (5, [.int (nI 64), .int (nI 8), .ref q2])), (q2, .inl (I, 64 * 8, .inl (fun _ => 0)))] := hD
  refine lv_aload_n hx hb dX4_init_19 rfl (lv_at hl 0 rfl) ?_
  refine va_new (ci := 7) (fs := [.null, .int 0, .int 0, .int 0]) (C := RX7) (T := TX7) (N := 4) hx hb hts u7 tyX7 tyX7_ok hown k9 k10 k11 hK hP hD hS hA rfl (fun j hj => by rcases (show j = 0 ∨ j = 1 ∨ j = 2 ∨ j = 3 by omega) with rfl | rfl | rfl | rfl <;> rfl) (Nat.le_of_ble_eq_true rfl) (Nat.le_of_ble_eq_true rfl) dX4_init_20 (fun q3 H hP hD hS => ?_)
  have hP : va_P D vwCl [(p0, .inr (4, [.ref q1, .null, .int 0])), (q1, .inr (5, [.int (nI 64), .int (nI 8), .ref q2])), (q2, .inl (I, 64 * 8, .inl (fun _ => 0))), (q3, .inr (7, [.null, .int 0, .int 0, .int 0]))] H := hP
  have hD : va_D A [(p0, .inr (4, [.ref q1, .null, .int 0])), (q1, .inr (5, [.int (nI 64), .int (nI 8), .ref q2])), (q2, .inl (I, 64 * 8, .inl (fun _ => 0))), (q3, .inr (7, [.null, .int 0, .int 0, .int 0]))] := hD
  refine W.widen (k := 3) (n := 3 + 64 * 8 + 4) (by omega) (by omega) ?_
  refine lv_dup hx hb dX4_init_23 rfl ?_
  have hPc := hP.sub (ws' := [(q3, .inr (7, [.null, .int 0, .int 0, .int 0]))]) [3] rfl
  have hDc := hD.sub (ws' := [(q3, .inr (7, [.null, .int 0, .int 0, .int 0]))]) [3] (by decide) rfl
  refine k_ve (wr := [(p0, .inr (4, [.ref q1, .null, .int 0])), (q1, .inr (5, [.int (nI 64), .int (nI 8), .ref q2])), (q2, .inl (I, 64 * 8, .inl (fun _ => 0)))]) (va_runIN (As := []) (rest := [.ref q3, .ref p0]) hF (c_X7_init l D I C Q q3 _) ⟨va_cnB 0 hts gX4_init_X7_init_n22 rfl rfl rfl (hE.nest 8 rfl) k11 (by decide +kernel) ⟨Nat.le_of_ble_eq_true rfl, Nat.le_of_ble_eq_true rfl⟩, rfl, k12⟩ (kPreSX hE k_noX hPc hDc) rfl rfl hl.1 rfl (lv_room (Nat.le_of_ble_eq_true rfl)) dX4_init_24 ⟨Nat.le_of_ble_eq_true rfl, Nat.le_of_ble_eq_true rfl⟩) hP hD hS hA [3] [0, 1, 2] rfl rfl (by decide) (by decide) (fun H locs w9 hw9 hP hD hS => ?_)
  obtain ⟨q4, q5, hw9⟩ := hw9
  subst hw9
  have hP : va_P D vwCl [(p0, .inr (4, [.ref q1, .null, .int 0])), (q1, .inr (5, [.int (nI 64), .int (nI 8), .ref q2])), (q2, .inl (I, 64 * 8, .inl (fun _ => 0))), (q3, .inr (7, [.ref q4, .int 0, .int 0, .int 0])), (q4, .inr (5, [.int (nI 40), .int (nI 4), .ref q5])), (q5, .inl (I, 40 * 4, .inl (fun _ => 0)))] H := hP
  have hD : va_D A [(p0, .inr (4, [.ref q1, .null, .int 0])), (q1, .inr (5, [.int (nI 64), .int (nI 8), .ref q2])), (q2, .inl (I, 64 * 8, .inl (fun _ => 0))), (q3, .inr (7, [.ref q4, .int 0, .int 0, .int 0])), (q4, .inr (5, [.int (nI 40), .int (nI 4), .ref q5])), (q5, .inl (I, 40 * 4, .inl (fun _ => 0)))] := hD
  refine W.widen (k := 5) (n := 3 + 64 * 8 + 4 + 163) (by omega) (by omega) ?_
  refine va_putF (D := D) (ci := 4) (v := .ref q3) (ty := .object "LateExcuses$Words") (C := RX4) (T := TX4) (N := 3) hx hb hts u4 tyX4 tyX4_ok nmX4 hown hK hP hD hS 0 rfl rfl 1 (by decide) k13 (fun _ h9 => h9) rfl hin rfl (by decide +kernel) rfl rfl (Nat.le_of_ble_eq_true rfl) dX4_init_27 (fun H locs hP hD hS => ?_)
  have hP : va_P D vwCl [(p0, .inr (4, [.ref q1, .ref q3, .int 0])), (q1, .inr (5, [.int (nI 64), .int (nI 8), .ref q2])), (q2, .inl (I, 64 * 8, .inl (fun _ => 0))), (q3, .inr (7, [.ref q4, .int 0, .int 0, .int 0])), (q4, .inr (5, [.int (nI 40), .int (nI 4), .ref q5])), (q5, .inl (I, 40 * 4, .inl (fun _ => 0)))] H := hP
  have hD : va_D A [(p0, .inr (4, [.ref q1, .ref q3, .int 0])), (q1, .inr (5, [.int (nI 64), .int (nI 8), .ref q2])), (q2, .inl (I, 64 * 8, .inl (fun _ => 0))), (q3, .inr (7, [.ref q4, .int 0, .int 0, .int 0])), (q4, .inr (5, [.int (nI 40), .int (nI 4), .ref q5])), (q5, .inl (I, 40 * 4, .inl (fun _ => 0)))] := hD
  exact hend _ _ _ _ _ (hP.sub (ws' := wPn I p0 q1 q2 q3 q4 q5 (fun _ => 0) 0 (fun _ => 0) 0 0 0) [0, 1, 2, 3, 4, 5] rfl) (hD.sub (ws' := wPn I p0 q1 q2 q3 q4 q5 (fun _ => 0) 0 (fun _ => 0) 0 0 0) [0, 1, 2, 3, 4, 5] (by decide) rfl) hS dX4_init_30 ⟨q1, q2, q3, q4, q5, rfl⟩
