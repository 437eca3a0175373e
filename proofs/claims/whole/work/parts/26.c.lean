set_option maxHeartbeats 4000000 in
set_option maxRecDepth 100000 in
theorem c_X3_init (l : Launch) (D : va_G) (I C Q : ClassId) (h0 : Nat) : KVe l D (tyL I C Q) true yX3_init wsX3_init { frames := 1, cells := 1, slots := 4, locals := 12 } [.ref h0] [(h0, .inr (3, [.null, .int 0, .int 0]))] 1 4 (fun w => ∃ h1 : Nat, w = [(h0, .inr (3, [.ref h1, .int 0, .int 0])), (h1, .inl (Q, 4, .inr (.inr (.inr (.inr (fun _ => none))))))]) := by
  refine KVe.of (cc := cX3_init) (maxL := 1) (own := RX3) (by decide) rfl rfl (Nat.le_of_ble_eq_true rfl) ?_
  intro p e s m below meth c A Q0 ls hx hb hml hown hts hE hAO hnm hA hP hD hS hl hend
  have hin : meth.name = "<init>" := hnm
  have hK := hE.1
  have hF : CallFix p m c cX3_init 1 s [.ref h0].toArray wsX3_init RX3 := ⟨hx, hb, hml, hown, hts⟩
  have k0 := hts (.methodLink RX3 1 objectInit) (List.mem_of_getElem? (i := 1) rfl)
  have k1 := hts (.instanceMethod objectInit) (List.mem_of_getElem? (i := 2) rfl)
  have k2 := hts (.code objectInit ⟨#[0xb1]⟩ 1 none) (List.mem_of_getElem? (i := 3) rfl)
  have k3 := hts (.classLink RX3 9 RX1) (List.mem_of_getElem? (i := 4) rfl)
  have k4 := hts (.fieldLink RX3 11 "LateExcuses$History" "past" "[LLateExcuses$Court;") (List.mem_of_getElem? (i := 5) rfl)
  have u3 : ∀ w ∈ u_ws RX3 TX3 3, w ∈ wsX3_init := by decide +kernel
  have hl : lv_has ls 1 [(0, .ref h0)] := hl
  refine lv_aload_n hx hb dX3_init_0 rfl (lv_at hl 0 rfl) ?_
  refine W.objInit hx hb hown k0 k1 k2 rfl (by rw [hml]; exact hl.1) rfl dX3_init_1 (Nat.le_of_ble_eq_true rfl) (Nat.le_of_ble_eq_true rfl) ?_
  refine lv_aload_n hx hb dX3_init_4 rfl (lv_at hl 0 rfl) ?_
  refine lv_iconst (v := 4) hx hb dX3_init_5 (by decide) ?_
  refine va_newq (n := 4) (N' := 4) hx hb hown k3 (hAO rfl) hK hP hD hS hA (by decide) (by decide) (by decide) (Nat.le_of_ble_eq_true rfl) (Nat.le_of_ble_eq_true rfl) dX3_init_6 (fun q1 cA H hK9 hP hD hS => ?_)
  have hcA : cA = Q := k_sameQ ((hK9.2 3 (cA, .object RX1) rfl).2) ((hK.2 2 (Q, .object RX1) rfl).2)
  rw [hcA] at hP hD
  have hP : va_P D vwCl [(h0, .inr (3, [.null, .int 0, .int 0])), (q1, .inl (Q, 4, .inr (.inr (.inr (.inr (fun _ => none))))))] H := hP
  have hD : va_D A [(h0, .inr (3, [.null, .int 0, .int 0])), (q1, .inl (Q, 4, .inr (.inr (.inr (.inr (fun _ => none))))))] := hD
  refine W.widen (k := 1) (n := 4) (by omega) (by omega) ?_
  refine va_putF (D := D) (ci := 3) (v := .ref q1) (ty := .array (.object "LateExcuses$Court")) (C := RX3) (T := TX3) (N := 3) hx hb hts u3 tyX3 tyX3_ok nmX3 hown hK hP hD hS 0 rfl rfl 0 (by decide) k4 (fun _ h9 => h9) rfl hin rfl (by decide +kernel) rfl rfl (Nat.le_of_ble_eq_true rfl) dX3_init_9 (fun H locs hP hD hS => ?_)
  have hP : va_P D vwCl [(h0, .inr (3, [.ref q1, .int 0, .int 0])), (q1, .inl (Q, 4, .inr (.inr (.inr (.inr (fun _ => none))))))] H := hP
  have hD : va_D A [(h0, .inr (3, [.ref q1, .int 0, .int 0])), (q1, .inl (Q, 4, .inr (.inr (.inr (.inr (fun _ => none))))))] := hD
  exact hend _ _ _ _ _ (hP.sub (ws' := [(h0, .inr (3, [.ref q1, .int 0, .int 0])), (q1, .inl (Q, 4, .inr (.inr (.inr (.inr (fun _ => none))))))]) [0, 1] rfl) (hD.sub (ws' := [(h0, .inr (3, [.ref q1, .int 0, .int 0])), (q1, .inl (Q, 4, .inr (.inr (.inr (.inr (fun _ => none))))))]) [0, 1] (by decide) rfl) hS dX3_init_12 ⟨q1, rfl⟩
set_option maxHeartbeats 4000000 in
set_option maxRecDepth 100000 in
theorem c_X6_init (l : Launch) (D : va_G) (I C Q : ClassId) (x0 : Nat) : KVe l D (tyL I C Q) false yX6_init wsX6_init { frames := 1, cells := 1, slots := 80, locals := 12 } [.ref x0] [(x0, .inr (6, [.null, .int 0, .int 0, .int 0, .int 0, .int 0, .int 0, .int 0, .int 0, .int 0, .int 0]))] 1 80 (fun w => ∃ x1 : Nat, w = wX I C x0 x1 (fun _ => 0) 0 0 0 0 0 0 0 0 0 0) := by
  refine KVe.of (cc := cX6_init) (maxL := 1) (own := RX6) (by decide) rfl rfl (Nat.le_of_ble_eq_true rfl) ?_
  intro p e s m below meth c A Q0 ls hx hb hml hown hts hE hAO hnm hA hP hD hS hl hend
  have hin : meth.name = "<init>" := hnm
  have hK := hE.1
  have hF : CallFix p m c cX6_init 1 s [.ref x0].toArray wsX6_init RX6 := ⟨hx, hb, hml, hown, hts⟩
  have k0 := hts (.methodLink RX6 3 objectInit) (List.mem_of_getElem? (i := 1) rfl)
  have k1 := hts (.instanceMethod objectInit) (List.mem_of_getElem? (i := 2) rfl)
  have k2 := hts (.code objectInit ⟨#[0xb1]⟩ 1 none) (List.mem_of_getElem? (i := 3) rfl)
  have k3 := hts (.arrayClass .char) (List.mem_of_getElem? (i := 4) rfl)
  have k4 := hts (.fieldLink RX6 11 "LateExcuses$Text" "signs" "[C") (List.mem_of_getElem? (i := 5) rfl)
  have u6 : ∀ w ∈ u_ws RX6 TX6 11, w ∈ wsX6_init := by decide +kernel
  have hl : lv_has ls 1 [(0, .ref x0)] := hl
  refine lv_aload_n hx hb dX6_init_0 rfl (lv_at hl 0 rfl) ?_
  refine W.objInit hx hb hown k0 k1 k2 rfl (by rw [hml]; exact hl.1) rfl dX6_init_1 (Nat.le_of_ble_eq_true rfl) (Nat.le_of_ble_eq_true rfl) ?_
  refine lv_aload_n hx hb dX6_init_4 rfl (lv_at hl 0 rfl) ?_
  refine lv_bipush (v := 80) hx hb dX6_init_5 (by decide) ?_
  refine va_newa (atype := .char) (ty := .char) (n := 80) (N' := 80) (a0 := (80, .inl (fun _ => 0))) hx hb k3 rfl hK hP hD hS hA (fun cA => rfl) (by decide) (by decide) (by show 80 * 2 ≤ 536870912; omega) (Nat.le_of_ble_eq_true rfl) (Nat.le_of_ble_eq_true rfl) dX6_init_7 (fun q1 cA H hK9 hP hD hS => ?_)
  have hcA : cA = C := k_sameC ((hK9.2 3 (cA, .char) rfl).2) ((hK.2 1 (C, .char) rfl).2)
  rw [hcA] at hP hD
  have hP : va_P D vwCl [(x0, .inr (6, [.null, .int 0, .int 0, .int 0, .int 0, .int 0, .int 0, .int 0, .int 0, .int 0, .int 0])), (q1, .inl (C, 80, .inl (fun _ => 0)))] H := hP
  have hD : va_D A [(x0, .inr (6, [.null, .int 0, .int 0, .int 0, .int 0, .int 0, .int 0, .int 0, .int 0, .int 0, .int 0])), (q1, .inl (C, 80, .inl (fun _ => 0)))] := hD
  refine W.widen (k := 1) (n := 80) (by omega) (by omega) ?_
  refine va_putF (D := D) (ci := 6) (v := .ref q1) (ty := .array .char) (C := RX6) (T := TX6) (N := 11) hx hb hts u6 tyX6 tyX6_ok nmX6 hown hK hP hD hS 0 rfl rfl 0 (by decide) k4 (fun _ h9 => h9) rfl hin rfl (by decide +kernel) rfl rfl (Nat.le_of_ble_eq_true rfl) dX6_init_9 (fun H locs hP hD hS => ?_)
  have hP : va_P D vwCl [(x0, .inr (6, [.ref q1, .int 0, .int 0, .int 0, .int 0, .int 0, .int 0, .int 0, .int 0, .int 0, .int 0])), (q1, .inl (C, 80, .inl (fun _ => 0)))] H := hP
  have hD : va_D A [(x0, .inr (6, [.ref q1, .int 0, .int 0, .int 0, .int 0, .int 0, .int 0, .int 0, .int 0, .int 0, .int 0])), (q1, .inl (C, 80, .inl (fun _ => 0)))] := hD
  exact hend _ _ _ _ _ (hP.sub (ws' := wX I C x0 q1 (fun _ => 0) 0 0 0 0 0 0 0 0 0 0) [0, 1] rfl) (hD.sub (ws' := wX I C x0 q1 (fun _ => 0) 0 0 0 0 0 0 0 0 0 0) [0, 1] (by decide) rfl) hS dX6_init_12 ⟨q1, rfl⟩
set_option maxHeartbeats 4000000 in
set_option maxRecDepth 100000 in
theorem c_X9_init (l : Launch) (D : va_G) (I C Q : ClassId) (a0 : Nat) : KVe l D (tyL I C Q) false yX9_init wsX9_init { frames := 1, cells := 4, slots := 5485, locals := 12 } [.ref a0] [(a0, .inr (9, [.null, .null, .int 0, .null, .int 0, .int 0, .int 0, .null]))] 4 5485 (fun w => ∃ a1 a2 a3 a4 : Nat, w = wM I a0 a1 a2 a3 a4 (upd (upd (upd (upd (upd (fun _ => 0) 0 (-1)) 1 (-1)) 6 10) 7 5) 8 10) (fun _ => 0) 0 (fun _ => 0) 0 0 0 (fun _ => 0)) := by
  refine KVe.of (cc := cX9_init) (maxL := 1) (own := RX9) (by decide) rfl rfl (Nat.le_of_ble_eq_true rfl) ?_
  intro p e s m below meth c A Q0 ls hx hb hml hown hts hE hAO hnm hA hP hD hS hl hend
  have hin : meth.name = "<init>" := hnm
  have hK := hE.1
  have hF : CallFix p m c cX9_init 1 s [.ref a0].toArray wsX9_init RX9 := ⟨hx, hb, hml, hown, hts⟩
  have k0 := hts (.methodLink RX9 1 objectInit) (List.mem_of_getElem? (i := 1) rfl)
  have k1 := hts (.instanceMethod objectInit) (List.mem_of_getElem? (i := 2) rfl)
  have k2 := hts (.code objectInit ⟨#[0xb1]⟩ 1 none) (List.mem_of_getElem? (i := 3) rfl)
  have k3 := hts (.arrayClass .int) (List.mem_of_getElem? (i := 4) rfl)
  have k4 := hts (.fieldLink RX9 7 "LateExcusesModel" "now" "[I") (List.mem_of_getElem? (i := 5) rfl)
  have k5 := hts (.fieldLink RX9 13 "LateExcusesModel" "kept" "[I") (List.mem_of_getElem? (i := 6) rfl)
  have k6 := hts (.fieldLink RX9 16 "LateExcusesModel" "text" "[I") (List.mem_of_getElem? (i := 7) rfl)
  have k7 := hts (.fieldLink RX9 19 "LateExcusesModel" "read" "[I") (List.mem_of_getElem? (i := 8) rfl)
  have u9 : ∀ w ∈ u_ws RX9 TX9 8, w ∈ wsX9_init := by decide +kernel
  have hl : lv_has ls 1 [(0, .ref a0)] := hl
  refine lv_aload_n hx hb dX9_init_0 rfl (lv_at hl 0 rfl) ?_
  refine W.objInit hx hb hown k0 k1 k2 rfl (by rw [hml]; exact hl.1) rfl dX9_init_1 (Nat.le_of_ble_eq_true rfl) (Nat.le_of_ble_eq_true rfl) ?_
  refine lv_aload_n hx hb dX9_init_4 rfl (lv_at hl 0 rfl) ?_
  refine lv_sipush (v := 1080) hx hb dX9_init_5 (by decide) ?_
  refine va_newa (atype := .int) (ty := .int) (n := 1080) (N' := 1080) (a0 := (1080, .inl (fun _ => 0))) hx hb k3 rfl hK hP hD hS hA (fun cA => rfl) (by decide) (by decide) (by show 1080 * 4 ≤ 536870912; omega) (Nat.le_of_ble_eq_true rfl) (Nat.le_of_ble_eq_true rfl) dX9_init_8 (fun q1 cA H hK9 hP hD hS => ?_)
  have hcA : cA = I := k_sameI ((hK9.2 3 (cA, .int) rfl).2) ((hK.2 0 (I, .int) rfl).2)
  rw [hcA] at hP hD
  have hP : va_P D vwCl [(a0, .inr (9, [.null, .null, .int 0, .null, .int 0, .int 0, .int 0, .null])), (q1, .inl (I, 1080, .inl (fun _ => 0)))] H := hP
  have hD : va_D A [(a0, .inr (9, [.null, .null, .int 0, .null, .int 0, .int 0, .int 0, .null])), (q1, .inl (I, 1080, .inl (fun _ => 0)))] := hD
  refine W.widen (k := 1) (n := 1080) (by omega) (by omega) ?_
  refine va_putF (D := D) (ci := 9) (v := .ref q1) (ty := .array .int) (C := RX9) (T := TX9) (N := 8) hx hb hts u9 tyX9 tyX9_ok nmX9 hown hK hP hD hS 0 rfl rfl 0 (by decide) k4 (fun _ h9 => h9) rfl hin rfl (by decide +kernel) rfl rfl (Nat.le_of_ble_eq_true rfl) dX9_init_10 (fun H locs hP hD hS => ?_)
  have hP : va_P D vwCl [(a0, .inr (9, [.ref q1, .null, .int 0, .null, .int 0, .int 0, .int 0, .null])), (q1, .inl (I, 1080, .inl (fun _ => 0)))] H := hP
  have hD : va_D A [(a0, .inr (9, [.ref q1, .null, .int 0, .null, .int 0, .int 0, .int 0, .null])), (q1, .inl (I, 1080, .inl (fun _ => 0)))] := hD
  refine lv_aload_n hx hb dX9_init_13 rfl (lv_at hl 0 rfl) ?_
  refine lv_sipush (v := 4320) hx hb dX9_init_14 (by decide) ?_
  refine va_newa (atype := .int) (ty := .int) (n := 4320) (N' := 4320) (a0 := (4320, .inl (fun _ => 0))) hx hb k3 rfl hK hP hD hS hA (fun cA => rfl) (by decide) (by decide) (by show 4320 * 4 ≤ 536870912; omega) (Nat.le_of_ble_eq_true rfl) (Nat.le_of_ble_eq_true rfl) dX9_init_17 (fun q2 cA H hK9 hP hD hS => ?_)
  have hcA : cA = I := k_sameI ((hK9.2 3 (cA, .int) rfl).2) ((hK.2 0 (I, .int) rfl).2)
  rw [hcA] at hP hD
  have hP : va_P D vwCl [(a0, .inr (9, [.ref q1, .null, .int 0, .null, .int 0, .int 0, .int 0, .null])), (q1, .inl (I, 1080, .inl (fun _ => 0))), (q2, .inl (I, 4320, .inl (fun _ => 0)))] H := hP
  have hD : va_D A [(a0, .inr (9, [.ref q1, .null, .int 0, .null, .int 0, .int 0, .int 0, .null])), (q1, .inl (I, 1080, .inl (fun _ => 0))), (q2, .inl (I, 4320, .inl (fun _ => 0)))] := hD
  refine W.widen (k := 2) (n := 5400) (by omega) (by omega) ?_
  refine va_putF (D := D) (ci := 9) (v := .ref q2) (ty := .array .int) (C := RX9) (T := TX9) (N := 8) hx hb hts u9 tyX9 tyX9_ok nmX9 hown hK hP hD hS 0 rfl rfl 1 (by decide) k5 (fun _ h9 => h9) rfl hin rfl (by decide +kernel) rfl rfl (Nat.le_of_ble_eq_true rfl) dX9_init_19 (fun H locs hP hD hS => ?_)
  have hP : va_P D vwCl [(a0, .inr (9, [.ref q1, .ref q2, .int 0, .null, .int 0, .int 0, .int 0, .null])), (q1, .inl (I, 1080, .inl (fun _ => 0))), (q2, .inl (I, 4320, .inl (fun _ => 0)))] H := hP
  have hD : va_D A [(a0, .inr (9, [.ref q1, .ref q2, .int 0, .null, .int 0, .int 0, .int 0, .null])), (q1, .inl (I, 1080, .inl (fun _ => 0))), (q2, .inl (I, 4320, .inl (fun _ => 0)))] := hD
  refine lv_aload_n hx hb dX9_init_22 rfl (lv_at hl 0 rfl) ?_
  refine lv_bipush (v := 80) hx hb dX9_init_23 (by decide) ?_
  refine va_newa (atype := .int) (ty := .int) (n := 80) (N' := 80) (a0 := (80, .inl (fun _ => 0))) hx hb k3 rfl hK hP hD hS hA (fun cA => rfl) (by decide) (by decide) (by show 80 * 4 ≤ 536870912; omega) (Nat.le_of_ble_eq_true rfl) (Nat.le_of_ble_eq_true rfl) dX9_init_25 (fun q3 cA H hK9 hP hD hS => ?_)
  have hcA : cA = I := k_sameI ((hK9.2 3 (cA, .int) rfl).2) ((hK.2 0 (I, .int) rfl).2)
  rw [hcA] at hP hD
  have hP : va_P D vwCl [(a0, .inr (9, [.ref q1, .ref q2, .int 0, .null, .int 0, .int 0, .int 0, .null])), (q1, .inl (I, 1080, .inl (fun _ => 0))), (q2, .inl (I, 4320, .inl (fun _ => 0))), (q3, .inl (I, 80, .inl (fun _ => 0)))] H := hP
  have hD : va_D A [(a0, .inr (9, [.ref q1, .ref q2, .int 0, .null, .int 0, .int 0, .int 0, .null])), (q1, .inl (I, 1080, .inl (fun _ => 0))), (q2, .inl (I, 4320, .inl (fun _ => 0))), (q3, .inl (I, 80, .inl (fun _ => 0)))] := hD
  refine W.widen (k := 3) (n := 5480) (by omega) (by omega) ?_
  refine va_putF (D := D) (ci := 9) (v := .ref q3) (ty := .array .int) (C := RX9) (T := TX9) (N := 8) hx hb hts u9 tyX9 tyX9_ok nmX9 hown hK hP hD hS 0 rfl rfl 3 (by decide) k6 (fun _ h9 => h9) rfl hin rfl (by decide +kernel) rfl rfl (Nat.le_of_ble_eq_true rfl) dX9_init_27 (fun H locs hP hD hS => ?_)
  have hP : va_P D vwCl [(a0, .inr (9, [.ref q1, .ref q2, .int 0, .ref q3, .int 0, .int 0, .int 0, .null])), (q1, .inl (I, 1080, .inl (fun _ => 0))), (q2, .inl (I, 4320, .inl (fun _ => 0))), (q3, .inl (I, 80, .inl (fun _ => 0)))] H := hP
  have hD : va_D A [(a0, .inr (9, [.ref q1, .ref q2, .int 0, .ref q3, .int 0, .int 0, .int 0, .null])), (q1, .inl (I, 1080, .inl (fun _ => 0))), (q2, .inl (I, 4320, .inl (fun _ => 0))), (q3, .inl (I, 80, .inl (fun _ => 0)))] := hD
  refine lv_aload_n hx hb dX9_init_30 rfl (lv_at hl 0 rfl) ?_
  refine lv_iconst (v := 5) hx hb dX9_init_31 (by decide) ?_
  refine va_newa (atype := .int) (ty := .int) (n := 5) (N' := 5) (a0 := (5, .inl (fun _ => 0))) hx hb k3 rfl hK hP hD hS hA (fun cA => rfl) (by decide) (by decide) (by show 5 * 4 ≤ 536870912; omega) (Nat.le_of_ble_eq_true rfl) (Nat.le_of_ble_eq_true rfl) dX9_init_32 (fun q4 cA H hK9 hP hD hS => ?_)
  have hcA : cA = I := k_sameI ((hK9.2 3 (cA, .int) rfl).2) ((hK.2 0 (I, .int) rfl).2)
  rw [hcA] at hP hD
  have hP : va_P D vwCl [(a0, .inr (9, [.ref q1, .ref q2, .int 0, .ref q3, .int 0, .int 0, .int 0, .null])), (q1, .inl (I, 1080, .inl (fun _ => 0))), (q2, .inl (I, 4320, .inl (fun _ => 0))), (q3, .inl (I, 80, .inl (fun _ => 0))), (q4, .inl (I, 5, .inl (fun _ => 0)))] H := hP
  have hD : va_D A [(a0, .inr (9, [.ref q1, .ref q2, .int 0, .ref q3, .int 0, .int 0, .int 0, .null])), (q1, .inl (I, 1080, .inl (fun _ => 0))), (q2, .inl (I, 4320, .inl (fun _ => 0))), (q3, .inl (I, 80, .inl (fun _ => 0))), (q4, .inl (I, 5, .inl (fun _ => 0)))] := hD
  refine W.widen (k := 4) (n := 5485) (by omega) (by omega) ?_
  refine va_putF (D := D) (ci := 9) (v := .ref q4) (ty := .array .int) (C := RX9) (T := TX9) (N := 8) hx hb hts u9 tyX9 tyX9_ok nmX9 hown hK hP hD hS 0 rfl rfl 7 (by decide) k7 (fun _ h9 => h9) rfl hin rfl (by decide +kernel) rfl rfl (Nat.le_of_ble_eq_true rfl) dX9_init_34 (fun H locs hP hD hS => ?_)
  have hP : va_P D vwCl [(a0, .inr (9, [.ref q1, .ref q2, .int 0, .ref q3, .int 0, .int 0, .int 0, .ref q4])), (q1, .inl (I, 1080, .inl (fun _ => 0))), (q2, .inl (I, 4320, .inl (fun _ => 0))), (q3, .inl (I, 80, .inl (fun _ => 0))), (q4, .inl (I, 5, .inl (fun _ => 0)))] H := hP
  have hD : va_D A [(a0, .inr (9, [.ref q1, .ref q2, .int 0, .ref q3, .int 0, .int 0, .int 0, .ref q4])), (q1, .inl (I, 1080, .inl (fun _ => 0))), (q2, .inl (I, 4320, .inl (fun _ => 0))), (q3, .inl (I, 80, .inl (fun _ => 0))), (q4, .inl (I, 5, .inl (fun _ => 0)))] := hD
  refine lv_aload_n hx hb dX9_init_37 rfl (lv_at hl 0 rfl) ?_
  refine va_get (D := D) (ci := 9) (v := .ref q1) (C := RX9) (T := TX9) (N := 8) hx hb hts u9 hown hK hP 0 rfl rfl 0 (by decide) k4 (fun _ h9 => h9) rfl dX9_init_38 ?_
  refine lv_iconst (v := 0) hx hb dX9_init_41 (by decide) ?_
  refine lv_iconst (v := (-1)) hx hb dX9_init_42 (by decide) ?_
  refine k_iast (j := 0) hx hb hK hP hD hS 1 0 rfl rfl rfl (by decide) (by decide) dX9_init_43 (fun H locs hP hD hS => ?_)
  have hP : va_P D vwCl [(a0, .inr (9, [.ref q1, .ref q2, .int 0, .ref q3, .int 0, .int 0, .int 0, .ref q4])), (q1, .inl (I, 1080, .inl (upd (fun _ => 0) 0 (-1)))), (q2, .inl (I, 4320, .inl (fun _ => 0))), (q3, .inl (I, 80, .inl (fun _ => 0))), (q4, .inl (I, 5, .inl (fun _ => 0)))] H := hP
  have hD : va_D A [(a0, .inr (9, [.ref q1, .ref q2, .int 0, .ref q3, .int 0, .int 0, .int 0, .ref q4])), (q1, .inl (I, 1080, .inl (upd (fun _ => 0) 0 (-1)))), (q2, .inl (I, 4320, .inl (fun _ => 0))), (q3, .inl (I, 80, .inl (fun _ => 0))), (q4, .inl (I, 5, .inl (fun _ => 0)))] := hD
  refine lv_aload_n hx hb dX9_init_44 rfl (lv_at hl 0 rfl) ?_
  refine va_get (D := D) (ci := 9) (v := .ref q1) (C := RX9) (T := TX9) (N := 8) hx hb hts u9 hown hK hP 0 rfl rfl 0 (by decide) k4 (fun _ h9 => h9) rfl dX9_init_45 ?_
  refine lv_iconst (v := 1) hx hb dX9_init_48 (by decide) ?_
  refine lv_iconst (v := (-1)) hx hb dX9_init_49 (by decide) ?_
  refine k_iast (j := 1) hx hb hK hP hD hS 1 0 rfl rfl rfl (by decide) (by decide) dX9_init_50 (fun H locs hP hD hS => ?_)
  have hP : va_P D vwCl [(a0, .inr (9, [.ref q1, .ref q2, .int 0, .ref q3, .int 0, .int 0, .int 0, .ref q4])), (q1, .inl (I, 1080, .inl (upd (upd (fun _ => 0) 0 (-1)) 1 (-1)))), (q2, .inl (I, 4320, .inl (fun _ => 0))), (q3, .inl (I, 80, .inl (fun _ => 0))), (q4, .inl (I, 5, .inl (fun _ => 0)))] H := hP
  have hD : va_D A [(a0, .inr (9, [.ref q1, .ref q2, .int 0, .ref q3, .int 0, .int 0, .int 0, .ref q4])), (q1, .inl (I, 1080, .inl (upd (upd (fun _ => 0) 0 (-1)) 1 (-1)))), (q2, .inl (I, 4320, .inl (fun _ => 0))), (q3, .inl (I, 80, .inl (fun _ => 0))), (q4, .inl (I, 5, .inl (fun _ => 0)))] := hD
  refine lv_aload_n hx hb dX9_init_51 rfl (lv_at hl 0 rfl) ?_
  refine va_get (D := D) (ci := 9) (v := .ref q1) (C := RX9) (T := TX9) (N := 8) hx hb hts u9 hown hK hP 0 rfl rfl 0 (by decide) k4 (fun _ h9 => h9) rfl dX9_init_52 ?_
  refine lv_bipush (v := 6) hx hb dX9_init_55 (by decide) ?_
  refine lv_bipush (v := 10) hx hb dX9_init_57 (by decide) ?_
  refine k_iast (j := 6) hx hb hK hP hD hS 1 0 rfl rfl rfl (by decide) (by decide) dX9_init_59 (fun H locs hP hD hS => ?_)
  have hP : va_P D vwCl [(a0, .inr (9, [.ref q1, .ref q2, .int 0, .ref q3, .int 0, .int 0, .int 0, .ref q4])), (q1, .inl (I, 1080, .inl (upd (upd (upd (fun _ => 0) 0 (-1)) 1 (-1)) 6 10))), (q2, .inl (I, 4320, .inl (fun _ => 0))), (q3, .inl (I, 80, .inl (fun _ => 0))), (q4, .inl (I, 5, .inl (fun _ => 0)))] H := hP
  have hD : va_D A [(a0, .inr (9, [.ref q1, .ref q2, .int 0, .ref q3, .int 0, .int 0, .int 0, .ref q4])), (q1, .inl (I, 1080, .inl (upd (upd (upd (fun _ => 0) 0 (-1)) 1 (-1)) 6 10))), (q2, .inl (I, 4320, .inl (fun _ => 0))), (q3, .inl (I, 80, .inl (fun _ => 0))), (q4, .inl (I, 5, .inl (fun _ => 0)))] := hD
  refine lv_aload_n hx hb dX9_init_60 rfl (lv_at hl 0 rfl) ?_
  refine va_get (D := D) (ci := 9) (v := .ref q1) (C := RX9) (T := TX9) (N := 8) hx hb hts u9 hown hK hP 0 rfl rfl 0 (by decide) k4 (fun _ h9 => h9) rfl dX9_init_61 ?_
  refine lv_bipush (v := 7) hx hb dX9_init_64 (by decide) ?_
  refine lv_iconst (v := 5) hx hb dX9_init_66 (by decide) ?_
  refine k_iast (j := 7) hx hb hK hP hD hS 1 0 rfl rfl rfl (by decide) (by decide) dX9_init_67 (fun H locs hP hD hS => ?_)
  have hP : va_P D vwCl [(a0, .inr (9, [.ref q1, .ref q2, .int 0, .ref q3, .int 0, .int 0, .int 0, .ref q4])), (q1, .inl (I, 1080, .inl (upd (upd (upd (upd (fun _ => 0) 0 (-1)) 1 (-1)) 6 10) 7 5))), (q2, .inl (I, 4320, .inl (fun _ => 0))), (q3, .inl (I, 80, .inl (fun _ => 0))), (q4, .inl (I, 5, .inl (fun _ => 0)))] H := hP
  have hD : va_D A [(a0, .inr (9, [.ref q1, .ref q2, .int 0, .ref q3, .int 0, .int 0, .int 0, .ref q4])), (q1, .inl (I, 1080, .inl (upd (upd (upd (upd (fun _ => 0) 0 (-1)) 1 (-1)) 6 10) 7 5))), (q2, .inl (I, 4320, .inl (fun _ => 0))), (q3, .inl (I, 80, .inl (fun _ => 0))), (q4, .inl (I, 5, .inl (fun _ => 0)))] := hD
  refine lv_aload_n hx hb dX9_init_68 rfl (lv_at hl 0 rfl) ?_
  refine va_get (D := D) (ci := 9) (v := .ref q1) (C := RX9) (T := TX9) (N := 8) hx hb hts u9 hown hK hP 0 rfl rfl 0 (by decide) k4 (fun _ h9 => h9) rfl dX9_init_69 ?_
  refine lv_bipush (v := 8) hx hb dX9_init_72 (by decide) ?_
  refine lv_bipush (v := 10) hx hb dX9_init_74 (by decide) ?_
  refine k_iast (j := 8) hx hb hK hP hD hS 1 0 rfl rfl rfl (by decide) (by decide) dX9_init_76 (fun H locs hP hD hS => ?_)
  have hP : va_P D vwCl [(a0, .inr (9, [.ref q1, .ref q2, .int 0, .ref q3, .int 0, .int 0, .int 0, .ref q4])), (q1, .inl (I, 1080, .inl (upd (upd (upd (upd (upd (fun _ => 0) 0 (-1)) 1 (-1)) 6 10) 7 5) 8 10))), (q2, .inl (I, 4320, .inl (fun _ => 0))), (q3, .inl (I, 80, .inl (fun _ => 0))), (q4, .inl (I, 5, .inl (fun _ => 0)))] H := hP
  have hD : va_D A [(a0, .inr (9, [.ref q1, .ref q2, .int 0, .ref q3, .int 0, .int 0, .int 0, .ref q4])), (q1, .inl (I, 1080, .inl (upd (upd (upd (upd (upd (fun _ => 0) 0 (-1)) 1 (-1)) 6 10) 7 5) 8 10))), (q2, .inl (I, 4320, .inl (fun _ => 0))), (q3, .inl (I, 80, .inl (fun _ => 0))), (q4, .inl (I, 5, .inl (fun _ => 0)))] := hD
  exact hend _ _ _ _ _ (hP.sub (ws' := wM I a0 q1 q2 q3 q4 (upd (upd (upd (upd (upd (fun _ => 0) 0 (-1)) 1 (-1)) 6 10) 7 5) 8 10) (fun _ => 0) 0 (fun _ => 0) 0 0 0 (fun _ => 0)) [0, 1, 2, 3, 4] rfl) (hD.sub (ws' := wM I a0 q1 q2 q3 q4 (upd (upd (upd (upd (upd (fun _ => 0) 0 (-1)) 1 (-1)) 6 10) 7 5) 8 10) (fun _ => 0) 0 (fun _ => 0) 0 0 0 (fun _ => 0)) [0, 1, 2, 3, 4] (by decide) rfl) hS dX9_init_77 ⟨q1, q2, q3, q4, rfl⟩
