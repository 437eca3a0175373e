set_option maxHeartbeats 4000000 in
set_option maxRecDepth 100000 in
theorem c_X3_init (l : Launch) (D : va_G) (I C Q : ClassId) (h0 : Nat) : KVe l D (tyL I C Q) true yX3_init wsX3_init { frames := 1, cells := 1, slots := 4, locals := 12 } [.ref h0] [(h0, .inr (3, [.null, .int 0, .int 0]))] 1 4 (fun w => ∃ h1 : Nat, w = [(h0, .inr (3, [.ref h1, .int 0, .int 0])), (h1, .inl (Q, 4, .inr (.inr (.inr (.inr (fun _ => none))))))]) := by
  refine KVe.of (cc := cX3_init) (maxL := 1) (own := RX3) (by decide) rfl rfl (Nat.le_of_ble_eq_true rfl) ?_
  intro p e s m below meth c A Q0 ls hx hb hml hown hts hE hAO hnm hA hP hD hS hl hend
  have hin : meth.name = "<init>" := hnm
  have hK := hE.1
  have hF : CallFix p m c cX3_init 1 s [.ref h0].toArray wsX3_init RX3 := ⟨hx, hb, hml, hown, hts⟩
  have k0 := hts (.methodLink RX3 1 objectInit) (List.mem_of_getElem? (i := 1) rfl)
  have k1 := hts (.instanceMethod objectInit) (List.mem_of_getElem? (i := 2) rfl)
  have k2 := hts (.code objectInit ⟨#[0xb1]⟩ 1 none) (List.mem_of_getElem? (i := 3) rfl)
  have k3 := hts (.classLink RX3 9 RX1) (List.mem_of_getElem? (i := 4) rfl)
  have k4 := hts (.fieldLink RX3 11 "LateExcuses$History" "past" "[LLateExcuses$Court;") (List.mem_of_getElem? (i := 5) rfl)
  have u3 : ∀ w ∈ u_ws RX3 TX3 3, w ∈ wsX3_init := by decide +kernel
  have hl : lv_has ls 1 [(0, .ref h0)] := hl
  refine lv_aload_n hx hb dX3_init_0 rfl (lv_at hl 0 rfl) ?_
  refine W.objInit hx hb hown k0 k1 k2 rfl (by rw [hml]; exact hl.1) rfl dX3_init_1 (Nat.le_of_ble_eq_true rfl) (Nat.le_of_ble_eq_true rfl) ?_
  refine lv_aload_n hx hb dX3_init_4 rfl (lv_at hl 0 rfl) ?_
  refine lv_iconst (v := 4) hx hb dX3_init_5 (by decide) ?_
  refine va_newq (n := 4) (N' := 4) hx hb hown k3 (hAO rfl) hK hP hD hS hA (by decide) (by decide) (by decide) (Nat.le_of_ble_eq_true rfl) (Nat.le_of_ble_eq_true rfl) dX3_init_6 (fun q1 cA H hK9 hP hD hS => ?_)
  have hcA : cA = Q := k_sameQ ((hK9.2 3 (cA, .object RX1) rfl).2) ((hK.2 2 (Q, .object RX1) rfl).2)
  rw [hcA] at hP hD
  have hP : va_P D vwCl [(h0, .inr (3, [.null, .int 0, .int 0])), (q1, .inl (Q, 4, .inr (.inr (.inr (.inr (fun _ => none))))))] H := hP
  have hD : va_D A [(h0, .inr (3, [.null, .int 0, .int 0])), (q1, .inl (Q, 4, .inr (.inr (.inr (.inr (fun _ => none))))))] := hD
  refine W.widen (k := 1) (n := 4) (by omega) (by omega) ?_
  refine va_putF (D := D) (ci := 3) (v := .ref q1) (ty := .array (.object "LateExcuses$Court")) (C := RX3) (T := TX3) (N := 3) hx hb hts u3 tyX3 tyX3_ok nmX3 hown hK hP hD hS 0 rfl rfl 0 (by decide) k4 (fun _ h9 => h9) rfl hin rfl (by decide +kernel) rfl rfl (Nat.le_of_ble_eq_true rfl) dX3_init_9 (fun H locs hP hD hS => ?_)
  have hP : va_P D vwCl [(h0, .inr (3, [.ref q1, .int 0, .int 0])), (q1, .inl (Q, 4, .inr (.inr (.inr (.inr (fun _ => none))))))] H := hP
  have hD : va_D A [(h0, .inr (3, [.ref q1, .int 0, .int 0])), (q1, .inl (Q, 4, .inr (.inr (.inr (.inr (fun _ => none))))))] := hD
  exact hend _ _ _ _ _ (hP.sub (ws' := [(h0, .inr (3, [.ref q1, .int 0, .int 0])), (q1, .inl (Q, 4, .inr (.inr (.inr (.inr (fun _ => none))))))]) [0, 1] rfl) (hD.sub (ws' := [(h0, .inr (3, [.ref q1, .int 0, .int 0])), (q1, .inl (Q, 4, .inr (.inr (.inr (.inr (fun _ => none))))))]) [0, 1] (by decide) rfl) hS dX3_init_12 ⟨q1, rfl⟩
set_option maxHeartbeats 4000000 in
set_option maxRecDepth 100000 in
theorem c_X6_init (l : Launch) (D : va_G) (I C Q : ClassId) (x0 : Nat) : KVe l D (tyL I C Q) false yX6_init wsX6_init { frames := 1, cells := 1, slots := 80, locals := 12 } [.ref x0] [(x0, .inr (6, [.null, .int 0, .int 0, .int 0, .int 0, .int 0, .int 0, .int 0, .int 0, .int 0, .int 0]))] 1 80 (fun w => ∃ x1 : Nat, w = wX I C x0 x1 (fun _ => 0) 0 0 0 0 0 0 0 0 0 0) := by
  refine KVe.of (cc := cX6_init) (maxL := 1) (own := RX6) (by decide) rfl rfl (Nat.le_of_ble_eq_true rfl) ?_
  intro p e s m below meth c A Q0 ls hx hb hml hown hts hE hAO hnm hA hP hD hS hl hend
  have hin : meth.name = "<init>" := hnm
  have hK := hE.1
  have hF : CallFix p m c cX6_init 1 s [.ref x0].toArray wsX6_init RX6 := ⟨hx, hb, hml, hown, hts⟩
  have k0 := hts (.methodLink RX6 3 objectInit) (List.mem_of_getElem? (i := 1) rfl)
  have k1 := hts (.instanceMethod objectInit) (List.mem_of_getElem? (i := 2) rfl)
  have k2 := hts (.code objectInit ⟨#[0xb1]⟩ 1 none) (List.mem_of_getElem? (i := 3) rfl)
  have k3 := hts (.arrayClass .char) (List.mem_of_getElem? (i := 4) rfl)
  have k4 := hts (.fieldLink RX6 11 "LateExcuses$Text" "signs" "[C") (List.mem_of_getElem? (i := 5) rfl)
  have u6 : ∀ w ∈ u_ws RX6 TX6 11, w ∈ wsX6_init := by decide +kernel
  have hl : lv_has ls 1 [(0, .ref x0)] := hl
  refine lv_aload_n hx hb dX6_init_0 rfl (lv_at hl 0 rfl) ?_
  refine W.objInit hx hb hown k0 k1 k2 rfl (by rw [hml]; exact hl.1) rfl dX6_init_1 (Nat.le_of_ble_eq_true rfl) (Nat.le_of_ble_eq_true rfl) ?_
  refine lv_aload_n hx hb dX6_init_4 rfl (lv_at hl 0 rfl) ?_
  refine lv_bipush (v := 80) hx hb dX6_init_5 (by decide) ?_
  refine va_newa (atype := .char) (ty := .char) (n := 80) (N' := 80) (a0 := (80, .inl (fun _ => 0))) hx hb k3 rfl hK hP hD hS hA (fun cA => rfl) (by decide) (by decide) (by show 80 * 2 ≤ 536870912; omega) (Nat.le_of_ble_eq_true rfl) (Nat.le_of_ble_eq_true rfl) dX6_init_7 (fun q1 cA H hK9 hP hD hS => ?_)
  have hcA : cA = C := k_sameC ((hK9.2 3 (cA, .char) rfl).2) ((hK.2 1 (C, .char) rfl).2)
  rw [hcA] at hP hD
  have hP : va_P D vwCl [(x0, .inr (6, [.null, .int 0, .int 0, .int 0, .int 0, .int 0, .int 0, .int 0, .int 0, .int 0, .int 0])), (q1, .inl (C, 80, .inl (fun _ => 0)))] H := hP
  have hD : va_D A [(x0, .inr (6, [.null, .int 0, .int 0, .int 0, .int 0, .int 0, .int 0, .int 0, .int 0, .int 0, .int 0])), (q1, .inl (C, 80, .inl (fun _ => 0)))] := hD
  refine W.widen (k := 1) (n := 80) (by omega) (by omega) ?_
  refine va_putF (D := D) (ci := 6) (v := .ref q1) (ty := .array .char) (C := RX6) (T := TX6) (N := 11) hx hb hts u6 tyX6 tyX6_ok nmX6 hown hK hP hD hS 0 rfl rfl 0 (by decide) k4 (fun _ h9 => h9) rfl hin rfl (by decide +kernel) rfl rfl (Nat.le_of_ble_eq_true rfl) dX6_init_9 (fun H locs hP hD hS => ?_)
  have hP : va_P D vwCl [(x0, .inr (6, [.ref q1, .int 0, .int 0, .int 0, .int 0, .int 0, .int 0, .int 0, .int 0, .int 0, .int 0])), (q1, .inl (C, 80, .inl (fun _ => 0)))] H := hP
  have hD : va_D A [(x0, .inr (6, [.ref q1, .int 0, .int 0, .int 0, .int 0, .int 0, .int 0, .int 0, .int 0, .int 0, .int 0])), (q1, .inl (C, 80, .inl (fun _ => 0)))] := hD
  exact hend _ _ _ _ _ (hP.sub (ws' := wX I C x0 q1 (fun _ => 0) 0 0 0 0 0 0 0 0 0 0) [0, 1] rfl) (hD.sub (ws' := wX I C x0 q1 (fun _ => 0) 0 0 0 0 0 0 0 0 0 0) [0, 1] (by decide) rfl) hS dX6_init_12 ⟨q1, rfl⟩
