set_option maxHeartbeats 400000 in
set_option maxRecDepth 100000 in
theorem c_X6_length (l : Launch) (D : va_G) (I C Q : ClassId) (x0 x1 : Nat) (sg : Nat → Int32) (xl : Int32) (xp : Int32) (xn : Int32) (xi : Int32) (xt : Int32) (xk : Int32) (xa : Int32) (xe : Int32) (xf : Int32) (xr : Int32) : KI l D (tyL I C Q) yX6_length wsX6_length { frames := 0, cells := 0, slots := 0, locals := 0 } [.ref x0] (wX I C x0 x1 sg xl xp xn xi xt xk xa xe xf xr) (wX I C x0 x1 sg xl xp xn xi xt xk xa xe xf xr) xl := by
  refine KI.of (cc := cX6_length) (maxL := 1) (rt := .int) (own := RX6) (by decide) rfl rfl (Nat.le_of_ble_eq_true rfl) ?_
  intro p e s m below meth c A Q0 ls hx hb hml hown hts hE hA hP hD hS hl hend
  have hK := hE.1
  have hF : CallFix p m c cX6_length 1 s [.ref x0].toArray wsX6_length RX6 := ⟨hx, hb, hml, hown, hts⟩
  have k0 := hts (.fieldLink RX6 15 "LateExcuses$Text" "length" "I") (List.mem_of_getElem? (i := 1) rfl)
  have u6 : ∀ w ∈ u_ws RX6 TX6 11, w ∈ wsX6_length := by decide +kernel
  have hl : lv_has ls 1 [(0, .ref x0)] := hl
  refine lv_aload_n hx hb dX6_length_0 rfl (lv_at hl 0 rfl) ?_
  refine va_get (D := D) (ci := 6) (v := .int xl) (C := RX6) (T := TX6) (N := 11) hx hb hts u6 hown hK hP 0 rfl rfl 1 (by decide) k0 (fun _ h9 => h9) rfl dX6_length_1 ?_
  exact hend _ _ _ _ _ _ hP hD hS dX6_length_4 rfl rfl rfl
