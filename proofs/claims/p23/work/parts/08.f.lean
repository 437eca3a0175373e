set_option maxHeartbeats 400000 in
set_option maxRecDepth 100000 in
theorem c_X8_bitsOfZ (l : Launch) (D : va_G) (I C Q : ClassId) (x : UInt32) (h0 : x = 0) : KI l D (tyL I C Q) yX8_bitsOf wsX8_bitsOf { frames := 0, cells := 0, slots := 0, locals := 0 } [.float x] [] [] 0 := by
  refine KI.of (cc := cX8_bitsOf) (maxL := 4) (rt := .int) (own := RX8) (by decide) rfl rfl (Nat.le_of_ble_eq_true rfl) ?_
  intro p e s m below meth c A Q0 ls hx hb hml hown hts hE hA hP hD hS hl hend
  have hK := hE.1
  have hF : CallFix p m c cX8_bitsOf 4 s [.float x].toArray wsX8_bitsOf RX8 := ⟨hx, hb, hml, hown, hts⟩
  have hl : lv_has ls 4 [(0, .float x)] := hl
  refine lv_fload_n hx hb dX8_bitsOf_0 rfl (lv_at hl 0 rfl) ?_
  refine lv_fconst0 hx hb dX8_bitsOf_1 ?_
  refine lv_fcmp hx hb dX8_bitsOf_2 ?_
  refine lv_if_ne (tgt := 8) hx hb dX8_bitsOf_3 (by decide) (fun c_3 => ?_) (fun c_3 => ?_)
  · exact absurd (by rw [h0]; decide +kernel) c_3
  · refine lv_iconst (v := 0) hx hb dX8_bitsOf_6 (by decide) ?_
    exact hend _ _ _ _ _ _ hP hD hS dX8_bitsOf_7 rfl rfl rfl
