set_option maxHeartbeats 400000 in
set_option maxRecDepth 100000 in
theorem c_X8_bitsOfP (l : Launch) (D : va_G) (I C Q : ClassId) (u : Nat) (w : Nat) (x : UInt32) (hvx : FP.Core.val32 x = .fin false u (-(w : Int))) (hc1 : 8388608 ≤ u) (hc2 : u < 16777216) (hw : w ≤ 60) : KI l D (tyL I C Q) yX8_bitsOf wsX8_bitsOf { frames := 0, cells := 0, slots := 0, locals := 0 } [.float x] [] [] ((nI (150 - w) <<< (23 &&& 31)) + (nI u - 8388608)) := by
  refine KI.of (cc := cX8_bitsOf) (maxL := 4) (rt := .int) (own := RX8) (by decide) rfl rfl (Nat.le_of_ble_eq_true rfl) ?_
  intro p e s m below meth c A Q0 ls hx hb hml hown hts hE hA hP hD hS hl hend
  have hK := hE.1
  have hF : CallFix p m c cX8_bitsOf 4 s [.float x].toArray wsX8_bitsOf RX8 := ⟨hx, hb, hml, hown, hts⟩
  have k0 := hts (.constantFloat RX8 191 (1258291200)) (List.mem_of_getElem? (i := 1) rfl)
  have k1 := hts (.constant RX8 192 (8388608)) (List.mem_of_getElem? (i := 2) rfl)
  have hl : lv_has ls 4 [(0, .float x)] := hl
  refine lv_fload_n hx hb dX8_bitsOf_0 rfl (lv_at hl 0 rfl) ?_
  refine lv_fconst0 hx hb dX8_bitsOf_1 ?_
  refine lv_fcmp hx hb dX8_bitsOf_2 ?_
  refine lv_if_ne (tgt := 8) hx hb dX8_bitsOf_3 (by decide) (fun c_3 => ?_) (fun c_3 => ?_)
  · refine lv_fload_n hx hb dX8_bitsOf_8 rfl (lv_at hl 0 rfl) ?_
    refine lv_fconst0 hx hb dX8_bitsOf_9 ?_
    refine lv_fcmp hx hb dX8_bitsOf_10 ?_
    refine lv_if_ge (tgt := 19) hx hb dX8_bitsOf_11 (by decide) (fun c_11 => ?_) (fun c_11 => ?_)
    · refine lv_fload_n hx hb dX8_bitsOf_19 rfl (lv_at hl 0 rfl) ?_
      refine lv_fstore_n (lv' := [(1, .float x), (0, .float x)]) hx hb dX8_bitsOf_20 rfl hl (by decide) rfl (fun ls hl => ?_)
      refine lv_sipush (v := 150) hx hb dX8_bitsOf_21 (by decide) ?_
      refine lv_istore_n (lv' := [(2, .int 150), (1, .float x), (0, .float x)]) hx hb dX8_bitsOf_24 rfl hl (by decide) rfl (fun ls hl => ?_)
      refine lv_iconst (v := 0) hx hb dX8_bitsOf_25 (by decide) ?_
      refine lv_istore_n (lv' := [(3, .int 0), (2, .int 150), (1, .float x), (0, .float x)]) hx hb dX8_bitsOf_26 rfl hl (by decide) rfl (fun ls hl => ?_)
      have loop27 : ∀ (n : Nat) (f : UInt32) (i : Nat) (g : Int32), (FP.Core.val32 f = .fin false u (-(w : Int) + (i : Int))) → (i ≤ w) → (i + n = 150) → (g = nI (150 - i)) → ∀ (H : Heap) (locs : List Loc) (ls : Array Slot), va_P D vwCl [] H → va_D A [] → va_S A s.heap H locs → lv_has ls 4 [(0, .float x), (1, .float f), (2, .int g), (3, .int (nI i))] → W p l e ({ frames := 0, cells := 0, slots := 0, locals := 0 } : Room) s m [.float x].toArray below meth c H locs 0 0 Q0 (F0 m 27 ls []) := by
        intro n
        induction n with
        | zero =>
          intro f i g hfi hiw hin hg H locs ls hP hD hS hl
          refine lv_iload_n hx hb dX8_bitsOf_27 rfl (lv_at hl 3 rfl) ?_
          refine lv_sipush (v := 150) hx hb dX8_bitsOf_28 (by decide) ?_
          refine lv_icmp_ge (tgt := 54) hx hb dX8_bitsOf_31 (by decide) (fun c_31 => ?_) (fun c_31 => ?_)
          · exact absurd ((nI_leI (a := 150) (b := i) (by omega) (by omega)).mp c_31) (by omega)
          · exact absurd hin (by omega)
        | succ n ih =>
          intro f i g hfi hiw hin hg H locs ls hP hD hS hl
          refine lv_iload_n hx hb dX8_bitsOf_27 rfl (lv_at hl 3 rfl) ?_
          refine lv_sipush (v := 150) hx hb dX8_bitsOf_28 (by decide) ?_
          refine lv_icmp_ge (tgt := 54) hx hb dX8_bitsOf_31 (by decide) (fun c_31 => ?_) (fun c_31 => ?_)
          · exact absurd ((nI_leI (a := 150) (b := i) (by omega) (by omega)).mp c_31) (by omega)
          · refine lv_fload_n hx hb dX8_bitsOf_34 rfl (lv_at hl 1 rfl) ?_
            refine lv_ldcf (v := (1258291200)) hx hb hown k0 dX8_bitsOf_35 ?_
            refine lv_fcmp hx hb dX8_bitsOf_37 ?_
            refine lv_if_ge (tgt := 54) hx hb dX8_bitsOf_38 (by decide) (fun c_38 => ?_) (fun c_38 => ?_)
            · have he38 : i = w := by rcases (show i < w ∨ i = w by omega) with h | h; rw [f_lt hfi f_p23 hc2 (by omega)] at c_38; exact absurd c_38 (by decide); exact h
              refine lv_iload_n hx hb dX8_bitsOf_54 rfl (lv_at hl 2 rfl) ?_
              refine lv_bipush (v := 23) hx hb dX8_bitsOf_55 (by decide) ?_
              refine lv_ishl hx hb dX8_bitsOf_57 ?_
              refine lv_fload_n hx hb dX8_bitsOf_58 rfl (lv_at hl 1 rfl) ?_
              refine lv_f2i hx hb dX8_bitsOf_59 ?_
              refine lv_ldc (v := (8388608)) hx hb hown k1 dX8_bitsOf_60 ?_
              refine lv_isub hx hb dX8_bitsOf_62 ?_
              refine lv_iadd hx hb dX8_bitsOf_63 ?_
              refine lv_istore_n (lv' := [(3, .int ((g <<< (23 &&& 31)) + ((FP.f2i f) - (8388608)))), (0, .float x), (1, .float f), (2, .int g)]) hx hb dX8_bitsOf_64 rfl hl (by decide) rfl (fun ls hl => ?_)
              refine lv_fload_n hx hb dX8_bitsOf_65 rfl (lv_at hl 1 rfl) ?_
              refine lv_fconst0 hx hb dX8_bitsOf_66 ?_
              refine lv_fcmp hx hb dX8_bitsOf_67 ?_
              refine lv_if_ge (tgt := 78) hx hb dX8_bitsOf_68 (by decide) (fun c_68 => ?_) (fun c_68 => ?_)
              · refine lv_iload_n hx hb dX8_bitsOf_78 rfl (lv_at hl 0 rfl) ?_
                exact hend _ _ _ _ _ _ hP hD hS dX8_bitsOf_79 rfl rfl (by rw [hg, he38, show FP.f2i f = nI u from f_f2i (by rw [hfi, he38, Int.add_left_neg]) hc2])
              · exact absurd (show (0 : Int32) ≤ Op.cmpValue (FP.fcmp x 0) .g by rw [f_pos0 hvx (by omega)]; decide) c_68
            · have he38 : i < w := by rcases (show i < w ∨ i = w by omega) with h | h; exact h; rcases f_ge hfi f_p23 hc1 (by omega) with h2 | h2 <;> rw [h2] at c_38 <;> exact absurd (by decide) c_38
              refine lv_fload_n hx hb dX8_bitsOf_41 rfl (lv_at hl 1 rfl) ?_
              refine lv_fconst2 hx hb dX8_bitsOf_42 ?_
              refine lv_fmul hx hb dX8_bitsOf_43 (f_nn (f_dbl hfi hc1 hc2 (by omega) (by omega))) ?_
              refine lv_fstore_n (lv' := [(1, .float (FP.fmul f FP.fconst2)), (0, .float x), (2, .int g), (3, .int (nI i))]) hx hb dX8_bitsOf_44 rfl hl (by decide) rfl (fun ls hl => ?_)
              refine lv_iinc (v := g + (-1)) (lv' := [(2, .int (g + (-1))), (1, .float (FP.fmul f FP.fconst2)), (0, .float x), (3, .int (nI i))]) hx hb dX8_bitsOf_45 hl (k := 2) rfl rfl (by decide) rfl (fun ls hl => ?_)
              refine lv_iinc (v := nI (i + 1)) (lv' := [(3, .int (nI (i + 1))), (2, .int (g + (-1))), (1, .float (FP.fmul f FP.fconst2)), (0, .float x)]) hx hb dX8_bitsOf_48 hl (k := 3) rfl (nI_inc i) (by decide) rfl (fun ls hl => ?_)
              refine lv_goto (tgt := 27) hx hb dX8_bitsOf_51 (by decide) ?_
              exact ih (FP.fmul f FP.fconst2) (i + 1) (g + (-1)) (by rw [show (-(w : Int) + ((i + 1 : Nat) : Int)) = (-(w : Int) + (i : Int)) + 1 by omega]; exact f_dbl hfi hc1 hc2 (by omega) (by omega)) (by omega) (by omega) (by rw [hg, show 150 - i = (150 - (i + 1)) + 1 by omega]; exact f_dec _) _ _ _ hP hD hS (lv_sub hl [3, 2, 1, 0] rfl) 
      exact loop27 150 x 0 150 (by rw [hvx]; simp) (by omega) (by omega) rfl _ _ _ hP hD hS (lv_sub hl [3, 2, 1, 0] rfl) 
    · exact absurd (show (0 : Int32) ≤ Op.cmpValue (FP.fcmp x 0) .g by rw [f_pos0 hvx (by omega)]; decide) c_11
  · exact absurd c_3 (by show ¬ Op.cmpValue (FP.fcmp x 0) .l = 0; rw [f_pos0 hvx (by omega)]; decide)
