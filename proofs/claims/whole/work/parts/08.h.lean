set_option maxHeartbeats 400000 in
set_option maxRecDepth 100000 in
theorem c_X9_bitsOfP (l : Launch) (D : va_G) (I C Q : ClassId) (u : Nat) (w : Nat) (x : UInt32) (hvx : FP.Core.val32 x = .fin false u (-(w : Int))) (hc1 : 8388608 ≤ u) (hc2 : u < 16777216) (hw : w ≤ 60) : KI l D (tyL I C Q) yX9_bitsOf wsX9_bitsOf { frames := 0, cells := 0, slots := 0, locals := 0 } [.float x] [] [] ((nI (150 - w) <<< (23 &&& 31)) + (nI u - 8388608)) := by
  refine KI.of (cc := cX9_bitsOf) (maxL := 4) (rt := .int) (own := RX9) (by decide) rfl rfl (Nat.le_of_ble_eq_true rfl) ?_
  intro p e s m below meth c A Q0 ls hx hb hml hown hts hE hA hP hD hS hl hend
  have hK := hE.1
  have hF : CallFix p m c cX9_bitsOf 4 s [.float x].toArray wsX9_bitsOf RX9 := ⟨hx, hb, hml, hown, hts⟩
  have k0 := hts (.constantFloat RX9 120 (1258291200)) (List.mem_of_getElem? (i := 1) rfl)
  have hl : lv_has ls 4 [(0, .float x)] := hl
  refine lv_fload_n hx hb dX9_bitsOf_0 rfl (lv_at hl 0 rfl) ?_
  refine lv_fconst0 hx hb dX9_bitsOf_1 ?_
  refine lv_fcmp hx hb dX9_bitsOf_2 ?_
  refine lv_if_ne (tgt := 8) hx hb dX9_bitsOf_3 (by decide) (fun c_3 => ?_) (fun c_3 => ?_)
  · refine lv_fload_n hx hb dX9_bitsOf_8 rfl (lv_at hl 0 rfl) ?_
    refine lv_fconst0 hx hb dX9_bitsOf_9 ?_
    refine lv_fcmp hx hb dX9_bitsOf_10 ?_
    refine lv_if_ge (tgt := 19) hx hb dX9_bitsOf_11 (by decide) (fun c_11 => ?_) (fun c_11 => ?_)
    · refine lv_fload_n hx hb dX9_bitsOf_19 rfl (lv_at hl 0 rfl) ?_
      refine lv_fstore_n (lv' := [(1, .float x), (0, .float x)]) hx hb dX9_bitsOf_20 rfl hl (by decide) rfl (fun ls hl => ?_)
      refine lv_bipush (v := 127) hx hb dX9_bitsOf_21 (by decide) ?_
      refine lv_istore_n (lv' := [(2, .int 127), (1, .float x), (0, .float x)]) hx hb dX9_bitsOf_23 rfl hl (by decide) rfl (fun ls hl => ?_)
      have loop24 : ∀ (n : Nat) (f : UInt32) (i : Nat) (g : Int32), (FP.Core.val32 f = .fin false u (-(w : Int) - (i : Int))) → (i = 0 ∨ w + i ≤ 23) → (i + n = 24) → (g = nI (127 + i)) → ∀ (H : Heap) (locs : List Loc) (ls : Array Slot), va_P D vwCl [] H → va_D A [] → va_S A s.heap H locs → lv_has ls 4 [(0, .float x), (1, .float f), (2, .int g)] → W p l e ({ frames := 0, cells := 0, slots := 0, locals := 0 } : Room) s m [.float x].toArray below meth c H locs 0 0 Q0 (F0 m 24 ls []) := by
        intro n
        induction n with
        | zero =>
          intro f i g hfi hiw hin hg H locs ls hP hD hS hl
          refine lv_fload_n hx hb dX9_bitsOf_24 rfl (lv_at hl 1 rfl) ?_
          refine lv_fconst2 hx hb dX9_bitsOf_25 ?_
          refine lv_fcmp hx hb dX9_bitsOf_26 ?_
          refine lv_if_lt (tgt := 40) hx hb dX9_bitsOf_27 (by decide) (fun c_27 => ?_) (fun c_27 => ?_)
          · exact absurd hin (by omega)
          · exact absurd hin (by omega)
        | succ n ih =>
          intro f i g hfi hiw hin hg H locs ls hP hD hS hl
          refine lv_fload_n hx hb dX9_bitsOf_24 rfl (lv_at hl 1 rfl) ?_
          refine lv_fconst2 hx hb dX9_bitsOf_25 ?_
          refine lv_fcmp hx hb dX9_bitsOf_26 ?_
          refine lv_if_lt (tgt := 40) hx hb dX9_bitsOf_27 (by decide) (fun c_27 => ?_) (fun c_27 => ?_)
          · have he27 : 23 ≤ w + i := by rcases (show 23 ≤ w + i ∨ w + i < 23 by omega) with h | h; exact h; rcases f_ge (K := FP.fconst2) hfi f_two hc1 (by omega) with h2 | h2 <;> rw [h2] at c_27 <;> exact absurd c_27 (by decide)
            have loop40 : ∀ (n : Nat) (f2 : UInt32) (j : Nat) (g2 : Int32), (FP.Core.val32 f2 = .fin false u (-((w + i : Nat) : Int) + (j : Int))) → (j + n = w + i - 23) → (g2 = nI (127 + i - j)) → ∀ (H : Heap) (locs : List Loc) (ls : Array Slot), va_P D vwCl [] H → va_D A [] → va_S A s.heap H locs → lv_has ls 4 [(0, .float x), (1, .float f2), (2, .int g2)] → W p l e ({ frames := 0, cells := 0, slots := 0, locals := 0 } : Room) s m [.float x].toArray below meth c H locs 0 0 Q0 (F0 m 40 ls []) := by
              intro n
              induction n with
              | zero =>
                intro f2 j g2 hfj hjw hg2 H locs ls hP hD hS hl
                refine lv_fload_n hx hb dX9_bitsOf_40 rfl (lv_at hl 1 rfl) ?_
                refine lv_fconst1 hx hb dX9_bitsOf_41 ?_
                refine lv_fcmp hx hb dX9_bitsOf_42 ?_
                refine lv_if_ge (tgt := 56) hx hb dX9_bitsOf_43 (by decide) (fun c_43 => ?_) (fun c_43 => ?_)
                · have he43 : j = w + i - 23 := by rcases (show j < w + i - 23 ∨ j = w + i - 23 by omega) with h | h; rw [f_lt (K := FP.fconst1) hfj f_one hc2 (by omega)] at c_43; exact absurd c_43 (by decide); exact h
                  refine lv_iload_n hx hb dX9_bitsOf_56 rfl (lv_at hl 2 rfl) ?_
                  refine lv_bipush (v := 23) hx hb dX9_bitsOf_57 (by decide) ?_
                  refine lv_ishl hx hb dX9_bitsOf_59 ?_
                  refine lv_fload_n hx hb dX9_bitsOf_60 rfl (lv_at hl 1 rfl) ?_
                  refine lv_fconst1 hx hb dX9_bitsOf_61 ?_
                  have hfz : FP.Core.val32 f2 = .fin false u (-23) := by rw [hfj]; congr 1; omega
                  refine lv_fsub hx hb dX9_bitsOf_62 (f_nnS hfz hc1 hc2) ?_
                  refine lv_ldcf (v := (1258291200)) hx hb hown k0 dX9_bitsOf_63 ?_
                  refine lv_fmul hx hb dX9_bitsOf_65 (f_nnM hfz hc1 hc2) ?_
                  refine lv_f2i hx hb dX9_bitsOf_66 ?_
                  refine lv_iadd hx hb dX9_bitsOf_67 ?_
                  refine lv_istore_n (lv' := [(3, .int ((g2 <<< (23 &&& 31)) + (FP.f2i (FP.fmul (FP.fsub f2 FP.fconst1) (1258291200))))), (0, .float x), (1, .float f2), (2, .int g2)]) hx hb dX9_bitsOf_68 rfl hl (by decide) rfl (fun ls hl => ?_)
                  refine lv_fload_n hx hb dX9_bitsOf_69 rfl (lv_at hl 1 rfl) ?_
                  refine lv_fconst0 hx hb dX9_bitsOf_70 ?_
                  refine lv_fcmp hx hb dX9_bitsOf_71 ?_
                  refine lv_if_ge (tgt := 82) hx hb dX9_bitsOf_72 (by decide) (fun c_72 => ?_) (fun c_72 => ?_)
                  · refine lv_iload_n hx hb dX9_bitsOf_82 rfl (lv_at hl 0 rfl) ?_
                    exact hend _ _ _ _ _ _ hP hD hS dX9_bitsOf_83 rfl rfl (by rw [hg2, show FP.f2i (FP.fmul (FP.fsub f2 FP.fconst1) 1258291200) = nI (u - 8388608) from f_frac hfz hc1 hc2, show 127 + i - j = 150 - w by omega, show nI u - 8388608 = nI (u - 8388608) from pk_sub (a := u) (b := 8388608) (by omega)])
                  · exact absurd (show (0 : Int32) ≤ Op.cmpValue (FP.fcmp x 0) .g by rw [f_pos0 hvx (by omega)]; decide) c_72
                · exact absurd (show (0 : Int32) ≤ Op.cmpValue (FP.fcmp f2 FP.fconst1) .g by rcases f_ge (K := FP.fconst1) hfj f_one hc1 (by omega) with h2 | h2 <;> rw [show FP.fcmp f2 FP.fconst1 = _ from h2] <;> decide) c_43
              | succ n ih =>
                intro f2 j g2 hfj hjw hg2 H locs ls hP hD hS hl
                refine lv_fload_n hx hb dX9_bitsOf_40 rfl (lv_at hl 1 rfl) ?_
                refine lv_fconst1 hx hb dX9_bitsOf_41 ?_
                refine lv_fcmp hx hb dX9_bitsOf_42 ?_
                refine lv_if_ge (tgt := 56) hx hb dX9_bitsOf_43 (by decide) (fun c_43 => ?_) (fun c_43 => ?_)
                · have he43 : j = w + i - 23 := by rcases (show j < w + i - 23 ∨ j = w + i - 23 by omega) with h | h; rw [f_lt (K := FP.fconst1) hfj f_one hc2 (by omega)] at c_43; exact absurd c_43 (by decide); exact h
                  refine lv_iload_n hx hb dX9_bitsOf_56 rfl (lv_at hl 2 rfl) ?_
                  refine lv_bipush (v := 23) hx hb dX9_bitsOf_57 (by decide) ?_
                  refine lv_ishl hx hb dX9_bitsOf_59 ?_
                  refine lv_fload_n hx hb dX9_bitsOf_60 rfl (lv_at hl 1 rfl) ?_
                  refine lv_fconst1 hx hb dX9_bitsOf_61 ?_
                  have hfz : FP.Core.val32 f2 = .fin false u (-23) := by rw [hfj]; congr 1; omega
                  refine lv_fsub hx hb dX9_bitsOf_62 (f_nnS hfz hc1 hc2) ?_
                  refine lv_ldcf (v := (1258291200)) hx hb hown k0 dX9_bitsOf_63 ?_
                  refine lv_fmul hx hb dX9_bitsOf_65 (f_nnM hfz hc1 hc2) ?_
                  refine lv_f2i hx hb dX9_bitsOf_66 ?_
                  refine lv_iadd hx hb dX9_bitsOf_67 ?_
                  refine lv_istore_n (lv' := [(3, .int ((g2 <<< (23 &&& 31)) + (FP.f2i (FP.fmul (FP.fsub f2 FP.fconst1) (1258291200))))), (0, .float x), (1, .float f2), (2, .int g2)]) hx hb dX9_bitsOf_68 rfl hl (by decide) rfl (fun ls hl => ?_)
                  refine lv_fload_n hx hb dX9_bitsOf_69 rfl (lv_at hl 1 rfl) ?_
                  refine lv_fconst0 hx hb dX9_bitsOf_70 ?_
                  refine lv_fcmp hx hb dX9_bitsOf_71 ?_
                  refine lv_if_ge (tgt := 82) hx hb dX9_bitsOf_72 (by decide) (fun c_72 => ?_) (fun c_72 => ?_)
                  · refine lv_iload_n hx hb dX9_bitsOf_82 rfl (lv_at hl 0 rfl) ?_
                    exact hend _ _ _ _ _ _ hP hD hS dX9_bitsOf_83 rfl rfl (by rw [hg2, show FP.f2i (FP.fmul (FP.fsub f2 FP.fconst1) 1258291200) = nI (u - 8388608) from f_frac hfz hc1 hc2, show 127 + i - j = 150 - w by omega, show nI u - 8388608 = nI (u - 8388608) from pk_sub (a := u) (b := 8388608) (by omega)])
                  · exact absurd (show (0 : Int32) ≤ Op.cmpValue (FP.fcmp x 0) .g by rw [f_pos0 hvx (by omega)]; decide) c_72
                · have he43 : j < w + i - 23 := by rcases (show j < w + i - 23 ∨ j = w + i - 23 by omega) with h | h; exact h; rcases f_ge (K := FP.fconst1) hfj f_one hc1 (by omega) with h2 | h2 <;> rw [h2] at c_43 <;> exact absurd (by decide) c_43
                  refine lv_fload_n hx hb dX9_bitsOf_46 rfl (lv_at hl 1 rfl) ?_
                  refine lv_fconst2 hx hb dX9_bitsOf_47 ?_
                  refine lv_fmul hx hb dX9_bitsOf_48 (f_nn (f_dbl hfj hc1 hc2 (by omega) (by omega))) ?_
                  refine lv_fstore_n (lv' := [(1, .float (FP.fmul f2 FP.fconst2)), (0, .float x), (2, .int g2)]) hx hb dX9_bitsOf_49 rfl hl (by decide) rfl (fun ls hl => ?_)
                  refine lv_iinc (v := g2 + (-1)) (lv' := [(2, .int (g2 + (-1))), (1, .float (FP.fmul f2 FP.fconst2)), (0, .float x)]) hx hb dX9_bitsOf_50 hl (k := 2) rfl rfl (by decide) rfl (fun ls hl => ?_)
                  refine lv_goto (tgt := 40) hx hb dX9_bitsOf_53 (by decide) ?_
                  exact ih (FP.fmul f2 FP.fconst2) (j + 1) (g2 + (-1)) (by rw [show (-((w + i : Nat) : Int) + ((j + 1 : Nat) : Int)) = (-((w + i : Nat) : Int) + (j : Int)) + 1 by omega]; exact f_dbl hfj hc1 hc2 (by omega) (by omega)) (by omega) (by rw [hg2, show 127 + i - j = (127 + i - (j + 1)) + 1 by omega]; exact f_dec _) _ _ _ hP hD hS (lv_sub hl [2, 1, 0] rfl) 
            exact loop40 (w + i - 23) f 0 g (by rw [hfi]; congr 1; omega) (by omega) hg _ _ _ hP hD hS (lv_sub hl [0, 1, 2] rfl) 
          · have he27 : w + i < 23 := by rcases (show 23 ≤ w + i ∨ w + i < 23 by omega) with h | h; rw [f_lt (K := FP.fconst2) hfi f_two hc2 (by omega)] at c_27; exact absurd (by decide) c_27; exact h
            refine lv_fload_n hx hb dX9_bitsOf_30 rfl (lv_at hl 1 rfl) ?_
            refine lv_fconst2 hx hb dX9_bitsOf_31 ?_
            refine lv_fdiv hx hb dX9_bitsOf_32 (f_nn (f_half hfi hc1 hc2 (by omega) (by omega))) ?_
            refine lv_fstore_n (lv' := [(1, .float (FP.fdiv f FP.fconst2)), (0, .float x), (2, .int g)]) hx hb dX9_bitsOf_33 rfl hl (by decide) rfl (fun ls hl => ?_)
            refine lv_iinc (v := g + 1) (lv' := [(2, .int (g + 1)), (1, .float (FP.fdiv f FP.fconst2)), (0, .float x)]) hx hb dX9_bitsOf_34 hl (k := 2) rfl rfl (by decide) rfl (fun ls hl => ?_)
            refine lv_goto (tgt := 24) hx hb dX9_bitsOf_37 (by decide) ?_
            exact ih (FP.fdiv f FP.fconst2) (i + 1) (g + 1) (by rw [show (-(w : Int) - ((i + 1 : Nat) : Int)) = (-(w : Int) - (i : Int)) - 1 by omega]; exact f_half hfi hc1 hc2 (by omega) (by omega)) (by omega) (by omega) (by rw [hg]; exact nI_inc _) _ _ _ hP hD hS (lv_sub hl [2, 1, 0] rfl) 
      exact loop24 24 x 0 127 (by rw [hvx]; simp) (by omega) (by omega) rfl _ _ _ hP hD hS (lv_sub hl [2, 1, 0] rfl) 
    · exact absurd (show (0 : Int32) ≤ Op.cmpValue (FP.fcmp x 0) .g by rw [f_pos0 hvx (by omega)]; decide) c_11
  · exact absurd c_3 (by show ¬ Op.cmpValue (FP.fcmp x 0) .l = 0; rw [f_pos0 hvx (by omega)]; decide)
