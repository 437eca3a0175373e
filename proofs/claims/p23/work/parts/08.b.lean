/-! floats: the steps of the two normalisations, exact -/
theorem f_two : FP.Core.val32 1073741824 = .fin false 8388608 (-22) := by decide
theorem f_one : FP.Core.val32 1065353216 = .fin false 8388608 (-23) := by decide
theorem f_p23 : FP.Core.val32 1258291200 = .fin false 8388608 0 := by decide
theorem f_zero : FP.Core.val32 0 = .fin false 0 (-149) := by decide
theorem f_sb (s : Bool) : (s != false) = s := by cases s <;> rfl
/-- times two -/
theorem f_dbl {x : UInt32} {s : Bool} {c : Nat} {q : Int} (h : FP.Core.val32 x = .fin s c q) (h1 : 8388608 ≤ c) (h2 : c < 16777216) (h3 : -149 ≤ q) (h4 : q ≤ 103) :
    FP.Core.val32 (FP.Core.fmul x 1073741824) = .fin s c (q + 1) := by
  rw [FP.Core.val32_fmul, h, f_two]
  show FP.Core.roundRatio FP.Core.b32 (s != false) (c * 8388608) 1 (q + -22) = _
  rw [f_sb]
  refine FP.Core.roundRatio_exact FP.Core.good_b32 (by decide) ⟨h2, ?_, ?_, .inr h1⟩ ?_
  · show (-149 : Int) ≤ q + 1; omega
  · show q + 1 ≤ (104 : Int); omega
  · rw [show ((q + -22) - (q + 1)).toNat = 0 by omega, show ((q + 1) - (q + -22)).toNat = 23 by omega]
    omega
/-- half -/
theorem f_half {x : UInt32} {s : Bool} {c : Nat} {q : Int} (h : FP.Core.val32 x = .fin s c q) (h1 : 8388608 ≤ c) (h2 : c < 16777216) (h3 : -148 ≤ q) (h4 : q ≤ 104) :
    FP.Core.val32 (FP.Core.fdiv x 1073741824) = .fin s c (q - 1) := by
  rw [FP.Core.val32_fdiv, h, f_two]
  show FP.Core.roundRatio FP.Core.b32 (s != false) c 8388608 (q - -22) = _
  rw [f_sb]
  refine FP.Core.roundRatio_exact FP.Core.good_b32 (by decide) ⟨h2, ?_, ?_, .inr h1⟩ ?_
  · show (-149 : Int) ≤ q - 1; omega
  · show q - 1 ≤ (104 : Int); omega
  · rw [show ((q - -22) - (q - 1)).toNat = 23 by omega, show ((q - 1) - (q - -22)).toNat = 0 by omega]
    omega
theorem f_cut {v : Int} {c : Nat} (h : v = (c : Int)) (hc : c < 16777216) : Int32.ofInt (max (-2 ^ 31) (min (2 ^ 31 - 1) v)) = nI c := by
  subst h
  rw [show max (-2 ^ 31) (min (2 ^ 31 - 1) (c : Int)) = (c : Int) by omega]
  rfl
/-- a whole number between 2^23 and 2^24, told -/
theorem f_f2i {x : UInt32} {c : Nat} (h : FP.Core.val32 x = .fin false c 0) (h2 : c < 16777216) : FP.Core.f2i x = nI c := by
  show FP.Core.toI (FP.Core.val32 x) = _
  rw [h]
  exact f_cut (by rw [show FP.Core.truncate false c 0 = FP.Core.signed false (c * 2 ^ (0 : Int).toNat / 2 ^ (-(0 : Int)).toNat) from rfl]; simp [FP.Core.signed]) (by omega)
theorem f_norm {m : Nat} (h0 : 0 < m) (h1 : m < 16777216) : ∃ j, j ≤ 23 ∧ 8388608 ≤ m * 2 ^ j ∧ m * 2 ^ j < 16777216 := by
  have a1 : 2 ^ m.log2 ≤ m := Nat.log2_self_le (by omega)
  have a2 : m < 2 ^ (m.log2 + 1) := Nat.lt_log2_self
  have a3 : m.log2 ≤ 23 := by
    refine Nat.le_of_lt_succ ((Nat.pow_lt_pow_iff_right (a := 2) (by decide)).mp (Nat.lt_of_le_of_lt a1 h1))
  refine ⟨23 - m.log2, by omega, ?_, ?_⟩
  · have h := Nat.mul_le_mul_right (2 ^ (23 - m.log2)) a1
    rw [← Nat.pow_add, show m.log2 + (23 - m.log2) = 23 by omega] at h
    exact h
  · have h := Nat.mul_lt_mul_of_pos_right a2 (Nat.two_pow_pos (23 - m.log2))
    rw [← Nat.pow_add, show m.log2 + 1 + (23 - m.log2) = 24 by omega] at h
    exact h
theorem f_sub1 {x : UInt32} {c : Nat} (h : FP.Core.val32 x = .fin false c (-23)) (h1 : 8388608 ≤ c) :
    FP.Core.val32 (FP.Core.fsub x 1065353216) = FP.Core.roundRatio FP.Core.b32 false (c - 8388608) 1 (-23) := by
  have hv : FP.Core.sumUnits false c (-23) true 8388608 (-23) (min (-23) (-23)) = ((c - 8388608 : Nat) : Int) := by
    simp [FP.Core.sumUnits, FP.Core.signed, FP.Core.inUnits]; omega
  rw [FP.Core.val32_fsub, h, f_one]
  simp only [FP.Core.negate, Bool.not_false, FP.Core.exactSum, hv]
  clear hv
  generalize c - 8388608 = m
  have hsg : FP.Core.sumSign false true ((m : Nat) : Int) = false := by
    unfold FP.Core.sumSign
    split
    · rfl
    · exact decide_eq_false (by omega)
  rw [hsg, Int.natAbs_natCast, show min (-23 : Int) (-23) = -23 by decide]
  rfl
/-- what X9 keeps of a number between 1 and 2: (x - 1) * 2^23 -/
theorem f_frac {x : UInt32} {c : Nat} (h : FP.Core.val32 x = .fin false c (-23)) (h1 : 8388608 ≤ c) (h2 : c < 16777216) :
    FP.Core.f2i (FP.Core.fmul (FP.Core.fsub x 1065353216) 1258291200) = nI (c - 8388608) := by
  have hs := f_sub1 h h1
  show FP.Core.toI (FP.Core.val32 _) = _
  rw [FP.Core.val32_fmul, hs, f_p23]
  by_cases h0 : c - 8388608 = 0
  · rw [h0]; rfl
  · obtain ⟨j, j1, j2, j3⟩ := f_norm (m := c - 8388608) (by omega) (by omega)
    have hm : c - 8388608 < 16777216 := by omega
    generalize c - 8388608 = m at *
    rw [show FP.Core.roundRatio FP.Core.b32 false m 1 (-23) = .fin false (m * 2 ^ j) (-23 - (j : Int)) from by
      refine FP.Core.roundRatio_exact FP.Core.good_b32 (by decide) ⟨j3, ?_, ?_, .inr j2⟩ ?_
      · show (-149 : Int) ≤ -23 - (j : Int); omega
      · show -23 - (j : Int) ≤ (104 : Int); omega
      · rw [show ((-23 : Int) - (-23 - (j : Int))).toNat = j by omega, show ((-23 - (j : Int)) - (-23)).toNat = 0 by omega]; omega]
    show FP.Core.toI (FP.Core.roundRatio FP.Core.b32 (false != false) (m * 2 ^ j * 8388608) 1 (-23 - (j : Int) + 0)) = _
    rw [show FP.Core.roundRatio FP.Core.b32 (false != false) (m * 2 ^ j * 8388608) 1 (-23 - (j : Int) + 0) = .fin false (m * 2 ^ j) (-(j : Int)) from by
      rw [f_sb]
      refine FP.Core.roundRatio_exact FP.Core.good_b32 (by decide) ⟨j3, ?_, ?_, .inr j2⟩ ?_
      · show (-149 : Int) ≤ -(j : Int); omega
      · show -(j : Int) ≤ (104 : Int); omega
      · rw [show ((-23 - (j : Int) + 0) - (-(j : Int))).toNat = 0 by omega, show ((-(j : Int)) - (-23 - (j : Int) + 0)).toNat = 23 by omega]; omega]
    refine f_cut ?_ (by omega)
    show FP.Core.signed false (m * 2 ^ j * 2 ^ (-(j : Int)).toNat / 2 ^ (- -(j : Int)).toNat) = _
    rw [show (-(j : Int)).toNat = 0 by omega, show (- -(j : Int)).toNat = j by omega, Nat.pow_zero, Nat.mul_one, Nat.mul_div_cancel _ (Nat.two_pow_pos j)]
    rfl
