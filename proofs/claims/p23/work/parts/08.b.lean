/-! floats: the steps of the two normalisations, exact -/
theorem f_two : FP.Core.val32 1073741824 = .fin false 8388608 (-22) := by decide
theorem f_p23 : FP.Core.val32 1258291200 = .fin false 8388608 0 := by decide
theorem f_zero : FP.Core.val32 0 = .fin false 0 (-149) := by decide
theorem f_sb (s : Bool) : (s != false) = s := by cases s <;> rfl
/-- times two -/
theorem f_dbl {x : UInt32} {s : Bool} {c : Nat} {q : Int} (h : FP.Core.val32 x = .fin s c q) (h1 : 8388608 ≤ c) (h2 : c < 16777216) (h3 : -149 ≤ q) (h4 : q ≤ 103) :
    FP.Core.val32 (FP.Core.fmul x 1073741824) = .fin s c (q + 1) := by
  rw [FP.Core.val32_fmul, h, f_two]
  show FP.Core.roundRatio FP.Core.b32 (s != false) (c * 8388608) 1 (q + -22) = _
  rw [f_sb]
  refine FP.Core.roundRatio_exact FP.Core.good_b32 (by decide) ⟨h2, ?_, ?_, .inr h1⟩ ?_
  · show (-149 : Int) ≤ q + 1; omega
  · show q + 1 ≤ (104 : Int); omega
  · rw [show ((q + -22) - (q + 1)).toNat = 0 by omega, show ((q + 1) - (q + -22)).toNat = 23 by omega]
    omega
theorem f_cut {v : Int} {c : Nat} (h : v = (c : Int)) (hc : c < 16777216) : Int32.ofInt (max (-2 ^ 31) (min (2 ^ 31 - 1) v)) = nI c := by
  subst h
  rw [show max (-2 ^ 31) (min (2 ^ 31 - 1) (c : Int)) = (c : Int) by omega]
  rfl
/-- a whole number between 2^23 and 2^24, told -/
theorem f_f2i {x : UInt32} {c : Nat} (h : FP.Core.val32 x = .fin false c 0) (h2 : c < 16777216) : FP.Core.f2i x = nI c := by
  show FP.Core.toI (FP.Core.val32 x) = _
  rw [h]
  exact f_cut (by rw [show FP.Core.truncate false c 0 = FP.Core.signed false (c * 2 ^ (0 : Int).toNat / 2 ^ (-(0 : Int)).toNat) from rfl]; simp [FP.Core.signed]) (by omega)
theorem f_norm {m : Nat} (h0 : 0 < m) (h1 : m < 16777216) : ∃ j, j ≤ 23 ∧ 8388608 ≤ m * 2 ^ j ∧ m * 2 ^ j < 16777216 := by
  have a1 : 2 ^ m.log2 ≤ m := Nat.log2_self_le (by omega)
  have a2 : m < 2 ^ (m.log2 + 1) := Nat.lt_log2_self
  have a3 : m.log2 ≤ 23 := by
    refine Nat.le_of_lt_succ ((Nat.pow_lt_pow_iff_right (a := 2) (by decide)).mp (Nat.lt_of_le_of_lt a1 h1))
  refine ⟨23 - m.log2, by omega, ?_, ?_⟩
  · have h := Nat.mul_le_mul_right (2 ^ (23 - m.log2)) a1
    rw [← Nat.pow_add, show m.log2 + (23 - m.log2) = 23 by omega] at h
    exact h
  · have h := Nat.mul_lt_mul_of_pos_right a2 (Nat.two_pow_pos (23 - m.log2))
    rw [← Nat.pow_add, show m.log2 + 1 + (23 - m.log2) = 24 by omega] at h
    exact h
