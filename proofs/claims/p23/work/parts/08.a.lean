/-! floats: the halves of trust -/
def f_h (k : Nat) : UInt32 := FP.fdiv (FP.i2f (nI k)) 1073741824
theorem f_h1 : ∀ k < 129, FP.fadd (f_h k) 1065353216 = f_h (k + 2) := by decide +kernel
theorem f_h5 : ∀ k < 129, FP.fadd (f_h k) 1056964608 = f_h (k + 1) := by decide +kernel
theorem f_hz : ∀ k < 129, FP.fadd (f_h k) 0 = f_h k := by decide +kernel
theorem f_h00 : f_h 0 = 0 := by decide +kernel
theorem f_hs : ∀ a < 65, ∀ b < 65 - a, FP.fadd (FP.i2f (nI a)) (FP.fdiv (FP.i2f (nI b)) 1073741824) = f_h (2 * a + b) := by decide +kernel
theorem f_hN : ∀ k < 131, vf_n32 (f_h k) := by unfold vf_n32; decide +kernel
