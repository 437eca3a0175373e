/-! STUB, while the rounds are narrow: the real texts are 22.f0 .. 23.f in wip/whole/later -/
def f_ok (x : UInt32) : Prop := x = 0
noncomputable def f_bits (x : UInt32) : Int32 := Classical.choice ⟨0⟩
theorem f_okN {x : UInt32} (h : f_ok x) : vf_n32 x := sorry
theorem f_okQ {a : Int32} {n : Nat} (ha : a.toInt.natAbs ≤ 6400) (h0 : 0 < n) (hn : n ≤ 64) : f_ok (FP.fdiv (FP.i2f a) (FP.i2f (nI n))) := sorry
theorem f_okH {k n : Nat} (hk : k ≤ 128) (h0 : 0 < n) (hn : n ≤ 64) : f_ok (FP.fdiv (f_h k) (FP.i2f (nI n))) := sorry
theorem c_X8_bitsOf (l : Launch) (D : va_G) (I C Q : ClassId) (x : UInt32) (hfk : f_ok x) : KI l D (tyL I C Q) yX8_bitsOf wsX8_bitsOf { frames := 0, cells := 0, slots := 0, locals := 0 } [.float x] [] [] (f_bits x) := sorry
theorem c_X9_bitsOf (l : Launch) (D : va_G) (I C Q : ClassId) (x : UInt32) (hfk : f_ok x) : KI l D (tyL I C Q) yX9_bitsOf wsX9_bitsOf { frames := 0, cells := 0, slots := 0, locals := 0 } [.float x] [] [] (f_bits x) := sorry
