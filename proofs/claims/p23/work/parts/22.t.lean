noncomputable def m_mean (now : Nat → Int32) (sz : Nat) (q : Int32) : Int32 := if m_num now sz q = 0 then -1000004 else f_bits (FP.fdiv (FP.i2f (m_sum now sz q)) (FP.i2f (m_num now sz q)))
