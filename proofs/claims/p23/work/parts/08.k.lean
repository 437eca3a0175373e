theorem c_X8_bitsOf (l : Launch) (D : va_G) (I C Q : ClassId) (x : UInt32) (hfk : f_ok x) : KI l D (tyL I C Q) yX8_bitsOf wsX8_bitsOf { frames := 0, cells := 0, slots := 0, locals := 0 } [.float x] [] [] (f_bits x) := by
  rcases hfk with h | ⟨s, u, w, hv, h1, h2, h3⟩
  · rw [h, f_bits0]
    exact c_X8_bitsOfZ l D I C Q 0 rfl
  · cases s
    · rw [f_bitsP hv h1]
      exact c_X8_bitsOfP l D I C Q u w x hv h1 h2 h3
    · rw [f_bitsM hv h1]
      exact c_X8_bitsOfM l D I C Q u w x hv h1 h2 h3
