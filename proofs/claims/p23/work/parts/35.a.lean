/-! what the pairs of calls need -/
theorem uB {now : Nat → Int32} {np z : Nat} {S : AV} {lg gr mv : Int32} (h : rA now np z S lg gr mv) : np ≤ 64 ∧ wOk now ∧ nOk now np ∧ aU S ≤ 64 ∧ aW S ≤ 40 := by
  obtain ⟨⟨-, a, -, b, c, -⟩, d, e, -⟩ := rA_good (i := 0) (t := 0) (x := 0) h (by omega) (by omega) (by omega)
  exact ⟨a, b, c, d, e⟩
theorem isIn_nat1 {v : Int32} (h : ¬ m_isIn v 1 100 = 0) : ∃ n : Nat, n ≤ 100 ∧ v = nI n := by
  have h1 := isIn1 h
  rw [show (1 : Int32).toInt = 1 by decide, show (100 : Int32).toInt = 100 by decide] at h1
  have h3 := Int32.toInt_lt v
  refine ⟨v.toInt.toNat, by omega, ?_⟩
  rw [← Int32.toInt_inj, nI_toInt (by omega)]
  omega
theorem uV {v : Nat} (h : v < 2000) : nI v ≤ 1999 ∧ ¬ nI v = -1 := by
  refine ⟨?_, fun e => ?_⟩
  · rw [Int32.le_iff_toInt_le, nI_toInt (by omega), show (1999 : Int32).toInt = 1999 by decide]; omega
  · have h2 := congrArg Int32.toInt e
    rw [nI_toInt (by omega), show (-1 : Int32).toInt = -1 by decide] at h2
    omega
