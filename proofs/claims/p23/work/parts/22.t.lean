/-- of the events before k of a key: how many; their halves -/
def m_tn (now : Nat → Int32) (key : Int32) : Nat → Nat
  | 0 => 0
  | k + 1 => if ¬ now (12 + 6 * k + 0) = 1 then m_tn now key k else if ¬ now (12 + 6 * k + 2) = key then m_tn now key k else m_tn now key k + 1
def m_th (now : Nat → Int32) (key : Int32) : Nat → Nat
  | 0 => 0
  | k + 1 => if ¬ now (12 + 6 * k + 0) = 1 then m_th now key k else if ¬ now (12 + 6 * k + 2) = key then m_th now key k else if now (12 + 6 * k + 5) = 0 then m_th now key k + 2 else if now (12 + 6 * k + 5) = 1 then m_th now key k + 1 else m_th now key k
theorem m_th_le (now : Nat → Int32) (key : Int32) : ∀ k, m_th now key k ≤ 2 * k ∧ m_tn now key k ≤ k
  | 0 => ⟨Nat.le_refl _, Nat.le_refl _⟩
  | k + 1 => by
    have h := m_th_le now key k
    rw [m_th, m_tn]
    repeat' split
    all_goals omega
noncomputable def m_trust (now : Nat → Int32) (key : Int32) : Int32 := if m_tn now key 64 = 0 then -1000004 else f_bits (FP.fdiv (f_h (m_th now key 64)) (FP.i2f (nI (m_tn now key 64))))
theorem f_add1 {h : Nat} (hh : h < 129) : FP.fadd (f_h h) FP.fconst1 = f_h (h + 2) := f_h1 h hh
theorem f_add5 {h : Nat} (hh : h < 129) : FP.fadd (f_h h) 1056964608 = f_h (h + 1) := f_h5 h hh
theorem f_add0 {h : Nat} (hh : h < 129) : FP.fadd (f_h h) FP.fconst0 = f_h h := f_hz h hh
noncomputable def m_mean (now : Nat → Int32) (sz : Nat) (q : Int32) : Int32 := if m_num now sz q = 0 then -1000004 else f_bits (FP.fdiv (FP.i2f (m_sum now sz q)) (FP.i2f (m_num now sz q)))
