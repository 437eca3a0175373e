/-! what is asked for, on both sides -/
theorem isIn1 {v lo hi : Int32} (h : ¬ m_isIn v lo hi = 0) : lo.toInt ≤ v.toInt ∧ v.toInt ≤ hi.toInt := by
  rw [m_isIn0] at h
  rw [Int32.lt_iff_toInt_lt, Int32.lt_iff_toInt_lt] at h
  omega
theorem isIn_nat {v hi : Int32} {b : Nat} (h : ¬ m_isIn v 0 hi = 0) (hb : hi.toInt = (b : Int)) : ∃ n : Nat, n ≤ b ∧ v = nI n := by
  have h1 := isIn1 h
  rw [show (0 : Int32).toInt = 0 by decide] at h1
  have h3 := Int32.toInt_lt v
  refine ⟨v.toInt.toNat, by omega, ?_⟩
  rw [← Int32.toInt_inj, nI_toInt (by omega)]
  omega
theorem rA_B {now : Nat → Int32} {np sz : Nat} {S : AV} {lg gr mv : Int32} (h : rA now np sz S lg gr mv) : rB now np sz (aPn S) (aU S) (aWd S) (aW S) (aTl S) (aTk S) (fun _ => (aWt S).toInt) (fun _ => m_cn now 64 + (if mv = 1 then 1 else 0)) noE := h.2.2.2.2.2.2.2.2.2.2
theorem rA_aOk {now : Nat → Int32} {np sz : Nat} {S : AV} {lg gr mv : Int32} (h : rA now np sz S lg gr mv) : aOk now := by
  intro k hk h1
  rcases h.2.2.2.2.2.2.2.2.1 k hk with ⟨a, -⟩ | ⟨-, -, -, -, -, -, -, -, b⟩
  · rw [a] at h1; exact absurd h1 (by decide)
  · exact b
theorem mean_rel {now : Nat → Int32} {np sz pp : Nat} {S : AV} {lg gr mv : Int32} (h : rA now np sz S lg gr mv) (hp : pp < 2000) : m_mean now sz (nI pp) = x_mean (aPn S) (aU S) (nI pp) ∧ ∃ n : Nat, n ≤ 64 ∧ m_num now sz (nI pp) = nI n ∧ p_rd (aPn S) (nI pp) (aU S) 1 = nI n ∧ (m_sum now sz (nI pp)).toInt.natAbs ≤ 6400 ∧ (p_rd (aPn S) (nI pp) (aU S) 2).toInt.natAbs ≤ 6400 := by
  obtain ⟨n, a, s, ⟨g1, g2, g3, g4, g5⟩, -⟩ := (rA_B h).2.2.2.2.2.2.2.2 pp hp
  have hs := m_acc_sum sz (nI pp) (rA_aOk h) 64 (Nat.le_refl _)
  have hs2 : (m_sum now sz (nI pp)).toInt.natAbs ≤ 6400 := hs
  refine ⟨by rw [m_mean, x_mean, v_c_rd, v_c_rd, g3, g4, g1], n, g2, g1, by rw [v_c_rd]; exact g3, hs2, by rw [v_c_rd, g4]; exact hs2⟩
