/-! what the pairs of calls need -/
theorem uB {now : Nat → Int32} {np z : Nat} {S : AV} {lg gr mv : Int32} (h : rA now np z S lg gr mv) : np ≤ 64 ∧ wOk now ∧ nOk now np ∧ aU S ≤ 64 ∧ aW S ≤ 40 := by
  obtain ⟨⟨-, a, -, b, c, -⟩, d, e, -⟩ := rA_good (i := 0) (t := 0) (x := 0) h (by omega) (by omega) (by omega)
  exact ⟨a, b, c, d, e⟩
theorem isIn_nat1 {v : Int32} (h : ¬ m_isIn v 1 100 = 0) : ∃ n : Nat, n ≤ 100 ∧ v = nI n := by
  have h1 := isIn1 h
  rw [show (1 : Int32).toInt = 1 by decide, show (100 : Int32).toInt = 100 by decide] at h1
  have h3 := Int32.toInt_lt v
  refine ⟨v.toInt.toNat, by omega, ?_⟩
  rw [← Int32.toInt_inj, nI_toInt (by omega)]
  omega
theorem nat_nn {v : Int32} (h : ¬ v < 0) : ∃ n : Nat, n < 2 ^ 31 ∧ v = nI n := by
  rw [Int32.lt_iff_toInt_lt, show (0 : Int32).toInt = 0 by decide] at h
  have h3 := Int32.toInt_lt v
  refine ⟨v.toInt.toNat, by omega, ?_⟩
  rw [← Int32.toInt_inj, nI_toInt (by omega)]
  omega
theorem x_ht_nat {q : Int32} {z : Nat} (h : ¬ x_ht q z = 0) : ∃ p : Nat, p < 2000 ∧ q = nI p := by
  by_cases c : m_isIn q 0 1999 = 0
  · exact absurd (by rw [x_ht, if_pos c]) h
  · obtain ⟨p, h1, h2⟩ := isIn_nat (b := 1999) c (by decide)
    exact ⟨p, by omega, h2⟩
theorem uE {i t k a x : Int32} : m_isEv i t k a x = 0 ↔ (x_isE i t k a = 0 ∨ m_isIn x 0 3 = 0) := by
  rw [m_isEv, x_isE]
  by_cases c1 : m_isIn i 0 63 = 0
  · rw [if_pos c1, if_pos c1]; simp
  · rw [if_neg c1, if_neg c1]
    by_cases c2 : m_isIn t 0 1999 = 0
    · rw [if_pos c2, if_pos c2]; simp
    · rw [if_neg c2, if_neg c2]
      by_cases c3 : m_isIn k 0 5 = 0
      · rw [if_pos c3, if_pos c3]; simp
      · rw [if_neg c3, if_neg c3]
        by_cases c4 : m_isIn a (-100) 100 = 0
        · rw [if_pos c4, if_pos c4]; simp
        · rw [if_neg c4, if_neg c4]
          by_cases c5 : m_isIn x 0 3 = 0
          · rw [if_pos c5]; simp [c5]
          · rw [if_neg c5]; simp [c5]
theorem uJ {t k x : Int32} : m_isEv 0 t k 0 x = 0 ↔ (m_isIn t 0 1999 = 0 ∨ m_isIn k 0 5 = 0 ∨ m_isIn x 0 3 = 0) := by
  rw [m_isEv, if_neg (show ¬ m_isIn 0 0 63 = 0 by decide)]
  by_cases c2 : m_isIn t 0 1999 = 0
  · rw [if_pos c2]; simp [c2]
  · rw [if_neg c2]
    by_cases c3 : m_isIn k 0 5 = 0
    · rw [if_pos c3]; simp [c3]
    · rw [if_neg c3, if_neg (show ¬ m_isIn 0 (-100) 100 = 0 by decide)]
      by_cases c5 : m_isIn x 0 3 = 0
      · rw [if_pos c5]; simp [c5]
      · rw [if_neg c5]; simp [c2, c3, c5]
theorem uCt {x : Int32} (h : ¬ (m_isIn x 20 22 = 0 ∧ (x < 0 ∨ 13 < x))) : ∃ w : Nat, x = nI w ∧ (w < 14 ∨ (20 ≤ w ∧ w < 23)) := by
  by_cases c : m_isIn x 20 22 = 0
  · have h2 : ¬ (x < 0 ∨ 13 < x) := fun e => h ⟨c, e⟩
    obtain ⟨n, h3, h4⟩ := nat_nn (fun e => h2 (Or.inl e))
    refine ⟨n, h4, Or.inl ?_⟩
    have h5 : ¬ (13 : Int32) < nI n := fun e => h2 (Or.inr (by rw [h4]; exact e))
    rw [Int32.lt_iff_toInt_lt, nI_toInt h3, show (13 : Int32).toInt = 13 by decide] at h5
    omega
  · have h1 := isIn1 c
    rw [show (20 : Int32).toInt = 20 by decide, show (22 : Int32).toInt = 22 by decide] at h1
    refine ⟨x.toInt.toNat, ?_, Or.inr (by omega)⟩
    rw [← Int32.toInt_inj, nI_toInt (by omega)]
    omega
theorem uCh : ∀ c : Nat, c < 127 → ((nI c).toUInt32 % 65536).toInt32 = nI c ∧ (nI c).toUInt32.toUInt16.toUInt32.toInt32 = nI c := by decide +kernel
theorem uCh2 {ch : Int32} (h : ¬ m_isIn ch 32 126 = 0) : (ch.toUInt32 % 65536).toInt32 = ch ∧ vp_nar .char ch = ch ∧ narrow .char (.int ch) = .int ch := by
  have h1 := isIn1 h
  rw [show (32 : Int32).toInt = 32 by decide, show (126 : Int32).toInt = 126 by decide] at h1
  have e : ch = nI ch.toInt.toNat := by
    rw [← Int32.toInt_inj, nI_toInt (by omega)]
    omega
  obtain ⟨h2, h3⟩ := uCh ch.toInt.toNat (by omega)
  rw [← e] at h2 h3
  have h4 : narrow .char (.int ch) = .int ch := by
    show Value.int ch.toUInt32.toUInt16.toUInt32.toInt32 = .int ch
    rw [h3]
  refine ⟨h2, ?_, h4⟩
  rw [vp_nar, h4]
theorem uV {v : Nat} (h : v < 2000) : nI v ≤ 1999 ∧ ¬ nI v = -1 := by
  refine ⟨?_, fun e => ?_⟩
  · rw [Int32.le_iff_toInt_le, nI_toInt (by omega), show (1999 : Int32).toInt = 1999 by decide]; omega
  · have h2 := congrArg Int32.toInt e
    rw [nI_toInt (by omega), show (-1 : Int32).toInt = -1 by decide] at h2
    omega
