/-! floats: a quotient of two numbers of like size is normal -/
theorem f_rr {s : Bool} {A B k : Nat} {e q : Int} (hk : (e - q).toNat = k) (hk0 : (q - e).toNat = 0) (hA : 0 < A) (hB : 0 < B) (hl : 8388608 * B ≤ A * 2 ^ k) (hu : A * 2 ^ k < 16777216 * B) (h1 : -149 ≤ q) (h2 : q ≤ 100) :
    ∃ c r, FP.Core.roundRatio FP.Core.b32 s A B e = .fin s c r ∧ 8388608 ≤ c ∧ c < 16777216 ∧ q ≤ r ∧ r ≤ q + 1 := by
  have hq : FP.Core.quantum FP.Core.b32 A B e = q := by
    refine FP.Core.quantum_eq hA hB h1 ?_ (.inr fun hb => ?_)
    · refine (FP.Core.units_below A B e q 24).mp ?_
      unfold FP.Core.unitsNum FP.Core.unitsDen
      rw [hk, hk0]
      omega
    · have h := (FP.Core.units_below A B e q 23).mpr hb
      unfold FP.Core.unitsNum FP.Core.unitsDen at h
      rw [hk, hk0] at h
      omega
  unfold FP.Core.roundRatio
  rw [if_neg (by omega), hq]
  unfold FP.Core.roundAt FP.Core.unitsNum FP.Core.unitsDen
  rw [hk, hk0, Nat.pow_zero, Nat.mul_one]
  have n1 := FP.Core.nearest_ge (A := A * 2 ^ k) hB hl
  have n2 := FP.Core.nearest_le (A := A * 2 ^ k) hB (Nat.le_of_lt hu)
  generalize FP.Core.nearest (A * 2 ^ k) B = N at n1 n2
  unfold FP.Core.settle FP.Core.bound
  by_cases hN : N < 16777216
  · refine ⟨N, q, ?_, n1, hN, by omega, by omega⟩
    rw [if_pos (show N < 2 ^ FP.Core.b32.p from hN), if_pos (show q ≤ FP.Core.b32.qmax from (show q ≤ (104 : Int) by omega))]
  · refine ⟨8388608, q + 1, ?_, by decide, by decide, by omega, by omega⟩
    rw [if_neg (show ¬ N < 2 ^ FP.Core.b32.p from hN), if_pos (show q + 1 ≤ FP.Core.b32.qmax from (show q + 1 ≤ (104 : Int) by omega))]
    rfl
theorem f_quo {x y : UInt32} {s : Bool} {c d : Nat} {q r : Int} (hx : FP.Core.val32 x = .fin s c q) (hy : FP.Core.val32 y = .fin false d r) (c1 : 8388608 ≤ c) (c2 : c < 16777216) (d1 : 8388608 ≤ d) (d2 : d < 16777216) (h1 : -90 ≤ q - r) (h2 : q - r ≤ 90) :
    ∃ a b, FP.Core.val32 (FP.Core.fdiv x y) = .fin s a b ∧ 8388608 ≤ a ∧ a < 16777216 ∧ q - r - 24 ≤ b ∧ b ≤ q - r - 22 := by
  rw [FP.Core.val32_fdiv, hx, hy]
  unfold FP.Core.quotient
  simp only [show ¬ d = 0 by omega, if_false, f_sb]
  by_cases h : d ≤ c
  · obtain ⟨a, b, e1, e2, e3, e4, e5⟩ := f_rr (s := s) (A := c) (B := d) (k := 23) (e := q - r) (q := q - r - 23) (by omega) (by omega) (by omega) (by omega) (by omega) (by omega) (by omega) (by omega)
    exact ⟨a, b, e1, e2, e3, by omega, by omega⟩
  · obtain ⟨a, b, e1, e2, e3, e4, e5⟩ := f_rr (s := s) (A := c) (B := d) (k := 24) (e := q - r) (q := q - r - 24) (by omega) (by omega) (by omega) (by omega) (by omega) (by omega) (by omega) (by omega)
    exact ⟨a, b, e1, e2, e3, by omega, by omega⟩
/-- a whole number, exactly -/
theorem f_i2f {a : Int32} {m : Nat} (hm : a.toInt.natAbs = m) (h0 : 0 < m) (h1 : m < 16777216) : ∃ j : Nat, j ≤ 23 ∧ FP.Core.val32 (FP.Core.i2f a) = .fin (decide (a.toInt < 0)) (m * 2 ^ j) (-(j : Int)) ∧ 8388608 ≤ m * 2 ^ j ∧ m * 2 ^ j < 16777216 := by
  obtain ⟨j, j1, j2, j3⟩ := f_norm h0 h1
  refine ⟨j, j1, ?_, j2, j3⟩
  rw [FP.Core.val32_i2f]
  unfold FP.Core.ofInt
  rw [hm]
  show FP.Core.roundRatio FP.Core.b32 _ m 1 0 = _
  refine FP.Core.roundRatio_exact FP.Core.good_b32 (by decide) ⟨j3, ?_, ?_, .inr j2⟩ ?_
  · show (-149 : Int) ≤ -(j : Int); omega
  · show -(j : Int) ≤ (104 : Int); omega
  · rw [show ((0 : Int) - -(j : Int)).toNat = j by omega, show (-(j : Int) - 0).toNat = 0 by omega]; omega
