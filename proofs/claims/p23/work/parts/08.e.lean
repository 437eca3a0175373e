/-! floats: no NaN in X9's end, means and trusts -/
theorem f_subN {x : UInt32} {c : Nat} (h : FP.Core.val32 x = .fin false c (-23)) (h1 : 8388608 ≤ c) (h2 : c < 16777216) : ∃ (m : Nat) (q : Int), FP.Core.val32 (FP.Core.fsub x 1065353216) = .fin false m q := by
  rw [f_sub1 h h1]
  by_cases h0 : c - 8388608 = 0
  · rw [h0]; exact ⟨_, _, rfl⟩
  · obtain ⟨j, j1, j2, j3⟩ := f_norm (m := c - 8388608) (by omega) (by omega)
    have hm : c - 8388608 < 16777216 := by omega
    generalize c - 8388608 = m at *
    refine ⟨m * 2 ^ j, -23 - (j : Int), FP.Core.roundRatio_exact FP.Core.good_b32 (by decide) ⟨j3, ?_, ?_, .inr j2⟩ ?_⟩
    · show (-149 : Int) ≤ -23 - (j : Int); omega
    · show -23 - (j : Int) ≤ (104 : Int); omega
    · rw [show ((-23 : Int) - (-23 - (j : Int))).toNat = j by omega, show ((-23 - (j : Int)) - (-23)).toNat = 0 by omega]; omega
theorem f_mulN {x : UInt32} {c : Nat} (h : FP.Core.val32 x = .fin false c (-23)) (h1 : 8388608 ≤ c) (h2 : c < 16777216) : ∃ (m : Nat) (q : Int), FP.Core.val32 (FP.Core.fmul (FP.Core.fsub x 1065353216) 1258291200) = .fin false m q := by
  rw [FP.Core.val32_fmul, f_sub1 h h1, f_p23]
  by_cases h0 : c - 8388608 = 0
  · rw [h0]; exact ⟨_, _, rfl⟩
  · obtain ⟨j, j1, j2, j3⟩ := f_norm (m := c - 8388608) (by omega) (by omega)
    have hm : c - 8388608 < 16777216 := by omega
    generalize c - 8388608 = m at *
    rw [show FP.Core.roundRatio FP.Core.b32 false m 1 (-23) = .fin false (m * 2 ^ j) (-23 - (j : Int)) from by
      refine FP.Core.roundRatio_exact FP.Core.good_b32 (by decide) ⟨j3, ?_, ?_, .inr j2⟩ ?_
      · show (-149 : Int) ≤ -23 - (j : Int); omega
      · show -23 - (j : Int) ≤ (104 : Int); omega
      · rw [show ((-23 : Int) - (-23 - (j : Int))).toNat = j by omega, show ((-23 - (j : Int)) - (-23)).toNat = 0 by omega]; omega]
    show ∃ (a : Nat) (q : Int), FP.Core.roundRatio FP.Core.b32 (false != false) (m * 2 ^ j * 8388608) 1 (-23 - (j : Int) + 0) = .fin false a q
    rw [f_sb]
    refine ⟨m * 2 ^ j, -(j : Int), FP.Core.roundRatio_exact FP.Core.good_b32 (by decide) ⟨j3, ?_, ?_, .inr j2⟩ ?_⟩
    · show (-149 : Int) ≤ -(j : Int); omega
    · show -(j : Int) ≤ (104 : Int); omega
    · rw [show ((-23 - (j : Int) + 0) - (-(j : Int))).toNat = 0 by omega, show ((-(j : Int)) - (-23 - (j : Int) + 0)).toNat = 23 by omega]; omega
theorem f_nnS {x : UInt32} {c : Nat} (h : FP.Core.val32 x = .fin false c (-23)) (h1 : 8388608 ≤ c) (h2 : c < 16777216) : vf_n32 (FP.Core.fsub x 1065353216) := by
  obtain ⟨m, q, e⟩ := f_subN h h1 h2
  exact f_nn e
theorem f_nnM {x : UInt32} {c : Nat} (h : FP.Core.val32 x = .fin false c (-23)) (h1 : 8388608 ≤ c) (h2 : c < 16777216) : vf_n32 (FP.Core.fmul (FP.Core.fsub x 1065353216) 1258291200) := by
  obtain ⟨m, q, e⟩ := f_mulN h h1 h2
  exact f_nn e
/-- a float that is 0, or normal and of a moderate size -/
def f_ok (x : UInt32) : Prop := x = 0 ∨ ∃ (s : Bool) (u w : Nat), FP.Core.val32 x = .fin s u (-(w : Int)) ∧ 8388608 ≤ u ∧ u < 16777216 ∧ w ≤ 60
noncomputable def f_bits (x : UInt32) : Int32 := if x = 0 then 0 else match FP.Core.val32 x with
  | .fin s u q => if s = true then ((nI (150 - (-q).toNat) <<< (23 &&& 31)) + (nI u - 8388608)) ||| (-2147483648) else (nI (150 - (-q).toNat) <<< (23 &&& 31)) + (nI u - 8388608)
  | _ => 0
theorem f_bits0 : f_bits 0 = 0 := if_pos rfl
theorem f_ok0 {x : UInt32} {s : Bool} {u : Nat} {q : Int} (h : FP.Core.val32 x = .fin s u q) (h1 : 8388608 ≤ u) : ¬ x = 0 := by
  intro e
  rw [e, f_zero] at h
  injection h with _ h2 _
  omega
theorem f_bitsP {x : UInt32} {u w : Nat} (h : FP.Core.val32 x = .fin false u (-(w : Int))) (h1 : 8388608 ≤ u) : f_bits x = (nI (150 - w) <<< (23 &&& 31)) + (nI u - 8388608) := by
  unfold f_bits
  rw [if_neg (f_ok0 h h1), h]
  simp only [Bool.false_eq_true, if_false, Int.neg_neg, Int.toNat_natCast]
theorem f_bitsM {x : UInt32} {u w : Nat} (h : FP.Core.val32 x = .fin true u (-(w : Int))) (h1 : 8388608 ≤ u) : f_bits x = ((nI (150 - w) <<< (23 &&& 31)) + (nI u - 8388608)) ||| (-2147483648) := by
  unfold f_bits
  rw [if_neg (f_ok0 h h1), h]
  simp only [if_true, Int.neg_neg, Int.toNat_natCast]
theorem f_okN {x : UInt32} (h : f_ok x) : vf_n32 x := by
  rcases h with h | ⟨s, u, w, h, -, -, -⟩
  · rw [h]; unfold vf_n32; decide
  · exact f_nn h
theorem f_z0 : ∀ n < 65, 0 < n → FP.Core.fdiv 0 (FP.Core.i2f (nI n)) = 0 := by decide +kernel
theorem f_zi : FP.Core.i2f 0 = 0 := by decide +kernel
theorem f_jlo {m j B : Nat} (hm : m ≤ B) (hB : B * 1024 < 8388608) (h : 8388608 ≤ m * 2 ^ j) : 11 ≤ j := by
  refine Nat.lt_of_not_le fun hj => ?_
  have h1 : 2 ^ j ≤ 2 ^ 10 := Nat.pow_le_pow_right (n := 2) (by decide) hj
  have h2 : m * 2 ^ j ≤ B * 2 ^ 10 := Nat.mul_le_mul hm h1
  omega
theorem f_nIabs {n : Nat} (h : n ≤ 128) : (nI n).toInt.natAbs = n := by rw [nI_toInt (by omega)]; omega
/-- a mean -/
theorem f_okQ {a : Int32} {n : Nat} (ha : a.toInt.natAbs ≤ 6400) (h0 : 0 < n) (hn : n ≤ 64) : f_ok (FP.Core.fdiv (FP.Core.i2f a) (FP.Core.i2f (nI n))) := by
  by_cases hz : a = 0
  · left; rw [hz, f_zi]; exact f_z0 n (by omega) h0
  · right
    have hm : 0 < a.toInt.natAbs := by
      rcases Nat.eq_zero_or_pos a.toInt.natAbs with h | h
      · exact absurd (Int32.toInt_inj.mp (show a.toInt = (0 : Int32).toInt by rw [show (0 : Int32).toInt = 0 by decide]; omega)) hz
      · exact h
    obtain ⟨j, j1, jv, j2, j3⟩ := f_i2f (a := a) rfl hm (by omega)
    obtain ⟨k, k1, kv, k2, k3⟩ := f_i2f (a := nI n) (f_nIabs (by omega)) h0 (by omega)
    have hj := f_jlo ha (by decide) j2
    rw [show decide ((nI n).toInt < 0) = false from decide_eq_false (by rw [nI_toInt (by omega)]; omega)] at kv
    obtain ⟨u, b, e1, e2, e3, e4, e5⟩ := f_quo jv kv j2 j3 k2 k3 (by omega) (by omega)
    refine ⟨decide (a.toInt < 0), u, (-b).toNat, ?_, e2, e3, by omega⟩
    rw [e1, show -(((-b).toNat : Nat) : Int) = b by omega]
/-- half a whole number -/
theorem f_hV {k : Nat} (h0 : 0 < k) (hk : k ≤ 128) : ∃ (c j : Nat), FP.Core.val32 (f_h k) = .fin false c (-(j : Int)) ∧ 8388608 ≤ c ∧ c < 16777216 ∧ 12 ≤ j ∧ j ≤ 24 := by
  obtain ⟨j, j1, jv, j2, j3⟩ := f_i2f (a := nI k) (f_nIabs (by omega)) h0 (by omega)
  have hj := f_jlo hk (by decide) j2
  rw [show decide ((nI k).toInt < 0) = false from decide_eq_false (by rw [nI_toInt (by omega)]; omega)] at jv
  refine ⟨k * 2 ^ j, j + 1, ?_, j2, j3, by omega, by omega⟩
  have h := f_half jv j2 j3 (by omega) (by omega)
  rw [show (-(((j + 1 : Nat)) : Int)) = -(j : Int) - 1 by omega]
  exact h
/-- a trust -/
theorem f_okH {k n : Nat} (hk : k ≤ 128) (h0 : 0 < n) (hn : n ≤ 64) : f_ok (FP.Core.fdiv (f_h k) (FP.Core.i2f (nI n))) := by
  rcases Nat.eq_zero_or_pos k with hz | hz
  · left; rw [hz, f_h00]; exact f_z0 n (by omega) h0
  · right
    obtain ⟨c, j, cv, c1, c2, c3, c4⟩ := f_hV hz hk
    obtain ⟨i, k1, kv, k2, k3⟩ := f_i2f (a := nI n) (f_nIabs (by omega)) h0 (by omega)
    rw [show decide ((nI n).toInt < 0) = false from decide_eq_false (by rw [nI_toInt (by omega)]; omega)] at kv
    obtain ⟨u, b, e1, e2, e3, e4, e5⟩ := f_quo cv kv c1 c2 k2 k3 (by omega) (by omega)
    refine ⟨false, u, (-b).toNat, ?_, e2, e3, by omega⟩
    rw [e1, show -(((-b).toNat : Nat) : Int) = b by omega]
