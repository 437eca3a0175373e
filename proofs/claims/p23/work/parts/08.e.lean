/-! floats: no NaN in X9's end, means and trusts -/
/-- a float that is 0, or normal and of a moderate size -/
def f_ok (x : UInt32) : Prop := x = 0 ∨ ∃ (s : Bool) (u w : Nat), FP.Core.val32 x = .fin s u (-(w : Int)) ∧ 8388608 ≤ u ∧ u < 16777216 ∧ w ≤ 60
noncomputable def f_bits (x : UInt32) : Int32 := if x = 0 then 0 else match FP.Core.val32 x with
  | .fin s u q => if s = true then ((nI (150 - (-q).toNat) <<< (23 &&& 31)) + (nI u - 8388608)) ||| (-2147483648) else (nI (150 - (-q).toNat) <<< (23 &&& 31)) + (nI u - 8388608)
  | _ => 0
theorem f_bits0 : f_bits 0 = 0 := if_pos rfl
theorem f_ok0 {x : UInt32} {s : Bool} {u : Nat} {q : Int} (h : FP.Core.val32 x = .fin s u q) (h1 : 8388608 ≤ u) : ¬ x = 0 := by
  intro e
  rw [e, f_zero] at h
  injection h with _ h2 _
  omega
theorem f_bitsP {x : UInt32} {u w : Nat} (h : FP.Core.val32 x = .fin false u (-(w : Int))) (h1 : 8388608 ≤ u) : f_bits x = (nI (150 - w) <<< (23 &&& 31)) + (nI u - 8388608) := by
  unfold f_bits
  rw [if_neg (f_ok0 h h1), h]
  simp only [Bool.false_eq_true, if_false, Int.neg_neg, Int.toNat_natCast]
theorem f_bitsM {x : UInt32} {u w : Nat} (h : FP.Core.val32 x = .fin true u (-(w : Int))) (h1 : 8388608 ≤ u) : f_bits x = ((nI (150 - w) <<< (23 &&& 31)) + (nI u - 8388608)) ||| (-2147483648) := by
  unfold f_bits
  rw [if_neg (f_ok0 h h1), h]
  simp only [if_true, Int.neg_neg, Int.toNat_natCast]
theorem f_okN {x : UInt32} (h : f_ok x) : vf_n32 x := by
  rcases h with h | ⟨s, u, w, h, -, -, -⟩
  · rw [h]; unfold vf_n32; decide
  · exact f_nn h
theorem f_z0 : ∀ n < 65, 0 < n → FP.Core.fdiv 0 (FP.Core.i2f (nI n)) = 0 := by decide +kernel
theorem f_zi : FP.Core.i2f 0 = 0 := by decide +kernel
theorem f_jlo {m j B : Nat} (hm : m ≤ B) (hB : B * 1024 < 8388608) (h : 8388608 ≤ m * 2 ^ j) : 11 ≤ j := by
  refine Nat.lt_of_not_le fun hj => ?_
  have h1 : 2 ^ j ≤ 2 ^ 10 := Nat.pow_le_pow_right (n := 2) (by decide) hj
  have h2 : m * 2 ^ j ≤ B * 2 ^ 10 := Nat.mul_le_mul hm h1
  omega
theorem f_nIabs {n : Nat} (h : n ≤ 128) : (nI n).toInt.natAbs = n := by rw [nI_toInt (by omega)]; omega
/-- a mean -/
theorem f_okQ {a : Int32} {n : Nat} (ha : a.toInt.natAbs ≤ 6400) (h0 : 0 < n) (hn : n ≤ 64) : f_ok (FP.Core.fdiv (FP.Core.i2f a) (FP.Core.i2f (nI n))) := by
  by_cases hz : a = 0
  · left; rw [hz, f_zi]; exact f_z0 n (by omega) h0
  · right
    have hm : 0 < a.toInt.natAbs := by
      rcases Nat.eq_zero_or_pos a.toInt.natAbs with h | h
      · exact absurd (Int32.toInt_inj.mp (show a.toInt = (0 : Int32).toInt by rw [show (0 : Int32).toInt = 0 by decide]; omega)) hz
      · exact h
    obtain ⟨j, j1, jv, j2, j3⟩ := f_i2f (a := a) rfl hm (by omega)
    obtain ⟨k, k1, kv, k2, k3⟩ := f_i2f (a := nI n) (f_nIabs (by omega)) h0 (by omega)
    have hj := f_jlo ha (by decide) j2
    rw [show decide ((nI n).toInt < 0) = false from decide_eq_false (by rw [nI_toInt (by omega)]; omega)] at kv
    obtain ⟨u, b, e1, e2, e3, e4, e5⟩ := f_quo jv kv j2 j3 k2 k3 (by omega) (by omega)
    refine ⟨decide (a.toInt < 0), u, (-b).toNat, ?_, e2, e3, by omega⟩
    rw [e1, show -(((-b).toNat : Nat) : Int) = b by omega]
