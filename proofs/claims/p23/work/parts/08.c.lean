/-! floats: comparisons -/
theorem f_ordK {x K : UInt32} {d e : FP.Core.Datum} (hx : FP.Core.val32 x = d) (hK : FP.Core.val32 K = e) : FP.fcmp x K = FP.Core.order d e := by
  subst hx; subst hK; rfl
theorem f_pow1 {n : Nat} (h : 1 ≤ n) : 2 ≤ 2 ^ n := Nat.pow_le_pow_right (n := 2) (by decide) h
theorem f_lt {x K : UInt32} {c : Nat} {q r : Int} (hx : FP.Core.val32 x = .fin false c q) (hK : FP.Core.val32 K = .fin false 8388608 r) (h2 : c < 16777216) (hq : q < r) : FP.fcmp x K = some .lt := by
  rw [f_ordK hx hK, FP.Core.order]
  refine congrArg some ?_
  rw [show min q r = q by omega]
  unfold FP.Core.signed FP.Core.inUnits
  rw [show (q - q).toNat = 0 by omega, if_neg (by decide), if_neg (by decide)]
  have h := f_pow1 (n := (r - q).toNat) (by omega)
  generalize 2 ^ (r - q).toNat = k at h
  show compareOfLessAndEq _ _ = _
  rw [compareOfLessAndEq, if_pos (by omega)]
theorem f_ge {x K : UInt32} {c : Nat} {q r : Int} (hx : FP.Core.val32 x = .fin false c q) (hK : FP.Core.val32 K = .fin false 8388608 r) (h1 : 8388608 ≤ c) (hq : r ≤ q) : FP.fcmp x K = some .eq ∨ FP.fcmp x K = some .gt := by
  rw [f_ordK hx hK, FP.Core.order]
  rw [show min q r = r by omega]
  unfold FP.Core.signed FP.Core.inUnits
  rw [show (r - r).toNat = 0 by omega, if_neg (by decide), if_neg (by decide)]
  have h := Nat.two_pow_pos (q - r).toNat
  generalize 2 ^ (q - r).toNat = k at h
  have h3 : 8388608 ≤ c * k := Nat.le_trans h1 (Nat.le_mul_of_pos_right c h)
  have h4 : ¬ ((c * k : Nat) : Int) < ((8388608 * 2 ^ 0 : Nat) : Int) := by omega
  have h5 : ∀ a b : Int, ¬ a < b → some (compare a b) = some .eq ∨ some (compare a b) = some .gt := fun a b hab => by
    show some (compareOfLessAndEq a b) = _ ∨ some (compareOfLessAndEq a b) = _
    rw [compareOfLessAndEq, if_neg hab]
    split
    · exact .inl rfl
    · exact .inr rfl
  exact h5 _ _ h4
theorem f_neg0 {x : UInt32} {c : Nat} {q : Int} (hx : FP.Core.val32 x = .fin true c q) (h0 : 0 < c) : FP.fcmp x 0 = some .lt := by
  rw [f_ordK hx f_zero, FP.Core.order]
  refine congrArg some ?_
  unfold FP.Core.signed FP.Core.inUnits
  rw [if_pos rfl, if_neg (by decide), Nat.zero_mul]
  have h := Nat.two_pow_pos (q - min q (-149)).toNat
  generalize 2 ^ (q - min q (-149)).toNat = k at h
  have h3 : 0 < c * k := Nat.mul_pos h0 h
  generalize c * k = m at h3
  show compareOfLessAndEq _ _ = _
  rw [compareOfLessAndEq, if_pos (by omega)]
theorem f_pos0 {x : UInt32} {c : Nat} {q : Int} (hx : FP.Core.val32 x = .fin false c q) (h0 : 0 < c) : FP.fcmp x 0 = some .gt := by
  rw [f_ordK hx f_zero, FP.Core.order]
  refine congrArg some ?_
  unfold FP.Core.signed FP.Core.inUnits
  rw [if_neg (by decide), if_neg (by decide), Nat.zero_mul]
  have h := Nat.two_pow_pos (q - min q (-149)).toNat
  generalize 2 ^ (q - min q (-149)).toNat = k at h
  have h3 : 0 < c * k := Nat.mul_pos h0 h
  generalize c * k = m at h3
  show compareOfLessAndEq _ _ = _
  rw [compareOfLessAndEq, if_neg (by omega), if_neg (by omega)]
theorem f_nn {x : UInt32} {s : Bool} {c : Nat} {q : Int} (h : FP.Core.val32 x = .fin s c q) : vf_n32 x := by
  unfold vf_n32
  refine Decidable.byContradiction fun hn => ?_
  rw [UInt32.le_iff_toNat_le, UInt32.toNat_and, show (2147483647 : UInt32).toNat = 2 ^ 31 - 1 by decide, Nat.and_two_pow_sub_one_eq_mod, show (2139095040 : UInt32).toNat = 2139095040 by decide] at hn
  have hE : FP.Core.fieldE FP.Core.b32 x.toNat = 255 := by
    show x.toNat / 8388608 % 256 = 255
    omega
  have hT : ¬ FP.Core.fieldT FP.Core.b32 x.toNat = 0 := by
    show ¬ x.toNat % 8388608 = 0
    omega
  unfold FP.Core.val32 FP.Core.decode at h
  rw [if_pos (show FP.Core.fieldE FP.Core.b32 x.toNat = FP.Core.b32.exps - 1 from hE), if_neg hT] at h
  exact absurd h (by simp)
theorem f_dec (k : Nat) : nI (k + 1) + (-1) = nI k := by
  rw [← nI_add k 1, Int32.add_assoc, show (nI 1 + (-1) : Int32) = 0 by decide, Int32.add_zero]
