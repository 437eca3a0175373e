def x_ht (q : Int32) (z : Nat) : Int32 := if m_isIn q 0 1999 = 0 then 0 else if 1999 < q * nI z then 0 else 1
def x_paneOf (pn : Nat → Int32) (u : Nat) (wt : Int32) (z : Nat) (q : Int32) (w : Nat) : Int32 := if w = 0 then c_state pn u q wt z else if w = 4 ∧ ¬ c_state pn u q wt z = 2 then -1000004 else p_rd pn q u w
noncomputable def x_mean (pn : Nat → Int32) (u : Nat) (q : Int32) : Int32 := if p_rd pn q u 1 = 0 then -1000004 else f_bits (FP.fdiv (FP.i2f (p_rd pn q u 2)) (FP.i2f (p_rd pn q u 1)))
def x_stand (pn : Nat → Int32) (u : Nat) (q : Int32) (w : Nat) : Int32 := if (if p_rk pn q u < u then p_st pn (p_rk pn q u) else 0) = 0 then -1000004 else p_rd pn q u (w + 1)
def x_lness (pn : Nat → Int32) (u : Nat) (wt : Int32) (z t : Nat) : Int32 := if c_state pn u (nI (t / z)) wt z = 1 then wt - (nI (t / z) + 1) * nI z + 1 else -1000004
noncomputable def x_trust (ev : Nat → Int32) (key : Int32) : Int32 := if e_ok ev key 0 3 64 = 0 then -1000004 else f_bits (FP.fdiv (f_h (2 * e_ok ev key 0 0 64 + e_ok ev key 1 1 64)) (FP.i2f (nI (e_ok ev key 0 3 64))))
theorem e_ok_le (ev : Nat → Int32) (key lo hi : Int32) : ∀ k, e_ok ev key lo hi k ≤ k
  | 0 => Nat.le_refl _
  | k + 1 => by
    have := e_ok_le ev key lo hi k
    rw [e_ok]
    repeat' split
    all_goals omega
theorem e_ok_two (ev : Nat → Int32) (key : Int32) : ∀ k, e_ok ev key 0 0 k + e_ok ev key 1 1 k ≤ k
  | 0 => Nat.le_refl _
  | k + 1 => by
    have := e_ok_two ev key k
    rw [e_ok, e_ok]
    by_cases h : ev (k * 7 + 1) = key
    · have hk : ¬ ¬ ev (k * 7 + 1) = key := fun q => q h
      rw [if_neg hk, if_neg hk]
      by_cases h0 : e_out ev k 0 0 = 0
      · rw [if_pos h0]; split <;> omega
      · have h1 : e_out ev k 1 1 = 0 := by
          unfold e_out at h0 ⊢
          split
          · rfl
          · rename_i hc
            rw [if_neg hc] at h0
            by_cases g1 : ev (k * 7 + 4) < 0
            · rw [if_pos g1] at h0; exact absurd rfl h0
            · rw [if_neg g1] at h0
              by_cases g2 : 0 < ev (k * 7 + 4)
              · rw [if_pos g2] at h0; exact absurd rfl h0
              · rw [if_pos]
                rw [Int32.not_lt, Int32.le_iff_toInt_le] at g2
                rw [Int32.lt_iff_toInt_lt]
                have e0 : (0 : Int32).toInt = 0 := by decide
                have e1 : (1 : Int32).toInt = 1 := by decide
                omega
        rw [if_neg h0, if_pos h1]; omega
    · rw [if_pos h, if_pos h]; omega
theorem f_hsum {a b : Nat} (h : a + b ≤ 64) : FP.fadd (FP.i2f (nI a)) (FP.fdiv (FP.i2f (nI b)) FP.fconst2) = f_h (2 * a + b) := f_hs a (by omega) b (by omega)
theorem k_lt7 {x : Int32} (h : x < 0 ∨ 13 < x) : x < 7 ∨ 13 < x := by
  rw [Int32.lt_iff_toInt_lt, Int32.lt_iff_toInt_lt] at *
  have e0 : (0 : Int32).toInt = 0 := by decide
  have e7 : (7 : Int32).toInt = 7 := by decide
  omega
theorem k_lt11 {x : Int32} (h : x < 0 ∨ 13 < x) : x < 0 ∨ 11 < x := by
  rw [Int32.lt_iff_toInt_lt, Int32.lt_iff_toInt_lt] at *
  have e1 : (13 : Int32).toInt = 13 := by decide
  have e7 : (11 : Int32).toInt = 11 := by decide
  omega
def x_count (ev : Nat → Int32) (dbl : Int32) (pn : Nat → Int32) (u : Nat) (kp tl tk sz lg gr wt lt mv xl ns : Int32) : Nat → Int32
  | 7 => kp
  | 8 => tl
  | 9 => tk
  | 10 => nI (p_cc pn u)
  | 12 => ns
  | 13 => xl
  | 20 => sz
  | 21 => lg
  | 22 => gr
  | w => c_num ev dbl wt lt mv (nI w)
