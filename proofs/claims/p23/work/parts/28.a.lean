def x_ht (q : Int32) (z : Nat) : Int32 := if m_isIn q 0 1999 = 0 then 0 else if 1999 < q * nI z then 0 else 1
def x_paneOf (pn : Nat → Int32) (u : Nat) (wt : Int32) (z : Nat) (q : Int32) (w : Nat) : Int32 := if w = 0 then c_state pn u q wt z else if w = 4 ∧ ¬ c_state pn u q wt z = 2 then -1000004 else p_rd pn q u w
noncomputable def x_mean (pn : Nat → Int32) (u : Nat) (q : Int32) : Int32 := if p_rd pn q u 1 = 0 then -1000004 else f_bits (FP.fdiv (FP.i2f (p_rd pn q u 2)) (FP.i2f (p_rd pn q u 1)))
def x_stand (pn : Nat → Int32) (u : Nat) (q : Int32) (w : Nat) : Int32 := if (if p_rk pn q u < u then p_st pn (p_rk pn q u) else 0) = 0 then -1000004 else p_rd pn q u (w + 1)
def x_count (ev : Nat → Int32) (dbl : Int32) (pn : Nat → Int32) (u : Nat) (kp tl tk sz lg gr wt lt mv xl ns : Int32) : Nat → Int32
  | 7 => kp
  | 8 => tl
  | 9 => tk
  | 10 => nI (p_cc pn u)
  | 12 => ns
  | 13 => xl
  | 20 => sz
  | 21 => lg
  | 22 => gr
  | w => c_num ev dbl wt lt mv (nI w)
