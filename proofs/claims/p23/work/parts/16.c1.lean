/-! the class's court as functions -/
def p_takeQ (S : PW) (q : Int32) (u : Nat) : PW := if p_rk S.1 q u < u then p_take S (p_rk S.1 q u) else S
def c_reo (S : PW) (u : Nat) (q ca : Int32) : PW :=
  (upd (upd (p_take (p_mp S.1 q u, S.2) (p_mr S.1 q u)).1 (p_mr S.1 q u * 8 + 0) 2) (p_mr S.1 q u * 8 + 4) ca, (p_take (p_mp S.1 q u, S.2) (p_mr S.1 q u)).2)
def p_scR (lb ls wm : Int32) (u : Nat) (S : PW) : PW := p_scL lb ls wm u 0 S
theorem p_scL_w {lb ls wm : Int32} : ∀ {n r : Nat} {S : PW}, S.2.2.1 ≤ 40 → (p_scL lb ls wm n r S).2.2.1 ≤ 40
  | 0, _, _, h => h
  | n + 1, r, S, h => by rw [p_scL]; exact p_scL_w (n := n) (p_scstep_w h)
theorem p_take_w {S : PW} {r : Nat} (h : S.2.2.1 ≤ 40) : (p_take S r).2.2.1 ≤ 40 := by rw [p_take]; split; exact h; exact w_n_le _
theorem p_takeQ_w {S : PW} {q : Int32} {u : Nat} (h : S.2.2.1 ≤ 40) : (p_takeQ S q u).2.2.1 ≤ 40 := by rw [p_takeQ]; split; exact p_take_w h; exact h
theorem c_reo_w {S : PW} {u : Nat} {q ca : Int32} (h : S.2.2.1 ≤ 40) : (c_reo S u q ca).2.2.1 ≤ 40 := p_take_w (S := (p_mp S.1 q u, S.2)) h
def c_state (pn : Nat → Int32) (u : Nat) (q wt : Int32) (z : Nat) : Int32 := if p_rd pn q u 0 = 0 then (if (q + 1) * nI z ≤ wt then 1 else 0) else p_rd pn q u 0
def c_acc (ev : Nat → Int32) (wt : Int32) (z t : Nat) (key x : Int32) : Int32 :=
  if x = 1 then (if 10 < wt - (nI (t / z) + 1) * nI z + 1 then 0 else 1)
  else if x = 2 then (if 40 < wt - (nI (t / z) + 1) * nI z + 1 then 0 else if ¬ e_ilL ev key 64 0 = 0 then 0 else 1)
  else if x = 3 then (if nI (t % 7) < 5 then 0 else 1) else 0
theorem c_acc_d {ev : Nat → Int32} {wt : Int32} {z t : Nat} {key x : Int32} (h : x < 1 ∨ 3 < x) : c_acc ev wt z t key x = 0 := by
  rw [c_acc, if_neg, if_neg, if_neg] <;> (intro e; subst e; revert h; decide)
def c_ver (ev pn : Nat → Int32) (u : Nat) (cb : Nat → Int32) (wt : Int32) (z t : Nat) (key x : Int32) : Int32 :=
  if c_state pn u (nI (t / z)) wt z = 3 then 3 else if ¬ c_state pn u (nI (t / z)) wt z = 1 then 0
  else if c_acc ev wt z t key x = 0 then 2 else if (if g_full cb (g_for cb x) = 0 then 1 else 0 : Int32) = 0 then 2 else 1
def c_liL (ev : Nat → Int32) (wt : Int32) (z : Nat) (key x : Int32) (F : Nat) : Nat → Int32
  | 0 => -1000004
  | n + 1 => if c_acc ev wt z (F + n) key x = 0 then c_liL ev wt z key x F n else nI (F + n)
def c_m7 (z : Nat) : Nat := if z < 7 then z else 7
def c_li (ev : Nat → Int32) (wt : Int32) (z b : Nat) (key x : Int32) : Int32 := c_liL ev wt z key x ((b + 1) * z - c_m7 z) (c_m7 z)
def c_laL (ev pn : Nat → Int32) (u : Nat) (wt : Int32) (z : Nat) (key x : Int32) : Nat → Int32
  | 0 => -1000004
  | b + 1 => if ¬ c_state pn u (nI b) wt z = 1 then c_laL ev pn u wt z key x b
    else if 0 ≤ c_li ev wt z b key x then c_li ev wt z b key x else if x = 3 then c_laL ev pn u wt z key x b else c_li ev wt z b key x
def c_lbs (wt : Int32) (z : Nat) : Int32 := (if 0 < wt then wt else 0) / nI z - 1
def c_ltN (lt : Int32) (t : Nat) : Int32 := if nI t ≤ lt then lt else nI t
def c_wtN (lt wt lg : Int32) (t : Nat) : Int32 := if nI t ≤ lt then wt else if nI t - lg ≤ wt then wt else nI t - lg
def c_scN (S : PW) (u : Nat) (lt wt lg : Int32) (z t : Nat) : PW := if nI t ≤ lt then S else if nI t - lg ≤ wt then S else p_scR (c_lbs wt z) ((nI t - lg) / nI z - 1) (nI t - lg) u S
theorem c_end7 {b z : Nat} (h0 : 0 < z) (h1 : z ≤ 100) (hb : b < 2000) : (if nI (b * z) < nI ((b + 1) * z) - 7 then nI ((b + 1) * z) - 7 else nI (b * z)) = nI ((b + 1) * z - c_m7 z) := by
  have e : (b + 1) * z = b * z + z := by rw [Nat.add_mul, Nat.one_mul]
  have hbz : b * z ≤ b * 100 := Nat.mul_le_mul_left _ h1
  have e7 : (nI ((b + 1) * z) - 7).toInt = ((b + 1) * z : Nat) - 7 := by
    have := pk_sub_toInt (a := (b + 1) * z) (b := 7) (by omega) (by omega)
    exact this
  rw [c_m7]
  by_cases h7 : z < 7
  · rw [if_pos h7, if_neg, e, Nat.add_sub_cancel]
    rw [Int32.not_lt, Int32.le_iff_toInt_le, e7, nI_toInt (by omega)]
    omega
  · rw [if_neg h7]
    by_cases h8 : z = 7
    · subst h8
      rw [if_neg, e, Nat.add_sub_cancel]
      rw [Int32.not_lt, Int32.le_iff_toInt_le, e7, nI_toInt (by omega)]
      omega
    · rw [if_pos]
      · exact pk_sub (a := (b + 1) * z) (b := 7) (by omega)
      · rw [Int32.lt_iff_toInt_lt, e7, nI_toInt (by omega)]
        omega
theorem e_wo_lt (ev : Nat → Int32) (lo hi : Int32) : ∀ k, e_wo ev lo hi k ≤ k
  | 0 => Nat.le_refl _
  | k + 1 => by have := e_wo_lt ev lo hi k; rw [e_wo]; split <;> omega
theorem e_wo_le {ev : Nat → Int32} {lo hi : Int32} (h : nI (e_wo ev lo hi 64) ≤ 0) : e_wo ev lo hi 64 = 0 := by
  have := e_wo_lt ev lo hi 64
  have h2 := (nI_leI (a := e_wo ev lo hi 64) (b := 0) (by omega) (by omega)).mp h
  omega
theorem k_m1lt {F : Nat} (h : F < 2 ^ 30) : nI (F + 0) - 1 < nI F := by
  have := pk_sub_toInt (a := F + 0) (b := 1) (by omega) (by omega)
  rw [Int32.lt_iff_toInt_lt, nI_toInt (by omega)]
  have e : (nI (F + 0) - 1).toInt = ((F + 0 : Nat) : Int) - 1 := this
  omega
theorem c_m7_le {z b : Nat} : c_m7 z ≤ (b + 1) * z := by
  have : 1 * z ≤ (b + 1) * z := Nat.mul_le_mul_right _ (by omega)
  rw [c_m7]; split <;> omega
theorem k_m1div {z : Nat} (h0 : 0 < z) (h1 : z ≤ 100) : (-1 : Int32) / nI z - 1 < 0 := by
  have h : ∀ y : Fin 101, 0 < y.val → (-1 : Int32) / nI y.val - 1 < 0 := by decide +kernel
  exact h ⟨z, by omega⟩ h0
theorem p_mu_le {pn : Nat → Int32} {q : Int32} {u : Nat} (hu : u ≤ 64) (hc : ¬ p_rk pn q u < u → u < 64) : p_mu pn q u ≤ 64 := by
  rw [p_mu]; split
  · exact hu
  · rename_i h; have := hc h; omega
def c_mk (wt ti : Int32) : Int32 := if -1 < wt - ti then wt - ti else -1
def c_mbL (v z u : Nat) : Nat → Nat → Nat → PW → Nat × PW
  | 0, _, cn, S => (cn, S)
  | n + 1, b, cn, S => if c_state S.1 u (nI b) (nI v) z = 1 then c_mbL v z u n (b + 1) (cn + 1) (p_takeQ S (nI b) u) else c_mbL v z u n (b + 1) cn S
