/-! the class's court as functions -/
def p_takeQ (S : PW) (q : Int32) (u : Nat) : PW := if p_rk S.1 q u < u then p_take S (p_rk S.1 q u) else S
def c_reo (S : PW) (u : Nat) (q ca : Int32) : PW :=
  (upd (upd (p_take (p_mp S.1 q u, S.2) (p_mr S.1 q u)).1 (p_mr S.1 q u * 8 + 0) 2) (p_mr S.1 q u * 8 + 4) ca, (p_take (p_mp S.1 q u, S.2) (p_mr S.1 q u)).2)
def p_scR (lb ls wm : Int32) (u : Nat) (S : PW) : PW := p_scL lb ls wm u 0 S
theorem p_take_w {S : PW} {r : Nat} (h : S.2.2.1 ≤ 40) : (p_take S r).2.2.1 ≤ 40 := by rw [p_take]; split; exact h; exact w_n_le _
theorem p_takeQ_w {S : PW} {q : Int32} {u : Nat} (h : S.2.2.1 ≤ 40) : (p_takeQ S q u).2.2.1 ≤ 40 := by rw [p_takeQ]; split; exact p_take_w h; exact h
theorem c_reo_w {S : PW} {u : Nat} {q ca : Int32} (h : S.2.2.1 ≤ 40) : (c_reo S u q ca).2.2.1 ≤ 40 := p_take_w (S := (p_mp S.1 q u, S.2)) h
def c_state (pn : Nat → Int32) (u : Nat) (q wt : Int32) (z : Nat) : Int32 := if p_rd pn q u 0 = 0 then (if (q + 1) * nI z ≤ wt then 1 else 0) else p_rd pn q u 0
def c_acc (ev : Nat → Int32) (wt : Int32) (z t : Nat) (key x : Int32) : Int32 :=
  if x = 1 then (if 10 < wt - (nI (t / z) + 1) * nI z + 1 then 0 else 1)
  else if x = 2 then (if 40 < wt - (nI (t / z) + 1) * nI z + 1 then 0 else if ¬ e_ilL ev key 64 0 = 0 then 0 else 1)
  else if x = 3 then (if nI (t % 7) < 5 then 0 else 1) else 0
theorem c_acc_d {ev : Nat → Int32} {wt : Int32} {z t : Nat} {key x : Int32} (h : x < 1 ∨ 3 < x) : c_acc ev wt z t key x = 0 := by
  rw [c_acc, if_neg, if_neg, if_neg] <;> (intro e; subst e; revert h; decide)
def c_ver (ev pn : Nat → Int32) (u : Nat) (cb : Nat → Int32) (wt : Int32) (z t : Nat) (key x : Int32) : Int32 :=
  if c_state pn u (nI (t / z)) wt z = 3 then 3 else if ¬ c_state pn u (nI (t / z)) wt z = 1 then 0
  else if c_acc ev wt z t key x = 0 then 2 else if (if g_full cb (g_for cb x) = 0 then 1 else 0 : Int32) = 0 then 2 else 1
def c_lbs (wt : Int32) (z : Nat) : Int32 := (if 0 < wt then wt else 0) / nI z - 1
def c_ltN (lt : Int32) (t : Nat) : Int32 := if nI t ≤ lt then lt else nI t
def c_wtN (lt wt lg : Int32) (t : Nat) : Int32 := if nI t ≤ lt then wt else if nI t - lg ≤ wt then wt else nI t - lg
def c_scN (S : PW) (u : Nat) (lt wt lg : Int32) (z t : Nat) : PW := if nI t ≤ lt then S else if nI t - lg ≤ wt then S else p_scR (c_lbs wt z) ((nI t - lg) / nI z - 1) (nI t - lg) u S
theorem e_wo_lt (ev : Nat → Int32) (lo hi : Int32) : ∀ k, e_wo ev lo hi k ≤ k
  | 0 => Nat.le_refl _
  | k + 1 => by have := e_wo_lt ev lo hi k; rw [e_wo]; split <;> omega
theorem e_wo_le {ev : Nat → Int32} {lo hi : Int32} (h : nI (e_wo ev lo hi 64) ≤ 0) : e_wo ev lo hi 64 = 0 := by
  have := e_wo_lt ev lo hi 64
  have h2 := (nI_leI (a := e_wo ev lo hi 64) (b := 0) (by omega) (by omega)).mp h
  omega
theorem p_mu_le {pn : Nat → Int32} {q : Int32} {u : Nat} (hu : u ≤ 64) (hc : ¬ p_rk pn q u < u → u < 64) : p_mu pn q u ≤ 64 := by
  rw [p_mu]; split
  · exact hu
  · rename_i h; have := hc h; omega
def c_mk (wt ti : Int32) : Int32 := if -1 < wt - ti then wt - ti else -1
def c_mbL (v z u : Nat) : Nat → Nat → Nat → PW → Nat × PW
  | 0, _, cn, S => (cn, S)
  | n + 1, b, cn, S => if c_state S.1 u (nI b) (nI v) z = 1 then c_mbL v z u n (b + 1) (cn + 1) (p_takeQ S (nI b) u) else c_mbL v z u n (b + 1) cn S
