/-! the class's tables, events, cabinets, words, panes as functions -/
theorem k_rc {r rn c cn : Nat} (h1 : r < rn) (h2 : c < cn) : r * cn + c < rn * cn := by
  have : (r + 1) * cn ≤ rn * cn := Nat.mul_le_mul_right _ h1
  rw [Nat.add_mul] at this
  omega
abbrev wTT (I : ClassId) (b0 b1 o0 o1 : Nat) (rn cn : Nat) (cf cg : Nat → Int32) : va_W := [(b0, .inr (5, [.int (nI rn), .int (nI cn), .ref b1])), (b1, .inl (I, rn * cn, .inl cf)), (o0, .inr (5, [.int (nI rn), .int (nI cn), .ref o1])), (o1, .inl (I, rn * cn, .inl cg))]
def p_open (cf : Nat → Int32) (r : Nat) : Nat → Int32 :=
  upd (upd (upd (upd (upd (upd (upd (upd (va_cpy cf cf (r * 8) (r * 8 + 8) (64 * 8 - (r * 8 + 8))) (r * 8 + 0) 0) (r * 8 + 1) 0) (r * 8 + 2) 0) (r * 8 + 3) 0) (r * 8 + 4) 0) (r * 8 + 5) 0) (r * 8 + 6) 0) (r * 8 + 7) 0
def e_has (ev : Nat → Int32) (i : Nat) : Int32 := if ¬ ev (i * 7 + 6) = 1 then 0 else 1
def e_out (ev : Nat → Int32) (i : Nat) (lo hi : Int32) : Int32 := if ¬ ev (i * 7 + 6) = 1 then 0 else if ev (i * 7 + 4) < lo then 0 else if hi < ev (i * 7 + 4) then 0 else 1
def e_wo (ev : Nat → Int32) (lo hi : Int32) : Nat → Nat
  | 0 => 0
  | k + 1 => if e_out ev k lo hi = 0 then e_wo ev lo hi k else e_wo ev lo hi k + 1
def e_ilL (ev : Nat → Int32) (key : Int32) : Nat → Nat → Int32
  | 0, _ => 0
  | n + 1, k => if ¬ ev (k * 7 + 1) = key then e_ilL ev key n (k + 1) else if ¬ ev (k * 7 + 3) = 2 then e_ilL ev key n (k + 1) else if e_out ev k 1 1 = 0 then e_ilL ev key n (k + 1) else 1
def e_rd (ev : Nat → Int32) (i w : Nat) : Int32 := if e_has ev i = 0 then -1000004 else ev (i * 7 + w)
def e_ent (ev : Nat → Int32) (i : Nat) (t key am x : Int32) : Nat → Int32 := upd (upd (upd (upd (upd ev (i * 7 + 0) t) (i * 7 + 1) key) (i * 7 + 2) am) (i * 7 + 3) x) (i * 7 + 6) 1
def e_con (ev : Nat → Int32) (i : Nat) (o q : Int32) : Nat → Int32 := upd (upd ev (i * 7 + 4) o) (i * 7 + 5) q
def g_full (cb : Nat → Int32) (c : Nat) : Int32 := if cb (c * 5 + 4) < 4 then 0 else 1
def g_for (cb : Nat → Int32) (x : Int32) : Nat := if x = 1 ∧ g_full cb 0 = 0 then 0 else if x = 2 ∧ g_full cb 1 = 0 then 1 else 2
theorem g_for_lt (cb : Nat → Int32) (x : Int32) : g_for cb x < 3 := by rw [g_for]; repeat' split
                                                                       all_goals omega
def g_rd (cb : Nat → Int32) (c pl : Nat) : Int32 := if cb (c * 5 + 4) ≤ nI pl then -1000004 else cb (c * 5 + pl)
def g_file (cb : Nat → Int32) (x id : Int32) (z : Nat) : Nat → Int32 := if ¬ g_full cb (g_for cb x) = 0 then cb else upd (upd cb (g_for cb x * 5 + z) id) (g_for cb x * 5 + 4) (nI (z + 1))
def w_n (w : Nat) : Nat := if w < 40 then w + 1 else 40
def w_add (wd : Nat → Int32) (w : Nat) (kd pa ma su : Int32) : Nat → Int32 :=
  if w < 40 then upd (upd (upd (upd wd (w * 4 + 0) kd) (w * 4 + 1) pa) (w * 4 + 2) ma) (w * 4 + 3) su
  else upd (upd (upd (upd (va_cpy wd wd 4 0 156) (39 * 4 + 0) kd) (39 * 4 + 1) pa) (39 * 4 + 2) ma) (39 * 4 + 3) su
def p_rkL (pn : Nat → Int32) (q : Int32) : Nat → Nat → Nat
  | 0, k => k
  | n + 1, k => if pn (k * 8 + 7) = q then k else p_rkL pn q n (k + 1)
def p_rk (pn : Nat → Int32) (q : Int32) (u : Nat) : Nat := p_rkL pn q u 0
def p_row (pn : Nat → Int32) (q : Int32) (u : Nat) : Int32 := if p_rk pn q u < u then nI (p_rk pn q u) else -1
theorem p_row_or (pn : Nat → Int32) (q : Int32) (u : Nat) : (p_rk pn q u < u ∧ p_row pn q u = nI (p_rk pn q u)) ∨ (¬ p_rk pn q u < u ∧ p_row pn q u = -1) := by
  by_cases h : p_rk pn q u < u
  · exact Or.inl ⟨h, by rw [p_row, if_pos h]⟩
  · exact Or.inr ⟨h, by rw [p_row, if_neg h]⟩
def p_rbL (pn : Nat → Int32) (q : Int32) : Nat → Nat → Nat
  | 0, k => k
  | n + 1, k => if q < pn (k * 8 + 7) then k else p_rbL pn q n (k + 1)
def p_rb (pn : Nat → Int32) (q : Int32) (u : Nat) : Nat := p_rbL pn q u 0
theorem p_rbL_le (pn : Nat → Int32) (q : Int32) : ∀ n k, p_rbL pn q n k ≤ k + n
  | 0, k => by simp [p_rbL]
  | n + 1, k => by
    rw [p_rbL]
    split
    · omega
    · have := p_rbL_le pn q n (k + 1); omega
theorem p_rb_le (pn : Nat → Int32) (q : Int32) (u : Nat) : p_rb pn q u ≤ u := by have := p_rbL_le pn q u 0; rw [p_rb]; omega
def p_mr (pn : Nat → Int32) (q : Int32) (u : Nat) : Nat := if p_rk pn q u < u then p_rk pn q u else p_rb pn q u
def p_mp (pn : Nat → Int32) (q : Int32) (u : Nat) : Nat → Int32 := if p_rk pn q u < u then pn else upd (p_open pn (p_rb pn q u)) (p_rb pn q u * 8 + 7) q
def p_mu (pn : Nat → Int32) (q : Int32) (u : Nat) : Nat := if p_rk pn q u < u then u else u + 1
theorem p_mr_lt {pn : Nat → Int32} {q : Int32} {u : Nat} (hu : u ≤ 64) (hc : ¬ p_rk pn q u < u → u < 64) : p_mr pn q u < 64 := by
  have := p_rb_le pn q u
  rw [p_mr]
  split
  · omega
  · rename_i h; have := hc h; omega
def p_rd (pn : Nat → Int32) (q : Int32) (u c : Nat) : Int32 := if p_rk pn q u < u then pn (p_rk pn q u * 8 + c) else 0
def p_st (pn : Nat → Int32) (r : Nat) : Int32 := if pn (r * 8 + 5) ≤ pn (r * 8 + 6) then 0 else 1
def p_beh (pn : Nat → Int32) (q : Int32) (u : Nat) : Int32 := if p_rb pn q u < u then pn (p_rb pn q u * 8 + 7) else -1000004
def p_cc (pn : Nat → Int32) : Nat → Nat
  | 0 => 0
  | k + 1 => if ¬ pn (k * 8 + 0) = 3 then p_cc pn k else p_cc pn k + 1
def p_add (pn : Nat → Int32) (r : Nat) (key am : Int32) : Nat → Int32 := upd (upd (upd pn (r * 8 + 1) (pn (r * 8 + 1) + 1)) (r * 8 + 2) (pn (r * 8 + 2) + am)) (r * 8 + 3) (pn (r * 8 + 3) ||| ((1 : Int32) <<< (key &&& 31)))
/-- panes' rows, words, how many words, words told or taken back -/
abbrev PW : Type := (Nat → Int32) × (Nat → Int32) × Nat × Int32
def p_tell (S : PW) (r : Nat) : PW := (upd S.1 (r * 8 + 5) (S.1 (r * 8 + 5) + 1), w_add S.2.1 S.2.2.1 0 (S.1 (r * 8 + 7)) (S.1 (r * 8 + 1)) (S.1 (r * 8 + 2)), w_n S.2.2.1, S.2.2.2 + 1)
def p_take (S : PW) (r : Nat) : PW := if p_st S.1 r = 0 then S else (upd S.1 (r * 8 + 6) (S.1 (r * 8 + 6) + 1), w_add S.2.1 S.2.2.1 1 (S.1 (r * 8 + 7)) (S.1 (r * 8 + 1)) (S.1 (r * 8 + 2)), w_n S.2.2.1, S.2.2.2 + 1)
theorem w_n_le (w : Nat) : w_n w ≤ 40 := by rw [w_n]; split <;> omega
def p_scstep (lb ls wm : Int32) (S : PW) (r : Nat) : PW :=
  if S.1 (r * 8 + 0) = 0 then (if m_isIn (S.1 (r * 8 + 7)) (lb + 1) ls = 0 then S else p_tell S r)
  else if ¬ S.1 (r * 8 + 0) = 2 then S else if wm < S.1 (r * 8 + 4) then S else p_tell (upd S.1 (r * 8 + 0) 3, S.2) r
def p_scL (lb ls wm : Int32) : Nat → Nat → PW → PW
  | 0, _, S => S
  | n + 1, r, S => p_scL lb ls wm n (r + 1) (p_scstep lb ls wm S r)
theorem p_scstep_w {lb ls wm : Int32} {S : PW} {r : Nat} (h : S.2.2.1 ≤ 40) : (p_scstep lb ls wm S r).2.2.1 ≤ 40 := by
  rw [p_scstep]
  repeat' split
  all_goals first | exact h | exact w_n_le _
theorem p_st_b (pn : Nat → Int32) (r : Nat) : narrow .boolean (.int (p_st pn r)) = .int (p_st pn r) := by
  rw [p_st]
  split
  all_goals decide
