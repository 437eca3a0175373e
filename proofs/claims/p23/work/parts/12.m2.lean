/-! the reference: history, text, answers -/
def m_shK (kept : Nat → Int32) (k : Nat) : Nat → Int32 := fun i => if i < k then kept (i + 1080) else kept i
def m_cp (now kept : Nat → Int32) (o k : Nat) : Nat → Int32 := fun i => if o ≤ i ∧ i < o + k then now (i - o) else kept i
def m_un (kept now : Nat → Int32) (o k : Nat) : Nat → Int32 := fun i => if i < k then kept (o + i) else now i
theorem m_shK_0 (kept : Nat → Int32) : m_shK kept 0 = kept := by funext i; simp [m_shK]
theorem m_cp_0 (now kept : Nat → Int32) (o : Nat) : m_cp now kept o 0 = kept := by funext i; rw [m_cp, if_neg (by omega)]
theorem m_un_0 (kept now : Nat → Int32) (o : Nat) : m_un kept now o 0 = now := by funext i; simp [m_un]
theorem m_shK_s (kept : Nat → Int32) (k : Nat) : upd (m_shK kept k) k ((m_shK kept k) (k + 1080)) = m_shK kept (k + 1) := by
  funext i
  simp only [upd, m_shK]
  by_cases h : i = k
  · subst h; rw [if_pos rfl, if_neg (by omega), if_pos (by omega)]
  · rw [if_neg h]
    by_cases h2 : i < k
    · rw [if_pos h2, if_pos (by omega)]
    · rw [if_neg h2, if_neg (by omega)]
theorem m_cp_s (now kept : Nat → Int32) (o k : Nat) : upd (m_cp now kept o k) (o + k) (now k) = m_cp now kept o (k + 1) := by
  funext i
  simp only [upd, m_cp]
  by_cases h : i = o + k
  · subst h; rw [if_pos rfl, if_pos (by omega), show o + k - o = k by omega]
  · rw [if_neg h]
    by_cases h2 : o ≤ i ∧ i < o + k
    · rw [if_pos h2, if_pos (by omega)]
    · rw [if_neg h2, if_neg (by omega)]
theorem m_un_s (kept now : Nat → Int32) (o k : Nat) : upd (m_un kept now o k) k (kept (o + k)) = m_un kept now o (k + 1) := by
  funext i
  simp only [upd, m_un]
  by_cases h : i = k
  · subst h; rw [if_pos rfl, if_pos (by omega)]
  · rw [if_neg h]
    by_cases h2 : i < k
    · rw [if_pos h2, if_pos (by omega)]
    · rw [if_neg h2, if_neg (by omega)]
def m_rec (now kept : Nat → Int32) (ns : Nat) : Nat → Int32 := if ns < 4 then m_cp now kept (ns * 1080) 1080 else m_cp now (m_shK kept 3240) 3240 1080
def m_rns (ns : Nat) : Nat := if ns < 4 then ns + 1 else 4
def m_isEv (i t k a x : Int32) : Int32 := if m_isIn i 0 63 = 0 then 0 else if m_isIn t 0 1999 = 0 then 0 else if m_isIn k 0 5 = 0 then 0 else if m_isIn a (-100) 100 = 0 then 0 else if m_isIn x 0 3 = 0 then 0 else 1
def m_isP (now : Nat → Int32) (q : Int32) (sz : Nat) : Int32 := if m_isIn q 0 1999 = 0 then 0 else if 2000 ≤ q * nI sz then 0 else 1
def m_state (now : Nat → Int32) (pp np sz : Nat) : Int32 := if m_mode now (nI pp) np = 0 then (if m_shut now pp np sz = 0 then 0 else 1) else m_mode now (nI pp) np + 1
/-- a walk back of the watermark: panes from b on; c: how many are open again -/
def m_mvL (bef to : Int32) (np sz : Nat) : Nat → (Nat → Int32) → Nat → Nat → Nat × (Nat → Int32)
  | 0, f, _, c => (c, f)
  | n + 1, f, b, c => if bef < nI ((b + 1) * sz) then (c, f) else if nI ((b + 1) * sz) ≤ to then m_mvL bef to np sz n f (b + 1) c else if ¬ m_mode f (nI b) np = 0 then m_mvL bef to np sz n f (b + 1) c else if m_fk f (nI b) np < np then m_mvL bef to np sz n (m_takes f (m_fk f (nI b) np)) (b + 1) (c + 1) else m_mvL bef to np sz n f (b + 1) (c + 1)
def m_mvT (now : Nat → Int32) (ti : Int32) : Int32 := if -1 ≤ now 0 - ti then now 0 - ti else -1
def m_mv (now : Nat → Int32) (ti : Int32) (np sz : Nat) : Nat × (Nat → Int32) := m_mvL (now 0) (m_mvT now ti) np sz 2000 now 0 0
theorem nOk_takes {now : Nat → Int32} {k np : Nat} (h : wOk now) (hn : np ≤ 64) (h2 : nOk now np) : nOk (m_takes now k) np := by
  intro j hj
  rw [m_takes_o h (by omega) (by omega) (by omega) (by omega)]
  exact h2 j hj
theorem k_end {b sz : Nat} {bef : Int32} (h0 : 0 < sz) (h1 : sz ≤ 100) (hb : bef ≤ 1999) (hb2 : 2000 ≤ b) (hb3 : b ≤ 2000) : bef < nI ((b + 1) * sz) := by
  have h2 : (b + 1) * 1 ≤ (b + 1) * sz := Nat.mul_le_mul_left _ h0
  have h3 : (b + 1) * sz ≤ (b + 1) * 100 := Nat.mul_le_mul_left _ h1
  rw [Int32.lt_iff_toInt_lt, nI_toInt (by omega)]
  rw [Int32.le_iff_toInt_le] at hb
  have e : (1999 : Int32).toInt = 1999 := by decide
  omega
theorem k_end2 {b sz : Nat} {bef : Int32} (h0 : 0 < sz) (h1 : sz ≤ 100) (hb : bef ≤ 1999) (hc : ¬ bef < nI ((b + 1) * sz)) (hb3 : b ≤ 2000) : b < 2000 := Nat.lt_of_not_le (fun h => hc (k_end h0 h1 hb h hb3))
def m_res (now : Nat → Int32) (fr to : Int32) : Nat → Int32
  | 0 => 0
  | k + 1 => m_res now fr to k + (if ¬ now (12 + 6 * k + 0) = 1 then 0 else if m_isIn (now (12 + 6 * k + 5)) fr to = 0 then 0 else 1)
def m_cas (now : Nat → Int32) : Nat → Int32
  | 0 => 0
  | k + 1 => m_cas now k + (if ¬ now (396 + 8 * k + 1) = 2 then 0 else 1)
theorem k_dec (n : Nat) : nI n + Int32.ofInt (-1) = nI n - 1 := by rw [Int32.sub_eq_add_neg]; rfl
noncomputable def m_paneOf (now : Nat → Int32) (pp w np sz : Nat) : Int32 :=
  if w = 0 then m_state now pp np sz
  else if w < 4 then m_sumOf now sz (nI pp) (nI (w - 1))
  else if w = 4 then (if m_fk now (nI pp) np < np ∧ now (396 + 8 * m_fk now (nI pp) np + 1) = 1 then now (396 + 8 * m_fk now (nI pp) np + 2) else -1000004)
  else if w = 5 then (if m_fk now (nI pp) np < np then now (396 + 8 * m_fk now (nI pp) np + 3) else 0)
  else (if m_fk now (nI pp) np < np then now (396 + 8 * m_fk now (nI pp) np + 4) else 0)
def m_stand (now : Nat → Int32) (pp w np : Nat) : Int32 := if m_fk now (nI pp) np < np ∧ ¬ now (396 + 8 * m_fk now (nI pp) np + 5) = 0 then now (396 + 8 * m_fk now (nI pp) np + (6 + w)) else -1000004
noncomputable def m_npL (now : Nat → Int32) (np sz : Nat) : Nat → Int32 → Int32
  | 0, _ => -1000004
  | n + 1, ab => match m_nb now ab np with
    | none => -1000004
    | some k => if m_num now sz (now (396 + 8 * k + 0)) ≤ 0 then m_npL now np sz n (now (396 + 8 * k + 0)) else now (396 + 8 * k + 0)
def m_word (now : Nat → Int32) (ix w : Nat) : Int32 := if wN now ≤ ix then -1000004 else now (908 + 4 * ix + w)
def m_evOf (now : Nat → Int32) (i w sz : Nat) : Int32 := if now (12 + 6 * i + 0) = 0 then -1000004 else if w = 5 then now (12 + 6 * i + 1) / nI sz else now (12 + 6 * i + (w + 1))
def m_lness (now : Nat → Int32) (t np sz : Nat) : Int32 := if m_shut now (t / sz) np sz = 0 then -1000004 else now 0 - nI ((t / sz + 1) * sz) + 1
def m_leL (now : Nat → Int32) (key x : Int32) (np sz : Nat) : Nat → Int32
  | 0 => -1000004
  | n + 1 => if m_shut now (n / sz) np sz = 0 then m_leL now key x np sz n else if m_exc now n key x sz = 0 then m_leL now key x np sz n else nI n
def m_filed (now : Nat → Int32) (cab pl : Nat) : Int32 := if now (1068 + 4 * cab + pl) = 0 then -1000004 else now (1068 + 4 * cab + pl) - 1
def m_count (now : Nat → Int32) (ns L np : Nat) : Nat → Int32
  | 0 => m_res now 0 3 64
  | 1 => m_res now 0 1 64
  | 2 => m_res now 1 1 64
  | 3 => m_res now 2 3 64
  | 4 => now 5
  | 5 => now 0
  | 6 => now 1
  | 7 => now 9
  | 8 => now 3
  | 9 => now 4
  | 10 => m_cas now np
  | 11 => now 2
  | 12 => nI ns
  | 13 => nI L
  | 20 => now 6
  | 21 => now 7
  | 22 => now 8
  | _ => -1000001
