/-! the reference: history, text, answers -/
def m_rns (ns : Nat) : Nat := if ns < 4 then ns + 1 else 4
/-- a walk back of the watermark: panes from b on; c: how many are open again -/
def m_mvL (bef to : Int32) (np sz : Nat) : Nat → (Nat → Int32) → Nat → Nat → Nat × (Nat → Int32)
  | 0, f, _, c => (c, f)
  | n + 1, f, b, c => if bef < nI ((b + 1) * sz) then (c, f) else if nI ((b + 1) * sz) ≤ to then m_mvL bef to np sz n f (b + 1) c else if ¬ m_mode f (nI b) np = 0 then m_mvL bef to np sz n f (b + 1) c else if m_fk f (nI b) np < np then m_mvL bef to np sz n (m_takes f (m_fk f (nI b) np)) (b + 1) (c + 1) else m_mvL bef to np sz n f (b + 1) (c + 1)
def m_mvT (now : Nat → Int32) (ti : Int32) : Int32 := if -1 ≤ now 0 - ti then now 0 - ti else -1
def m_mv (now : Nat → Int32) (ti : Int32) (np sz : Nat) : Nat × (Nat → Int32) := m_mvL (now 0) (m_mvT now ti) np sz 2000 now 0 0
