/-! the class's text as functions -/
/-- place, number, id, time, key, amount, excuse -/
abbrev XJ : Type := Int32 × Int32 × Int32 × Int32 × Int32 × Int32 × Int32
def x_isE (i t k a : Int32) : Int32 := if m_isIn i 0 63 = 0 then 0 else if m_isIn t 0 1999 = 0 then 0 else if m_isIn k 0 5 = 0 then 0 else if m_isIn a (-100) 100 = 0 then 0 else 1
def c_num (ev : Nat → Int32) (dbl wt lt mv x : Int32) : Int32 :=
  if x = 0 then nI (e_wo ev 0 3 64) else if x = 1 then nI (e_wo ev 0 1 64) else if x = 2 then nI (e_wo ev 1 1 64) else if x = 3 then nI (e_wo ev 2 3 64)
  else if x = 4 then dbl else if x = 5 then wt else if x = 6 then lt else (if mv = 0 then 0 else 1)
