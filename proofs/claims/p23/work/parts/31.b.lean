/-! the next pane, on both sides -/
theorem p_beh_some {pn : Nat → Int32} {u r : Nat} {q : Int32} (hs : sOk pn u) (hr : r < u) (h1 : q < pn (r * 8 + 7)) (h2 : ∀ j, j < r → ¬ q < pn (j * 8 + 7)) : p_beh pn q u = pn (r * 8 + 7) := by
  have hrb : p_rb pn q u = r := by
    have hle := p_rb_le pn q u
    by_cases c : p_rb pn q u < r
    · exact absurd (p_rb_at (pn := pn) (q := q) (u := u) (by omega)) (h2 _ c)
    · by_cases c2 : r < p_rb pn q u
      · exact absurd h1 (p_rb_lo c2)
      · omega
  rw [p_beh, hrb, if_pos hr]
theorem p_beh_none {pn : Nat → Int32} {u : Nat} {q : Int32} (h : ∀ j, j < u → ¬ q < pn (j * 8 + 7)) : p_beh pn q u = -1000004 := by
  rw [p_beh, if_neg]
  intro c
  exact h _ c (p_rb_at c)
/-! the latest time that could be excused, on both sides -/
