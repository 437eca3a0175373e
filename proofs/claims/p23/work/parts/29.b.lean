/-! what the class's walks over events want of a state -/
def x_okS (S : AV) (z : Nat) (gr : Int32) (t : Nat) : Prop := (¬ p_rk (aPn S) (nI (t / z)) (aU S) < aU S → aU S < 64) ∧ (¬ p_rk (x_re S z gr t).1 (nI (t / z)) (p_mu (aPn S) (nI (t / z)) (aU S)) < p_mu (aPn S) (nI (t / z)) (aU S) → p_mu (aPn S) (nI (t / z)) (aU S) < 64)
def x_zok (S : AV) (x : Int32) : Prop := aCb S (g_for (aCb S) x * 5 + 4) = nI (x_zf S x) ∧ (g_full (aCb S) (g_for (aCb S) x) = 0 → x_zf S x < 4)
def x_good (S : AV) (z : Nat) (gr : Int32) (i t : Nat) (x : Int32) : Prop := aU S ≤ 64 ∧ aW S ≤ 40 ∧ (e_has (aEv S) i = 0 → x_okS S z gr t) ∧ x_zok S x
theorem c_ver_or (ev pn : Nat → Int32) (u : Nat) (cb : Nat → Int32) (wt : Int32) (z t : Nat) (key x : Int32) : 1 < c_ver ev pn u cb wt z t key x ∨ c_ver ev pn u cb wt z t key x = 0 ∨ c_ver ev pn u cb wt z t key x = 1 := by
  rw [c_ver]
  repeat' split
  all_goals decide
theorem x_adm_or (S : AV) (z : Nat) (lg gr : Int32) (i t : Nat) (key am x : Int32) :
    (¬ e_has (aEv S) i = 0 ∧ x_adm z lg gr S i t key am x = (4, (aEv S, aDb S + 1, aPn S, aU S, aWd S, aW S, aTl S, aTk S, aCb S, aWt S, aLt S))) ∨
    (e_has (aEv S) i = 0 ∧ 1 < x_o S z t key x ∧ x_adm z lg gr S i t key am x = (x_o S z t key x, x_mk S z lg i t key am x (x_o S z t key x) (aPn S) (aU S) (aWd S) (aW S) (aTk S) (aCb S))) ∨
    (e_has (aEv S) i = 0 ∧ x_o S z t key x = 0 ∧ x_adm z lg gr S i t key am x = (x_o S z t key x, x_mk S z lg i t key am x (x_o S z t key x) (p_add (p_mp (aPn S) (nI (t / z)) (aU S)) (p_mr (aPn S) (nI (t / z)) (aU S)) key am) (p_mu (aPn S) (nI (t / z)) (aU S)) (aWd S) (aW S) (aTk S) (aCb S))) ∨
    (e_has (aEv S) i = 0 ∧ x_o S z t key x = 1 ∧ x_adm z lg gr S i t key am x = (x_o S z t key x, x_mk S z lg i t key am x (x_o S z t key x) (p_add (p_mp (x_re S z gr t).1 (nI (t / z)) (p_mu (aPn S) (nI (t / z)) (aU S))) (p_mr (x_re S z gr t).1 (nI (t / z)) (p_mu (aPn S) (nI (t / z)) (aU S))) key am) (p_mu (x_re S z gr t).1 (nI (t / z)) (p_mu (aPn S) (nI (t / z)) (aU S))) (x_re S z gr t).2.1 (x_re S z gr t).2.2.1 (x_re S z gr t).2.2.2 (g_file (aCb S) x (nI i) (x_zf S x)))) := by
  by_cases h : e_has (aEv S) i = 0
  · have hh : ¬ ¬ e_has (aEv S) i = 0 := fun e => e h
    rcases c_ver_or (aEv S) (aPn S) (aU S) (aCb S) (aWt S) z t key x with o | o | o
    · have o' : 1 < x_o S z t key x := o
      exact Or.inr (Or.inl ⟨h, o', by rw [x_adm, if_neg hh, if_pos o']⟩)
    · have o' : x_o S z t key x = 0 := o
      have n1 : ¬ 1 < x_o S z t key x := by rw [o']; decide
      exact Or.inr (Or.inr (Or.inl ⟨h, o', by rw [x_adm, if_neg hh, if_neg n1, if_pos o']⟩))
    · have o' : x_o S z t key x = 1 := o
      have n1 : ¬ 1 < x_o S z t key x := by rw [o']; decide
      have n2 : ¬ x_o S z t key x = 0 := by rw [o']; decide
      exact Or.inr (Or.inr (Or.inr ⟨h, o', by rw [x_adm, if_neg hh, if_neg n1, if_neg n2]⟩))
  · exact Or.inl ⟨h, by rw [x_adm, if_pos h]⟩
/-! the text's events, one behind another: the class -/
/-! the reference -/
def m_cnp (now : Nat → Int32) (i t np sz : Nat) : Nat := if now (12 + 6 * i + 0) = 1 then np else m_p2 (upd now 11 1) (nI (t / sz)) np
def m_good (now : Nat → Int32) (np sz i : Nat) : Prop := now 10 = nI np ∧ np ≤ 64 ∧ now 6 = nI sz ∧ wOk now ∧ nOk now np ∧ (¬ now (12 + 6 * i + 0) = 1 → np < 64)
