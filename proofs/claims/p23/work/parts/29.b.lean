/-! what the class's walks over events want of a state -/
def x_okS (S : AV) (z : Nat) (gr : Int32) (t : Nat) : Prop := (¬ p_rk (aPn S) (nI (t / z)) (aU S) < aU S → aU S < 64) ∧ (¬ p_rk (x_re S z gr t).1 (nI (t / z)) (p_mu (aPn S) (nI (t / z)) (aU S)) < p_mu (aPn S) (nI (t / z)) (aU S) → p_mu (aPn S) (nI (t / z)) (aU S) < 64)
def x_zok (S : AV) (x : Int32) : Prop := aCb S (g_for (aCb S) x * 5 + 4) = nI (x_zf S x) ∧ (g_full (aCb S) (g_for (aCb S) x) = 0 → x_zf S x < 4)
def x_good (S : AV) (z : Nat) (gr : Int32) (i t : Nat) (x : Int32) : Prop := aU S ≤ 64 ∧ aW S ≤ 40 ∧ (e_has (aEv S) i = 0 → x_okS S z gr t) ∧ x_zok S x
theorem c_ver_or (ev pn : Nat → Int32) (u : Nat) (cb : Nat → Int32) (wt : Int32) (z t : Nat) (key x : Int32) : 1 < c_ver ev pn u cb wt z t key x ∨ c_ver ev pn u cb wt z t key x = 0 ∨ c_ver ev pn u cb wt z t key x = 1 := by
  rw [c_ver]
  repeat' split
  all_goals decide
theorem x_adm_or (S : AV) (z : Nat) (lg gr : Int32) (i t : Nat) (key am x : Int32) :
    (¬ e_has (aEv S) i = 0 ∧ x_adm z lg gr S i t key am x = (4, (aEv S, aDb S + 1, aPn S, aU S, aWd S, aW S, aTl S, aTk S, aCb S, aWt S, aLt S))) ∨
    (e_has (aEv S) i = 0 ∧ 1 < x_o S z t key x ∧ x_adm z lg gr S i t key am x = (x_o S z t key x, x_mk S z lg i t key am x (x_o S z t key x) (aPn S) (aU S) (aWd S) (aW S) (aTk S) (aCb S))) ∨
    (e_has (aEv S) i = 0 ∧ x_o S z t key x = 0 ∧ x_adm z lg gr S i t key am x = (x_o S z t key x, x_mk S z lg i t key am x (x_o S z t key x) (p_add (p_mp (aPn S) (nI (t / z)) (aU S)) (p_mr (aPn S) (nI (t / z)) (aU S)) key am) (p_mu (aPn S) (nI (t / z)) (aU S)) (aWd S) (aW S) (aTk S) (aCb S))) ∨
    (e_has (aEv S) i = 0 ∧ x_o S z t key x = 1 ∧ x_adm z lg gr S i t key am x = (x_o S z t key x, x_mk S z lg i t key am x (x_o S z t key x) (p_add (p_mp (x_re S z gr t).1 (nI (t / z)) (p_mu (aPn S) (nI (t / z)) (aU S))) (p_mr (x_re S z gr t).1 (nI (t / z)) (p_mu (aPn S) (nI (t / z)) (aU S))) key am) (p_mu (x_re S z gr t).1 (nI (t / z)) (p_mu (aPn S) (nI (t / z)) (aU S))) (x_re S z gr t).2.1 (x_re S z gr t).2.2.1 (x_re S z gr t).2.2.2 (g_file (aCb S) x (nI i) (x_zf S x)))) := by
  by_cases h : e_has (aEv S) i = 0
  · have hh : ¬ ¬ e_has (aEv S) i = 0 := fun e => e h
    rcases c_ver_or (aEv S) (aPn S) (aU S) (aCb S) (aWt S) z t key x with o | o | o
    · have o' : 1 < x_o S z t key x := o
      exact Or.inr (Or.inl ⟨h, o', by rw [x_adm, if_neg hh, if_pos o']⟩)
    · have o' : x_o S z t key x = 0 := o
      have n1 : ¬ 1 < x_o S z t key x := by rw [o']; decide
      exact Or.inr (Or.inr (Or.inl ⟨h, o', by rw [x_adm, if_neg hh, if_neg n1, if_pos o']⟩))
    · have o' : x_o S z t key x = 1 := o
      have n1 : ¬ 1 < x_o S z t key x := by rw [o']; decide
      have n2 : ¬ x_o S z t key x = 0 := by rw [o']; decide
      exact Or.inr (Or.inr (Or.inr ⟨h, o', by rw [x_adm, if_neg hh, if_neg n1, if_neg n2]⟩))
  · exact Or.inl ⟨h, by rw [x_adm, if_pos h]⟩
/-! the text's events, one behind another: the class -/
noncomputable def x_pi (sg : Nat → Int32) (L b : Nat) : Nat := (x_T1 sg L b).2.2.toNatClampNeg
noncomputable def x_pt (sg : Nat → Int32) (L b : Nat) : Nat := (x_T2 sg L b).2.2.toNatClampNeg
noncomputable def x_pad (sg : Nat → Int32) (L z : Nat) (lg gr : Int32) (b : Nat) (S : AV) : Int32 × AV := x_adm z lg gr S (x_pi sg L b) (x_pt sg L b) (x_T3 sg L b).2.2 (x_am sg L b) (x_ex sg L b)
def x_pgL (sg : Nat → Int32) (L z : Nat) (lg gr : Int32) : Nat → Nat → AV → Prop
  | 0, b, _ => True
  | n + 1, b, S => L ≤ b ∨ (¬ x_eo sg L b = 0 ∧ ((x_T1 sg L b).2.2 = nI (x_pi sg L b) ∧ x_pi sg L b < 64) ∧ ((x_T2 sg L b).2.2 = nI (x_pt sg L b) ∧ x_pt sg L b < 2000) ∧ x_good S z gr (x_pi sg L b) (x_pt sg L b) (x_ex sg L b) ∧ x_pgL sg L z lg gr n (x_en sg L b) (x_pad sg L z lg gr b S).2)
noncomputable def x_plL (sg : Nat → Int32) (L z : Nat) (lg gr : Int32) : Nat → Nat → XJ → AV → Nat → Nat × XJ × AV
  | 0, _, J, S, cn => (cn, J, S)
  | n + 1, b, J, S, cn => if L ≤ b then (cn, J, S) else x_plL sg L z lg gr n (x_en sg L b) (x_J sg L b) (x_pad sg L z lg gr b S).2 (if 1 < (x_pad sg L z lg gr b S).1 then cn else cn + 1)
/-! the reference -/
noncomputable def m_pR (text : Nat → Int32) (L b : Nat) (rd : Nat → Int32) : Nat → Int32 := (t_ev text L b rd).2.2.2
noncomputable def m_pi (text : Nat → Int32) (L b : Nat) (rd : Nat → Int32) : Nat := (m_pR text L b rd 0).toNatClampNeg
noncomputable def m_pt (text : Nat → Int32) (L b : Nat) (rd : Nat → Int32) : Nat := (m_pR text L b rd 1).toNatClampNeg
noncomputable def m_px (text : Nat → Int32) (L b : Nat) (rd : Nat → Int32) : Nat := (m_pR text L b rd 4).toNatClampNeg
noncomputable def m_pco (text : Nat → Int32) (L sz b : Nat) (rd now : Nat → Int32) (np : Nat) : Int32 × (Nat → Int32) := m_come now (m_pi text L b rd) (m_pt text L b rd) (m_pR text L b rd 2) (m_pR text L b rd 3) (m_px text L b rd) np sz
def m_cnp (now : Nat → Int32) (i t np sz : Nat) : Nat := if now (12 + 6 * i + 0) = 1 then np else m_p2 (upd now 11 1) (nI (t / sz)) np
def m_good (now : Nat → Int32) (np sz i : Nat) : Prop := now 10 = nI np ∧ np ≤ 64 ∧ now 6 = nI sz ∧ wOk now ∧ nOk now np ∧ (¬ now (12 + 6 * i + 0) = 1 → np < 64)
def m_pgL (text : Nat → Int32) (L sz : Nat) : Nat → Nat → (Nat → Int32) → (Nat → Int32) → Nat → Prop
  | 0, b, _, _, _ => L ≤ b
  | n + 1, b, rd, now, np => L ≤ b ∨ (¬ (t_ev text L b rd).1 = 0 ∧ (m_pR text L b rd 0 = nI (m_pi text L b rd) ∧ m_pi text L b rd < 64) ∧ (m_pR text L b rd 1 = nI (m_pt text L b rd) ∧ m_pt text L b rd < 2000) ∧ (m_pR text L b rd 4 = nI (m_px text L b rd) ∧ m_px text L b rd ≤ 3) ∧ m_good now np sz (m_pi text L b rd) ∧ m_pgL text L sz n (t_ev text L b rd).2.1 (m_pR text L b rd) (m_pco text L sz b rd now np).2 (m_cnp now (m_pi text L b rd) (m_pt text L b rd) np sz))
noncomputable def m_plL (text : Nat → Int32) (L sz : Nat) : Nat → Nat → Int32 → (Nat → Int32) → (Nat → Int32) → Nat → Nat → Nat × Nat × Int32 × (Nat → Int32) × (Nat → Int32)
  | 0, b, z, rd, now, _, cn => (cn, b, z, rd, now)
  | n + 1, b, z, rd, now, np, cn => if L ≤ b then (cn, b, z, rd, now) else m_plL text L sz n (t_ev text L b rd).2.1 (t_ev text L b rd).2.2.1 (m_pR text L b rd) (m_pco text L sz b rd now np).2 (m_cnp now (m_pi text L b rd) (m_pt text L b rd) np sz) (if 2 ≤ (m_pco text L sz b rd now np).1 then cn else cn + 1)
