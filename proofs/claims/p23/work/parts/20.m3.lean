/-! the reference's text as functions -/
noncomputable def t_pas (text : Nat → Int32) (L a : Nat) (sg : Int32) : Int32 := k_hide 40 (if L ≤ a then 0 else if ¬ text a = sg then 0 else 1)
theorem t_pas_eq (text : Nat → Int32) (L a : Nat) (sg : Int32) : t_pas text L a sg = (if L ≤ a then 0 else if ¬ text a = sg then 0 else 1) := k_hide_eq 40 _
noncomputable def t_pasA (text : Nat → Int32) (L a : Nat) (sg : Int32) : Nat := k_hide 41 (if L ≤ a then a else if ¬ text a = sg then a else a + 1)
theorem t_pasA_eq (text : Nat → Int32) (L a : Nat) (sg : Int32) : t_pasA text L a sg = (if L ≤ a then a else if ¬ text a = sg then a else a + 1) := k_hide_eq 41 _
def t_nL (text : Nat → Int32) (L : Nat) : Nat → Nat → Nat → Int32 → Nat × Nat × Int32
  | 0, a, d, z => (a, d, z)
  | n + 1, a, d, z => if L ≤ a then (a, d, z) else if m_isIn (text a) 48 57 = 0 then (a, d, z) else t_nL text L n (a + 1) (d + 1) (10 * z + text a - 48)
noncomputable def t_A (text : Nat → Int32) (L a : Nat) : Nat := k_hide 42 ((t_nL text L 5 a 0 0).1)
theorem t_A_eq (text : Nat → Int32) (L a : Nat) : t_A text L a = ((t_nL text L 5 a 0 0).1) := k_hide_eq 42 _
noncomputable def t_O (text : Nat → Int32) (L a : Nat) : Int32 := k_hide 43 (m_isIn (nI (t_nL text L 5 a 0 0).2.1) 1 4)
theorem t_O_eq (text : Nat → Int32) (L a : Nat) : t_O text L a = (m_isIn (nI (t_nL text L 5 a 0 0).2.1) 1 4) := k_hide_eq 43 _
noncomputable def t_Z (text : Nat → Int32) (L a : Nat) : Int32 := k_hide 44 ((t_nL text L 5 a 0 0).2.2)
theorem t_Z_eq (text : Nat → Int32) (L a : Nat) : t_Z text L a = ((t_nL text L 5 a 0 0).2.2) := k_hide_eq 44 _
theorem m_isIn_b (v lo hi : Int32) : narrow .boolean (.int (m_isIn v lo hi)) = .int (m_isIn v lo hi) := by
  rw [m_isIn]
  repeat' split
  all_goals decide
theorem t_pas_b (text : Nat → Int32) (L a : Nat) (sg : Int32) : narrow .boolean (.int (t_pas text L a sg)) = .int (t_pas text L a sg) := by
  rw [t_pas_eq]
  repeat' split
  all_goals decide
theorem t_nL_le (text : Nat → Int32) (L : Nat) : ∀ n a d z, (t_nL text L n a d z).1 ≤ a + n ∧ a ≤ (t_nL text L n a d z).1
  | 0, a, d, z => by simp [t_nL]
  | n + 1, a, d, z => by
    rw [t_nL]
    split
    · exact ⟨Nat.le_add_right _ _, Nat.le_refl _⟩
    · split
      · exact ⟨Nat.le_add_right _ _, Nat.le_refl _⟩
      · have := t_nL_le text L n (a + 1) (d + 1) (10 * z + text a - 48); omega
theorem t_A_le (text : Nat → Int32) (L a : Nat) : t_A text L a ≤ a + 5 ∧ a ≤ t_A text L a := by rw [t_A_eq]; exact t_nL_le text L 5 a 0 0
theorem t_pasA_le (text : Nat → Int32) (L a : Nat) (sg : Int32) : t_pasA text L a sg ≤ a + 1 ∧ a ≤ t_pasA text L a sg := by
  rw [t_pasA_eq]
  repeat' split
  all_goals omega
noncomputable def t_X (text : Nat → Int32) (L a : Nat) : Int32 := k_hide 45 (if ¬ t_pas text L a 110 = 0 then 1 else if ¬ t_pas text L (t_pasA text L a 110) 105 = 0 then 2 else if ¬ t_pas text L (t_pasA text L (t_pasA text L a 110) 105) 102 = 0 then 3 else 0)
theorem t_X_eq (text : Nat → Int32) (L a : Nat) : t_X text L a = (if ¬ t_pas text L a 110 = 0 then 1 else if ¬ t_pas text L (t_pasA text L a 110) 105 = 0 then 2 else if ¬ t_pas text L (t_pasA text L (t_pasA text L a 110) 105) 102 = 0 then 3 else 0) := k_hide_eq 45 _
noncomputable def t_XA (text : Nat → Int32) (L a : Nat) : Nat := k_hide 46 (if ¬ t_pas text L a 110 = 0 then t_pasA text L a 110 else if ¬ t_pas text L (t_pasA text L a 110) 105 = 0 then t_pasA text L (t_pasA text L a 110) 105 else t_pasA text L (t_pasA text L (t_pasA text L a 110) 105) 102)
theorem t_XA_eq (text : Nat → Int32) (L a : Nat) : t_XA text L a = (if ¬ t_pas text L a 110 = 0 then t_pasA text L a 110 else if ¬ t_pas text L (t_pasA text L a 110) 105 = 0 then t_pasA text L (t_pasA text L a 110) 105 else t_pasA text L (t_pasA text L (t_pasA text L a 110) 105) 102) := k_hide_eq 46 _
theorem t_XA_le (text : Nat → Int32) (L a : Nat) : t_XA text L a ≤ a + 3 ∧ a ≤ t_XA text L a := by
  have h1 := t_pasA_le text L a 110
  have h2 := t_pasA_le text L (t_pasA text L a 110) 105
  have h3 := t_pasA_le text L (t_pasA text L (t_pasA text L a 110) 105) 102
  rw [t_XA_eq]
  repeat' split
  all_goals omega
noncomputable def t_a1 (text : Nat → Int32) (L a : Nat) : Nat := k_hide 47 (t_pasA text L (t_A text L a) 44)
theorem t_a1_eq (text : Nat → Int32) (L a : Nat) : t_a1 text L a = (t_pasA text L (t_A text L a) 44) := k_hide_eq 47 _
noncomputable def t_a2 (text : Nat → Int32) (L a : Nat) : Nat := k_hide 48 (t_a1 text L (t_a1 text L a))
theorem t_a2_eq (text : Nat → Int32) (L a : Nat) : t_a2 text L a = (t_a1 text L (t_a1 text L a)) := k_hide_eq 48 _
noncomputable def t_a3 (text : Nat → Int32) (L a : Nat) : Nat := k_hide 49 (t_a1 text L (t_a2 text L a))
theorem t_a3_eq (text : Nat → Int32) (L a : Nat) : t_a3 text L a = (t_a1 text L (t_a2 text L a)) := k_hide_eq 49 _
noncomputable def t_a4 (text : Nat → Int32) (L a : Nat) : Nat := k_hide 50 (t_pasA text L (t_a3 text L a) 45)
theorem t_a4_eq (text : Nat → Int32) (L a : Nat) : t_a4 text L a = (t_pasA text L (t_a3 text L a) 45) := k_hide_eq 50 _
noncomputable def t_am (text : Nat → Int32) (L a : Nat) : Int32 := k_hide 51 (if t_pas text L (t_a3 text L a) 45 = 0 then t_Z text L (t_a4 text L a) else -t_Z text L (t_a4 text L a))
theorem t_am_eq (text : Nat → Int32) (L a : Nat) : t_am text L a = (if t_pas text L (t_a3 text L a) 45 = 0 then t_Z text L (t_a4 text L a) else -t_Z text L (t_a4 text L a)) := k_hide_eq 51 _
noncomputable def t_aX (text : Nat → Int32) (L a : Nat) : Nat := k_hide 52 (t_XA text L (t_A text L (t_a4 text L a)))
theorem t_aX_eq (text : Nat → Int32) (L a : Nat) : t_aX text L a = (t_XA text L (t_A text L (t_a4 text L a))) := k_hide_eq 52 _
noncomputable def t_ex (text : Nat → Int32) (L a : Nat) : Int32 := k_hide 53 (t_X text L (t_A text L (t_a4 text L a)))
theorem t_ex_eq (text : Nat → Int32) (L a : Nat) : t_ex text L a = (t_X text L (t_A text L (t_a4 text L a))) := k_hide_eq 53 _
noncomputable def t_en (text : Nat → Int32) (L a : Nat) : Nat := k_hide 54 (t_pasA text L (t_aX text L a) 59)
theorem t_en_eq (text : Nat → Int32) (L a : Nat) : t_en text L a = (t_pasA text L (t_aX text L a) 59) := k_hide_eq 54 _
noncomputable def t_r1 (text : Nat → Int32) (L a : Nat) (rd : Nat → Int32) : Nat → Int32 := upd rd 0 (t_Z text L a)
noncomputable def t_r2 (text : Nat → Int32) (L a : Nat) (rd : Nat → Int32) : Nat → Int32 := upd (t_r1 text L a rd) 1 (t_Z text L (t_a1 text L a))
noncomputable def t_r3 (text : Nat → Int32) (L a : Nat) (rd : Nat → Int32) : Nat → Int32 := upd (t_r2 text L a rd) 2 (t_Z text L (t_a2 text L a))
noncomputable def t_r5 (text : Nat → Int32) (L a : Nat) (rd : Nat → Int32) : Nat → Int32 := upd (upd (t_r3 text L a rd) 3 (t_am text L a)) 4 (t_ex text L a)
/-- of the form?, place, number, numbers read -/
abbrev TE : Type := Int32 × Nat × Int32 × (Nat → Int32)
noncomputable def t_ev (text : Nat → Int32) (L a : Nat) (rd : Nat → Int32) : TE := k_hide 55 (if t_O text L a = 0 then (0, t_A text L a, t_Z text L a, rd)
  else if t_pas text L (t_A text L a) 44 = 0 then (0, t_a1 text L a, t_Z text L a, t_r1 text L a rd)
  else if t_O text L (t_a1 text L a) = 0 then (0, t_A text L (t_a1 text L a), t_Z text L (t_a1 text L a), t_r1 text L a rd)
  else if t_pas text L (t_A text L (t_a1 text L a)) 44 = 0 then (0, t_a2 text L a, t_Z text L (t_a1 text L a), t_r2 text L a rd)
  else if t_O text L (t_a2 text L a) = 0 then (0, t_A text L (t_a2 text L a), t_Z text L (t_a2 text L a), t_r2 text L a rd)
  else if t_pas text L (t_A text L (t_a2 text L a)) 44 = 0 then (0, t_a3 text L a, t_Z text L (t_a2 text L a), t_r3 text L a rd)
  else if t_O text L (t_a4 text L a) = 0 then (0, t_A text L (t_a4 text L a), t_Z text L (t_a4 text L a), t_r3 text L a rd)
  else (t_pas text L (t_aX text L a) 59, t_en text L a, t_Z text L (t_a4 text L a), t_r5 text L a rd))
theorem t_ev_eq (text : Nat → Int32) (L a : Nat) (rd : Nat → Int32) : t_ev text L a rd = (if t_O text L a = 0 then (0, t_A text L a, t_Z text L a, rd)
  else if t_pas text L (t_A text L a) 44 = 0 then (0, t_a1 text L a, t_Z text L a, t_r1 text L a rd)
  else if t_O text L (t_a1 text L a) = 0 then (0, t_A text L (t_a1 text L a), t_Z text L (t_a1 text L a), t_r1 text L a rd)
  else if t_pas text L (t_A text L (t_a1 text L a)) 44 = 0 then (0, t_a2 text L a, t_Z text L (t_a1 text L a), t_r2 text L a rd)
  else if t_O text L (t_a2 text L a) = 0 then (0, t_A text L (t_a2 text L a), t_Z text L (t_a2 text L a), t_r2 text L a rd)
  else if t_pas text L (t_A text L (t_a2 text L a)) 44 = 0 then (0, t_a3 text L a, t_Z text L (t_a2 text L a), t_r3 text L a rd)
  else if t_O text L (t_a4 text L a) = 0 then (0, t_A text L (t_a4 text L a), t_Z text L (t_a4 text L a), t_r3 text L a rd)
  else (t_pas text L (t_aX text L a) 59, t_en text L a, t_Z text L (t_a4 text L a), t_r5 text L a rd)) := k_hide_eq 55 _
theorem t_as_le (text : Nat → Int32) (L a : Nat) : t_a1 text L a ≤ a + 6 ∧ t_a2 text L a ≤ a + 12 ∧ t_a3 text L a ≤ a + 18 ∧ t_a4 text L a ≤ a + 19 ∧ t_aX text L a ≤ a + 27 ∧ t_en text L a ≤ a + 28 ∧ a ≤ t_a1 text L a ∧ a ≤ t_aX text L a := by
  have s : ∀ b, t_a1 text L b ≤ b + 6 ∧ b ≤ t_a1 text L b := fun b => by
    have h1 := t_A_le text L b; have h2 := t_pasA_le text L (t_A text L b) 44
    rw [t_a1_eq]; omega
  have h1 := s a
  have h2 := s (t_a1 text L a)
  have h3 := s (t_a2 text L a)
  have h4 := t_pasA_le text L (t_a3 text L a) 45
  have h5 := t_A_le text L (t_a4 text L a)
  have h6 := t_XA_le text L (t_A text L (t_a4 text L a))
  have h7 := t_pasA_le text L (t_aX text L a) 59
  rw [← t_a4_eq] at h4
  rw [← t_a2_eq] at h2
  rw [← t_a3_eq] at h3
  rw [← t_aX_eq] at h6
  rw [← t_en_eq] at h7
  omega
theorem t_pas_1 {text : Nat → Int32} {L a : Nat} {sg : Int32} (h : ¬ t_pas text L a sg = 0) : t_pasA text L a sg = a + 1 ∧ a < L := by
  rw [t_pas_eq] at h
  rw [t_pasA_eq]
  by_cases h1 : L ≤ a
  · rw [if_pos h1] at h; exact absurd rfl h
  · rw [if_neg h1] at h ⊢
    by_cases h2 : text a = sg
    · rw [if_neg (fun q => q h2)]; exact ⟨rfl, by omega⟩
    · rw [if_pos h2] at h; exact absurd rfl h
/-- an event of the form goes forth -/
theorem t_ev_prog {text : Nat → Int32} {L a : Nat} {rd : Nat → Int32} (h : ¬ (t_ev text L a rd).1 = 0) : a < (t_ev text L a rd).2.1 ∧ (t_ev text L a rd).2.1 ≤ L := by
  rw [t_ev_eq] at h ⊢
  repeat (split at h; exact absurd rfl h)
  rename_i g1 g2 g3 g4 g5 g6 g7
  rw [if_neg g1, if_neg g2, if_neg g3, if_neg g4, if_neg g5, if_neg g6, if_neg g7]
  have h1 := t_pas_1 h
  have h2 := t_as_le text L a
  show a < t_en text L a ∧ t_en text L a ≤ L
  rw [t_en_eq]
  omega
theorem t_ev_le (text : Nat → Int32) (L a : Nat) (rd : Nat → Int32) : (t_ev text L a rd).2.1 ≤ a + 28 := by
  have h2 := t_as_le text L a
  have h3 := t_A_le text L a
  have h4 := t_A_le text L (t_a1 text L a)
  have h5 := t_A_le text L (t_a2 text L a)
  have h6 := t_A_le text L (t_a4 text L a)
  rw [t_ev_eq]
  repeat' split
  all_goals (simp only []; omega)
noncomputable def t_flL (text : Nat → Int32) (L : Nat) : Nat → Nat → Int32 → (Nat → Int32) → TE
  | 0, b, z, rd => (-1, b, z, rd)
  | n + 1, b, z, rd => if L ≤ b then (-1, b, z, rd) else if (t_ev text L b rd).1 = 0 then (nI (1000 + b), (t_ev text L b rd).2)
    else if m_isEv ((t_ev text L b rd).2.2.2 0) ((t_ev text L b rd).2.2.2 1) ((t_ev text L b rd).2.2.2 2) ((t_ev text L b rd).2.2.2 3) ((t_ev text L b rd).2.2.2 4) = 0 then (nI (2000 + b), (t_ev text L b rd).2)
    else t_flL text L n (t_ev text L b rd).2.1 (t_ev text L b rd).2.2.1 (t_ev text L b rd).2.2.2
noncomputable def t_fo (text : Nat → Int32) (L : Nat) (num : Int32) (rd : Nat → Int32) : TE := t_flL text L 80 0 num rd
noncomputable def t_fl (text : Nat → Int32) (L : Nat) (num : Int32) (rd : Nat → Int32) (x : Int32) : Int32 :=
  if ¬ 0 ≤ (t_fo text L num rd).1 then -1000004 else if x = 0 then (t_fo text L num rd).1 - (t_fo text L num rd).1 / 1000 * 1000 else (t_fo text L num rd).1 / 1000
