/-! the class's text as functions -/
/-- a value that no unfolding shows: what keeps the elaborator from running it -/
noncomputable def k_hide {α : Type} (n : Nat) (v : α) : α := Classical.choose (⟨v, rfl, rfl⟩ : ∃ y : α, n = n ∧ y = v)
theorem k_hide_eq {α : Type} (n : Nat) (v : α) : k_hide n v = v := (Classical.choose_spec (⟨v, rfl, rfl⟩ : ∃ y : α, n = n ∧ y = v)).2
def x_h (sg : Nat → Int32) (L a : Nat) : Int32 := if a < L then sg a else 0
noncomputable def x_rs (sg : Nat → Int32) (L a : Nat) (ch : Int32) : Int32 := k_hide 0 (if x_h sg L a = ch then 1 else 0)
theorem x_rs_eq (sg : Nat → Int32) (L a : Nat) (ch : Int32) : x_rs sg L a ch = (if x_h sg L a = ch then 1 else 0) := k_hide_eq 0 _
noncomputable def x_ra (sg : Nat → Int32) (L a : Nat) (ch : Int32) : Nat := k_hide 1 (if x_h sg L a = ch then a + 1 else a)
theorem x_ra_eq (sg : Nat → Int32) (L a : Nat) (ch : Int32) : x_ra sg L a ch = (if x_h sg L a = ch then a + 1 else a) := k_hide_eq 1 _
def x_nL (sg : Nat → Int32) (L : Nat) : Nat → Nat → Nat → Int32 → Nat × Nat × Int32
  | 0, a, d, z => (a, d, z)
  | n + 1, a, d, z => if m_isIn (x_h sg L a) 48 57 = 0 then (a, d, z) else x_nL sg L n (a + 1) (d + 1) (z * 10 + x_h sg L a - 48)
noncomputable def x_A (sg : Nat → Int32) (L a : Nat) : Nat := k_hide 2 ((x_nL sg L 4 a 0 0).1)
theorem x_A_eq (sg : Nat → Int32) (L a : Nat) : x_A sg L a = (x_nL sg L 4 a 0 0).1 := k_hide_eq 2 _
noncomputable def x_O (sg : Nat → Int32) (L a : Nat) : Int32 := k_hide 3 (if (x_nL sg L 4 a 0 0).2.1 = 0 then 0 else 1)
theorem x_O_eq (sg : Nat → Int32) (L a : Nat) : x_O sg L a = (if (x_nL sg L 4 a 0 0).2.1 = 0 then 0 else 1) := k_hide_eq 3 _
noncomputable def x_Z (sg : Nat → Int32) (L a : Nat) : Int32 := k_hide 4 ((x_nL sg L 4 a 0 0).2.2)
theorem x_Z_eq (sg : Nat → Int32) (L a : Nat) : x_Z sg L a = (x_nL sg L 4 a 0 0).2.2 := k_hide_eq 4 _
theorem x_nL_le (sg : Nat → Int32) (L : Nat) : ∀ n a d z, (x_nL sg L n a d z).1 ≤ a + n
  | 0, a, d, z => by simp [x_nL]
  | n + 1, a, d, z => by
    rw [x_nL]; split
    · exact Nat.le_add_right _ _
    · exact Nat.le_trans (x_nL_le sg L n (a + 1) (d + 1) (z * 10 + x_h sg L a - 48)) (Nat.le_of_eq (Nat.add_right_comm a 1 n))
theorem x_A_le (sg : Nat → Int32) (L a : Nat) : x_A sg L a ≤ a + 4 := by rw [x_A_eq]; exact x_nL_le sg L 4 a 0 0
theorem x_ra_le (sg : Nat → Int32) (L a : Nat) (ch : Int32) : x_ra sg L a ch ≤ a + 1 := by rw [x_ra_eq]; split <;> omega
noncomputable def x_X (sg : Nat → Int32) (L a : Nat) : Int32 := k_hide 5 (if ¬ x_rs sg L a 110 = 0 then 1 else if ¬ x_rs sg L (x_ra sg L a 110) 105 = 0 then 2 else if ¬ x_rs sg L (x_ra sg L (x_ra sg L a 110) 105) 102 = 0 then 3 else 0)
theorem x_X_eq (sg : Nat → Int32) (L a : Nat) : x_X sg L a = (if ¬ x_rs sg L a 110 = 0 then 1 else if ¬ x_rs sg L (x_ra sg L a 110) 105 = 0 then 2 else if ¬ x_rs sg L (x_ra sg L (x_ra sg L a 110) 105) 102 = 0 then 3 else 0) := k_hide_eq 5 _
noncomputable def x_XA (sg : Nat → Int32) (L a : Nat) : Nat := k_hide 6 (if ¬ x_rs sg L a 110 = 0 then x_ra sg L a 110 else if ¬ x_rs sg L (x_ra sg L a 110) 105 = 0 then x_ra sg L (x_ra sg L a 110) 105 else x_ra sg L (x_ra sg L (x_ra sg L a 110) 105) 102)
theorem x_XA_eq (sg : Nat → Int32) (L a : Nat) : x_XA sg L a = (if ¬ x_rs sg L a 110 = 0 then x_ra sg L a 110 else if ¬ x_rs sg L (x_ra sg L a 110) 105 = 0 then x_ra sg L (x_ra sg L a 110) 105 else x_ra sg L (x_ra sg L (x_ra sg L a 110) 105) 102) := k_hide_eq 6 _
theorem x_XA_le (sg : Nat → Int32) (L a : Nat) : x_XA sg L a ≤ a + 3 := by
  have h1 : x_ra sg L a 110 ≤ a + 1 := x_ra_le sg L a 110
  have h2 : x_ra sg L (x_ra sg L a 110) 105 ≤ a + 2 := Nat.le_trans (x_ra_le sg L _ 105) (Nat.add_le_add_right h1 1)
  have h3 : x_ra sg L (x_ra sg L (x_ra sg L a 110) 105) 102 ≤ a + 3 := Nat.le_trans (x_ra_le sg L _ 102) (Nat.add_le_add_right h2 1)
  rw [x_XA_eq]
  split
  · exact Nat.le_trans h1 (Nat.add_le_add_left (by decide) a)
  · split
    · exact Nat.le_trans h2 (Nat.add_le_add_left (by decide) a)
    · exact h3
/-- formed, place, number -/
abbrev XT : Type := Int32 × Nat × Int32
noncomputable def x_T1 (sg : Nat → Int32) (L a : Nat) : XT := k_hide 7 ((x_O sg L a, x_A sg L a, x_Z sg L a))
theorem x_T1_eq (sg : Nat → Int32) (L a : Nat) : x_T1 sg L a = (x_O sg L a, x_A sg L a, x_Z sg L a) := k_hide_eq 7 _
noncomputable def x_st (sg : Nat → Int32) (L : Nat) (T : XT) : XT :=
  if T.1 = 0 then (0, T.2) else if x_rs sg L T.2.1 44 = 0 then (0, x_ra sg L T.2.1 44, T.2.2)
  else (if x_O sg L (x_ra sg L T.2.1 44) = 0 then 0 else 1, x_A sg L (x_ra sg L T.2.1 44), x_Z sg L (x_ra sg L T.2.1 44))
noncomputable def x_T2 (sg : Nat → Int32) (L a : Nat) : XT := k_hide 8 (x_st sg L (x_T1 sg L a))
theorem x_T2_eq (sg : Nat → Int32) (L a : Nat) : x_T2 sg L a = x_st sg L (x_T1 sg L a) := k_hide_eq 8 _
noncomputable def x_T3 (sg : Nat → Int32) (L a : Nat) : XT := k_hide 9 (x_st sg L (x_T2 sg L a))
theorem x_T3_eq (sg : Nat → Int32) (L a : Nat) : x_T3 sg L a = x_st sg L (x_T2 sg L a) := k_hide_eq 9 _
noncomputable def x_cm (sg : Nat → Int32) (L : Nat) (T : XT) : XT := if T.1 = 0 then (0, T.2) else (if x_rs sg L T.2.1 44 = 0 then 0 else 1, x_ra sg L T.2.1 44, T.2.2)
noncomputable def x_T4 (sg : Nat → Int32) (L a : Nat) : XT := k_hide 10 (x_cm sg L (x_T3 sg L a))
theorem x_T4_eq (sg : Nat → Int32) (L a : Nat) : x_T4 sg L a = x_cm sg L (x_T3 sg L a) := k_hide_eq 10 _
noncomputable def x_nm (sg : Nat → Int32) (L : Nat) (T : XT) : XT := if T.1 = 0 then (0, T.2) else (if x_O sg L T.2.1 = 0 then 0 else 1, x_A sg L T.2.1, x_Z sg L T.2.1)
noncomputable def x_ng (sg : Nat → Int32) (L a : Nat) : Int32 := k_hide 12 (x_rs sg L (x_T4 sg L a).2.1 45)
theorem x_ng_eq (sg : Nat → Int32) (L a : Nat) : x_ng sg L a = x_rs sg L (x_T4 sg L a).2.1 45 := k_hide_eq 12 _
noncomputable def x_T5 (sg : Nat → Int32) (L a : Nat) : XT := k_hide 11 (x_nm sg L ((x_T4 sg L a).1, x_ra sg L (x_T4 sg L a).2.1 45, (x_T4 sg L a).2.2))
theorem x_T5_eq (sg : Nat → Int32) (L a : Nat) : x_T5 sg L a = x_nm sg L ((x_T4 sg L a).1, x_ra sg L (x_T4 sg L a).2.1 45, (x_T4 sg L a).2.2) := k_hide_eq 11 _
noncomputable def x_am (sg : Nat → Int32) (L a : Nat) : Int32 := k_hide 13 (if x_ng sg L a = 0 then (x_T5 sg L a).2.2 else -(x_T5 sg L a).2.2)
theorem x_am_eq (sg : Nat → Int32) (L a : Nat) : x_am sg L a = (if x_ng sg L a = 0 then (x_T5 sg L a).2.2 else -(x_T5 sg L a).2.2) := k_hide_eq 13 _
noncomputable def x_ex (sg : Nat → Int32) (L a : Nat) : Int32 := k_hide 14 (x_X sg L (x_T5 sg L a).2.1)
theorem x_ex_eq (sg : Nat → Int32) (L a : Nat) : x_ex sg L a = x_X sg L (x_T5 sg L a).2.1 := k_hide_eq 14 _
noncomputable def x_aX (sg : Nat → Int32) (L a : Nat) : Nat := k_hide 15 (x_XA sg L (x_T5 sg L a).2.1)
theorem x_aX_eq (sg : Nat → Int32) (L a : Nat) : x_aX sg L a = x_XA sg L (x_T5 sg L a).2.1 := k_hide_eq 15 _
noncomputable def x_eo (sg : Nat → Int32) (L a : Nat) : Int32 := k_hide 16 (if (x_T5 sg L a).1 = 0 then 0 else if x_rs sg L (x_aX sg L a) 59 = 0 then 0 else 1)
theorem x_eo_eq (sg : Nat → Int32) (L a : Nat) : x_eo sg L a = (if (x_T5 sg L a).1 = 0 then 0 else if x_rs sg L (x_aX sg L a) 59 = 0 then 0 else 1) := k_hide_eq 16 _
noncomputable def x_en (sg : Nat → Int32) (L a : Nat) : Nat := k_hide 17 (if (x_T5 sg L a).1 = 0 then x_aX sg L a else x_ra sg L (x_aX sg L a) 59)
theorem x_en_eq (sg : Nat → Int32) (L a : Nat) : x_en sg L a = (if (x_T5 sg L a).1 = 0 then x_aX sg L a else x_ra sg L (x_aX sg L a) 59) := k_hide_eq 17 _
theorem x_st_le (sg : Nat → Int32) (L : Nat) (T : XT) : (x_st sg L T).2.1 ≤ T.2.1 + 5 := by
  have h1 := x_ra_le sg L T.2.1 44
  have h2 := Nat.le_trans (x_A_le sg L (x_ra sg L T.2.1 44)) (Nat.add_le_add_right h1 4)
  rw [x_st]
  split
  · exact Nat.le_add_right T.2.1 5
  · split
    · exact Nat.le_trans h1 (Nat.add_le_add_left (by decide) T.2.1)
    · exact h2
theorem x_cm_le (sg : Nat → Int32) (L : Nat) (T : XT) : (x_cm sg L T).2.1 ≤ T.2.1 + 1 := by
  have h1 := x_ra_le sg L T.2.1 44
  rw [x_cm]
  split
  · exact Nat.le_add_right T.2.1 1
  · exact h1
theorem x_nm_le (sg : Nat → Int32) (L : Nat) (T : XT) : (x_nm sg L T).2.1 ≤ T.2.1 + 4 := by
  have h1 := x_A_le sg L T.2.1
  rw [x_nm]
  split
  · exact Nat.le_add_right T.2.1 4
  · exact h1
theorem x_T1b (sg : Nat → Int32) (L a : Nat) : (x_T1 sg L a).2.1 ≤ a + 4 := by rw [x_T1_eq]; exact x_A_le sg L a
theorem x_T2b (sg : Nat → Int32) (L a : Nat) : (x_T2 sg L a).2.1 ≤ a + 9 := by rw [x_T2_eq]; exact Nat.le_trans (x_st_le sg L (x_T1 sg L a)) (Nat.add_le_add_right (x_T1b sg L a) 5)
theorem x_T3b (sg : Nat → Int32) (L a : Nat) : (x_T3 sg L a).2.1 ≤ a + 14 := by rw [x_T3_eq]; exact Nat.le_trans (x_st_le sg L (x_T2 sg L a)) (Nat.add_le_add_right (x_T2b sg L a) 5)
theorem x_T4b (sg : Nat → Int32) (L a : Nat) : (x_T4 sg L a).2.1 ≤ a + 15 := by rw [x_T4_eq]; exact Nat.le_trans (x_cm_le sg L (x_T3 sg L a)) (Nat.add_le_add_right (x_T3b sg L a) 1)
theorem x_T4r (sg : Nat → Int32) (L a : Nat) : x_ra sg L (x_T4 sg L a).2.1 45 ≤ a + 16 := Nat.le_trans (x_ra_le sg L _ 45) (Nat.add_le_add_right (x_T4b sg L a) 1)
theorem x_T5b (sg : Nat → Int32) (L a : Nat) : (x_T5 sg L a).2.1 ≤ a + 20 := by rw [x_T5_eq]; exact Nat.le_trans (x_nm_le sg L ((x_T4 sg L a).1, x_ra sg L (x_T4 sg L a).2.1 45, (x_T4 sg L a).2.2)) (Nat.add_le_add_right (x_T4r sg L a) 4)
theorem x_aXb (sg : Nat → Int32) (L a : Nat) : x_aX sg L a ≤ a + 23 := by rw [x_aX_eq]; exact Nat.le_trans (x_XA_le sg L _) (Nat.add_le_add_right (x_T5b sg L a) 3)
theorem x_enb (sg : Nat → Int32) (L a : Nat) : x_en sg L a ≤ a + 24 := by
  rw [x_en_eq]
  split
  · exact Nat.le_trans (x_aXb sg L a) (Nat.add_le_add_left (by decide) a)
  · exact Nat.le_trans (x_ra_le sg L _ 59) (Nat.add_le_add_right (x_aXb sg L a) 1)
theorem k_le1 {x a c : Nat} (h : x ≤ a + c) (ha : a ≤ 200) (hc : c ≤ 100) : x ≤ 1000 := by omega
theorem k_le2 {x a c : Nat} (h : x ≤ a + c) (ha : a ≤ 200) (hc : c ≤ 100) : x ≤ 2000 := by omega
theorem k_le9 {x a c : Nat} (h : x ≤ a + c) (ha : a ≤ 200) (hc : c ≤ 100) : x ≤ 900 := by omega
theorem k_lt31 {x a c : Nat} (h : x ≤ a + c) (ha : a ≤ 200) (hc : c ≤ 100) : x < 2 ^ 31 := by omega
/-- place, number, id, time, key, amount, excuse -/
abbrev XJ : Type := Int32 × Int32 × Int32 × Int32 × Int32 × Int32 × Int32
noncomputable def x_J (sg : Nat → Int32) (L a : Nat) : XJ := (nI (x_en sg L a), (x_T5 sg L a).2.2, (x_T1 sg L a).2.2, (x_T2 sg L a).2.2, (x_T3 sg L a).2.2, x_am sg L a, x_ex sg L a)
noncomputable def x_r (sg : Nat → Int32) (L a : Nat) : Int32 := if x_eo sg L a = 0 then -1 else nI (x_en sg L a)
def x_isE (i t k a : Int32) : Int32 := if m_isIn i 0 63 = 0 then 0 else if m_isIn t 0 1999 = 0 then 0 else if m_isIn k 0 5 = 0 then 0 else if m_isIn a (-100) 100 = 0 then 0 else 1
noncomputable def x_ok (sg : Nat → Int32) (L a : Nat) : Int32 := x_isE (x_T1 sg L a).2.2 (x_T2 sg L a).2.2 (x_T3 sg L a).2.2 (x_am sg L a)
/-- faulty?, what is in the fields, the fault's place and reason -/
noncomputable def x_hfL (sg : Nat → Int32) (L : Nat) : Nat → Nat → XJ → Int32 → Int32 → Int32 × XJ × Int32 × Int32
  | 0, _, J, fp, fr => (0, J, fp, fr)
  | n + 1, b, J, fp, fr => if L ≤ b then (0, J, fp, fr) else if x_eo sg L b = 0 then (1, x_J sg L b, nI b, 1) else if x_ok sg L b = 0 then (1, x_J sg L b, nI b, 2) else x_hfL sg L n (x_en sg L b) (x_J sg L b) fp fr
theorem k_fwd {x b L : Nat} (h : x ≤ b + 24) (hb : ¬ L ≤ b) (hL : L ≤ 80) : x ≤ 200 := by omega
def c_num (ev : Nat → Int32) (dbl wt lt mv x : Int32) : Int32 :=
  if x = 0 then nI (e_wo ev 0 3 64) else if x = 1 then nI (e_wo ev 0 1 64) else if x = 2 then nI (e_wo ev 1 1 64) else if x = 3 then nI (e_wo ev 2 3 64)
  else if x = 4 then dbl else if x = 5 then wt else if x = 6 then lt else (if mv = 0 then 0 else 1)
