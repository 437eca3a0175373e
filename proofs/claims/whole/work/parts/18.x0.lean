/-! the class's text as functions -/
def x_h (sg : Nat → Int32) (L a : Nat) : Int32 := if a < L then sg a else 0
def x_rs (sg : Nat → Int32) (L a : Nat) (ch : Int32) : Int32 := if x_h sg L a = ch then 1 else 0
def x_ra (sg : Nat → Int32) (L a : Nat) (ch : Int32) : Nat := if x_h sg L a = ch then a + 1 else a
def x_nL (sg : Nat → Int32) (L : Nat) : Nat → Nat → Nat → Int32 → Nat × Nat × Int32
  | 0, a, d, z => (a, d, z)
  | n + 1, a, d, z => if m_isIn (x_h sg L a) 48 57 = 0 then (a, d, z) else x_nL sg L n (a + 1) (d + 1) (z * 10 + x_h sg L a - 48)
def x_A (sg : Nat → Int32) (L a : Nat) : Nat := (x_nL sg L 4 a 0 0).1
def x_O (sg : Nat → Int32) (L a : Nat) : Int32 := if (x_nL sg L 4 a 0 0).2.1 = 0 then 0 else 1
def x_Z (sg : Nat → Int32) (L a : Nat) : Int32 := (x_nL sg L 4 a 0 0).2.2
theorem x_nL_le (sg : Nat → Int32) (L : Nat) : ∀ n a d z, (x_nL sg L n a d z).1 ≤ a + n
  | 0, a, d, z => by simp [x_nL]
  | n + 1, a, d, z => by
    rw [x_nL]; split
    · exact Nat.le_add_right _ _
    · have := x_nL_le sg L n (a + 1) (d + 1) (z * 10 + x_h sg L a - 48); omega
theorem x_A_le (sg : Nat → Int32) (L a : Nat) : x_A sg L a ≤ a + 4 := x_nL_le sg L 4 a 0 0
theorem x_ra_le (sg : Nat → Int32) (L a : Nat) (ch : Int32) : x_ra sg L a ch ≤ a + 1 := by rw [x_ra]; split <;> omega
def x_X (sg : Nat → Int32) (L a : Nat) : Int32 := if ¬ x_rs sg L a 110 = 0 then 1 else if ¬ x_rs sg L (x_ra sg L a 110) 105 = 0 then 2 else if ¬ x_rs sg L (x_ra sg L (x_ra sg L a 110) 105) 102 = 0 then 3 else 0
def x_XA (sg : Nat → Int32) (L a : Nat) : Nat := if ¬ x_rs sg L a 110 = 0 then x_ra sg L a 110 else if ¬ x_rs sg L (x_ra sg L a 110) 105 = 0 then x_ra sg L (x_ra sg L a 110) 105 else x_ra sg L (x_ra sg L (x_ra sg L a 110) 105) 102
theorem x_XA_le (sg : Nat → Int32) (L a : Nat) : x_XA sg L a ≤ a + 3 := by
  have h1 := x_ra_le sg L a 110
  have h2 := x_ra_le sg L (x_ra sg L a 110) 105
  have h3 := x_ra_le sg L (x_ra sg L (x_ra sg L a 110) 105) 102
  rw [x_XA]
  repeat' split
  all_goals omega
/-- formed, place, number -/
abbrev XT : Type := Int32 × Nat × Int32
def x_T1 (sg : Nat → Int32) (L a : Nat) : XT := (x_O sg L a, x_A sg L a, x_Z sg L a)
def x_st (sg : Nat → Int32) (L : Nat) (T : XT) : XT :=
  if T.1 = 0 then (0, T.2) else if x_rs sg L T.2.1 44 = 0 then (0, x_ra sg L T.2.1 44, T.2.2)
  else (if x_O sg L (x_ra sg L T.2.1 44) = 0 then 0 else 1, x_A sg L (x_ra sg L T.2.1 44), x_Z sg L (x_ra sg L T.2.1 44))
def x_T2 (sg : Nat → Int32) (L a : Nat) : XT := x_st sg L (x_T1 sg L a)
def x_T3 (sg : Nat → Int32) (L a : Nat) : XT := x_st sg L (x_T2 sg L a)
def x_cm (sg : Nat → Int32) (L : Nat) (T : XT) : XT := if T.1 = 0 then (0, T.2) else (if x_rs sg L T.2.1 44 = 0 then 0 else 1, x_ra sg L T.2.1 44, T.2.2)
def x_T4 (sg : Nat → Int32) (L a : Nat) : XT := x_cm sg L (x_T3 sg L a)
def x_nm (sg : Nat → Int32) (L : Nat) (T : XT) : XT := if T.1 = 0 then (0, T.2) else (if x_O sg L T.2.1 = 0 then 0 else 1, x_A sg L T.2.1, x_Z sg L T.2.1)
def x_ng (sg : Nat → Int32) (L a : Nat) : Int32 := x_rs sg L (x_T4 sg L a).2.1 45
def x_T5 (sg : Nat → Int32) (L a : Nat) : XT := x_nm sg L ((x_T4 sg L a).1, x_ra sg L (x_T4 sg L a).2.1 45, (x_T4 sg L a).2.2)
def x_am (sg : Nat → Int32) (L a : Nat) : Int32 := if x_ng sg L a = 0 then (x_T5 sg L a).2.2 else -(x_T5 sg L a).2.2
def x_ex (sg : Nat → Int32) (L a : Nat) : Int32 := x_X sg L (x_T5 sg L a).2.1
def x_aX (sg : Nat → Int32) (L a : Nat) : Nat := x_XA sg L (x_T5 sg L a).2.1
def x_eo (sg : Nat → Int32) (L a : Nat) : Int32 := if (x_T5 sg L a).1 = 0 then 0 else if x_rs sg L (x_aX sg L a) 59 = 0 then 0 else 1
def x_en (sg : Nat → Int32) (L a : Nat) : Nat := if (x_T5 sg L a).1 = 0 then x_aX sg L a else x_ra sg L (x_aX sg L a) 59
theorem x_st_le {sg : Nat → Int32} {L : Nat} {T : XT} : (x_st sg L T).2.1 ≤ T.2.1 + 5 := by
  have h1 := x_ra_le sg L T.2.1 44
  have h2 := x_A_le sg L (x_ra sg L T.2.1 44)
  rw [x_st]
  split
  · show T.2.1 ≤ T.2.1 + 5; omega
  · split
    · show x_ra sg L T.2.1 44 ≤ T.2.1 + 5; omega
    · show x_A sg L (x_ra sg L T.2.1 44) ≤ T.2.1 + 5; omega
theorem x_T3_le (sg : Nat → Int32) (L a : Nat) : (x_T1 sg L a).2.1 ≤ a + 4 ∧ (x_T2 sg L a).2.1 ≤ a + 9 ∧ (x_T3 sg L a).2.1 ≤ a + 14 := by
  have h1 : (x_T1 sg L a).2.1 ≤ a + 4 := x_A_le sg L a
  have h2 : (x_T2 sg L a).2.1 ≤ (x_T1 sg L a).2.1 + 5 := x_st_le
  have h3 : (x_T3 sg L a).2.1 ≤ (x_T2 sg L a).2.1 + 5 := x_st_le
  omega
theorem x_T5_le (sg : Nat → Int32) (L a : Nat) : (x_T4 sg L a).2.1 ≤ a + 15 ∧ (x_T5 sg L a).2.1 ≤ a + 20 ∧ x_aX sg L a ≤ a + 23 ∧ x_en sg L a ≤ a + 24 := by
  have h0 := (x_T3_le sg L a).2.2
  have h4 : (x_T4 sg L a).2.1 ≤ (x_T3 sg L a).2.1 + 1 := by
    have := x_ra_le sg L (x_T3 sg L a).2.1 44
    rw [x_T4, x_cm]; split
    · show (x_T3 sg L a).2.1 ≤ _; omega
    · show x_ra sg L (x_T3 sg L a).2.1 44 ≤ _; omega
  have h5 : (x_T5 sg L a).2.1 ≤ (x_T4 sg L a).2.1 + 5 := by
    have e1 := x_ra_le sg L (x_T4 sg L a).2.1 45
    have e2 := x_A_le sg L (x_ra sg L (x_T4 sg L a).2.1 45)
    rw [x_T5, x_nm]; split
    · show x_ra sg L (x_T4 sg L a).2.1 45 ≤ _; omega
    · show x_A sg L (x_ra sg L (x_T4 sg L a).2.1 45) ≤ _; omega
  have h6 : x_aX sg L a ≤ (x_T5 sg L a).2.1 + 3 := x_XA_le sg L _
  have h7 : x_en sg L a ≤ x_aX sg L a + 1 := by
    have := x_ra_le sg L (x_aX sg L a) 59
    rw [x_en]; split <;> omega
  omega
/-- place, number, id, time, key, amount, excuse -/
abbrev XJ : Type := Int32 × Int32 × Int32 × Int32 × Int32 × Int32 × Int32
def x_J (sg : Nat → Int32) (L a : Nat) : XJ := (nI (x_en sg L a), (x_T5 sg L a).2.2, (x_T1 sg L a).2.2, (x_T2 sg L a).2.2, (x_T3 sg L a).2.2, x_am sg L a, x_ex sg L a)
def x_r (sg : Nat → Int32) (L a : Nat) : Int32 := if x_eo sg L a = 0 then -1 else nI (x_en sg L a)
def x_isE (i t k a : Int32) : Int32 := if m_isIn i 0 63 = 0 then 0 else if m_isIn t 0 1999 = 0 then 0 else if m_isIn k 0 5 = 0 then 0 else if m_isIn a (-100) 100 = 0 then 0 else 1
def x_ok (sg : Nat → Int32) (L a : Nat) : Int32 := x_isE (x_T1 sg L a).2.2 (x_T2 sg L a).2.2 (x_T3 sg L a).2.2 (x_am sg L a)
/-- faulty?, what is in the fields, the fault's place and reason -/
def x_hfL (sg : Nat → Int32) (L : Nat) : Nat → Nat → XJ → Int32 → Int32 → Int32 × XJ × Int32 × Int32
  | 0, _, J, fp, fr => (0, J, fp, fr)
  | n + 1, b, J, fp, fr => if L ≤ b then (0, J, fp, fr) else if x_eo sg L b = 0 then (1, x_J sg L b, nI b, 1) else if x_ok sg L b = 0 then (1, x_J sg L b, nI b, 2) else x_hfL sg L n (x_en sg L b) (x_J sg L b) fp fr
