/-! the text of both sides -/
def rT (text sg : Nat → Int32) (L : Nat) : Prop := L ≤ 80 ∧ ∀ i, i < L → sg i = text i
def x_dig (sg : Nat → Int32) (L a : Nat) : Prop := ¬ m_isIn (x_h sg L a) 48 57 = 0
theorem x_dig_ne {sg : Nat → Int32} {L a : Nat} {ch : Int32} (h : x_dig sg L a) (hc : m_isIn ch 48 57 = 0) : ¬ x_h sg L a = ch := fun e => h (by rw [e]; exact hc)
theorem pas_rel {text sg : Nat → Int32} {L a : Nat} {ch : Int32} (h : rT text sg L) (hc : ¬ ch = 0) : t_pas text L a ch = x_rs sg L a ch ∧ t_pasA text L a ch = x_ra sg L a ch := by
  rw [t_pas_eq, t_pasA_eq, x_rs_eq, x_ra_eq, x_h]
  by_cases c : L ≤ a
  · have c' : ¬ a < L := by omega
    have c2 : ¬ (0 : Int32) = ch := fun e => hc e.symm
    rw [if_pos c, if_pos c, if_neg c', if_neg c2, if_neg c2]
    exact ⟨rfl, rfl⟩
  · have c' : a < L := by omega
    rw [if_neg c, if_neg c, if_pos c', h.2 a c']
    by_cases c2 : text a = ch
    · have c3 : ¬ ¬ text a = ch := fun e => e c2
      rw [if_neg c3, if_neg c3, if_pos c2, if_pos c2]
      exact ⟨rfl, rfl⟩
    · rw [if_pos c2, if_pos c2, if_neg c2, if_neg c2]
      exact ⟨rfl, rfl⟩
/-- what the class reads digit by digit, from n digits on -/
theorem x_nL_dig {sg : Nat → Int32} {L n a d : Nat} {z : Int32} (h : x_dig sg L a) : x_nL sg L (n + 1) a d z = x_nL sg L n (a + 1) (d + 1) (z * 10 + x_h sg L a - 48) := by rw [x_nL, if_neg h]
theorem x_nL_no {sg : Nat → Int32} {L n a d : Nat} {z : Int32} (h : ¬ x_dig sg L a) : x_nL sg L n a d z = (a, d, z) := by
  cases n with
  | zero => rfl
  | succ n => rw [x_nL, if_pos (Classical.byContradiction h)]
theorem t_nL_dig {text sg : Nat → Int32} {L n a d : Nat} {z : Int32} (hr : rT text sg L) (h : x_dig sg L a) : t_nL text L (n + 1) a d z = t_nL text L n (a + 1) (d + 1) (z * 10 + x_h sg L a - 48) := by
  have hlt : a < L := Nat.lt_of_not_le (fun e => h (by rw [x_h, if_neg (show ¬ a < L by omega)]; decide))
  have h2 : ¬ m_isIn (text a) 48 57 = 0 := by rw [x_dig, x_h, if_pos hlt, hr.2 a hlt] at h; exact h
  rw [t_nL, if_neg (show ¬ L ≤ a by omega), if_neg h2, x_h, if_pos hlt, hr.2 a hlt, Int32.mul_comm z 10]
theorem t_nL_no {text sg : Nat → Int32} {L n a d : Nat} {z : Int32} (hr : rT text sg L) (h : ¬ x_dig sg L a) : t_nL text L n a d z = (a, d, z) := by
  cases n with
  | zero => rfl
  | succ n =>
    rw [t_nL]
    by_cases c : L ≤ a
    · rw [if_pos c]
    · have hlt : a < L := by omega
      have h2 : m_isIn (text a) 48 57 = 0 := by rw [x_dig, x_h, if_pos hlt, hr.2 a hlt] at h; exact Classical.byContradiction h
      rw [if_neg c, if_pos h2]
/-- a number, on both sides -/
theorem num_rel {text sg : Nat → Int32} {L a : Nat} (hr : rT text sg L) : (t_O text L a = 0 ∧ x_O sg L a = 0) ∨ (¬ t_O text L a = 0 ∧ ¬ x_O sg L a = 0 ∧ t_A text L a = x_A sg L a ∧ t_Z text L a = x_Z sg L a) ∨ (t_O text L a = 0 ∧ ¬ x_O sg L a = 0 ∧ x_dig sg L (x_A sg L a)) := by
  rw [t_O_eq, x_O_eq, t_A_eq, x_A_eq, t_Z_eq, x_Z_eq]
  by_cases c0 : x_dig sg L a
  · rw [show (5 : Nat) = 4 + 1 from rfl, t_nL_dig hr c0, show (4 : Nat) = 3 + 1 from rfl, x_nL_dig c0]
    generalize (0 : Int32) * 10 + x_h sg L a - 48 = z1
    by_cases c1 : x_dig sg L (a + 1)
    · rw [t_nL_dig hr c1, show (3 : Nat) = 2 + 1 from rfl, x_nL_dig c1]
      generalize z1 * 10 + x_h sg L (a + 1) - 48 = z2
      by_cases c2 : x_dig sg L (a + 1 + 1)
      · rw [t_nL_dig hr c2, show (2 : Nat) = 1 + 1 from rfl, x_nL_dig c2]
        generalize z2 * 10 + x_h sg L (a + 1 + 1) - 48 = z3
        by_cases c3 : x_dig sg L (a + 1 + 1 + 1)
        · rw [t_nL_dig hr c3, show (1 : Nat) = 0 + 1 from rfl, x_nL_dig c3]
          generalize z3 * 10 + x_h sg L (a + 1 + 1 + 1) - 48 = z4
          by_cases c4 : x_dig sg L (a + 1 + 1 + 1 + 1)
          · rw [t_nL_dig hr c4, t_nL, x_nL]
            exact Or.inr (Or.inr ⟨(by show m_isIn (nI 5) 1 4 = 0; decide), by simp, c4⟩)
          · rw [t_nL_no hr c4, x_nL]
            exact Or.inr (Or.inl ⟨(by show ¬ m_isIn (nI 4) 1 4 = 0; decide), by simp, rfl, rfl⟩)
        · rw [t_nL_no hr c3, x_nL_no c3]
          exact Or.inr (Or.inl ⟨(by show ¬ m_isIn (nI 3) 1 4 = 0; decide), by simp, rfl, rfl⟩)
      · rw [t_nL_no hr c2, x_nL_no c2]
        exact Or.inr (Or.inl ⟨(by show ¬ m_isIn (nI 2) 1 4 = 0; decide), by simp, rfl, rfl⟩)
    · rw [t_nL_no hr c1, x_nL_no c1]
      exact Or.inr (Or.inl ⟨(by show ¬ m_isIn (nI 1) 1 4 = 0; decide), by simp, rfl, rfl⟩)
  · rw [t_nL_no hr c0, x_nL_no c0]
    exact Or.inl ⟨(by show m_isIn (nI 0) 1 4 = 0; decide), by simp⟩
theorem X_rel {text sg : Nat → Int32} {L a : Nat} (hr : rT text sg L) : t_X text L a = x_X sg L a ∧ t_XA text L a = x_XA sg L a := by
  have h1 := pas_rel (a := a) (ch := 110) hr (by decide)
  have h2 := pas_rel (a := x_ra sg L a 110) (ch := 105) hr (by decide)
  have h3 := pas_rel (a := x_ra sg L (x_ra sg L a 110) 105) (ch := 102) hr (by decide)
  rw [t_X_eq, t_XA_eq, x_X_eq, x_XA_eq, h1.1, h1.2, h2.1, h2.2, h3.1, h3.2]
  exact ⟨rfl, rfl⟩
theorem x_rs_dig {sg : Nat → Int32} {L a : Nat} {ch : Int32} (h : x_dig sg L a) (hc : m_isIn ch 48 57 = 0) : x_rs sg L a ch = 0 ∧ x_ra sg L a ch = a := by
  rw [x_rs_eq, x_ra_eq, if_neg (x_dig_ne h hc), if_neg (x_dig_ne h hc)]
  exact ⟨rfl, rfl⟩
theorem x_XA_dig {sg : Nat → Int32} {L a : Nat} (h : x_dig sg L a) : x_XA sg L a = a := by
  have h1 := x_rs_dig (ch := 110) h (by decide)
  have h2 := x_rs_dig (ch := 105) h (by decide)
  have h3 := x_rs_dig (ch := 102) h (by decide)
  rw [x_XA_eq, h1.1, h1.2, h2.1, h2.2, h3.2, if_neg (fun e => e rfl), if_neg (fun e => e rfl)]
theorem x_eo_0 {sg : Nat → Int32} {L a : Nat} (h : (x_T5 sg L a).1 = 0) : x_eo sg L a = 0 := by rw [x_eo_eq, if_pos h]
theorem x_T5_0 {sg : Nat → Int32} {L a : Nat} (h : (x_T4 sg L a).1 = 0) : (x_T5 sg L a).1 = 0 := by rw [x_T5_eq, x_nm, if_pos h]
theorem x_T4_0 {sg : Nat → Int32} {L a : Nat} (h : (x_T3 sg L a).1 = 0) : (x_T4 sg L a).1 = 0 := by rw [x_T4_eq, x_cm, if_pos h]
theorem x_T3_0 {sg : Nat → Int32} {L a : Nat} (h : (x_T2 sg L a).1 = 0) : (x_T3 sg L a).1 = 0 := by rw [x_T3_eq, x_st, if_pos h]
theorem x_st_no {sg : Nat → Int32} {L : Nat} {T : XT} (h : x_rs sg L T.2.1 44 = 0) : (x_st sg L T).1 = 0 := by
  rw [x_st]
  by_cases c : T.1 = 0
  · rw [if_pos c]
  · rw [if_neg c, if_pos h]
theorem x_cm_no {sg : Nat → Int32} {L : Nat} {T : XT} (h : x_rs sg L T.2.1 44 = 0) : (x_cm sg L T).1 = 0 := by
  rw [x_cm]
  by_cases c : T.1 = 0
  · rw [if_pos c]
  · rw [if_neg c, if_pos h]
theorem x_st_yes {sg : Nat → Int32} {L : Nat} {T : XT} (h0 : ¬ T.1 = 0) (h : ¬ x_rs sg L T.2.1 44 = 0) : x_st sg L T = (if x_O sg L (x_ra sg L T.2.1 44) = 0 then 0 else 1, x_A sg L (x_ra sg L T.2.1 44), x_Z sg L (x_ra sg L T.2.1 44)) := by rw [x_st, if_neg h0, if_neg h]
set_option maxHeartbeats 1000000 in
/-- an event, on both sides -/
theorem ev_rel {text sg : Nat → Int32} {L b : Nat} (hr : rT text sg L) (rd : Nat → Int32) : ((t_ev text L b rd).1 = 0 ∧ x_eo sg L b = 0) ∨ (¬ (t_ev text L b rd).1 = 0 ∧ ¬ x_eo sg L b = 0 ∧ (t_ev text L b rd).2.1 = x_en sg L b ∧ m_pR text L b rd 0 = (x_T1 sg L b).2.2 ∧ m_pR text L b rd 1 = (x_T2 sg L b).2.2 ∧ m_pR text L b rd 2 = (x_T3 sg L b).2.2 ∧ m_pR text L b rd 3 = x_am sg L b ∧ m_pR text L b rd 4 = x_ex sg L b) := by
  have hT1 : x_T1 sg L b = (x_O sg L b, x_A sg L b, x_Z sg L b) := x_T1_eq sg L b
  rw [m_pR, t_ev_eq]
  rcases num_rel (a := b) hr with ⟨n1, n2⟩ | ⟨n1, n2, n3, n4⟩ | ⟨n1, n2, n3⟩
  · rw [if_pos n1]
    refine Or.inl ⟨rfl, x_eo_0 (x_T5_0 (x_T4_0 (x_T3_0 ?_)))⟩
    rw [x_T2_eq, x_st, if_pos (by rw [hT1]; exact n2)]
  · rw [if_neg n1, n3]
    have hc1 := pas_rel (a := x_A sg L b) (ch := 44) hr (by decide)
    rw [hc1.1]
    by_cases p1 : x_rs sg L (x_A sg L b) 44 = 0
    · rw [if_pos p1]
      refine Or.inl ⟨rfl, x_eo_0 (x_T5_0 (x_T4_0 (x_T3_0 ?_)))⟩
      rw [x_T2_eq]
      exact x_st_no (by rw [hT1]; exact p1)
    · rw [if_neg p1]
      have ha1 : t_a1 text L b = x_ra sg L (x_A sg L b) 44 := by rw [t_a1_eq, n3]; exact hc1.2
      have hT2 : x_T2 sg L b = (if x_O sg L (t_a1 text L b) = 0 then 0 else 1, x_A sg L (t_a1 text L b), x_Z sg L (t_a1 text L b)) := by
        rw [x_T2_eq, x_st_yes (by rw [hT1]; exact n2) (by rw [hT1]; exact p1), hT1, ha1]
      rcases num_rel (a := t_a1 text L b) hr with ⟨m1, m2⟩ | ⟨m1, m2, m3, m4⟩ | ⟨m1, m2, m3⟩
      · rw [if_pos m1]
        refine Or.inl ⟨rfl, x_eo_0 (x_T5_0 (x_T4_0 (x_T3_0 ?_)))⟩
        rw [hT2, if_pos m2]
      · rw [if_neg m1, m3]
        have hc2 := pas_rel (a := x_A sg L (t_a1 text L b)) (ch := 44) hr (by decide)
        have hT2' : x_T2 sg L b = (1, x_A sg L (t_a1 text L b), x_Z sg L (t_a1 text L b)) := by rw [hT2, if_neg m2]
        rw [hc2.1]
        by_cases p2 : x_rs sg L (x_A sg L (t_a1 text L b)) 44 = 0
        · rw [if_pos p2]
          refine Or.inl ⟨rfl, x_eo_0 (x_T5_0 (x_T4_0 ?_))⟩
          rw [x_T3_eq]
          exact x_st_no (by rw [hT2']; exact p2)
        · rw [if_neg p2]
          have ha2 : t_a2 text L b = x_ra sg L (x_A sg L (t_a1 text L b)) 44 := by rw [t_a2_eq, t_a1_eq text L (t_a1 text L b), m3]; exact hc2.2
          have hT3 : x_T3 sg L b = (if x_O sg L (t_a2 text L b) = 0 then 0 else 1, x_A sg L (t_a2 text L b), x_Z sg L (t_a2 text L b)) := by
            rw [x_T3_eq, x_st_yes (by rw [hT2']; exact (show ¬ (1 : Int32) = 0 by decide)) (by rw [hT2']; exact p2), hT2', ha2]
          rcases num_rel (a := t_a2 text L b) hr with ⟨k1, k2⟩ | ⟨k1, k2, k3, k4⟩ | ⟨k1, k2, k3⟩
          · rw [if_pos k1]
            refine Or.inl ⟨rfl, x_eo_0 (x_T5_0 (x_T4_0 ?_))⟩
            rw [hT3, if_pos k2]
          · rw [if_neg k1, k3]
            have hc3 := pas_rel (a := x_A sg L (t_a2 text L b)) (ch := 44) hr (by decide)
            have hT3' : x_T3 sg L b = (1, x_A sg L (t_a2 text L b), x_Z sg L (t_a2 text L b)) := by rw [hT3, if_neg k2]
            rw [hc3.1]
            by_cases p3 : x_rs sg L (x_A sg L (t_a2 text L b)) 44 = 0
            · rw [if_pos p3]
              refine Or.inl ⟨rfl, x_eo_0 (x_T5_0 ?_)⟩
              rw [x_T4_eq]
              exact x_cm_no (by rw [hT3']; exact p3)
            · rw [if_neg p3]
              have ha3 : t_a3 text L b = x_ra sg L (x_A sg L (t_a2 text L b)) 44 := by rw [t_a3_eq, t_a1_eq text L (t_a2 text L b), k3]; exact hc3.2
              have hT4 : x_T4 sg L b = (1, t_a3 text L b, x_Z sg L (t_a2 text L b)) := by
                rw [x_T4_eq, x_cm, hT3', if_neg (show ¬ (1 : Int32) = 0 by decide), if_neg p3, ha3]
              have hc4 := pas_rel (a := t_a3 text L b) (ch := 45) hr (by decide)
              have ha4 : t_a4 text L b = x_ra sg L (t_a3 text L b) 45 := by rw [t_a4_eq]; exact hc4.2
              have hng : x_ng sg L b = t_pas text L (t_a3 text L b) 45 := by rw [x_ng_eq, hT4]; exact hc4.1.symm
              have hT5 : x_T5 sg L b = (if x_O sg L (t_a4 text L b) = 0 then 0 else 1, x_A sg L (t_a4 text L b), x_Z sg L (t_a4 text L b)) := by
                rw [x_T5_eq, hT4, x_nm, if_neg (show ¬ (1 : Int32) = 0 by decide), ha4]
              rcases num_rel (a := t_a4 text L b) hr with ⟨l1, l2⟩ | ⟨l1, l2, l3, l4⟩ | ⟨l1, l2, l3⟩
              · rw [if_pos l1]
                refine Or.inl ⟨rfl, x_eo_0 ?_⟩
                rw [hT5, if_pos l2]
              · rw [if_neg l1]
                have hT5' : x_T5 sg L b = (1, x_A sg L (t_a4 text L b), x_Z sg L (t_a4 text L b)) := by rw [hT5, if_neg l2]
                have hX := X_rel (a := x_A sg L (t_a4 text L b)) hr
                have haX : t_aX text L b = x_aX sg L b := by rw [t_aX_eq, x_aX_eq, l3, hT5']; exact hX.2
                have hcE := pas_rel (a := x_aX sg L b) (ch := 59) hr (by decide)
                have heo : x_eo sg L b = t_pas text L (t_aX text L b) 59 := by
                  rw [x_eo_eq, hT5', if_neg (show ¬ (1 : Int32) = 0 by decide), haX, hcE.1, x_rs_eq]
                  by_cases c : x_h sg L (x_aX sg L b) = 59
                  · rw [if_pos c, if_neg (by decide)]
                  · rw [if_neg c, if_pos rfl]
                by_cases pE : t_pas text L (t_aX text L b) 59 = 0
                · exact Or.inl ⟨pE, heo.trans pE⟩
                · refine Or.inr ⟨pE, by rw [heo]; exact pE, ?_, ?_, ?_, ?_, ?_, ?_⟩
                  · show t_en text L b = x_en sg L b
                    rw [t_en_eq, haX, x_en_eq, hT5', if_neg (show ¬ (1 : Int32) = 0 by decide)]; exact hcE.2
                  · show t_r5 text L b rd 0 = _
                    rw [hT1, ← n4]; simp [t_r5, t_r3, t_r2, t_r1, upd]
                  · show t_r5 text L b rd 1 = _
                    rw [hT2', ← m4]; simp [t_r5, t_r3, t_r2, t_r1, upd]
                  · show t_r5 text L b rd 2 = _
                    rw [hT3', ← k4]; simp [t_r5, t_r3, t_r2, t_r1, upd]
                  · show t_r5 text L b rd 3 = _
                    rw [x_am_eq, hng, hT5', ← l4, ← t_am_eq]; simp [t_r5, upd]
                  · show t_r5 text L b rd 4 = _
                    rw [x_ex_eq, hT5', ← hX.1, ← l3, ← t_ex_eq]; simp [t_r5, upd]
              · rw [if_pos l1]
                have hT5' : x_T5 sg L b = (1, x_A sg L (t_a4 text L b), x_Z sg L (t_a4 text L b)) := by rw [hT5, if_neg l2]
                refine Or.inl ⟨rfl, ?_⟩
                rw [x_eo_eq, hT5', if_neg (show ¬ (1 : Int32) = 0 by decide), x_aX_eq, hT5']
                show (if x_rs sg L (x_XA sg L (x_A sg L (t_a4 text L b))) 59 = 0 then (0 : Int32) else 1) = 0
                rw [x_XA_dig l3, (x_rs_dig l3 (by decide)).1, if_pos rfl]
          · rw [if_pos k1]
            have hT3' : x_T3 sg L b = (1, x_A sg L (t_a2 text L b), x_Z sg L (t_a2 text L b)) := by rw [hT3, if_neg k2]
            refine Or.inl ⟨rfl, x_eo_0 (x_T5_0 ?_)⟩
            rw [x_T4_eq]
            exact x_cm_no (by rw [hT3']; exact (x_rs_dig k3 (by decide)).1)
      · rw [if_pos m1]
        have hT2' : x_T2 sg L b = (1, x_A sg L (t_a1 text L b), x_Z sg L (t_a1 text L b)) := by rw [hT2, if_neg m2]
        refine Or.inl ⟨rfl, x_eo_0 (x_T5_0 (x_T4_0 ?_))⟩
        rw [x_T3_eq]
        exact x_st_no (by rw [hT2']; exact (x_rs_dig m3 (by decide)).1)
  · rw [if_pos n1]
    refine Or.inl ⟨rfl, x_eo_0 (x_T5_0 (x_T4_0 (x_T3_0 ?_)))⟩
    rw [x_T2_eq]
    exact x_st_no (by rw [hT1]; exact (x_rs_dig n3 (by decide)).1)
