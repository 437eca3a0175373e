/-! panes by their numbers: the reference -/
theorem k_nIinj {a b : Nat} (ha : a < 2000) (hb : b < 2000) (h : nI a = nI b) : a = b := (nI_eq (a := a) (b := b) (by omega) (by omega)).mp h
theorem m_fkL_spec (now : Nat → Int32) (q : Int32) : ∀ n k, k ≤ m_fkL now q n k ∧ m_fkL now q n k ≤ k + n ∧ (∀ j, k ≤ j → j < m_fkL now q n k → ¬ now (396 + 8 * j + 0) = q) ∧ (m_fkL now q n k < k + n → now (396 + 8 * m_fkL now q n k + 0) = q)
  | 0, k => by
    rw [m_fkL]
    exact ⟨Nat.le_refl _, Nat.le_refl _, fun j h1 h2 => absurd h2 (by omega), fun h => absurd h (by omega)⟩
  | n + 1, k => by
    rw [m_fkL]
    split
    · rename_i h
      exact ⟨Nat.le_refl _, by omega, fun j h1 h2 => absurd h2 (by omega), fun _ => h⟩
    · rename_i h
      obtain ⟨a, b, c, d⟩ := m_fkL_spec now q n (k + 1)
      refine ⟨by omega, by omega, fun j h1 h2 => ?_, fun h2 => d (by omega)⟩
      by_cases hj : j = k
      · rw [hj]; exact h
      · exact c j (by omega) h2
theorem m_fk_no {now : Nat → Int32} {q : Int32} {np j : Nat} (h : j < m_fk now q np) : ¬ now (396 + 8 * j + 0) = q := (m_fkL_spec now q np 0).2.2.1 j (by omega) h
theorem m_fk_at {now : Nat → Int32} {q : Int32} {np : Nat} (h : m_fk now q np < np) : now (396 + 8 * m_fk now q np + 0) = q := (m_fkL_spec now q np 0).2.2.2 (by rw [m_fk] at h; omega)
theorem m_fk_ex {now : Nat → Int32} {q : Int32} {np k : Nat} (hk : k < np) (h : now (396 + 8 * k + 0) = q) : m_fk now q np ≤ k := Nat.le_of_not_lt (fun h2 => m_fk_no h2 h)
theorem m_fkL_cong {now now' : Nat → Int32} {q : Int32} : ∀ {n k : Nat}, (∀ j, k ≤ j → j < k + n → now' (396 + 8 * j + 0) = now (396 + 8 * j + 0)) → m_fkL now' q n k = m_fkL now q n k
  | 0, k, _ => rfl
  | n + 1, k, h => by
    rw [m_fkL, m_fkL, h k (Nat.le_refl _) (by omega), m_fkL_cong (fun j h1 h2 => h j (by omega) (by omega))]
theorem m_fk_cong {now now' : Nat → Int32} {q : Int32} {np : Nat} (h : ∀ j, j < np → now' (396 + 8 * j + 0) = now (396 + 8 * j + 0)) : m_fk now' q np = m_fk now q np := m_fkL_cong (fun j _ h2 => h j (by omega))
/-- the kept panes' numbers are apart -/
def dOk (now : Nat → Int32) (np : Nat) : Prop := ∀ j k, j < np → k < np → now (396 + 8 * j + 0) = now (396 + 8 * k + 0) → j = k
def v_m (now : Nat → Int32) (np q c : Nat) : Int32 := if m_fk now (nI q) np < np then now (396 + 8 * m_fk now (nI q) np + c) else 0
def v_me (now : Nat → Int32) (np q : Nat) : Prop := m_fk now (nI q) np < np
theorem v_m_in {now : Nat → Int32} {np q c : Nat} (h : v_me now np q) : v_m now np q c = now (396 + 8 * m_fk now (nI q) np + c) := if_pos h
theorem v_m_out {now : Nat → Int32} {np q c : Nat} (h : ¬ v_me now np q) : v_m now np q c = 0 := if_neg h
theorem v_me_cong {now now' : Nat → Int32} {np : Nat} (h : ∀ j, j < np → now' (396 + 8 * j + 0) = now (396 + 8 * j + 0)) (q : Nat) : v_me now' np q ↔ v_me now np q := by rw [v_me, v_me, m_fk_cong h]
/-- the same panes, the same views -/
theorem v_m_cong {now now' : Nat → Int32} {np : Nat} (h : ∀ j c, j < np → c < 8 → now' (396 + 8 * j + c) = now (396 + 8 * j + c)) {q c : Nat} (hc : c < 8) : v_m now' np q c = v_m now np q c := by
  rw [v_m, v_m, m_fk_cong (fun j hj => h j 0 hj (by omega))]
  split
  · rename_i hl
    exact h _ _ hl hc
  · rfl
theorem v_m_upd {now : Nat → Int32} {np q c : Nat} {x : Int32} (he : v_me now np q) (hq : q < 2000) (hc0 : 0 < c) (hc : c < 8) {q' c' : Nat} (hq' : q' < 2000) (hc' : c' < 8) :
    v_m (upd now (396 + 8 * m_fk now (nI q) np + c) x) np q' c' = if q' = q ∧ c' = c then x else v_m now np q' c' := by
  have e : m_fk (upd now (396 + 8 * m_fk now (nI q) np + c) x) (nI q') np = m_fk now (nI q') np := m_fk_cong (fun j hj => pk_un (by omega))
  rw [v_m, v_m, e]
  by_cases h1 : m_fk now (nI q') np < np
  · rw [if_pos h1, if_pos h1]
    by_cases h2 : q' = q ∧ c' = c
    · rw [if_pos h2, h2.1, h2.2]; exact pk_us
    · rw [if_neg h2]
      refine pk_un (fun h3 => h2 ?_)
      have h4 : m_fk now (nI q') np = m_fk now (nI q) np := by omega
      refine ⟨k_nIinj hq' hq ?_, by omega⟩
      rw [← m_fk_at h1, ← m_fk_at he, h4]
  · rw [if_neg h1, if_neg h1, if_neg]
    intro h2
    rw [h2.1] at h1
    exact h1 he
/-- a pane comes among the kept ones -/
theorem v_me_keep {now : Nat → Int32} {np q : Nat} (hn : ¬ v_me now np q) (hq : q < 2000) {q' : Nat} (hq' : q' < 2000) : v_me (m_keep now (nI q) np) (np + 1) q' ↔ (v_me now np q' ∨ q' = q) := by
  have hnum : ∀ j, j < np → m_keep now (nI q) np (396 + 8 * j + 0) = now (396 + 8 * j + 0) := fun j hj => m_keep_o (by omega) (by omega)
  have hnew : m_keep now (nI q) np (396 + 8 * np + 0) = nI q := by rw [m_keep]; exact pk_us
  constructor
  · intro h
    have h1 := m_fk_at h
    by_cases h2 : m_fk (m_keep now (nI q) np) (nI q') (np + 1) < np
    · rw [hnum _ h2] at h1
      exact Or.inl (Nat.lt_of_le_of_lt (m_fk_ex h2 h1) h2)
    · have h3 : m_fk (m_keep now (nI q) np) (nI q') (np + 1) = np := by have h4 : _ < np + 1 := h; omega
      rw [h3, hnew] at h1
      exact Or.inr (k_nIinj hq' hq h1.symm)
  · rintro (h | h)
    · have h1 := m_fk_at h
      exact Nat.lt_of_le_of_lt (m_fk_ex (k := m_fk now (nI q') np) (Nat.lt_succ_of_lt h) ((hnum _ h).trans h1)) (Nat.lt_succ_of_lt h)
    · rw [h]
      exact Nat.lt_of_le_of_lt (m_fk_ex (k := np) (Nat.lt_succ_self _) hnew) (Nat.lt_succ_self _)
theorem v_m_keep {now : Nat → Int32} {np q : Nat} (hn : ¬ v_me now np q) (hq : q < 2000) {q' c : Nat} (hq' : q' < 2000) (hc0 : 0 < c) (hc : c < 8) : v_m (m_keep now (nI q) np) (np + 1) q' c = v_m now np q' c := by
  have hnum : ∀ j, j < np → m_keep now (nI q) np (396 + 8 * j + 0) = now (396 + 8 * j + 0) := fun j hj => m_keep_o (by omega) (by omega)
  have hnew : m_keep now (nI q) np (396 + 8 * np + 0) = nI q := by rw [m_keep]; exact pk_us
  have hz : m_keep now (nI q) np (396 + 8 * np + c) = 0 := by
    rw [m_keep]
    rcases (show c = 1 ∨ c = 2 ∨ c = 3 ∨ c = 4 ∨ c = 5 ∨ c = 6 ∨ c = 7 by omega) with rfl | rfl | rfl | rfl | rfl | rfl | rfl <;>
      simp [upd]
  by_cases h : v_me now np q'
  · have h1 := m_fk_at h
    have hne : ¬ q' = q := fun e => hn (e ▸ h)
    have he : m_fk (m_keep now (nI q) np) (nI q') (np + 1) = m_fk now (nI q') np := by
      have a1 := m_fk_ex (now := m_keep now (nI q) np) (np := np + 1) (k := m_fk now (nI q') np) (Nat.lt_succ_of_lt h) ((hnum _ h).trans h1)
      have h0 : m_fk now (nI q') np < np := h
      have a2 := m_fk_at (now := m_keep now (nI q) np) (q := nI q') (np := np + 1) (by omega)
      rw [hnum _ (by omega)] at a2
      have a3 := m_fk_ex (now := now) (np := np) (k := m_fk (m_keep now (nI q) np) (nI q') (np + 1)) (by omega) a2
      omega
    have h0 : m_fk now (nI q') np < np := h
    rw [v_m_in h, v_m_in ((v_me_keep hn hq hq').mpr (Or.inl h)), he]
    exact m_keep_o (by omega) (by omega)
  · rw [v_m_out h]
    by_cases hqq : q' = q
    · have hin : v_me (m_keep now (nI q) np) (np + 1) q' := (v_me_keep hn hq hq').mpr (Or.inr hqq)
      have he : m_fk (m_keep now (nI q) np) (nI q') (np + 1) = np := by
        have a2 := m_fk_at hin
        have a4 : m_fk (m_keep now (nI q) np) (nI q') (np + 1) < np + 1 := hin
        by_cases h2 : m_fk (m_keep now (nI q) np) (nI q') (np + 1) < np
        · rw [hnum _ h2] at a2
          exact absurd (Nat.lt_of_le_of_lt (m_fk_ex h2 a2) h2) h
        · omega
      rw [v_m_in hin, he]; exact hz
    · exact v_m_out (fun hin => ((v_me_keep hn hq hq').mp hin).elim h hqq)
theorem dOk_keep {now : Nat → Int32} {np q : Nat} (hn : ¬ v_me now np q) (hd : dOk now np) : dOk (m_keep now (nI q) np) (np + 1) := by
  have hnum : ∀ j, j < np → m_keep now (nI q) np (396 + 8 * j + 0) = now (396 + 8 * j + 0) := fun j hj => m_keep_o (by omega) (by omega)
  have hnew : m_keep now (nI q) np (396 + 8 * np + 0) = nI q := by rw [m_keep]; exact pk_us
  intro j k hj hk h
  by_cases h1 : j < np
  · rw [hnum j h1] at h
    by_cases h2 : k < np
    · rw [hnum k h2] at h; exact hd j k h1 h2 h
    · rw [show k = np by omega, hnew] at h
      exact absurd (Nat.lt_of_le_of_lt (m_fk_ex h1 h) h1) hn
  · rw [show j = np by omega, hnew] at h
    by_cases h2 : k < np
    · rw [hnum k h2] at h
      exact absurd (Nat.lt_of_le_of_lt (m_fk_ex h2 h.symm) h2) hn
    · omega
theorem dOk_cong {now now' : Nat → Int32} {np : Nat} (h : ∀ j, j < np → now' (396 + 8 * j + 0) = now (396 + 8 * j + 0)) (hd : dOk now np) : dOk now' np := fun j k hj hk e => hd j k hj hk (by rw [← h j hj, ← h k hk]; exact e)
