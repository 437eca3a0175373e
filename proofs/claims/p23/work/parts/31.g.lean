/-! faults and playing, on both sides -/
theorem x_isE_in {i t k a : Int32} (h : ¬ x_isE i t k a = 0) : ¬ m_isIn i 0 63 = 0 ∧ ¬ m_isIn t 0 1999 = 0 ∧ ¬ m_isIn k 0 5 = 0 ∧ ¬ m_isIn a (-100) 100 = 0 := by
  rw [x_isE] at h
  refine ⟨fun e => h (by rw [if_pos e]), fun e => h ?_, fun e => h ?_, fun e => h ?_⟩
  · rw [if_pos e]; exact ite_self _
  · rw [if_pos e, ite_self]; exact ite_self _
  · rw [if_pos e, ite_self, ite_self]; exact ite_self _
theorem isE_am {a : Int32} (h : ¬ m_isIn a (-100) 100 = 0) : a.toInt.natAbs ≤ 100 := by
  have h1 := isIn1 h
  rw [show (-100 : Int32).toInt = -100 by decide, show (100 : Int32).toInt = 100 by decide] at h1
  omega
theorem rA_good {now : Nat → Int32} {np sz i t x : Nat} {S : AV} {lg gr mv : Int32} (h : rA now np sz S lg gr mv) (hi : i < 64) (ht : t < 2000) (hx : x ≤ 3) : m_good now np sz i ∧ x_good S sz gr i t (nI x) := by
  have hB := rA_B h
  have hw := rW_wN hB.2.2.2.2.2.1
  have hq : t / sz < 2000 := Nat.lt_of_le_of_lt (Nat.div_le_self _ _) ht
  obtain ⟨-, -, -, -, -, -, -, ⟨-, -, hnp, hu⟩, -⟩ := id h
  have hcn : ¬ now (12 + 6 * i + 0) = 1 → m_cn now 64 < 64 := fun e => m_cn_lt e hi
  refine ⟨⟨h.2.1.2.1, hB.2.2.1, h.2.1.1, hw.2, hB.2.1, fun e => by have := hcn e; omega⟩, hB.2.2.2.2.1, hB.2.2.2.2.2.1.2.1, fun e => ?_, rA_zf h⟩
  have hnew : ¬ now (12 + 6 * i + 0) = 1 := by
    rcases rA_has h hi with ⟨-, e2⟩ | ⟨e1, -⟩
    · rw [e2] at e; exact absurd e (by decide)
    · exact e1
  have hlt := hcn hnew
  refine ⟨fun _ => by omega, fun hno => ?_⟩
  have hcap : ¬ v_ce (aPn S) (aU S) (t / sz) → aU S < 64 := fun _ => by omega
  have hs := hB.2.2.2.1
  have hin := (v_ce_mp hs hcap hq hq).mpr (Or.inr rfl)
  have hrk : p_rk (x_re S sz gr t).1 (nI (t / sz)) (p_mu (aPn S) (nI (t / sz)) (aU S)) = p_rk (p_mp (aPn S) (nI (t / sz)) (aU S)) (nI (t / sz)) (p_mu (aPn S) (nI (t / sz)) (aU S)) := by
    show p_rk (upd (upd (p_take (p_mp (aPn S) (nI (t / sz)) (aU S), aWd S, aW S, aTk S) (p_mr (aPn S) (nI (t / sz)) (aU S))).1 (p_mr (aPn S) (nI (t / sz)) (aU S) * 8 + 0) 2) (p_mr (aPn S) (nI (t / sz)) (aU S) * 8 + 4) (aWt S + gr + 1)) _ _ = _
    rw [p_rk_upd (by omega), p_rk_upd (by omega), p_take]
    split
    · rfl
    · exact p_rk_upd (by omega) _
  rw [hrk] at hno
  exact absurd hin hno
