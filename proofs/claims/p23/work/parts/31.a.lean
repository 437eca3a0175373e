/-! what is asked for, on both sides -/
theorem isIn1 {v lo hi : Int32} (h : ¬ m_isIn v lo hi = 0) : lo.toInt ≤ v.toInt ∧ v.toInt ≤ hi.toInt := by
  rw [m_isIn0] at h
  rw [Int32.lt_iff_toInt_lt, Int32.lt_iff_toInt_lt] at h
  omega
theorem isIn_nat {v hi : Int32} {b : Nat} (h : ¬ m_isIn v 0 hi = 0) (hb : hi.toInt = (b : Int)) : ∃ n : Nat, n ≤ b ∧ v = nI n := by
  have h1 := isIn1 h
  rw [show (0 : Int32).toInt = 0 by decide] at h1
  have h3 := Int32.toInt_lt v
  refine ⟨v.toInt.toNat, by omega, ?_⟩
  rw [← Int32.toInt_inj, nI_toInt (by omega)]
  omega
theorem isP_rel {now : Nat → Int32} {sz : Nat} (q : Int32) : m_isP now q sz = x_ht q sz := by
  rw [m_isP, x_ht]
  by_cases h : m_isIn q 0 1999 = 0
  · rw [if_pos h, if_pos h]
  · rw [if_neg h, if_neg h]
    by_cases h2 : 2000 ≤ q * nI sz
    · rw [if_pos h2, if_pos]
      rw [Int32.le_iff_toInt_le, show (2000 : Int32).toInt = 2000 by decide] at h2
      rw [Int32.lt_iff_toInt_lt, show (1999 : Int32).toInt = 1999 by decide]
      omega
    · rw [if_neg h2, if_neg]
      rw [Int32.le_iff_toInt_le, show (2000 : Int32).toInt = 2000 by decide] at h2
      rw [Int32.lt_iff_toInt_lt, show (1999 : Int32).toInt = 1999 by decide]
      omega
theorem x_ht_in {q : Int32} {z : Nat} (h : ¬ x_ht q z = 0) : ¬ m_isIn q 0 1999 = 0 := fun e => h (by rw [x_ht, if_pos e])
theorem rA_B {now : Nat → Int32} {np sz : Nat} {S : AV} {lg gr mv : Int32} (h : rA now np sz S lg gr mv) : rB now np sz (aPn S) (aU S) (aWd S) (aW S) (aTl S) (aTk S) (fun _ => (aWt S).toInt) (fun _ => m_cn now 64 + (if mv = 1 then 1 else 0)) noE := h.2.2.2.2.2.2.2.2.2.2
theorem paneOf_rel {now : Nat → Int32} {np sz pp w : Nat} {S : AV} {lg gr mv : Int32} (h : rA now np sz S lg gr mv) (hp : pp < 2000) (hw : w < 7) : m_paneOf now pp w np sz = x_paneOf (aPn S) (aU S) (aWt S) sz (nI pp) w := by
  have hB := rA_B h
  have hwt := h.2.1.2.2.1
  have hst := st_rel hB hwt hp
  obtain ⟨n, a, s, ⟨g1, g2, g3, g4, g5⟩, g6, g7, ⟨s1, s2, s3, s4, s5, s6, s7⟩, t1, t2⟩ := hB.2.2.2.2.2.2.2.2 pp hp
  have hvm : ∀ c, v_m now np pp c = if m_fk now (nI pp) np < np then now (396 + 8 * m_fk now (nI pp) np + c) else 0 := fun c => rfl
  rw [m_paneOf, x_paneOf]
  rcases (show w = 0 ∨ w = 1 ∨ w = 2 ∨ w = 3 ∨ w = 4 ∨ w = 5 ∨ w = 6 by omega) with rfl | rfl | rfl | rfl | rfl | rfl | rfl
  · rw [if_pos rfl, if_pos rfl]; exact m_state_rel hB hwt hp
  · simp only [show ¬ (1 : Nat) = 0 by decide, show (1 : Nat) < 4 by decide, show ¬ (1 : Nat) = 4 by decide, if_true, if_false, false_and]
    rw [v_c_rd, g3, show nI (1 - 1) = (0 : Int32) from rfl, m_sumOf_0, g1]
  · simp only [show ¬ (2 : Nat) = 0 by decide, show (2 : Nat) < 4 by decide, show ¬ (2 : Nat) = 4 by decide, if_true, if_false, false_and]
    rw [v_c_rd, g4, show nI (2 - 1) = (1 : Int32) from rfl, m_sumOf_1]
  · simp only [show ¬ (3 : Nat) = 0 by decide, show (3 : Nat) < 4 by decide, show ¬ (3 : Nat) = 4 by decide, if_true, if_false, false_and]
    rw [v_c_rd, g5, m_sumOf, if_neg (by decide), if_neg (by decide)]
  · simp only [show ¬ (4 : Nat) = 0 by decide, show ¬ (4 : Nat) < 4 by decide, if_true, if_false, true_and]
    have hm : m_mode now (nI pp) np = v_m now np pp 1 := rfl
    rw [v_c_rd]
    by_cases hme : m_fk now (nI pp) np < np
    · rw [hvm, if_pos hme] at hm
      rcases t2 with ⟨a1, a2, a3⟩ | ⟨a1, a2, a3, a4⟩ | ⟨a1, a2⟩
      · have h1 : ¬ c_state (aPn S) (aU S) (nI pp) (aWt S) sz = 2 := by
          rw [c_state, v_c_rd, a2, if_pos rfl]; split <;> decide
        rw [hvm, if_pos hme] at a1
        rw [if_neg (fun e => by rw [a1] at e; exact absurd e.2 (by decide)), if_pos h1]
      · have h1 : c_state (aPn S) (aU S) (nI pp) (aWt S) sz = 2 := by rw [c_state, v_c_rd, a2, if_neg (by decide)]
        rw [hvm, if_pos hme] at a1 a3
        rw [if_pos ⟨hme, a1⟩, if_neg (fun e => e h1), a3]
      · have h1 : ¬ c_state (aPn S) (aU S) (nI pp) (aWt S) sz = 2 := by rw [c_state, v_c_rd, a2, if_neg (by decide)]; decide
        rw [hvm, if_pos hme] at a1
        rw [if_neg (fun e => by rw [a1] at e; exact absurd e.2 (by decide)), if_pos h1]
    · have hce : ¬ v_ce (aPn S) (aU S) pp := fun e => hme (g7 e)
      have h1 : ¬ c_state (aPn S) (aU S) (nI pp) (aWt S) sz = 2 := by
        rw [c_state, v_c_rd, v_c_out hce, if_pos rfl]; split <;> decide
      rw [if_neg (fun e => hme e.1), if_pos h1]
  · simp only [show ¬ (5 : Nat) = 0 by decide, show ¬ (5 : Nat) < 4 by decide, show ¬ (5 : Nat) = 4 by decide, if_true, if_false, false_and]
    rw [v_c_rd, s7, ← s5]; rfl
  · simp only [show ¬ (6 : Nat) = 0 by decide, show ¬ (6 : Nat) < 4 by decide, show ¬ (6 : Nat) = 4 by decide, show ¬ (6 : Nat) = 5 by decide, if_true, if_false, false_and]
    rw [v_c_rd, s6, ← s4]; rfl
theorem rA_aOk {now : Nat → Int32} {np sz : Nat} {S : AV} {lg gr mv : Int32} (h : rA now np sz S lg gr mv) : aOk now := by
  intro k hk h1
  rcases h.2.2.2.2.2.2.2.2.1 k hk with ⟨a, -⟩ | ⟨-, -, -, -, -, -, -, -, b⟩
  · rw [a] at h1; exact absurd h1 (by decide)
  · exact b
theorem mean_rel {now : Nat → Int32} {np sz pp : Nat} {S : AV} {lg gr mv : Int32} (h : rA now np sz S lg gr mv) (hp : pp < 2000) : m_mean now sz (nI pp) = x_mean (aPn S) (aU S) (nI pp) ∧ ∃ n : Nat, n ≤ 64 ∧ m_num now sz (nI pp) = nI n ∧ p_rd (aPn S) (nI pp) (aU S) 1 = nI n ∧ (m_sum now sz (nI pp)).toInt.natAbs ≤ 6400 ∧ (p_rd (aPn S) (nI pp) (aU S) 2).toInt.natAbs ≤ 6400 := by
  obtain ⟨n, a, s, ⟨g1, g2, g3, g4, g5⟩, -⟩ := (rA_B h).2.2.2.2.2.2.2.2 pp hp
  have hs := m_acc_sum sz (nI pp) (rA_aOk h) 64 (Nat.le_refl _)
  have hs2 : (m_sum now sz (nI pp)).toInt.natAbs ≤ 6400 := hs
  refine ⟨by rw [m_mean, x_mean, v_c_rd, v_c_rd, g3, g4, g1], n, g2, g1, by rw [v_c_rd]; exact g3, hs2, by rw [v_c_rd, g4]; exact hs2⟩
theorem stand_rel {now : Nat → Int32} {np sz pp w : Nat} {S : AV} {lg gr mv : Int32} (h : rA now np sz S lg gr mv) (hp : pp < 2000) (hw : w < 2) : m_stand now pp w np = x_stand (aPn S) (aU S) (nI pp) w := by
  have hB := rA_B h
  obtain ⟨n, a, s, ⟨g1, g2, g3, g4, g5⟩, g6, g7, ⟨s1, s2, s3, s4, s5, s6, s7⟩, t1, t2⟩ := hB.2.2.2.2.2.2.2.2 pp hp
  have hcn : m_cn now 64 ≤ 64 := m_cn_le now 64
  have ha9 : a ≤ 1000 := by
    have h9 : a ≤ m_cn now 64 + (if mv = 1 then 1 else 0) := s2
    split at h9 <;> omega
  rw [m_stand, x_stand]
  by_cases hs : s = 0
  · have hz : (if p_rk (aPn S) (nI pp) (aU S) < aU S then p_st (aPn S) (p_rk (aPn S) (nI pp) (aU S)) else 0) = 0 := by
      by_cases hce : v_ce (aPn S) (aU S) pp
      · rw [if_pos (show p_rk (aPn S) (nI pp) (aU S) < aU S from hce), p_st_v hce s1 ha9 s6 s7, if_pos hs]
      · rw [if_neg (show ¬ p_rk (aPn S) (nI pp) (aU S) < aU S from hce)]
    rw [if_pos hz, if_neg]
    rintro ⟨e1, e2⟩
    exact e2 (by rw [← v_m_in (q := pp) (c := 5) e1, s3, hs]; rfl)
  · obtain rfl : s = 1 := by omega
    obtain ⟨n0, t6, t7⟩ := t1 rfl
    have hce : v_ce (aPn S) (aU S) pp := g6.mpr (Or.inl n0)
    have hme := g7 hce
    have hz : ¬ (if p_rk (aPn S) (nI pp) (aU S) < aU S then p_st (aPn S) (p_rk (aPn S) (nI pp) (aU S)) else 0) = 0 := by
      rw [if_pos (show p_rk (aPn S) (nI pp) (aU S) < aU S from hce), p_st_v hce s1 ha9 s6 s7, if_neg hs]
      decide
    rw [if_neg hz, if_pos ⟨hme, by rw [← v_m_in (q := pp) (c := 5) hme, s3]; decide⟩, v_c_rd]
    rcases (show w = 0 ∨ w = 1 by omega) with rfl | rfl
    · rw [← v_m_in (q := pp) (c := 6 + 0) hme, g3]; exact t6
    · rw [← v_m_in (q := pp) (c := 6 + 1) hme, g4]; exact t7
theorem word_rel {now : Nat → Int32} {np sz ix w : Nat} {S : AV} {lg gr mv : Int32} (h : rA now np sz S lg gr mv) (hw : w < 4) : m_word now ix w = if aW S ≤ ix then -1000004 else aWd S (ix * 4 + w) := by
  have hW := (rA_B h).2.2.2.2.2.1
  rw [m_word, (rW_wN hW).1]
  by_cases e : aW S ≤ ix
  · rw [if_pos e, if_pos e]
  · rw [if_neg e, if_neg e]; exact (hW.2.2 ix w (by omega) hw).symm
theorem evOf_rel {now : Nat → Int32} {np sz i w : Nat} {S : AV} {lg gr mv : Int32} (h : rA now np sz S lg gr mv) (hi : i < 64) (hw : w < 6) : m_evOf now i w sz = e_rd (aEv S) i w := by
  obtain ⟨z0, z1⟩ := h.1
  rw [m_evOf, e_rd, e_has]
  rcases h.2.2.2.2.2.2.2.2.1 i hi with ⟨a, b⟩ | ⟨a, b, ⟨t, c1, c2, c3, c4⟩, d1, d2, d3, d4, -⟩
  · rw [a, b, if_pos rfl, if_pos (show ¬ (0 : Int32) = 1 by decide), if_pos rfl]
  · rw [a, b, if_neg (show ¬ (1 : Int32) = 0 by decide), if_neg (show ¬ ¬ (1 : Int32) = 1 from fun e => e rfl), if_neg (show ¬ (1 : Int32) = 0 by decide)]
    rcases (show w = 0 ∨ w = 1 ∨ w = 2 ∨ w = 3 ∨ w = 4 ∨ w = 5 by omega) with rfl | rfl | rfl | rfl | rfl | rfl
    · rw [if_neg (by decide), c3]; exact c2
    · rw [if_neg (by decide), d1]
    · rw [if_neg (by decide), d2]
    · rw [if_neg (by decide), d3]
    · rw [if_neg (by decide), d4]
    · rw [if_pos rfl, c4, c2]; exact k_tdiv c1 z0 z1
theorem lness_rel {now : Nat → Int32} {np sz t : Nat} {S : AV} {lg gr mv : Int32} (h : rA now np sz S lg gr mv) (ht : t < 2000) : m_lness now t np sz = x_lness (aPn S) (aU S) (aWt S) sz t := by
  have hq : t / sz < 2000 := Nat.lt_of_le_of_lt (Nat.div_le_self _ _) ht
  have hwt := h.2.1.2.2.1
  rw [m_lness, x_lness, k_mulend, hwt]
  rcases st_rel (rA_B h) hwt hq with ⟨a1, a2, a3⟩ | ⟨a1, a2, a3⟩ | ⟨a1, a2, a3⟩
  · by_cases e : aWt S < nI ((t / sz + 1) * sz)
    · rw [(a2 e).1, (a2 e).2, if_pos rfl, if_neg (by decide)]
    · rw [(a3 e).1, (a3 e).2, if_neg (by decide), if_pos rfl]
  · rw [a2, a3, if_pos rfl, if_neg (by decide)]
  · rw [a2, a3, if_pos rfl, if_neg (by decide)]
theorem filed_rel {now : Nat → Int32} {np sz c p : Nat} {S : AV} {lg gr mv : Int32} (h : rA now np sz S lg gr mv) (hc : c < 3) (hp : p < 4) : m_filed now c p = g_rd (aCb S) c p := by
  obtain ⟨n, n4, h1, h2, h3⟩ := h.2.2.2.2.2.2.2.2.2.1 c hc
  rw [m_filed, g_rd, h1]
  by_cases e : p < n
  · obtain ⟨id, i1, i2, i3⟩ := h2 p e
    rw [i2, i3, if_neg (k_id1 i1), if_neg (fun e9 => by have := (nI_leI (a := n) (b := p) (by omega) (by omega)).mp e9; omega)]
    exact pk_sub (a := id + 1) (b := 1) (by omega)
  · rw [h3 p (by omega) hp, if_pos rfl, if_pos ((nI_leI (a := n) (b := p) (by omega) (by omega)).mpr (by omega))]
theorem rE_ok {now ev : Nat → Int32} {sz k : Nat} {key : Int32} (h : rE now ev sz k) (lo hi : Int32) : (ev (k * 7 + 1) = key ∧ ¬ e_out ev k lo hi = 0) ↔ (now (12 + 6 * k + 0) = 1 ∧ now (12 + 6 * k + 2) = key ∧ ¬ m_isIn (now (12 + 6 * k + 5)) lo hi = 0) := by
  rw [e_out_iff, m_isIn0]
  rcases h with ⟨h1, h2⟩ | ⟨h1, h2, -, h3, h4, h5, h6, -⟩
  · rw [h1, h2]
    exact ⟨fun e => absurd e.2.1 (by decide), fun e => absurd e.1 (by decide)⟩
  · rw [h1, h2, h3, h6]
    constructor
    · rintro ⟨a, -, b, c⟩; exact ⟨rfl, a, fun e => e.elim b c⟩
    · rintro ⟨-, a, b⟩; exact ⟨a, rfl, fun e => b (Or.inl e), fun e => b (Or.inr e)⟩
theorem e_ok_step {ev : Nat → Int32} {key lo hi : Int32} {k : Nat} : e_ok ev key lo hi (k + 1) = if ev (k * 7 + 1) = key ∧ ¬ e_out ev k lo hi = 0 then e_ok ev key lo hi k + 1 else e_ok ev key lo hi k := by
  rw [e_ok]
  by_cases h1 : ev (k * 7 + 1) = key
  · have h1' : ¬ ¬ ev (k * 7 + 1) = key := fun e => e h1
    rw [if_neg h1']
    by_cases h2 : e_out ev k lo hi = 0
    · rw [if_pos h2, if_neg (fun e => e.2 h2)]
    · rw [if_neg h2, if_pos ⟨h1, h2⟩]
  · rw [if_pos h1, if_neg (fun e => h1 e.1)]
theorem trust_k {now ev : Nat → Int32} {sz : Nat} {key : Int32} (h : ∀ k, k < 64 → rE now ev sz k) : ∀ k, k ≤ 64 → e_ok ev key 0 3 k = m_tn now key k ∧ 2 * e_ok ev key 0 0 k + e_ok ev key 1 1 k = m_th now key k
  | 0, _ => ⟨rfl, rfl⟩
  | k + 1, hk => by
    obtain ⟨i1, i2⟩ := trust_k (key := key) h k (by omega)
    have hE := h k (by omega)
    rw [e_ok_step, e_ok_step, e_ok_step, m_tn, m_th]
    simp only [rE_ok hE]
    by_cases c0 : now (12 + 6 * k + 0) = 1
    · by_cases c1 : now (12 + 6 * k + 2) = key
      · rcases hE with ⟨a, -⟩ | ⟨-, -, -, -, -, -, -, ⟨r, r3, hr⟩, -⟩
        · rw [a] at c0; exact absurd c0 (by decide)
        · simp only [c0, c1, true_and, not_true_eq_false, if_false, hr]
          rcases (show r = 0 ∨ r = 1 ∨ r = 2 ∨ r = 3 by omega) with rfl | rfl | rfl | rfl
          · have e1 : ¬ m_isIn (nI 0) 0 3 = 0 := by decide
            have e2 : ¬ m_isIn (nI 0) 0 0 = 0 := by decide
            have e3 : m_isIn (nI 0) 1 1 = 0 := by decide
            simp only [e1, e2, e3, not_true_eq_false, not_false_eq_true, if_true, if_false]
            rw [if_pos (show nI 0 = (0 : Int32) from rfl)]
            omega
          · have e1 : ¬ m_isIn (nI 1) 0 3 = 0 := by decide
            have e2 : m_isIn (nI 1) 0 0 = 0 := by decide
            have e3 : ¬ m_isIn (nI 1) 1 1 = 0 := by decide
            have e4 : ¬ nI 1 = 0 := by decide
            have e5 : nI 1 = 1 := by decide
            simp only [e1, e2, e3, e4, not_true_eq_false, not_false_eq_true, if_true, if_false]
            rw [if_pos e5]
            omega
          · have e1 : ¬ m_isIn (nI 2) 0 3 = 0 := by decide
            have e2 : m_isIn (nI 2) 0 0 = 0 := by decide
            have e3 : m_isIn (nI 2) 1 1 = 0 := by decide
            have e4 : ¬ nI 2 = 0 := by decide
            have e5 : ¬ nI 2 = 1 := by decide
            simp only [e1, e2, e3, e4, e5, not_true_eq_false, not_false_eq_true, if_true, if_false]
            omega
          · have e1 : ¬ m_isIn (nI 3) 0 3 = 0 := by decide
            have e2 : m_isIn (nI 3) 0 0 = 0 := by decide
            have e3 : m_isIn (nI 3) 1 1 = 0 := by decide
            have e4 : ¬ nI 3 = 0 := by decide
            have e5 : ¬ nI 3 = 1 := by decide
            simp only [e1, e2, e3, e4, e5, not_true_eq_false, not_false_eq_true, if_true, if_false]
            omega
      · simp only [c0, c1, false_and, and_false, not_true_eq_false, not_false_eq_true, if_true, if_false]
        exact ⟨i1, i2⟩
    · simp only [c0, false_and, not_false_eq_true, if_true, if_false]
      exact ⟨i1, i2⟩
theorem trust_rel {now : Nat → Int32} {np sz : Nat} {S : AV} {lg gr mv key : Int32} (h : rA now np sz S lg gr mv) : m_trust now key = x_trust (aEv S) key := by
  obtain ⟨h1, h2⟩ := trust_k (key := key) h.2.2.2.2.2.2.2.2.1 64 (Nat.le_refl _)
  rw [m_trust, x_trust, h1, h2]
