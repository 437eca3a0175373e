/-! the next pane, on both sides -/
theorem p_beh_some {pn : Nat → Int32} {u r : Nat} {q : Int32} (hs : sOk pn u) (hr : r < u) (h1 : q < pn (r * 8 + 7)) (h2 : ∀ j, j < r → ¬ q < pn (j * 8 + 7)) : p_beh pn q u = pn (r * 8 + 7) := by
  have hrb : p_rb pn q u = r := by
    have hle := p_rb_le pn q u
    by_cases c : p_rb pn q u < r
    · exact absurd (p_rb_at (pn := pn) (q := q) (u := u) (by omega)) (h2 _ c)
    · by_cases c2 : r < p_rb pn q u
      · exact absurd h1 (p_rb_lo c2)
      · omega
  rw [p_beh, hrb, if_pos hr]
theorem p_beh_none {pn : Nat → Int32} {u : Nat} {q : Int32} (h : ∀ j, j < u → ¬ q < pn (j * 8 + 7)) : p_beh pn q u = -1000004 := by
  rw [p_beh, if_neg]
  intro c
  exact h _ c (p_rb_at c)
theorem p_beh_cong {pn : Nat → Int32} {u : Nat} {q q' : Int32} (hs : sOk pn u) (h : ∀ j, j < u → (q < pn (j * 8 + 7) ↔ q' < pn (j * 8 + 7))) : p_beh pn q u = p_beh pn q' u := by
  by_cases c : p_rb pn q u < u
  · have e1 := p_beh_some hs c (p_rb_at c) (fun j hj => p_rb_lo hj)
    have e2 := p_beh_some (q := q') hs c ((h _ c).mp (p_rb_at c)) (fun j hj e => p_rb_lo hj ((h j (by omega)).mpr e))
    rw [e1, e2]
  · have e1 := p_beh_none (q := q) (pn := pn) (u := u) (fun j hj e => by
      have := p_rb_le pn q u
      exact p_rb_lo (u := u) (j := j) (by omega) e)
    have e2 := p_beh_none (q := q') (pn := pn) (u := u) (fun j hj e => by
      have := p_rb_le pn q u
      exact p_rb_lo (u := u) (j := j) (by omega) ((h j hj).mpr e))
    rw [e1, e2]
theorem nextPane_L {now pn wd : Nat → Int32} {np sz u w : Nat} {tl tk : Int32} {W : Nat → Int} {B : Nat → Nat} (h : rB now np sz pn u wd w tl tk W B noE) : ∀ (n : Nat) (ab : Int32), -1 ≤ ab.toInt → 1999 ≤ ab.toInt + (n : Int) → m_npL now np sz n ab = p_beh pn ab u
  | 0, ab, h1, h2 => by
    rw [m_npL, p_beh_none]
    intro j hj e
    obtain ⟨p, p1, p2⟩ := h.2.2.2.1.1 j hj
    rw [p2, Int32.lt_iff_toInt_lt, nI_toInt (by omega)] at e
    omega
  | n + 1, ab, h1, h2 => by
    obtain ⟨s1, s2⟩ := m_nb_spec now ab np
    have hs := h.2.2.2.1
    have hkept : ∀ j, j < u → ∃ p, p < 2000 ∧ pn (j * 8 + 7) = nI p ∧ m_fk now (nI p) np < np := fun j hj => by
      obtain ⟨p, p1, p2⟩ := hs.1 j hj
      obtain ⟨a, b, c, -, -, g7, -⟩ := h.2.2.2.2.2.2.2.2 p p1
      exact ⟨p, p1, p2, g7 (Nat.lt_of_le_of_lt (p_rk_ex hj p2) hj)⟩
    rw [m_npL]
    cases hb : m_nb now ab np with
    | none =>
      simp only
      rw [p_beh_none]
      intro j hj e
      obtain ⟨p, p1, p2, p3⟩ := hkept j hj
      have := s1 hb _ p3
      rw [m_fk_at p3, Int32.le_iff_toInt_le] at this
      rw [p2, Int32.lt_iff_toInt_lt] at e
      omega
    | some k =>
      simp only
      obtain ⟨b1, b2, b3⟩ := s2 k hb
      obtain ⟨q, q1, q2⟩ := h.2.1 k b1
      have hfk : m_fk now (nI q) np = k := m_fk_eq h.1 b1 q2
      obtain ⟨n9, a9, s9, ⟨g1, g2, -⟩, g6, -⟩ := h.2.2.2.2.2.2.2.2 q q1
      rw [q2, g1]
      rw [q2, Int32.le_iff_toInt_le, nI_toInt (by omega)] at b2
      have hmin : ∀ j, j < u → ab < pn (j * 8 + 7) → (q : Int) ≤ (pn (j * 8 + 7)).toInt := fun j hj e => by
        obtain ⟨p, p1, p2, p3⟩ := hkept j hj
        have h3 := b3 _ p3 (by rw [m_fk_at p3, ← p2, Int32.le_iff_toInt_le]; rw [Int32.lt_iff_toInt_lt] at e; omega)
        rw [q2, m_fk_at p3, Int32.le_iff_toInt_le, nI_toInt (by omega)] at h3
        rw [p2]; exact h3
      by_cases hn : n9 = 0
      · rw [hn, if_pos (show nI 0 ≤ 0 by decide), nextPane_L h n (nI q) (by rw [nI_toInt (by omega)]; omega) (by rw [nI_toInt (by omega)]; omega)]
        refine p_beh_cong hs (fun j hj => ⟨fun e => ?_, fun e => ?_⟩)
        · rw [Int32.lt_iff_toInt_lt, nI_toInt (by omega)] at e
          rw [Int32.lt_iff_toInt_lt]; omega
        · have h3 := hmin j hj e
          obtain ⟨p, p1, p2, p3⟩ := hkept j hj
          have hne : ¬ p = q := fun e9 => by
            have hce : v_ce pn u q := Nat.lt_of_le_of_lt (p_rk_ex hj (by rw [p2, e9])) hj
            rcases g6.mp hce with h9 | h9
            · omega
            · exact h9
          rw [p2, nI_toInt (by omega)] at h3
          rw [p2, Int32.lt_iff_toInt_lt, nI_toInt (by omega), nI_toInt (by omega)]
          omega
      · rw [if_neg (nI_nle (by omega) (by omega))]
        have hce : v_ce pn u q := g6.mpr (Or.inl (by omega))
        have hat := p_rk_at hce
        rw [p_beh_some (r := p_rk pn (nI q) u) hs hce (by rw [hat, Int32.lt_iff_toInt_lt, nI_toInt (by omega)]; omega) (fun j hj e => ?_), hat]
        have h3 := hmin j (by have h9 : p_rk pn (nI q) u < u := hce; omega) e
        have h4 := hs.2 j _ hj hce
        rw [hat, Int32.lt_iff_toInt_lt, nI_toInt (by omega)] at h4
        omega
/-! the latest time that could be excused, on both sides -/
theorem le_bound {wt : Int32} {v sz q : Nat} (h1 : sz ≤ 100) (hq : q < 2000) (hwt : wt = nI v) (hv : v < 2000) : (wt - nI ((q + 1) * sz) + 1).toInt = (v : Int) - (((q + 1) * sz : Nat) : Int) + 1 := by
  have hzb := k_szb hq h1
  have e1 : (wt - nI ((q + 1) * sz)).toInt = (v : Int) - (((q + 1) * sz : Nat) : Int) := by rw [hwt]; exact pk_sub_toInt (by omega) (by omega)
  rw [Int32.toInt_add, e1, show (1 : Int32).toInt = 1 by decide, Int.bmod_eq_of_le (by omega) (by omega)]
/-- whether an excuse is accepted, by the lateness of the pane: with what the time's remainder says -/
theorem c_acc_pane {ev : Nat → Int32} {wt key x : Int32} {z t t' : Nat} (hq : t / z = t' / z) (hx : ¬ x = 3) : c_acc ev wt z t key x = c_acc ev wt z t' key x := by
  rw [c_acc, c_acc, hq]
  by_cases c1 : x = 1
  · rw [if_pos c1, if_pos c1]
  · rw [if_neg c1, if_neg c1]
    by_cases c2 : x = 2
    · rw [if_pos c2, if_pos c2]
    · rw [if_neg c2, if_neg c2, if_neg hx, if_neg hx]
/-- the search inside a pane -/
theorem c_liL_spec {ev : Nat → Int32} {wt key x : Int32} {z F : Nat} : ∀ n, (∃ j, j < n ∧ ¬ c_acc ev wt z (F + j) key x = 0 ∧ (∀ i, j < i → i < n → c_acc ev wt z (F + i) key x = 0) ∧ c_liL ev wt z key x F n = nI (F + j)) ∨ ((∀ i, i < n → c_acc ev wt z (F + i) key x = 0) ∧ c_liL ev wt z key x F n = -1000004)
  | 0 => Or.inr ⟨fun i hi => absurd hi (by omega), rfl⟩
  | n + 1 => by
    rw [c_liL]
    by_cases c : c_acc ev wt z (F + n) key x = 0
    · rw [if_pos c]
      rcases c_liL_spec (ev := ev) (wt := wt) (key := key) (x := x) (z := z) (F := F) n with ⟨j, j1, j2, j3, j4⟩ | ⟨h1, h2⟩
      · refine Or.inl ⟨j, by omega, j2, fun i hi hin => ?_, j4⟩
        by_cases e : i = n
        · rw [e]; exact c
        · exact j3 i hi (by omega)
      · refine Or.inr ⟨fun i hi => ?_, h2⟩
        by_cases e : i = n
        · rw [e]; exact c
        · exact h1 i (by omega)
    · rw [if_neg c]
      exact Or.inl ⟨n, by omega, c, fun i h1 h2 => absurd h2 (by omega), rfl⟩
/-- the search over times from T down: what a run of times that are shut and refused leaves -/
theorem m_leL_skip {now : Nat → Int32} {key x : Int32} {np sz a : Nat} : ∀ n, (∀ i, a ≤ i → i < a + n → m_shut now (i / sz) np sz = 0 ∨ m_exc now i key x sz = 0) → m_leL now key x np sz (a + n) = m_leL now key x np sz a
  | 0, _ => rfl
  | n + 1, h => by
    rw [show a + (n + 1) = (a + n) + 1 by omega, m_leL]
    rcases h (a + n) (by omega) (by omega) with e | e
    · rw [if_pos e]; exact m_leL_skip n (fun i h1 h2 => h i h1 (by omega))
    · rw [e]
      rw [show (if (0 : Int32) = 0 then m_leL now key x np sz (a + n) else nI (a + n)) = m_leL now key x np sz (a + n) from if_pos rfl, ite_self]
      exact m_leL_skip n (fun i h1 h2 => h i h1 (by omega))
theorem m_leL_hit {now : Nat → Int32} {key x : Int32} {np sz a : Nat} (h1 : ¬ m_shut now (a / sz) np sz = 0) (h2 : ¬ m_exc now a key x sz = 0) : m_leL now key x np sz (a + 1) = nI a := by
  rw [m_leL, if_neg h1, if_neg h2]
