/-! the latest time that could be excused, on both sides: whole -/
theorem shut_iff {now pn wd : Nat → Int32} {np sz u w q : Nat} {tl tk wt : Int32} {W : Nat → Int} {B : Nat → Nat} {E : Nat → Prop} (h : rB now np sz pn u wd w tl tk W B E) (hwt : now 0 = wt) (hq : q < 2000) : m_shut now q np sz = 0 ↔ ¬ c_state pn u (nI q) wt sz = 1 := by
  rcases st_rel h hwt hq with ⟨a1, a2, a3⟩ | ⟨a1, a2, a3⟩ | ⟨a1, a2, a3⟩
  · by_cases e : wt < nI ((q + 1) * sz)
    · rw [(a2 e).1, (a2 e).2]; decide
    · rw [(a3 e).1, (a3 e).2]; decide
  · rw [a2, a3]; decide
  · rw [a2, a3]; decide
theorem shut_no {now pn wd : Nat → Int32} {np sz u w q : Nat} {tl tk wt : Int32} {W : Nat → Int} {B : Nat → Nat} {E : Nat → Prop} (h : rB now np sz pn u wd w tl tk W B E) (hwt : now 0 = wt) (hq : q < 2000) (hlt : wt < nI ((q + 1) * sz)) : m_shut now q np sz = 0 := by
  rcases st_rel h hwt hq with ⟨a1, a2, a3⟩ | ⟨a1, a2, a3⟩ | ⟨a1, a2, a3⟩
  · exact (a2 hlt).2
  · exact a3
  · exact a3
theorem k_pane {b sz i : Nat} (h1 : b * sz ≤ i) (h2 : i < (b + 1) * sz) : i / sz = b := Nat.div_eq_of_lt_le h1 h2
/-- refused in a shut pane: refused in all earlier ones (the net, illness) -/
theorem acc_down {ev : Nat → Int32} {v z t t' : Nat} {key x : Int32} (h0 : 0 < z) (h1 : z ≤ 100) (hv : v < 2000) (ht : t < 2000) (htt : t' ≤ t) (hx : ¬ x = 3) (h : c_acc ev (nI v) z t key x = 0) : c_acc ev (nI v) z t' key x = 0 := by
  have a1 : t / z < 2000 := Nat.lt_of_le_of_lt (Nat.div_le_self _ _) ht
  have a2 : t' / z ≤ t / z := Nat.div_le_div_right htt
  have b1 := le_bound (q := t / z) h1 a1 (rfl : nI v = nI v) hv
  have b2 := le_bound (q := t' / z) h1 (by omega) (rfl : nI v = nI v) hv
  have b3 : (t' / z + 1) * z ≤ (t / z + 1) * z := Nat.mul_le_mul_right _ (by omega)
  rw [c_acc, k_mulend] at h ⊢
  by_cases c1 : x = 1
  · rw [if_pos c1] at h ⊢
    by_cases c : 10 < nI v - nI ((t / z + 1) * z) + 1
    · rw [if_pos]
      rw [Int32.lt_iff_toInt_lt] at c ⊢
      omega
    · rw [if_neg c] at h; exact absurd h (by decide)
  · rw [if_neg c1] at h ⊢
    by_cases c2 : x = 2
    · rw [if_pos c2] at h ⊢
      by_cases c : 40 < nI v - nI ((t / z + 1) * z) + 1
      · rw [if_pos]
        rw [Int32.lt_iff_toInt_lt] at c ⊢
        omega
      · rw [if_neg c] at h
        by_cases d : ¬ e_ilL ev key 64 0 = 0
        · rw [if_pos d]; exact ite_self _
        · rw [if_neg d] at h; exact absurd h (by decide)
    · rw [if_neg c2, if_neg hx]
theorem feast7 (F : Nat) : ∃ j, j < 7 ∧ 5 ≤ (F + j) % 7 := by
  have h := Nat.mod_lt F (show 0 < 7 by decide)
  refine ⟨(12 - F % 7) % 7, Nat.mod_lt _ (by decide), ?_⟩
  have e : F % 7 = 0 ∨ F % 7 = 1 ∨ F % 7 = 2 ∨ F % 7 = 3 ∨ F % 7 = 4 ∨ F % 7 = 5 ∨ F % 7 = 6 := by omega
  rcases e with e | e | e | e | e | e | e <;> rw [e] <;> omega
/-- none of the last times of a pane is accepted: none of the pane -/
theorem pane_none {ev : Nat → Int32} {wt key x : Int32} {z b : Nat} (h0 : 0 < z) (h : ∀ i, i < c_m7 z → c_acc ev wt z ((b + 1) * z - c_m7 z + i) key x = 0) : ∀ t, b * z ≤ t → t < (b + 1) * z → c_acc ev wt z t key x = 0 := by
  have e : (b + 1) * z = b * z + z := by rw [Nat.add_mul, Nat.one_mul]
  intro t ht1 ht2
  rw [c_m7] at h
  by_cases hz : z < 7
  · rw [if_pos hz] at h
    have h2 := h (t - b * z) (by omega)
    rw [show (b + 1) * z - z + (t - b * z) = t by omega] at h2
    exact h2
  · rw [if_neg hz] at h
    by_cases hx : x = 3
    · obtain ⟨j, j1, j2⟩ := feast7 ((b + 1) * z - 7)
      have h2 := h j j1
      rw [c_acc, hx, if_neg (by decide), if_neg (by decide), if_pos rfl, if_neg] at h2
      · exact absurd h2 (by decide)
      · have h7 := Nat.mod_lt ((b + 1) * z - 7 + j) (show 0 < 7 by decide)
        exact fun e9 => by have := (nI_ltI (a := ((b + 1) * z - 7 + j) % 7) (b := 5) (by omega) (by omega)).mp e9; omega
    · rw [c_acc_pane (t' := (b + 1) * z - 7 + 0) ?_ hx]
      · exact h 0 (by omega)
      · rw [k_pane ht1 ht2, k_pane (b := b) (by omega) (by omega)]
theorem le_main {now : Nat → Int32} {np sz v : Nat} {S : AV} {lg gr mv key x : Int32} (h : rA now np sz S lg gr mv) (hwt : aWt S = nI v) (hv : v < 2000) : ∀ b, b ≤ v / sz → m_leL now key x np sz (b * sz) = c_laL (aEv S) (aPn S) (aU S) (nI v) sz key x b
  | 0, _ => by rw [Nat.zero_mul, m_leL, c_laL]
  | b + 1, hb => by
    obtain ⟨z0, z1⟩ := h.1
    have hvz : v / sz ≤ v := Nat.div_le_self _ _
    have hbv : (b + 1) * sz ≤ v := (Nat.le_div_iff_mul_le z0).mp (by omega)
    have h0w := h.2.1.2.2.1
    have hB := rA_B h
    have hE := h.2.2.2.2.2.2.2.2.1
    have ih := le_main (key := key) (x := x) h hwt hv b (by omega)
    have e : (b + 1) * sz = b * sz + sz := by rw [Nat.add_mul, Nat.one_mul]
    have hm7 := c_m7_le (z := sz) (b := b)
    have hm7z : c_m7 sz ≤ sz := by rw [c_m7]; split <;> omega
    have hexc : ∀ t, m_exc now t key x sz = c_acc (aEv S) (nI v) sz t key x := fun t => by rw [exc_rel hE h0w, hwt]
    have hsh : m_shut now b np sz = 0 ↔ ¬ c_state (aPn S) (aU S) (nI b) (nI v) sz = 1 := by
      have := shut_iff hB h0w (q := b) (by omega)
      rw [hwt] at this
      exact this
    rw [c_laL]
    by_cases c1 : c_state (aPn S) (aU S) (nI b) (nI v) sz = 1
    · have c1' : ¬ ¬ c_state (aPn S) (aU S) (nI b) (nI v) sz = 1 := fun e9 => e9 c1
      rw [if_neg c1']
      have hshb : ¬ m_shut now b np sz = 0 := fun e9 => hsh.mp e9 c1
      rcases c_liL_spec (ev := aEv S) (wt := nI v) (key := key) (x := x) (z := sz) (F := (b + 1) * sz - c_m7 sz) (c_m7 sz) with ⟨j, j1, j2, j3, j4⟩ | ⟨g1, g2⟩
      · have hli : c_li (aEv S) (nI v) sz b key x = nI ((b + 1) * sz - c_m7 sz + j) := j4
        rw [hli, if_pos (show (0 : Int32) ≤ nI ((b + 1) * sz - c_m7 sz + j) by rw [Int32.le_iff_toInt_le, nI_toInt (by omega), show (0 : Int32).toInt = 0 by decide]; omega)]
        have hsk := m_leL_skip (now := now) (key := key) (x := x) (np := np) (sz := sz) (a := (b + 1) * sz - c_m7 sz + j + 1) (c_m7 sz - j - 1) (fun i i1 i2 => Or.inr (by
          rw [hexc]
          have := j3 (i - ((b + 1) * sz - c_m7 sz)) (by omega) (by omega)
          rw [show (b + 1) * sz - c_m7 sz + (i - ((b + 1) * sz - c_m7 sz)) = i by omega] at this
          exact this))
        rw [show (b + 1) * sz - c_m7 sz + j + 1 + (c_m7 sz - j - 1) = (b + 1) * sz by omega] at hsk
        rw [hsk]
        exact m_leL_hit (by rw [k_pane (b := b) (by omega) (by omega)]; exact hshb) (by rw [hexc]; exact j2)
      · have hli : c_li (aEv S) (nI v) sz b key x = -1000004 := g2
        have hnone := pane_none (b := b) z0 g1
        have hsk := m_leL_skip (now := now) (key := key) (x := x) (np := np) (sz := sz) (a := b * sz) sz (fun i i1 i2 => Or.inr (by rw [hexc]; exact hnone i i1 (by omega)))
        rw [hli, if_neg (show ¬ (0 : Int32) ≤ -1000004 by decide), e, hsk]
        by_cases hx : x = 3
        · rw [if_pos hx]; exact ih
        · rw [if_neg hx]
          have hsk2 := m_leL_skip (now := now) (key := key) (x := x) (np := np) (sz := sz) (a := 0) (b * sz) (fun i i1 i2 => Or.inr (by
            rw [hexc]
            exact acc_down (t := b * sz) z0 z1 hv (by omega) (by omega) hx (hnone (b * sz) (Nat.le_refl _) (by omega))))
          rw [Nat.zero_add] at hsk2
          rw [hsk2, m_leL]
    · rw [if_pos c1]
      have hsk := m_leL_skip (now := now) (key := key) (x := x) (np := np) (sz := sz) (a := b * sz) sz (fun i i1 i2 => Or.inl (by rw [k_pane (b := b) i1 (by omega)]; exact hsh.mpr c1))
      rw [e, hsk]; exact ih
theorem latest_rel {now : Nat → Int32} {np sz v : Nat} {S : AV} {lg gr mv key x : Int32} (h : rA now np sz S lg gr mv) (hwt : aWt S = nI v) (hv : v < 2000) : m_leL now key x np sz 2000 = c_laL (aEv S) (aPn S) (aU S) (nI v) sz key x (v / sz) := by
  obtain ⟨z0, z1⟩ := h.1
  have hvz : v / sz * sz ≤ v := Nat.div_mul_le_self _ _
  have h0w := h.2.1.2.2.1
  rw [← le_main h hwt hv (v / sz) (Nat.le_refl _)]
  have hsk := m_leL_skip (now := now) (key := key) (x := x) (np := np) (sz := sz) (a := v / sz * sz) (2000 - v / sz * sz) (fun i i1 i2 => Or.inl (by
    have hi2 : i / sz < 2000 := Nat.lt_of_le_of_lt (Nat.div_le_self _ _) (by omega)
    refine shut_no (rA_B h) h0w hi2 ?_
    rw [hwt]
    have h1 : v / sz ≤ i / sz := by rw [Nat.le_div_iff_mul_le z0]; exact i1
    have h2 : v < (i / sz + 1) * sz := by rw [← Nat.div_lt_iff_lt_mul z0]; omega
    have h3 := k_szb hi2 z1
    exact (nI_ltI (a := v) (b := (i / sz + 1) * sz) (by omega) (by omega)).mpr h2))
  rw [show v / sz * sz + (2000 - v / sz * sz) = 2000 by omega] at hsk
  exact hsk
theorem latest_no {now : Nat → Int32} {np sz : Nat} {S : AV} {lg gr mv key x : Int32} (h : rA now np sz S lg gr mv) (hwt : aWt S = -1) : m_leL now key x np sz 2000 = -1000004 := by
  obtain ⟨z0, z1⟩ := h.1
  have h0w := h.2.1.2.2.1
  have hsk := m_leL_skip (now := now) (key := key) (x := x) (np := np) (sz := sz) (a := 0) 2000 (fun i i1 i2 => Or.inl (by
    have hi2 : i / sz < 2000 := Nat.lt_of_le_of_lt (Nat.div_le_self _ _) (by omega)
    refine shut_no (rA_B h) h0w hi2 ?_
    have h3 := k_szb hi2 z1
    rw [hwt, Int32.lt_iff_toInt_lt, nI_toInt (by omega), show (-1 : Int32).toInt = -1 by decide]
    omega))
  rw [Nat.zero_add] at hsk
  rw [hsk, m_leL]
