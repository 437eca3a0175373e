/-! rows and panes: sums over rows are sums over panes; how many events count -/
theorem m_acc_pos {now : Nat → Int32} {sz : Nat} {q : Int32} : ∀ k, ¬ (m_acc now sz q k).1 = 0 → ∃ j, j < k ∧ ¬ m_cts now j = 0 ∧ now (12 + 6 * j + 1) / nI sz = q
  | 0, h => absurd (by rw [m_acc]) h
  | k + 1, h => by
    rw [m_acc] at h
    by_cases c1 : m_cts now k = 0
    · rw [if_pos c1] at h
      obtain ⟨j, j1, j2⟩ := m_acc_pos k h
      exact ⟨j, by omega, j2⟩
    · rw [if_neg c1] at h
      by_cases c2 : now (12 + 6 * k + 1) / nI sz = q
      · exact ⟨k, by omega, c1, c2⟩
      · rw [if_neg c2] at h
        obtain ⟨j, j1, j2⟩ := m_acc_pos k h
        exact ⟨j, by omega, j2⟩
theorem m_cts_1 {now : Nat → Int32} {k : Nat} (h : ¬ m_cts now k = 0) : now (12 + 6 * k + 0) = 1 ∧ ¬ m_isIn (now (12 + 6 * k + 5)) 0 1 = 0 := by
  rw [m_cts] at h
  by_cases c : now (12 + 6 * k + 0) = 1
  · rw [if_neg (fun h => h c)] at h
    refine ⟨c, fun e => h ?_⟩
    rw [if_pos e]
  · rw [if_pos c] at h; exact absurd rfl h
theorem m_cts_2 {now : Nat → Int32} {k : Nat} (h : now (12 + 6 * k + 0) = 1) (h2 : ¬ m_isIn (now (12 + 6 * k + 5)) 0 1 = 0) : ¬ m_cts now k = 0 := by
  rw [m_cts, if_neg (fun h9 => h9 h), if_neg h2]; decide
theorem rA_time {now : Nat → Int32} {np z k : Nat} {S : AV} {lg gr mv : Int32} (h : rA now np z S lg gr mv) (hk : k < 64) (hc : now (12 + 6 * k + 0) = 1) : ∃ t : Nat, t < 2000 ∧ now (12 + 6 * k + 1) / nI z = nI (t / z) := by
  rcases h.2.2.2.2.2.2.2.2.1 k hk with ⟨a, -⟩ | ⟨-, -, ⟨t, t1, t2, -⟩, -⟩
  · rw [hc] at a; exact absurd a (by decide)
  · exact ⟨t, t1, by rw [t2]; exact k_tdiv t1 h.1.1 h.1.2⟩
theorem pane_fits {now : Nat → Int32} {np z q : Nat} {S : AV} {lg gr mv : Int32} (h : rA now np z S lg gr mv) (hq : q < 2000) (hce : v_ce (aPn S) (aU S) q) : q * z ≤ 1999 := by
  obtain ⟨n, a, s, ⟨g1, g2, -⟩, g6, -⟩ := (rA_B h).2.2.2.2.2.2.2.2 q hq
  have hn : 0 < n := (g6.mp hce).resolve_right (fun h => h)
  have hne : ¬ (m_acc now z (nI q) 64).1 = 0 := by
    have e : (m_acc now z (nI q) 64).1 = nI n := g1
    rw [e]; exact nI_ne0 hn (by omega)
  obtain ⟨j, j1, j2, j3⟩ := m_acc_pos 64 hne
  obtain ⟨t, t1, t2⟩ := rA_time h j1 (m_cts_1 j2).1
  have hd : t / z < 2000 := Nat.lt_of_le_of_lt (Nat.div_le_self _ _) t1
  have e : t / z = q := k_nIinj hd hq (t2.symm.trans j3)
  have := Nat.div_mul_le_self t z
  rw [← e]; omega
noncomputable def c_N (now : Nat → Int32) (z q : Nat) : Nat → Nat
  | 0 => 0
  | k + 1 => c_N now z q k + q_b (¬ m_cts now k = 0 ∧ now (12 + 6 * k + 1) / nI z = nI q)
theorem c_N_le (now : Nat → Int32) (z q : Nat) : ∀ k, c_N now z q k ≤ k
  | 0 => Nat.le_refl _
  | k + 1 => by
    have h := c_N_le now z q k
    rw [c_N]
    rcases q_b_or (¬ m_cts now k = 0 ∧ now (12 + 6 * k + 1) / nI z = nI q) with ⟨-, b⟩ | ⟨-, b⟩ <;> omega
theorem m_acc_N (now : Nat → Int32) (z q : Nat) : ∀ k, (m_acc now z (nI q) k).1 = nI (c_N now z q k)
  | 0 => by rw [m_acc, c_N]; rfl
  | k + 1 => by
    have h := m_acc_N now z q k
    rw [m_acc, c_N]
    by_cases c1 : m_cts now k = 0
    · rw [if_pos c1, q_b0 (fun h => h.1 c1)]; exact h
    · rw [if_neg c1]
      by_cases c2 : now (12 + 6 * k + 1) / nI z = nI q
      · rw [if_pos c2, q_b1 ⟨c1, c2⟩, ← nI_1, ← h]
      · rw [if_neg c2, q_b0 (fun h => c2 h.2)]; exact h
theorem c_N_sum {now : Nat → Int32} {np z : Nat} {S : AV} {lg gr mv : Int32} (h : rA now np z S lg gr mv) : ∀ k, k ≤ 64 → q_sum (fun q => c_N now z q k) 2000 = e_wo (aEv S) 0 1 k
  | 0, _ => by
    have e : q_sum (fun q => c_N now z q 0) 2000 = q_sum (fun _ => 0) 2000 := q_sum_cong (fun i _ => by rw [c_N])
    rw [e, q_sum_zero, e_wo]
  | k + 1, hk => by
    have ih := c_N_sum h k (by omega)
    have e : q_sum (fun q => c_N now z q (k + 1)) 2000 = q_sum (fun q => c_N now z q k + q_b (¬ m_cts now k = 0 ∧ now (12 + 6 * k + 1) / nI z = nI q)) 2000 := q_sum_cong (fun i _ => by rw [c_N])
    rw [e, q_sum_add, ih, e_wo]
    have hout : ¬ e_out (aEv S) k 0 1 = 0 ↔ ¬ m_cts now k = 0 := by
      rw [e_out_iff]
      rcases h.2.2.2.2.2.2.2.2.1 k (by omega) with ⟨a, b⟩ | ⟨a, b, -, -, -, -, b4, -⟩
      · constructor
        · rintro ⟨h1, -⟩; rw [b] at h1; exact absurd h1 (by decide)
        · intro h1; have := (m_cts_1 h1).1; rw [a] at this; exact absurd this (by decide)
      · rw [b4]
        constructor
        · rintro ⟨-, h1, h2⟩
          refine m_cts_2 a (fun e => ?_)
          rcases m_isIn0.mp e with e | e
          · exact h1 e
          · exact h2 e
        · intro h1
          have h2 := (m_cts_1 h1).2
          exact ⟨b, fun e => h2 (m_isIn0.mpr (Or.inl e)), fun e => h2 (m_isIn0.mpr (Or.inr e))⟩
    by_cases c : m_cts now k = 0
    · have z0 : q_sum (fun q => q_b (¬ m_cts now k = 0 ∧ now (12 + 6 * k + 1) / nI z = nI q)) 2000 = q_sum (fun _ => 0) 2000 := q_sum_cong (fun i _ => q_b0 (fun h => h.1 c))
      rw [z0, q_sum_zero, if_pos (Classical.byContradiction (fun c9 => hout.mp c9 c))]
      rfl
    · obtain ⟨t, t1, t2⟩ := rA_time h (by omega) (m_cts_1 c).1
      have hd : t / z < 2000 := Nat.lt_of_le_of_lt (Nat.div_le_self _ _) t1
      have z1 : q_sum (fun q => q_b (¬ m_cts now k = 0 ∧ now (12 + 6 * k + 1) / nI z = nI q)) 2000 = q_sum (fun _ => 0) 2000 + 1 := by
        refine q_sum_add2 (a := t / z) hd (fun i hi hne => q_b0 (fun h => hne ?_)) ?_
        · exact k_nIinj hi hd (by rw [← h.2]; exact t2)
        · show q_b _ = 0 + 1
          rw [q_b1 ⟨c, t2⟩]
      rw [z1, q_sum_zero, if_neg (hout.mpr c)]
/-- how many events count, by panes -/
theorem num_sum {now : Nat → Int32} {np z : Nat} {S : AV} {lg gr mv : Int32} (h : rA now np z S lg gr mv) : ∃ N : Nat → Nat, (∀ q, q < 2000 → N q ≤ 64 ∧ v_c (aPn S) (aU S) q 1 = nI (N q) ∧ (v_ce (aPn S) (aU S) q ↔ 0 < N q)) ∧ q_sum N 2000 = e_wo (aEv S) 0 1 64 := by
  refine ⟨fun q => c_N now z q 64, fun q hq => ?_, c_N_sum h 64 (Nat.le_refl _)⟩
  obtain ⟨n, a, s, ⟨g1, g2, g3, -⟩, g6, -⟩ := (rA_B h).2.2.2.2.2.2.2.2 q hq
  have hle := c_N_le now z q 64
  have e1 : (m_acc now z (nI q) 64).1 = nI n := g1
  have e : n = c_N now z q 64 := (nI_eq (by omega) (by omega)).mp (e1.symm.trans (m_acc_N now z q 64))
  show c_N now z q 64 ≤ 64 ∧ _ = nI (c_N now z q 64) ∧ (_ ↔ 0 < c_N now z q 64)
  rw [← e]
  exact ⟨g2, g3, g6.trans ⟨fun h => h.resolve_right (fun h => h), Or.inl⟩⟩
/-- a row's pane -/
def r_p (pn : Nat → Int32) (r : Nat) : Nat := (pn (r * 8 + 7)).toNatClampNeg
theorem r_p_at {pn : Nat → Int32} {u r : Nat} (hs : sOk pn u) (hr : r < u) : r_p pn r < 2000 ∧ pn (r * 8 + 7) = nI (r_p pn r) ∧ v_ce pn u (r_p pn r) ∧ p_rk pn (nI (r_p pn r)) u = r := by
  obtain ⟨q, h1, h2⟩ := hs.1 r hr
  have e : r_p pn r = q := by rw [r_p, h2, nI_clamp (by omega)]
  have hk : p_rk pn (nI q) u = r := p_rk_eq hs hr h2
  rw [e]
  exact ⟨h1, h2, by rw [v_ce, hk]; exact hr, hk⟩
theorem r_p_lt {pn : Nat → Int32} {u r s : Nat} (hs : sOk pn u) (h : r < s) (hu : s < u) : r_p pn r < r_p pn s := by
  obtain ⟨a1, a2, -⟩ := r_p_at hs (show r < u by omega)
  obtain ⟨b1, b2, -⟩ := r_p_at hs hu
  have h2 := hs.2 r s h hu
  rw [a2, b2] at h2
  exact (nI_ltI (by omega) (by omega)).mp h2
theorem v_ce_r {pn : Nat → Int32} {u q : Nat} (hs : sOk pn u) (hq : q < 2000) : v_ce pn u q ↔ ∃ r, r < u ∧ r_p pn r = q := by
  constructor
  · intro h
    refine ⟨p_rk pn (nI q) u, h, ?_⟩
    rw [r_p, p_rk_at h, nI_clamp (by omega)]
  · rintro ⟨r, hr, e⟩
    rw [← e]; exact (r_p_at hs hr).2.2.1
theorem row_sum {pn : Nat → Int32} {u : Nat} (hs : sOk pn u) (F : Nat → Nat) : ∀ k, k ≤ u → q_sum (fun r => F (r_p pn r)) k = q_sum (fun q => q_b (∃ r, r < k ∧ r_p pn r = q) * F q) 2000
  | 0, _ => by
    have e : q_sum (fun q => q_b (∃ r, r < 0 ∧ r_p pn r = q) * F q) 2000 = q_sum (fun _ => 0) 2000 := q_sum_cong (fun i _ => by rw [q_b0 (fun ⟨r, hr, _⟩ => absurd hr (Nat.not_lt_zero r)), Nat.zero_mul])
    rw [e, q_sum_zero]; rfl
  | k + 1, hk => by
    have ih := row_sum hs F k (by omega)
    have hp := (r_p_at hs (show k < u by omega)).1
    have e : q_sum (fun q => q_b (∃ r, r < k + 1 ∧ r_p pn r = q) * F q) 2000 = q_sum (fun q => q_b (∃ r, r < k ∧ r_p pn r = q) * F q) 2000 + F (r_p pn k) := by
      refine q_sum_add2 (a := r_p pn k) hp (fun i hi hne => ?_) ?_
      · show q_b _ * F i = q_b _ * F i
        rw [q_b_cong (p := ∃ r, r < k + 1 ∧ r_p pn r = i) (q := ∃ r, r < k ∧ r_p pn r = i) ⟨fun ⟨r, r1, r2⟩ => ⟨r, by
          have : r ≠ k := fun e => hne (by rw [← r2, e])
          omega, r2⟩, fun ⟨r, r1, r2⟩ => ⟨r, by omega, r2⟩⟩]
      · show q_b _ * F (r_p pn k) = q_b _ * F (r_p pn k) + F (r_p pn k)
        rw [q_b1 ⟨k, by omega, rfl⟩, q_b0, Nat.zero_mul, Nat.one_mul, Nat.zero_add]
        rintro ⟨r, r1, r2⟩
        have := r_p_lt hs r1 (by omega)
        omega
    rw [e, ← ih]; rfl
theorem row_sum_all {pn : Nat → Int32} {u : Nat} (hs : sOk pn u) {F : Nat → Nat} (hF : ∀ q, q < 2000 → ¬ v_ce pn u q → F q = 0) : q_sum (fun r => F (r_p pn r)) u = q_sum F 2000 := by
  rw [row_sum hs F u (Nat.le_refl _)]
  refine q_sum_cong (fun q hq => ?_)
  by_cases c : v_ce pn u q
  · rw [q_b1 ((v_ce_r hs hq).mp c), Nat.one_mul]
  · rw [hF q hq c, Nat.mul_zero]
theorem p_cc_v {pn : Nat → Int32} {u : Nat} (hs : sOk pn u) : p_cc pn u = q_sum (fun q => q_b (v_c pn u q 0 = 3)) 2000 := by
  rw [cc_k hs u (Nat.le_refl _)]
  refine q_sum_cong (fun q hq => q_b_cong ⟨fun ⟨j, j1, j2, j3⟩ => ?_, fun h => ?_⟩)
  · have hk : p_rk pn (nI q) u = j := p_rk_eq hs j1 j2
    rw [v_c, hk, if_pos j1]; exact j3
  · have hce := v_ce_of h (by decide)
    exact ⟨p_rk pn (nI q) u, hce, p_rk_at hce, by rw [← v_c_in hce]; exact h⟩
theorem x_cl_cc {pn pn' : Nat → Int32} {u u' : Nat} (hs : sOk pn u) (hs' : sOk pn' u') (h : x_cl pn u pn' u') : p_cc pn u ≤ p_cc pn' u' ∧ (p_cc pn u = p_cc pn' u' → ∀ q, q < 2000 → (v_c pn' u' q 0 = 3 ↔ v_c pn u q 0 = 3)) := by
  rw [p_cc_v hs, p_cc_v hs']
  have hm : ∀ q, q < 2000 → q_b (v_c pn u q 0 = 3) ≤ q_b (v_c pn' u' q 0 = 3) := fun q hq => q_b_mono (fun h3 => (h q hq h3).1)
  exact ⟨q_sum_le hm, fun e q hq => (q_b_eq (q_sum_all 2000 hm e q hq)).symm⟩
/-- the number that nextPane gives behind the row before r -/
def q_nx (pn : Nat → Int32) (u r : Nat) : Int32 := if r < u then pn (r * 8 + 7) else -1000004
theorem nx_0 {pn : Nat → Int32} {u : Nat} (hs : sOk pn u) : p_beh pn (-1) u = q_nx pn u 0 := by
  rw [q_nx]
  by_cases c : 0 < u
  · rw [if_pos c]
    refine p_beh_some hs c ?_ (fun j hj => absurd hj (Nat.not_lt_zero j))
    rw [(r_p_at hs c).2.1, Int32.lt_iff_toInt_lt, nI_toInt (by have := (r_p_at hs c).1; omega), show (-1 : Int32).toInt = -1 by decide]; omega
  · rw [if_neg c]
    exact p_beh_none (fun j hj => by omega)
theorem nx_s {pn : Nat → Int32} {u r : Nat} (hs : sOk pn u) (hr : r < u) : p_beh pn (pn (r * 8 + 7)) u = q_nx pn u (r + 1) := by
  rw [q_nx]
  have hle : ∀ j, j < r + 1 → ¬ pn (r * 8 + 7) < pn (j * 8 + 7) := fun j hj h => by
    by_cases e : j = r
    · rw [e] at h; exact i_lt_irrefl h
    · exact i_lt_irrefl (i_lt_trans h (hs.2 j r (by omega) hr))
  by_cases c : r + 1 < u
  · rw [if_pos c]
    exact p_beh_some hs c (hs.2 r (r + 1) (by omega) c) hle
  · rw [if_neg c]
    exact p_beh_none (fun j hj => hle j (by omega))
theorem nx_neg {pn : Nat → Int32} {u r : Nat} (hs : sOk pn u) : (q_nx pn u r < 0 ∧ ¬ r < u) ∨ (¬ q_nx pn u r < 0 ∧ r < u ∧ q_nx pn u r = pn (r * 8 + 7)) := by
  rw [q_nx]
  by_cases c : r < u
  · rw [if_pos c]
    exact Or.inr ⟨by rw [(r_p_at hs c).2.1]; exact nI_pos (by have := (r_p_at hs c).1; omega), c, rfl⟩
  · rw [if_neg c]; exact Or.inl ⟨by decide, c⟩
