/-! what moving the watermark back does, pane by pane -/
theorem q_sum_range {P : Nat → Prop} {N b : Nat} : ∀ n, b + n ≤ N → q_sum (fun p => q_b (b ≤ p ∧ p < b + n ∧ P p)) N = q_sum (fun i => q_b (P (b + i))) n
  | 0, _ => by
    have e : q_sum (fun p => q_b (b ≤ p ∧ p < b + 0 ∧ P p)) N = q_sum (fun _ => 0) N := q_sum_cong (fun i _ => q_b0 (fun h => by omega))
    rw [e, q_sum_zero]; rfl
  | n + 1, hn => by
    have ih := q_sum_range (P := P) (N := N) (b := b) n (by omega)
    have e : q_sum (fun p => q_b (b ≤ p ∧ p < b + (n + 1) ∧ P p)) N = q_sum (fun p => q_b (b ≤ p ∧ p < b + n ∧ P p)) N + q_b (P (b + n)) := by
      refine q_sum_add2 (a := b + n) (by omega) (fun i hi hne => q_b_cong ⟨fun h => ⟨h.1, by omega, h.2.2⟩, fun h => ⟨h.1, by omega, h.2.2⟩⟩) ?_
      show q_b _ = q_b _ + q_b _
      rw [q_b0 (p := b ≤ b + n ∧ b + n < b + n ∧ P (b + n)) (fun h => by omega), Nat.zero_add]
      exact q_b_cong ⟨fun h => h.2.2, fun h => ⟨by omega, by omega, h⟩⟩
    rw [e, ih]; rfl
/-- the pane q takes its word back when the watermark is moved -/
def t_k (v z : Nat) (pn : Nat → Int32) (u q : Nat) : Prop := v_ce pn u q ∧ c_state pn u (nI q) (nI v) z = 1 ∧ ¬ v_c pn u q 5 ≤ v_c pn u q 6
theorem c_state_v {pn : Nat → Int32} {u q z : Nat} {wt : Int32} : c_state pn u (nI q) wt z = if v_c pn u q 0 = 0 then (if nI ((q + 1) * z) ≤ wt then 1 else 0) else v_c pn u q 0 := by
  rw [c_state, v_c_rd, k_mulend]
theorem p_take_v {S : PW} {u q : Nat} (hq : q < 2000) (hce : v_ce S.1 u q) :
    (¬ v_c S.1 u q 5 ≤ v_c S.1 u q 6 → (∀ p c, p < 2000 → c < 7 → v_c (p_take S (p_rk S.1 (nI q) u)).1 u p c = if p = q ∧ c = 6 then v_c S.1 u q 6 + 1 else v_c S.1 u p c) ∧ (p_take S (p_rk S.1 (nI q) u)).2.2.2 = S.2.2.2 + 1) ∧ (v_c S.1 u q 5 ≤ v_c S.1 u q 6 → p_take S (p_rk S.1 (nI q) u) = S) ∧ ∀ j, (p_take S (p_rk S.1 (nI q) u)).1 (j * 8 + 7) = S.1 (j * 8 + 7) := by
  have e5 : S.1 (p_rk S.1 (nI q) u * 8 + 5) = v_c S.1 u q 5 := (v_c_in hce).symm
  have e6 : S.1 (p_rk S.1 (nI q) u * 8 + 6) = v_c S.1 u q 6 := (v_c_in hce).symm
  by_cases c : v_c S.1 u q 5 ≤ v_c S.1 u q 6
  · have e : p_take S (p_rk S.1 (nI q) u) = S := by rw [p_take, p_st, e5, e6, if_pos c, if_pos rfl]
    rw [e]
    exact ⟨fun h => absurd c h, fun _ => rfl, fun _ => rfl⟩
  · have e : p_take S (p_rk S.1 (nI q) u) = (upd S.1 (p_rk S.1 (nI q) u * 8 + 6) (v_c S.1 u q 6 + 1), w_add S.2.1 S.2.2.1 1 (S.1 (p_rk S.1 (nI q) u * 8 + 7)) (S.1 (p_rk S.1 (nI q) u * 8 + 1)) (S.1 (p_rk S.1 (nI q) u * 8 + 2)), w_n S.2.2.1, S.2.2.2 + 1) := by rw [p_take, p_st, e5, e6, if_neg c, if_neg (by decide)]
    rw [e]
    refine ⟨fun _ => ⟨fun p c hp hc => ?_, rfl⟩, fun h => absurd h c, fun j => pk_un (by omega)⟩
    show v_c (upd S.1 (p_rk S.1 (nI q) u * 8 + 6) (v_c S.1 u q 6 + 1)) u p c = _
    rw [v_c_upd hce hq (by omega) hp (by omega)]
theorem t_Q {v z u : Nat} : ∀ (n b cn : Nat) (S : PW), b + n ≤ 2000 →
    (∀ j, (c_mbL v z u n b cn S).2.1 (j * 8 + 7) = S.1 (j * 8 + 7)) ∧
    (∀ p c, p < 2000 → c < 7 → ((b ≤ p ∧ p < b + n ∧ t_k v z S.1 u p) → v_c (c_mbL v z u n b cn S).2.1 u p c = if c = 6 then v_c S.1 u p 6 + 1 else v_c S.1 u p c) ∧ (¬ (b ≤ p ∧ p < b + n ∧ t_k v z S.1 u p) → v_c (c_mbL v z u n b cn S).2.1 u p c = v_c S.1 u p c)) ∧
    (c_mbL v z u n b cn S).2.2.2.2 = S.2.2.2 + nI (q_sum (fun i => q_b (t_k v z S.1 u (b + i))) n)
  | 0, b, cn, S, _ => ⟨fun _ => rfl, fun p c _ _ => ⟨fun h => by omega, fun _ => rfl⟩, (i_add0 _).symm⟩
  | n + 1, b, cn, S, hn => by
    obtain ⟨S1, cn1, hS1, hL⟩ : ∃ (S1 : PW) (cn1 : Nat), S1 = (if c_state S.1 u (nI b) (nI v) z = 1 then p_takeQ S (nI b) u else S) ∧ c_mbL v z u (n + 1) b cn S = c_mbL v z u n (b + 1) cn1 S1 := by
      rw [c_mbL]
      by_cases c : c_state S.1 u (nI b) (nI v) z = 1
      · exact ⟨_, cn + 1, rfl, by rw [if_pos c, if_pos c]⟩
      · exact ⟨_, cn, rfl, by rw [if_neg c, if_neg c]⟩
    rw [hL]
    obtain ⟨i1, i2, i3⟩ := t_Q (v := v) (z := z) (u := u) n (b + 1) cn1 S1 (by omega)
    have hb : b < 2000 := by omega
    have k0 : (∀ j, S1.1 (j * 8 + 7) = S.1 (j * 8 + 7)) ∧ (t_k v z S.1 u b → (∀ p c, p < 2000 → c < 7 → v_c S1.1 u p c = if p = b ∧ c = 6 then v_c S.1 u b 6 + 1 else v_c S.1 u p c) ∧ S1.2.2.2 = S.2.2.2 + 1) ∧ (¬ t_k v z S.1 u b → S1 = S) := by
      rw [hS1]
      by_cases c : c_state S.1 u (nI b) (nI v) z = 1
      · rw [if_pos c, p_takeQ]
        by_cases hce : v_ce S.1 u b
        · have hce2 : p_rk S.1 (nI b) u < u := hce
          rw [if_pos hce2]
          obtain ⟨g1, g2, g3⟩ := p_take_v hb hce
          refine ⟨g3, fun h => g1 h.2.2, fun h => g2 (Classical.byContradiction (fun h2 => h ⟨hce, c, h2⟩))⟩
        · have hce2 : ¬ p_rk S.1 (nI b) u < u := hce
          rw [if_neg hce2]
          exact ⟨fun _ => rfl, fun h => absurd h.1 hce, fun _ => rfl⟩
      · rw [if_neg c]
        exact ⟨fun _ => rfl, fun h => absurd h.2.1 c, fun _ => rfl⟩
    obtain ⟨k1, k2, k2'⟩ := k0
    have k3 : ∀ p c, p < 2000 → c < 7 → p ≠ b → v_c S1.1 u p c = v_c S.1 u p c := fun p c hp hc hpq => by
      by_cases ht : t_k v z S.1 u b
      · rw [(k2 ht).1 p c hp hc, if_neg (fun h => hpq h.1)]
      · rw [k2' ht]
    have k4 : ∀ p, p < 2000 → p ≠ b → (t_k v z S1.1 u p ↔ t_k v z S.1 u p) := fun p hp hpq => by
      rw [t_k, t_k, v_ce_num k1 p, c_state_v, c_state_v, k3 p 0 hp (by omega) hpq, k3 p 5 hp (by omega) hpq, k3 p 6 hp (by omega) hpq]
    have k5 : S1.2.2.2 = S.2.2.2 + nI (q_b (t_k v z S.1 u b)) := by
      rcases q_b_or (t_k v z S.1 u b) with ⟨a, e⟩ | ⟨a, e⟩
      · rw [e, (k2 a).2]; rfl
      · rw [e, k2' a]; exact (i_add0 _).symm
    refine ⟨fun j => (i1 j).trans (k1 j), fun p c hp hc => ?_, ?_⟩
    · by_cases hpq : p = b
      · subst hpq
        have h1 := (i2 p c hp hc).2 (fun h => by omega)
        refine ⟨fun h => ?_, fun h => ?_⟩
        · rw [h1, (k2 h.2.2).1 p c hp hc]
          by_cases h6 : c = 6
          · rw [if_pos ⟨rfl, h6⟩, if_pos h6]
          · rw [if_neg (fun h => h6 h.2), if_neg h6]
        · rw [h1, k2' (fun ht => h ⟨Nat.le_refl _, by omega, ht⟩)]
      · refine ⟨fun h => ?_, fun h => ?_⟩
        · rw [(i2 p c hp hc).1 ⟨by omega, by omega, (k4 p hp hpq).mpr h.2.2⟩, k3 p 6 hp (by omega) hpq, k3 p c hp hc hpq]
        · rw [(i2 p c hp hc).2 (fun h2 => h ⟨by omega, by omega, (k4 p hp hpq).mp h2.2.2⟩), k3 p c hp hc hpq]
    · rw [i3, k5, i_add_nI]
      have e1 : q_sum (fun i => q_b (t_k v z S1.1 u (b + 1 + i))) n = q_sum (fun i => q_b (t_k v z S.1 u (b + (i + 1)))) n := q_sum_cong (fun i hi => q_b_cong (by
        rw [show b + (i + 1) = b + 1 + i by omega]
        exact k4 (b + 1 + i) (by omega) (by omega)))
      rw [q_sum_first (f := fun i => q_b (t_k v z S.1 u (b + i))) n, e1]
      rfl
/-! what holds of the panes' rows all the time -/
def p_X1 (pn : Nat → Int32) (u : Nat) (wt : Int32) (z q : Nat) : Prop :=
  (v_c pn u q 5 = v_c pn u q 6 ∨ s_d pn u q) ∧
  ((v_c pn u q 0 = 0 ∧ (s_d pn u q → nI ((q + 1) * z) ≤ wt) ∧ (v_ce pn u q → nI ((q + 1) * z) ≤ wt → s_d pn u q)) ∨ (v_c pn u q 0 = 2 ∧ v_c pn u q 5 = v_c pn u q 6 ∧ wt < v_c pn u q 4) ∨ (v_c pn u q 0 = 3 ∧ s_d pn u q))
def p_X (pn : Nat → Int32) (u : Nat) (tl tk wt : Int32) (z : Nat) : Prop :=
  sOk pn u ∧ (∀ q, q < 2000 → p_X1 pn u wt z q) ∧ tl = tk + nI (q_sum (fun q => q_b (s_d pn u q)) 2000)
theorem s_d_no {pn : Nat → Int32} {u q : Nat} (h : v_c pn u q 5 = v_c pn u q 6) : ¬ s_d pn u q := fun h2 => i_ne1 _ (by
  have h2 : v_c pn u q 5 = v_c pn u q 6 + 1 := h2
  rw [h] at h2; exact h2.symm)
theorem s_d_ce {pn : Nat → Int32} {u q : Nat} (h : s_d pn u q) : v_ce pn u q := Classical.byContradiction (fun hn => s_d_no (by rw [v_c_out hn, v_c_out hn]) h)
theorem v_ce_of {pn : Nat → Int32} {u q c : Nat} {x : Int32} (h : v_c pn u q c = x) (hx : ¬ x = 0) : v_ce pn u q := Classical.byContradiction (fun hn => hx (by rw [← h, v_c_out hn]))
theorem i_le_trans {a b c : Int32} (h : a ≤ b) (h2 : b ≤ c) : a ≤ c := by rw [Int32.le_iff_toInt_le] at h h2 ⊢; omega
theorem i_lt_le {a b : Int32} (h : a < b) : a ≤ b := by rw [Int32.lt_iff_toInt_lt] at h; rw [Int32.le_iff_toInt_le]; omega
theorem i_not_le {a b : Int32} (h : ¬ a ≤ b) : b < a := by rw [Int32.le_iff_toInt_le] at h; rw [Int32.lt_iff_toInt_lt]; omega
theorem i_not_lt {a b : Int32} (h : ¬ a < b) : b ≤ a := by rw [Int32.lt_iff_toInt_lt] at h; rw [Int32.le_iff_toInt_le]; omega
theorem k_endw {q z m0 : Nat} {wt : Int32} (h1 : z ≤ 100) (hq : q < 2000) (h0 : 0 < z) (hm : m0 < 2000) (hw : wt = nI m0 ∨ (wt = -1 ∧ m0 = 0)) : nI ((q + 1) * z) ≤ wt ↔ (q + 1) * z ≤ m0 := by
  have hb := k_szb hq h1
  have hp : 1 * 1 ≤ (q + 1) * z := Nat.mul_le_mul (by omega) h0
  rw [Int32.le_iff_toInt_le, nI_toInt (by omega)]
  rcases hw with e | ⟨e, e'⟩
  · rw [e, nI_toInt (by omega)]; omega
  · rw [e, e', show (-1 : Int32).toInt = -1 by decide]; omega
theorem q_sum_sd {pn pn' : Nat → Int32} {u u' : Nat} (h : ∀ q, q < 2000 → (s_d pn' u' q ↔ s_d pn u q)) : q_sum (fun q => q_b (s_d pn' u' q)) 2000 = q_sum (fun q => q_b (s_d pn u q)) 2000 := q_sum_cong (fun q hq => q_b_cong (h q hq))
theorem s_d_cong {pn pn' : Nat → Int32} {u u' q : Nat} (h5 : v_c pn' u' q 5 = v_c pn u q 5) (h6 : v_c pn' u' q 6 = v_c pn u q 6) : s_d pn' u' q ↔ s_d pn u q := by rw [s_d, s_d, h5, h6]
set_option maxHeartbeats 1000000 in
/-- raised by an event -/
theorem p_X_raise {pn wd : Nat → Int32} {u w z t : Nat} {tl tk lt wt lg : Int32} (h0 : 0 < z) (h1 : z ≤ 100) (ht : t < 2000) (hw : wt = -1 ∨ ∃ v : Nat, v < 2000 ∧ wt = nI v) (hg : ∃ g : Nat, g ≤ 100 ∧ lg = nI g) (h : p_X pn u tl tk wt z) :
    p_X (c_scN (pn, wd, w, tl) u lt wt lg z t).1 u (c_scN (pn, wd, w, tl) u lt wt lg z t).2.2.2 tk (c_wtN lt wt lg t) z ∧ (∀ p c, p < 2000 → c < 7 → (v_c pn u p 0 = 3 ∨ c = 1 ∨ c = 2) → v_c (c_scN (pn, wd, w, tl) u lt wt lg z t).1 u p c = v_c pn u p c) ∧ wt ≤ c_wtN lt wt lg t := by
  obtain ⟨g, hg1, hg2⟩ := hg
  have hr : wt ≤ wt := by rw [Int32.le_iff_toInt_le]; exact Int.le_refl _
  rw [c_scN, c_wtN]
  by_cases c1 : nI t ≤ lt
  · rw [if_pos c1, if_pos c1]; exact ⟨h, fun _ _ _ _ _ => rfl, hr⟩
  · rw [if_neg c1, if_neg c1]
    by_cases c2 : nI t - lg ≤ wt
    · rw [if_pos c2, if_pos c2]; exact ⟨h, fun _ _ _ _ _ => rfl, hr⟩
    · rw [if_neg c2, if_neg c2]
      obtain ⟨m0, m1, m2, m3, m4, m5⟩ := k_m0 hw
      have hti : (nI t - lg).toInt = (t : Int) - (g : Int) := by rw [hg2]; exact pk_sub_toInt (by omega) (by omega)
      have hgt : g ≤ t := by
        rw [Int32.le_iff_toInt_le, hti] at c2
        omega
      have hmk : nI t - lg = nI (t - g) := by rw [hg2]; exact pk_sub hgt
      rw [hmk] at c2 ⊢
      have hwm : wt < nI (t - g) := i_not_le c2
      rw [c_lbs, m2, k_tdiv m1 h0 h1, k_tdiv (t := t - g) (by omega) h0 h1]
      obtain ⟨hs, hX, hT⟩ := h
      have hlb : nI (m0 / z) - 1 + 1 = nI (m0 / z) := Int32.sub_add_cancel _ _
      have hin : ∀ q, q < 2000 → (¬ m_isIn (nI q) (nI (m0 / z) - 1 + 1) (nI ((t - g) / z) - 1) = 0 ↔ (m0 < (q + 1) * z ∧ (q + 1) * z ≤ t - g)) := fun q hq => by
        rw [← k_shuts h0 m1 (show t - g < 2000 by omega) hq, hlb, m_isIn0]
        constructor
        · intro h; exact ⟨fun h2 => h (Or.inl h2), fun h2 => h (Or.inr h2)⟩
        · rintro ⟨h2, h3⟩ (h | h)
          · exact h2 h
          · exact h3 h
      have hall := r_all (lb := nI (m0 / z) - 1) (ls := nI ((t - g) / z) - 1) (wm := nI (t - g)) (u := u) (S := (pn, wd, w, tl)) hs
      obtain ⟨R, hR⟩ : ∃ R : PW, R = p_scR (nI (m0 / z) - 1) (nI ((t - g) / z) - 1) (nI (t - g)) u (pn, wd, w, tl) := ⟨_, rfl⟩
      obtain ⟨T, hT9⟩ : ∃ T : Nat → Prop, T = r_t (nI (m0 / z) - 1) (nI ((t - g) / z) - 1) (nI (t - g)) pn u := ⟨_, rfl⟩
      have hrt : ∀ q, q < 2000 → (T q ↔ (v_ce pn u q ∧ ((v_c pn u q 0 = 0 ∧ m0 < (q + 1) * z ∧ (q + 1) * z ≤ t - g) ∨ (v_c pn u q 0 = 2 ∧ ¬ nI (t - g) < v_c pn u q 4)))) := fun q hq => by rw [hT9, r_t, hin q hq]
      have a1 : ∀ j, R.1 (j * 8 + 7) = pn (j * 8 + 7) := fun j => by rw [hR]; exact hall.1 j
      have a2 : ∀ p c, p < 2000 → c < 7 → (T p → v_c R.1 u p c = r_c pn u p c) ∧ (¬ T p → v_c R.1 u p c = v_c pn u p c) := fun p c hp hc => by rw [hR, hT9]; exact hall.2.1 p c hp hc
      have a3 : R.2.2.2 = tl + nI (q_sum (fun i => q_b (T i)) 2000) := by rw [hR, hT9]; exact hall.2.2
      rw [← hR]
      have hce : ∀ q, v_ce R.1 u q ↔ v_ce pn u q := fun q => v_ce_num a1 q
      have hk : ∀ q, q < 2000 → (T q → ¬ s_d pn u q ∧ s_d R.1 u q ∧ ¬ v_c pn u q 0 = 3) ∧ (¬ T q → (s_d R.1 u q ↔ s_d pn u q)) ∧ p_X1 R.1 u (nI (t - g)) z q := fun q hq => by
        obtain ⟨b1, b2⟩ := hX q hq
        have ew := k_endw (wt := wt) h1 hq h0 m1 m3
        have em := k_endw (wt := nI (t - g)) (m0 := t - g) h1 hq h0 (by omega) (Or.inl rfl)
        by_cases hTq : T q
        · have v5 := (a2 q 5 hq (by omega)).1 hTq
          have v6 := (a2 q 6 hq (by omega)).1 hTq
          have v0 := (a2 q 0 hq (by omega)).1 hTq
          rw [r_c, if_pos rfl] at v5
          rw [r_c, if_neg (by omega), if_neg (fun h => by omega)] at v6
          rw [r_c, if_neg (by omega)] at v0
          obtain ⟨hq1, hq2⟩ := (hrt q hq).mp hTq
          have hno : v_c pn u q 5 = v_c pn u q 6 := by
            rcases hq2 with ⟨d0, d1, d2⟩ | ⟨d0, d1⟩
            · rcases b2 with ⟨-, b3, -⟩ | ⟨b3, -⟩ | ⟨b3, -⟩
              · rcases b1 with b1 | b1
                · exact b1
                · have := ew.mp (b3 b1); omega
              · rw [d0] at b3; exact absurd b3 (by decide)
              · rw [d0] at b3; exact absurd b3 (by decide)
            · rcases b2 with ⟨b3, -⟩ | ⟨-, b3, -⟩ | ⟨b3, -⟩
              · rw [d0] at b3; exact absurd b3 (by decide)
              · exact b3
              · rw [d0] at b3; exact absurd b3 (by decide)
          have hsd : s_d R.1 u q := by rw [s_d, v5, v6, hno]
          refine ⟨fun _ => ⟨s_d_no hno, hsd, fun e => ?_⟩, fun h => absurd hTq h, Or.inr hsd, ?_⟩
          · rcases hq2 with ⟨d0, -⟩ | ⟨d0, -⟩ <;> (rw [d0] at e; exact absurd e (by decide))
          · rcases hq2 with ⟨d0, d1, d2⟩ | ⟨d0, d1⟩
            · refine Or.inl ⟨?_, fun _ => em.mpr d2, fun _ _ => hsd⟩
              rw [v0, if_neg (fun h => by rw [d0] at h; exact absurd h.2 (by decide))]; exact d0
            · refine Or.inr (Or.inr ⟨?_, hsd⟩)
              rw [v0, if_pos ⟨rfl, d0⟩]
        · have v5 := (a2 q 5 hq (by omega)).2 hTq
          have v6 := (a2 q 6 hq (by omega)).2 hTq
          have v0 := (a2 q 0 hq (by omega)).2 hTq
          have v4 := (a2 q 4 hq (by omega)).2 hTq
          have hsd := s_d_cong v5 v6
          refine ⟨fun h => absurd h hTq, fun _ => hsd, ?_⟩
          rw [p_X1, hsd, v5, v6, v0, v4, hce]
          refine ⟨b1, ?_⟩
          rcases b2 with ⟨b3, b4, b5⟩ | ⟨b3, b4, b5⟩ | b3
          · refine Or.inl ⟨b3, fun h => i_le_trans (b4 h) (i_lt_le hwm), fun h h2 => ?_⟩
            by_cases c9 : (q + 1) * z ≤ m0
            · exact b5 h (ew.mpr c9)
            · exact absurd ((hrt q hq).mpr ⟨h, Or.inl ⟨b3, by omega, em.mp h2⟩⟩) hTq
          · refine Or.inr (Or.inl ⟨b3, b4, Classical.byContradiction (fun c9 => hTq ((hrt q hq).mpr ⟨v_ce_of b3 (by decide), Or.inr ⟨b3, c9⟩⟩))⟩)
          · exact Or.inr (Or.inr b3)
      refine ⟨⟨sOk_cong (fun j _ => a1 j) hs, fun q hq => (hk q hq).2.2, ?_⟩, fun p c hp hc h => ?_, i_lt_le hwm⟩
      · rw [a3, hT, i_add_nI]
        have e : q_sum (fun q => q_b (s_d R.1 u q)) 2000 = q_sum (fun q => q_b (s_d pn u q) + q_b (T q)) 2000 := q_sum_cong (fun q hq => by
          obtain ⟨k1, k2, -⟩ := hk q hq
          by_cases hTq : T q
          · rw [q_b1 hTq, q_b1 (k1 hTq).2.1, q_b0 (k1 hTq).1]
          · rw [q_b0 hTq, q_b_cong (k2 hTq)]; rfl)
        rw [e, q_sum_add]
      · by_cases hTq : T p
        · rw [(a2 p c hp hc).1 hTq, r_c]
          have n3 := ((hk p hp).1 hTq).2.2
          rcases h with h | h | h
          · exact absurd h n3
          · rw [if_neg (by omega), if_neg (fun h => by omega)]
          · rw [if_neg (by omega), if_neg (fun h => by omega)]
        · exact (a2 p c hp hc).2 hTq
