/-! p23's own: sums over panes; what raising the watermark does, pane by pane -/
theorem q_sum_add {f g : Nat → Nat} : ∀ n, q_sum (fun i => f i + g i) n = q_sum f n + q_sum g n
  | 0 => rfl
  | n + 1 => by
    have h := q_sum_add (f := f) (g := g) n
    show q_sum (fun i => f i + g i) n + (f n + g n) = (q_sum f n + f n) + (q_sum g n + g n)
    omega
theorem q_sum_zero : ∀ n, q_sum (fun _ => 0) n = 0
  | 0 => rfl
  | n + 1 => q_sum_zero n
theorem q_sum_le {f g : Nat → Nat} : ∀ {n : Nat}, (∀ i, i < n → f i ≤ g i) → q_sum f n ≤ q_sum g n
  | 0, _ => Nat.le_refl _
  | n + 1, h => Nat.add_le_add (q_sum_le (fun i hi => h i (by omega))) (h n (by omega))
theorem q_sum_all {f g : Nat → Nat} : ∀ (n : Nat), (∀ i, i < n → f i ≤ g i) → q_sum f n = q_sum g n → ∀ i, i < n → f i = g i := by
  intro n
  induction n with
  | zero => intro _ _ i hi; exact absurd hi (Nat.not_lt_zero i)
  | succ n ih =>
    intro h e i hi
    have h1 := q_sum_le (f := f) (g := g) (n := n) (fun i hi => h i (by omega))
    have h2 := h n (by omega)
    have e : q_sum f n + f n = q_sum g n + g n := e
    by_cases c : i = n
    · subst c; omega
    · exact ih (fun i hi => h i (by omega)) (by omega) i (by omega)
theorem q_sum_first {f : Nat → Nat} : ∀ n, q_sum f (n + 1) = f 0 + q_sum (fun i => f (i + 1)) n
  | 0 => by show q_sum f 0 + f 0 = f 0 + 0; show 0 + f 0 = f 0 + 0; omega
  | n + 1 => by
    have h := q_sum_first (f := f) n
    show q_sum f (n + 1) + f (n + 1) = f 0 + (q_sum (fun i => f (i + 1)) n + f (n + 1))
    omega
theorem q_b_or (p : Prop) : (p ∧ q_b p = 1) ∨ (¬ p ∧ q_b p = 0) := by
  by_cases c : p
  · exact Or.inl ⟨c, q_b1 c⟩
  · exact Or.inr ⟨c, q_b0 c⟩
theorem q_b_mono {p q : Prop} (h : p → q) : q_b p ≤ q_b q := by
  rcases q_b_or p with ⟨a, b⟩ | ⟨a, b⟩
  · rw [b, q_b1 (h a)]; exact Nat.le_refl _
  · omega
theorem q_b_eq {p q : Prop} (h : q_b p = q_b q) : p ↔ q := by
  rcases q_b_or p with ⟨a, b⟩ | ⟨a, b⟩ <;> rcases q_b_or q with ⟨c, d⟩ | ⟨c, d⟩
  · exact ⟨fun _ => c, fun _ => a⟩
  · omega
  · omega
  · exact ⟨fun h => absurd h a, fun h => absurd h c⟩
theorem q_sum_b (P : Nat → Prop) : ∀ n, q_sum (fun i => q_b (P i)) n ≤ n
  | 0 => Nat.le_refl _
  | n + 1 => by
    have h := q_sum_b P n
    show q_sum (fun i => q_b (P i)) n + q_b (P n) ≤ n + 1
    rcases q_b_or (P n) with ⟨a, b⟩ | ⟨a, b⟩ <;> omega
theorem i_add_nI (x : Int32) (a b : Nat) : x + nI a + nI b = x + nI (a + b) := by rw [Int32.add_assoc, nI_add]
theorem i_add0 (x : Int32) : x + nI 0 = x := by
  show x + 0 = x
  exact Int32.add_zero x
theorem i_ne1 (x : Int32) : ¬ x + 1 = x := by
  intro h
  have h2 : x + 1 - x = x - x := by rw [h]
  rw [Int32.add_comm, Int32.add_sub_cancel, Int32.sub_self] at h2
  exact absurd h2 (by decide)
/-- the pane q's word stands -/
def s_d (pn : Nat → Int32) (u q : Nat) : Prop := v_c pn u q 5 = v_c pn u q 6 + 1
/-- the pane q tells its word when the watermark rises -/
def r_t (lb ls wm : Int32) (pn : Nat → Int32) (u q : Nat) : Prop := v_ce pn u q ∧ ((v_c pn u q 0 = 0 ∧ ¬ m_isIn (nI q) (lb + 1) ls = 0) ∨ (v_c pn u q 0 = 2 ∧ ¬ wm < v_c pn u q 4))
/-- its columns then -/
def r_c (pn : Nat → Int32) (u q c : Nat) : Int32 := if c = 5 then v_c pn u q 5 + 1 else if c = 0 ∧ v_c pn u q 0 = 2 then 3 else v_c pn u q c
theorem p_tell_v {S : PW} {u q : Nat} (hce : v_ce S.1 u q) (hq : q < 2000) {p c : Nat} (hp : p < 2000) (hc : c < 7) : v_c (p_tell S (p_rk S.1 (nI q) u)).1 u p c = if p = q ∧ c = 5 then v_c S.1 u q 5 + 1 else v_c S.1 u p c := by
  show v_c (upd S.1 (p_rk S.1 (nI q) u * 8 + 5) (S.1 (p_rk S.1 (nI q) u * 8 + 5) + 1)) u p c = _
  rw [v_c_upd hce hq (by omega) hp (by omega), v_c_in (c := 5) hce]
theorem r_step {lb ls wm : Int32} {S : PW} {u q : Nat} (hq : q < 2000) (hce : v_ce S.1 u q) :
    (r_t lb ls wm S.1 u q → (∀ p c, p < 2000 → c < 7 → v_c (p_scstep lb ls wm S (p_rk S.1 (nI q) u)).1 u p c = if p = q then r_c S.1 u q c else v_c S.1 u p c) ∧ (p_scstep lb ls wm S (p_rk S.1 (nI q) u)).2.2.2 = S.2.2.2 + 1) ∧ (¬ r_t lb ls wm S.1 u q → p_scstep lb ls wm S (p_rk S.1 (nI q) u) = S) := by
  have e0 : S.1 (p_rk S.1 (nI q) u * 8 + 0) = v_c S.1 u q 0 := (v_c_in hce).symm
  have e4 : S.1 (p_rk S.1 (nI q) u * 8 + 4) = v_c S.1 u q 4 := (v_c_in hce).symm
  have e7 : S.1 (p_rk S.1 (nI q) u * 8 + 7) = nI q := p_rk_at hce
  rw [p_scstep, e0, e4, e7]
  by_cases c0 : v_c S.1 u q 0 = 0
  · rw [if_pos c0]
    have n2 : ¬ v_c S.1 u q 0 = 2 := fun e => by rw [c0] at e; exact absurd e (by decide)
    by_cases c1 : m_isIn (nI q) (lb + 1) ls = 0
    · rw [if_pos c1]
      refine ⟨fun h => ?_, fun _ => rfl⟩
      rcases h.2 with ⟨-, h⟩ | ⟨h, -⟩
      · exact absurd c1 h
      · exact absurd h n2
    · rw [if_neg c1]
      refine ⟨fun _ => ⟨fun p c hp hc => ?_, rfl⟩, fun h => absurd ⟨hce, Or.inl ⟨c0, c1⟩⟩ h⟩
      rw [p_tell_v hce hq hp hc, r_c]
      by_cases a1 : p = q
      · subst a1
        by_cases a2 : c = 5
        · rw [if_pos ⟨rfl, a2⟩, if_pos rfl, if_pos a2]
        · rw [if_neg (fun h => a2 h.2), if_pos rfl, if_neg a2, if_neg (fun h => n2 h.2)]
      · rw [if_neg (fun h => a1 h.1), if_neg a1]
  · rw [if_neg c0]
    by_cases c2 : v_c S.1 u q 0 = 2
    · rw [if_neg (fun h => h c2)]
      by_cases c3 : wm < v_c S.1 u q 4
      · rw [if_pos c3]
        refine ⟨fun h => ?_, fun _ => rfl⟩
        rcases h.2 with ⟨h, -⟩ | ⟨-, h⟩
        · exact absurd h c0
        · exact absurd c3 h
      · rw [if_neg c3]
        refine ⟨fun _ => ⟨fun p c hp hc => ?_, rfl⟩, fun h => absurd ⟨hce, Or.inr ⟨c2, c3⟩⟩ h⟩
        have hrk : p_rk S.1 (nI q) u = p_rk (upd S.1 (p_rk S.1 (nI q) u * 8 + 0) 3) (nI q) u := (p_rk_upd (by omega) _).symm
        have hce2 : v_ce ((upd S.1 (p_rk S.1 (nI q) u * 8 + 0) 3, S.2) : PW).1 u q := (v_ce_upd (by omega) q).mpr hce
        have ht := p_tell_v (S := ((upd S.1 (p_rk S.1 (nI q) u * 8 + 0) 3, S.2) : PW)) hce2 hq hp hc
        have h5 : v_c (upd S.1 (p_rk S.1 (nI q) u * 8 + 0) 3) u q 5 = v_c S.1 u q 5 := by rw [v_c_upd hce hq (by omega) hq (by omega), if_neg (by omega)]
        have hc0 : v_c (upd S.1 (p_rk S.1 (nI q) u * 8 + 0) 3) u p c = if p = q ∧ c = 0 then 3 else v_c S.1 u p c := v_c_upd hce hq (by omega) hp (by omega)
        have ht : v_c (p_tell (upd S.1 (p_rk S.1 (nI q) u * 8 + 0) 3, S.2) (p_rk S.1 (nI q) u)).1 u p c = if p = q ∧ c = 5 then v_c S.1 u q 5 + 1 else if p = q ∧ c = 0 then 3 else v_c S.1 u p c := by
          rw [← h5, ← hc0]
          have e : p_tell ((upd S.1 (p_rk S.1 (nI q) u * 8 + 0) 3, S.2) : PW) (p_rk S.1 (nI q) u) = p_tell ((upd S.1 (p_rk S.1 (nI q) u * 8 + 0) 3, S.2) : PW) (p_rk (upd S.1 (p_rk S.1 (nI q) u * 8 + 0) 3) (nI q) u) := congrArg _ hrk
          rw [e]; exact ht
        rw [ht, r_c]
        by_cases a1 : p = q
        · subst a1
          by_cases a2 : c = 5
          · rw [if_pos ⟨rfl, a2⟩, if_pos rfl, if_pos a2]
          · rw [if_neg (fun h => a2 h.2), if_pos rfl, if_neg a2]
            by_cases a3 : c = 0
            · rw [if_pos ⟨rfl, a3⟩, if_pos ⟨a3, c2⟩]
            · rw [if_neg (fun h => a3 h.2), if_neg (fun h => a3 h.1)]
        · rw [if_neg (fun h => a1 h.1), if_neg (fun h => a1 h.1), if_neg a1]
    · rw [if_pos c2]
      refine ⟨fun h => ?_, fun _ => rfl⟩
      rcases h.2 with ⟨h, -⟩ | ⟨h, -⟩
      · exact absurd h c0
      · exact absurd h c2
theorem v_ce_num {pn pn' : Nat → Int32} {u : Nat} (h : ∀ j, pn' (j * 8 + 7) = pn (j * 8 + 7)) (q : Nat) : v_ce pn' u q ↔ v_ce pn u q := by rw [v_ce, v_ce, p_rk_cong (fun j _ => h j)]
theorem r_t_cong {lb ls wm : Int32} {pn pn' : Nat → Int32} {u q : Nat} (h : v_ce pn' u q ↔ v_ce pn u q) (h0 : v_c pn' u q 0 = v_c pn u q 0) (h4 : v_c pn' u q 4 = v_c pn u q 4) : r_t lb ls wm pn' u q ↔ r_t lb ls wm pn u q := by rw [r_t, r_t, h, h0, h4]
/-- what the pass over all panes from q on leaves, by panes -/
theorem r_Q {lb ls wm : Int32} {u : Nat} : ∀ (n q : Nat) (S : PW), q + n ≤ 2000 →
    (∀ j, (c_Q lb ls wm u n q S).1 (j * 8 + 7) = S.1 (j * 8 + 7)) ∧
    (∀ p c, p < 2000 → c < 7 → ((q ≤ p ∧ p < q + n ∧ r_t lb ls wm S.1 u p) → v_c (c_Q lb ls wm u n q S).1 u p c = r_c S.1 u p c) ∧ (¬ (q ≤ p ∧ p < q + n ∧ r_t lb ls wm S.1 u p) → v_c (c_Q lb ls wm u n q S).1 u p c = v_c S.1 u p c)) ∧
    (c_Q lb ls wm u n q S).2.2.2 = S.2.2.2 + nI (q_sum (fun i => q_b (r_t lb ls wm S.1 u (q + i))) n)
  | 0, q, S, _ => ⟨fun _ => rfl, fun p c _ _ => ⟨fun h => by omega, fun _ => rfl⟩, (i_add0 _).symm⟩
  | n + 1, q, S, hn => by
    rw [c_Q]
    obtain ⟨S1, hS1⟩ : ∃ S1 : PW, S1 = (if p_rk S.1 (nI q) u < u then p_scstep lb ls wm S (p_rk S.1 (nI q) u) else S) := ⟨_, rfl⟩
    rw [← hS1]
    obtain ⟨i1, i2, i3⟩ := r_Q (lb := lb) (ls := ls) (wm := wm) (u := u) n (q + 1) S1 (by omega)
    have k1 : ∀ j, S1.1 (j * 8 + 7) = S.1 (j * 8 + 7) := fun j => by
      rw [hS1]; split
      · exact p_scstep_num j
      · rfl
    have k2 : (r_t lb ls wm S.1 u q → (∀ p c, p < 2000 → c < 7 → v_c S1.1 u p c = if p = q then r_c S.1 u q c else v_c S.1 u p c) ∧ S1.2.2.2 = S.2.2.2 + 1) ∧ (¬ r_t lb ls wm S.1 u q → S1 = S) := by
      rw [hS1]
      by_cases hce : v_ce S.1 u q
      · have hce2 : p_rk S.1 (nI q) u < u := hce
        rw [if_pos hce2]
        exact r_step (by omega) hce
      · have hce2 : ¬ p_rk S.1 (nI q) u < u := hce
        rw [if_neg hce2]
        exact ⟨fun h => absurd h.1 hce, fun _ => rfl⟩
    have k3 : ∀ p c, p < 2000 → c < 7 → p ≠ q → v_c S1.1 u p c = v_c S.1 u p c := fun p c hp hc hpq => by
      by_cases ht : r_t lb ls wm S.1 u q
      · rw [(k2.1 ht).1 p c hp hc, if_neg hpq]
      · rw [k2.2 ht]
    have k4 : ∀ p, p < 2000 → p ≠ q → (r_t lb ls wm S1.1 u p ↔ r_t lb ls wm S.1 u p) := fun p hp hpq => r_t_cong (v_ce_num k1 p) (k3 p 0 hp (by omega) hpq) (k3 p 4 hp (by omega) hpq)
    have k5 : S1.2.2.2 = S.2.2.2 + nI (q_b (r_t lb ls wm S.1 u q)) := by
      rcases q_b_or (r_t lb ls wm S.1 u q) with ⟨a, b⟩ | ⟨a, b⟩
      · rw [b, (k2.1 a).2]; rfl
      · rw [b, k2.2 a]; exact (i_add0 _).symm
    refine ⟨fun j => (i1 j).trans (k1 j), fun p c hp hc => ?_, ?_⟩
    · by_cases hpq : p = q
      · subst hpq
        have h1 := (i2 p c hp hc).2 (fun h => by omega)
        refine ⟨fun h => ?_, fun h => ?_⟩
        · rw [h1, (k2.1 h.2.2).1 p c hp hc, if_pos rfl]
        · rw [h1, k2.2 (fun ht => h ⟨Nat.le_refl _, by omega, ht⟩)]
      · have hrc : r_c S1.1 u p c = r_c S.1 u p c := by rw [r_c, r_c, k3 p 5 hp (by omega) hpq, k3 p 0 hp (by omega) hpq, k3 p c hp hc hpq]
        refine ⟨fun h => ?_, fun h => ?_⟩
        · rw [(i2 p c hp hc).1 ⟨by omega, by omega, (k4 p hp hpq).mpr h.2.2⟩, hrc]
        · rw [(i2 p c hp hc).2 (fun h2 => h ⟨by omega, by omega, (k4 p hp hpq).mp h2.2.2⟩), k3 p c hp hc hpq]
    · rw [i3, k5, i_add_nI]
      have e1 : q_sum (fun i => q_b (r_t lb ls wm S1.1 u (q + 1 + i))) n = q_sum (fun i => q_b (r_t lb ls wm S.1 u (q + (i + 1)))) n := q_sum_cong (fun i hi => q_b_cong (by
        rw [show q + (i + 1) = q + 1 + i by omega]
        exact k4 (q + 1 + i) (by omega) (by omega)))
      rw [q_sum_first (f := fun i => q_b (r_t lb ls wm S.1 u (q + i))) n, e1]
      rfl
/-- the whole pass -/
theorem r_all {lb ls wm : Int32} {u : Nat} {S : PW} (hs : sOk S.1 u) :
    (∀ j, (p_scR lb ls wm u S).1 (j * 8 + 7) = S.1 (j * 8 + 7)) ∧
    (∀ p c, p < 2000 → c < 7 → (r_t lb ls wm S.1 u p → v_c (p_scR lb ls wm u S).1 u p c = r_c S.1 u p c) ∧ (¬ r_t lb ls wm S.1 u p → v_c (p_scR lb ls wm u S).1 u p c = v_c S.1 u p c)) ∧
    (p_scR lb ls wm u S).2.2.2 = S.2.2.2 + nI (q_sum (fun i => q_b (r_t lb ls wm S.1 u i)) 2000) := by
  have e : p_scR lb ls wm u S = c_Q lb ls wm u 2000 0 S := by
    rw [p_scR]
    refine p_scL_Q (u := u) 2000 0 S 0 u (by omega) (by omega) hs (fun j hj => absurd hj (Nat.not_lt_zero j)) (fun j _ hj => ?_)
    obtain ⟨p, h1, h2⟩ := hs.1 j hj
    rw [h2, nI_toInt (by omega)]; omega
  rw [e]
  obtain ⟨a, b, d⟩ := r_Q (lb := lb) (ls := ls) (wm := wm) (u := u) 2000 0 S (by omega)
  refine ⟨a, fun p c hp hc => ⟨fun h => (b p c hp hc).1 ⟨Nat.zero_le _, by omega, h⟩, fun h => (b p c hp hc).2 (fun h2 => h h2.2.2)⟩, ?_⟩
  rw [d]
  have e2 : q_sum (fun i => q_b (r_t lb ls wm S.1 u (0 + i))) 2000 = q_sum (fun i => q_b (r_t lb ls wm S.1 u i)) 2000 := q_sum_cong (fun i _ => by rw [Nat.zero_add])
  rw [e2]
