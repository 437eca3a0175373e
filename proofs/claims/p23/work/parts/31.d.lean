/-! numbers, on both sides -/
theorem res_k {now ev : Nat → Int32} {sz : Nat} (lo hi : Int32) (h : ∀ k, k < 64 → rE now ev sz k) : ∀ k, k ≤ 64 → m_res now lo hi k = nI (e_wo ev lo hi k)
  | 0, _ => rfl
  | k + 1, hk => by
    have ih := res_k lo hi h k (by omega)
    have hE := rE_ok (key := ev (k * 7 + 1)) (h k (by omega)) lo hi
    have hE2 : (¬ e_out ev k lo hi = 0) ↔ (now (12 + 6 * k + 0) = 1 ∧ ¬ m_isIn (now (12 + 6 * k + 5)) lo hi = 0) := by
      rw [e_out_iff, m_isIn0]
      rcases h k (by omega) with ⟨h1, h2⟩ | ⟨h1, h2, -, -, -, -, h6, -⟩
      · rw [h1, h2]
        exact ⟨fun e => absurd e.1 (by decide), fun e => absurd e.1 (by decide)⟩
      · rw [h1, h2, h6]
        exact ⟨fun e => ⟨rfl, fun e9 => e9.elim e.2.1 e.2.2⟩, fun e => ⟨rfl, fun e9 => e.2 (Or.inl e9), fun e9 => e.2 (Or.inr e9)⟩⟩
    rw [m_res, ih, e_wo]
    by_cases c : e_out ev k lo hi = 0
    · have hz : (if ¬ now (12 + 6 * k + 0) = 1 then (0 : Int32) else if m_isIn (now (12 + 6 * k + 5)) lo hi = 0 then 0 else 1) = 0 := by
        by_cases c0 : now (12 + 6 * k + 0) = 1
        · have c0' : ¬ ¬ now (12 + 6 * k + 0) = 1 := fun e => e c0
          by_cases c1 : m_isIn (now (12 + 6 * k + 5)) lo hi = 0
          · rw [if_neg c0', if_pos c1]
          · exact absurd c (hE2.mpr ⟨c0, c1⟩)
        · rw [if_pos c0]
      rw [hz, if_pos c, Int32.add_zero]
    · obtain ⟨c0, c1⟩ := hE2.mp c
      have c0' : ¬ ¬ now (12 + 6 * k + 0) = 1 := fun e => e c0
      rw [if_neg c0', if_neg c1, if_neg c]
      exact nI_inc _
/-- a sum over the numbers of the panes that are there -/
def q_sum (f : Nat → Nat) : Nat → Nat
  | 0 => 0
  | n + 1 => q_sum f n + f n
theorem q_sum_cong {f g : Nat → Nat} : ∀ {n : Nat}, (∀ i, i < n → f i = g i) → q_sum f n = q_sum g n
  | 0, _ => rfl
  | n + 1, h => by rw [q_sum, q_sum, q_sum_cong (fun i hi => h i (by omega)), h n (by omega)]
theorem q_sum_add2 {f g : Nat → Nat} {a c : Nat} : ∀ {n : Nat}, a < n → (∀ i, i < n → i ≠ a → f i = g i) → f a = g a + c → q_sum f n = q_sum g n + c
  | 0, ha, _, _ => absurd ha (by omega)
  | n + 1, ha, h, h2 => by
    rw [q_sum, q_sum]
    by_cases e : a = n
    · subst e
      rw [q_sum_cong (f := f) (g := g) (fun i hi => h i (by omega) (by omega)), h2]; omega
    · rw [q_sum_add2 (a := a) (by omega) (fun i hi => h i (by omega)) h2, h n (by omega) (fun e9 => e e9.symm)]; omega
noncomputable def q_b (p : Prop) : Nat := @ite _ p (Classical.propDecidable p) 1 0
theorem q_b1 {p : Prop} (h : p) : q_b p = 1 := by rw [q_b, if_pos h]
theorem q_b0 {p : Prop} (h : ¬ p) : q_b p = 0 := by rw [q_b, if_neg h]
theorem q_b_cong {p q : Prop} (h : p ↔ q) : q_b p = q_b q := by
  by_cases c : p
  · rw [q_b1 c, q_b1 (h.mp c)]
  · rw [q_b0 c, q_b0 (fun e => c (h.mpr e))]
theorem cas_k {now : Nat → Int32} {np : Nat} (hn : np ≤ 64) (hnk : nOk now np) (hd : dOk now np) : ∀ k, k ≤ np → m_cas now k = nI (q_sum (fun q => q_b (∃ j, j < k ∧ now (396 + 8 * j + 0) = nI q ∧ now (396 + 8 * j + 1) = 2)) 2000) ∧ q_sum (fun q => q_b (∃ j, j < k ∧ now (396 + 8 * j + 0) = nI q ∧ now (396 + 8 * j + 1) = 2)) 2000 ≤ k
  | 0, _ => by
    have e : q_sum (fun q => q_b (∃ j, j < 0 ∧ now (396 + 8 * j + 0) = nI q ∧ now (396 + 8 * j + 1) = 2)) 2000 = q_sum (fun _ => 0) 2000 := q_sum_cong (fun i _ => q_b0 (fun ⟨j, hj, _⟩ => absurd hj (by omega)))
    have z : ∀ n, q_sum (fun _ => 0) n = 0 := fun n => by
      induction n with
      | zero => rfl
      | succ n ih => rw [q_sum, ih]
    rw [e, z]
    exact ⟨rfl, Nat.le_refl _⟩
  | k + 1, hk => by
    obtain ⟨i1, i2⟩ := cas_k hn hnk hd k (by omega)
    obtain ⟨p, p1, p2⟩ := hnk k (by omega)
    by_cases c : now (396 + 8 * k + 1) = 2
    · have e : q_sum (fun q => q_b (∃ j, j < k + 1 ∧ now (396 + 8 * j + 0) = nI q ∧ now (396 + 8 * j + 1) = 2)) 2000 = q_sum (fun q => q_b (∃ j, j < k ∧ now (396 + 8 * j + 0) = nI q ∧ now (396 + 8 * j + 1) = 2)) 2000 + 1 := by
        refine q_sum_add2 (a := p) p1 (fun i hi hi2 => q_b_cong ⟨fun ⟨j, j1, j2, j3⟩ => ?_, fun ⟨j, j1, j2⟩ => ⟨j, by omega, j2⟩⟩) ?_
        · by_cases hjk : j = k
          · rw [hjk, p2] at j2; exact absurd (k_nIinj p1 hi j2).symm hi2
          · exact ⟨j, by omega, j2, j3⟩
        · show q_b _ = q_b _ + 1
          rw [q_b1 ⟨k, by omega, p2, c⟩, q_b0]
          rintro ⟨j, j1, j2, -⟩
          have := hd j k (by omega) (by omega) (j2.trans p2.symm)
          omega
      rw [m_cas, i1, if_neg (fun e9 => e9 c), e]
      exact ⟨nI_inc _, by omega⟩
    · have e : q_sum (fun q => q_b (∃ j, j < k + 1 ∧ now (396 + 8 * j + 0) = nI q ∧ now (396 + 8 * j + 1) = 2)) 2000 = q_sum (fun q => q_b (∃ j, j < k ∧ now (396 + 8 * j + 0) = nI q ∧ now (396 + 8 * j + 1) = 2)) 2000 := q_sum_cong (fun i _ => q_b_cong ⟨fun ⟨j, j1, j2, j3⟩ => by
        by_cases hjk : j = k
        · rw [hjk] at j3; exact absurd j3 c
        · exact ⟨j, by omega, j2, j3⟩, fun ⟨j, j1, j2⟩ => ⟨j, by omega, j2⟩⟩)
      rw [m_cas, i1, if_pos c, e, Int32.add_zero]
      exact ⟨rfl, by omega⟩
theorem cc_k {pn : Nat → Int32} {u : Nat} (hs : sOk pn u) : ∀ k, k ≤ u → p_cc pn k = q_sum (fun q => q_b (∃ j, j < k ∧ pn (j * 8 + 7) = nI q ∧ pn (j * 8 + 0) = 3)) 2000
  | 0, _ => by
    have e : q_sum (fun q => q_b (∃ j, j < 0 ∧ pn (j * 8 + 7) = nI q ∧ pn (j * 8 + 0) = 3)) 2000 = q_sum (fun _ => 0) 2000 := q_sum_cong (fun i _ => q_b0 (fun ⟨j, hj, _⟩ => absurd hj (by omega)))
    have z : ∀ n, q_sum (fun _ => 0) n = 0 := fun n => by
      induction n with
      | zero => rfl
      | succ n ih => rw [q_sum, ih]
    rw [e, z]; rfl
  | k + 1, hk => by
    have ih := cc_k hs k (by omega)
    obtain ⟨p, p1, p2⟩ := hs.1 k (by omega)
    by_cases c : pn (k * 8 + 0) = 3
    · have e : q_sum (fun q => q_b (∃ j, j < k + 1 ∧ pn (j * 8 + 7) = nI q ∧ pn (j * 8 + 0) = 3)) 2000 = q_sum (fun q => q_b (∃ j, j < k ∧ pn (j * 8 + 7) = nI q ∧ pn (j * 8 + 0) = 3)) 2000 + 1 := by
        refine q_sum_add2 (a := p) p1 (fun i hi hi2 => q_b_cong ⟨fun ⟨j, j1, j2, j3⟩ => ?_, fun ⟨j, j1, j2⟩ => ⟨j, by omega, j2⟩⟩) ?_
        · by_cases hjk : j = k
          · rw [hjk, p2] at j2; exact absurd (k_nIinj p1 hi j2).symm hi2
          · exact ⟨j, by omega, j2, j3⟩
        · show q_b _ = q_b _ + 1
          rw [q_b1 ⟨k, by omega, p2, c⟩, q_b0]
          rintro ⟨j, j1, j2, -⟩
          have := sOk_inj hs (by omega) (by omega) (j2.trans p2.symm)
          omega
      rw [p_cc, ih, if_neg (fun e9 => e9 c), e]
    · have e : q_sum (fun q => q_b (∃ j, j < k + 1 ∧ pn (j * 8 + 7) = nI q ∧ pn (j * 8 + 0) = 3)) 2000 = q_sum (fun q => q_b (∃ j, j < k ∧ pn (j * 8 + 7) = nI q ∧ pn (j * 8 + 0) = 3)) 2000 := q_sum_cong (fun i _ => q_b_cong ⟨fun ⟨j, j1, j2, j3⟩ => by
        by_cases hjk : j = k
        · rw [hjk] at j3; exact absurd j3 c
        · exact ⟨j, by omega, j2, j3⟩, fun ⟨j, j1, j2⟩ => ⟨j, by omega, j2⟩⟩)
      rw [p_cc, ih, if_pos c, e]
/-- closed cases -/
theorem cas_rel {now pn wd : Nat → Int32} {np sz u w : Nat} {tl tk : Int32} {W : Nat → Int} {B : Nat → Nat} {E : Nat → Prop} (h : rB now np sz pn u wd w tl tk W B E) : m_cas now np = nI (p_cc pn u) := by
  rw [(cas_k h.2.2.1 h.2.1 h.1 np (Nat.le_refl _)).1, cc_k h.2.2.2.1 u (Nat.le_refl _)]
  refine congrArg nI (q_sum_cong (fun q hq => q_b_cong ?_))
  obtain ⟨n, a, s, g, g6, g7, s1, t1, t2⟩ := h.2.2.2.2.2.2.2.2 q hq
  have hm : (∃ j, j < np ∧ now (396 + 8 * j + 0) = nI q ∧ now (396 + 8 * j + 1) = 2) ↔ v_m now np q 1 = 2 := by
    constructor
    · rintro ⟨j, j1, j2, j3⟩
      have e := m_fk_eq h.1 j1 j2
      rw [v_m, e, if_pos j1]; exact j3
    · intro e
      by_cases hme : v_me now np q
      · rw [v_m_in hme] at e
        exact ⟨_, hme, m_fk_at hme, e⟩
      · rw [v_m_out hme] at e; exact absurd e (by decide)
  have hc : (∃ j, j < u ∧ pn (j * 8 + 7) = nI q ∧ pn (j * 8 + 0) = 3) ↔ v_c pn u q 0 = 3 := by
    constructor
    · rintro ⟨j, j1, j2, j3⟩
      have e := p_rk_eq h.2.2.2.1 j1 j2
      rw [v_c, e, if_pos j1]; exact j3
    · intro e
      by_cases hce : v_ce pn u q
      · rw [v_c_in hce] at e
        exact ⟨_, hce, p_rk_at hce, e⟩
      · rw [v_c_out hce] at e; exact absurd e (by decide)
  rw [hm, hc]
  rcases t2 with ⟨a1, a2, a3⟩ | ⟨a1, a2, a3, a4⟩ | ⟨a1, a2⟩
  · rw [a1, a2]; decide
  · rw [a1, a2]; decide
  · rw [a1, a2]; decide
theorem count_rel {now : Nat → Int32} {np sz ns L w : Nat} {S : AV} {lg gr mv : Int32} (h : rA now np sz S lg gr mv) (hw : w < 14 ∨ (20 ≤ w ∧ w < 23)) : m_count now ns L np w = x_count (aEv S) (aDb S) (aPn S) (aU S) (nI (aW S)) (aTl S) (aTk S) (nI sz) lg gr (aWt S) (aLt S) mv (nI L) (nI ns) w := by
  have hE := h.2.2.2.2.2.2.2.2.1
  have hB := rA_B h
  obtain ⟨f6, f10, f0, f1, f2, f5, f7, f8⟩ := h.2.1
  have hmv : mv = if mv = 0 then 0 else 1 := by
    rcases h.2.2.1 with e | e <;> rw [e] <;> decide
  rcases (show w = 0 ∨ w = 1 ∨ w = 2 ∨ w = 3 ∨ w = 4 ∨ w = 5 ∨ w = 6 ∨ w = 7 ∨ w = 8 ∨ w = 9 ∨ w = 10 ∨ w = 11 ∨ w = 12 ∨ w = 13 ∨ w = 20 ∨ w = 21 ∨ w = 22 by omega) with rfl | rfl | rfl | rfl | rfl | rfl | rfl | rfl | rfl | rfl | rfl | rfl | rfl | rfl | rfl | rfl | rfl
  · exact res_k 0 3 hE 64 (Nat.le_refl _)
  · exact res_k 0 1 hE 64 (Nat.le_refl _)
  · exact res_k 1 1 hE 64 (Nat.le_refl _)
  · exact res_k 2 3 hE 64 (Nat.le_refl _)
  · exact f5
  · exact f0
  · exact f1
  · exact hB.2.2.2.2.2.1.1
  · exact hB.2.2.2.2.2.2.1
  · exact hB.2.2.2.2.2.2.2.1
  · exact cas_rel hB
  · exact f2.trans hmv
  · rfl
  · rfl
  · exact f6
  · exact f7
  · exact f8
