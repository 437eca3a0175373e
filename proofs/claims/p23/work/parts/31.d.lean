/-! numbers, on both sides -/
/-- a sum over the numbers of the panes that are there -/
def q_sum (f : Nat → Nat) : Nat → Nat
  | 0 => 0
  | n + 1 => q_sum f n + f n
theorem q_sum_cong {f g : Nat → Nat} : ∀ {n : Nat}, (∀ i, i < n → f i = g i) → q_sum f n = q_sum g n
  | 0, _ => rfl
  | n + 1, h => by rw [q_sum, q_sum, q_sum_cong (fun i hi => h i (by omega)), h n (by omega)]
theorem q_sum_add2 {f g : Nat → Nat} {a c : Nat} : ∀ {n : Nat}, a < n → (∀ i, i < n → i ≠ a → f i = g i) → f a = g a + c → q_sum f n = q_sum g n + c
  | 0, ha, _, _ => absurd ha (by omega)
  | n + 1, ha, h, h2 => by
    rw [q_sum, q_sum]
    by_cases e : a = n
    · subst e
      rw [q_sum_cong (f := f) (g := g) (fun i hi => h i (by omega) (by omega)), h2]; omega
    · rw [q_sum_add2 (a := a) (by omega) (fun i hi => h i (by omega)) h2, h n (by omega) (fun e9 => e e9.symm)]; omega
noncomputable def q_b (p : Prop) : Nat := @ite _ p (Classical.propDecidable p) 1 0
theorem q_b1 {p : Prop} (h : p) : q_b p = 1 := by rw [q_b, if_pos h]
theorem q_b0 {p : Prop} (h : ¬ p) : q_b p = 0 := by rw [q_b, if_neg h]
theorem q_b_cong {p q : Prop} (h : p ↔ q) : q_b p = q_b q := by
  by_cases c : p
  · rw [q_b1 c, q_b1 (h.mp c)]
  · rw [q_b0 c, q_b0 (fun e => c (h.mpr e))]
theorem cc_k {pn : Nat → Int32} {u : Nat} (hs : sOk pn u) : ∀ k, k ≤ u → p_cc pn k = q_sum (fun q => q_b (∃ j, j < k ∧ pn (j * 8 + 7) = nI q ∧ pn (j * 8 + 0) = 3)) 2000
  | 0, _ => by
    have e : q_sum (fun q => q_b (∃ j, j < 0 ∧ pn (j * 8 + 7) = nI q ∧ pn (j * 8 + 0) = 3)) 2000 = q_sum (fun _ => 0) 2000 := q_sum_cong (fun i _ => q_b0 (fun ⟨j, hj, _⟩ => absurd hj (by omega)))
    have z : ∀ n, q_sum (fun _ => 0) n = 0 := fun n => by
      induction n with
      | zero => rfl
      | succ n ih => rw [q_sum, ih]
    rw [e, z]; rfl
  | k + 1, hk => by
    have ih := cc_k hs k (by omega)
    obtain ⟨p, p1, p2⟩ := hs.1 k (by omega)
    by_cases c : pn (k * 8 + 0) = 3
    · have e : q_sum (fun q => q_b (∃ j, j < k + 1 ∧ pn (j * 8 + 7) = nI q ∧ pn (j * 8 + 0) = 3)) 2000 = q_sum (fun q => q_b (∃ j, j < k ∧ pn (j * 8 + 7) = nI q ∧ pn (j * 8 + 0) = 3)) 2000 + 1 := by
        refine q_sum_add2 (a := p) p1 (fun i hi hi2 => q_b_cong ⟨fun ⟨j, j1, j2, j3⟩ => ?_, fun ⟨j, j1, j2⟩ => ⟨j, by omega, j2⟩⟩) ?_
        · by_cases hjk : j = k
          · rw [hjk, p2] at j2; exact absurd (k_nIinj p1 hi j2).symm hi2
          · exact ⟨j, by omega, j2, j3⟩
        · show q_b _ = q_b _ + 1
          rw [q_b1 ⟨k, by omega, p2, c⟩, q_b0]
          rintro ⟨j, j1, j2, -⟩
          have := sOk_inj hs (by omega) (by omega) (j2.trans p2.symm)
          omega
      rw [p_cc, ih, if_neg (fun e9 => e9 c), e]
    · have e : q_sum (fun q => q_b (∃ j, j < k + 1 ∧ pn (j * 8 + 7) = nI q ∧ pn (j * 8 + 0) = 3)) 2000 = q_sum (fun q => q_b (∃ j, j < k ∧ pn (j * 8 + 7) = nI q ∧ pn (j * 8 + 0) = 3)) 2000 := q_sum_cong (fun i _ => q_b_cong ⟨fun ⟨j, j1, j2, j3⟩ => by
        by_cases hjk : j = k
        · rw [hjk] at j3; exact absurd j3 c
        · exact ⟨j, by omega, j2, j3⟩, fun ⟨j, j1, j2⟩ => ⟨j, by omega, j2⟩⟩)
      rw [p_cc, ih, if_pos c, e]
