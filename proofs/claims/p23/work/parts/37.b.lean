/-! the first state of both sides -/
def n0 : Nat → Int32 := upd (upd (upd (upd (upd (fun _ => 0) 0 (-1)) 1 (-1)) 6 10) 7 5) 8 10
theorem n0_at {i : Nat} (h : i ≠ 0 ∧ i ≠ 1 ∧ i ≠ 6 ∧ i ≠ 7 ∧ i ≠ 8) : n0 i = 0 := by
  obtain ⟨h0, h1, h6, h7, h8⟩ := h
  rw [n0, pk_un h8, pk_un h7, pk_un h6, pk_un h1, pk_un h0]
abbrev S0 : AV := ((fun _ => 0), 0, (fun _ => 0), 0, (fun _ => 0), 0, 0, 0, (fun _ => 0), -1, -1)
theorem n0_cn : ∀ k : Nat, m_cn n0 k = 0
  | 0 => rfl
  | k + 1 => by rw [m_cn, n0_at (by omega), if_neg (by decide)]; exact n0_cn k
theorem rP_0 (q : Nat) (W : Nat → Int) (B : Nat → Nat) : rP n0 (fun _ => 0) 0 0 10 W B noE q := by
  have hce : ¬ v_ce (fun _ => 0) 0 q := Nat.not_lt_zero _
  have hme : ¬ v_me n0 0 q := Nat.not_lt_zero _
  have hac : m_acc n0 10 (nI q) 64 = (0, 0, 0) := m_acc_zero (fun k _ => by rw [n0_at (by omega)]; decide) 64 (Nat.le_refl _)
  have h1 : m_num n0 10 (nI q) = 0 := by rw [m_num, hac]
  have h2 : m_sum n0 10 (nI q) = 0 := by rw [m_sum, hac]
  have h3 : m_key n0 10 (nI q) = 0 := by rw [m_key, hac]
  have hv : ∀ c, v_c (fun _ => 0) 0 q c = 0 := fun c => v_c_out hce
  have hm : ∀ c, v_m n0 0 q c = 0 := fun c => v_m_out hme
  refine ⟨0, 0, 0, ⟨h1, by omega, hv 1, (hv 2).trans h2.symm, (hv 3).trans h3.symm⟩, ⟨fun h => absurd h hce, fun h => ?_⟩, fun h => absurd h hce, ⟨by omega, Nat.zero_le _, hm 5, hm 4, hm 3, hv 6, hv 5⟩, fun h => by omega, Or.inl ⟨hm 1, hv 0, fun h => by omega⟩⟩
  rcases h with h | h
  · omega
  · exact h.elim
theorem rA_0 : rA n0 0 10 S0 5 10 0 := by
  have hcn := n0_cn 64
  refine ⟨⟨by omega, by omega⟩, ⟨by decide, by decide, by decide, by decide, by decide, by decide, by decide, by decide⟩, Or.inl rfl, Or.inl rfl, Or.inl rfl, ⟨5, by omega, by decide⟩, ⟨10, by omega, by decide⟩, ⟨Or.inl (by decide), ⟨fun h => absurd h (by decide), fun h => by omega⟩, Nat.zero_le _, Nat.zero_le _⟩, fun k hk => Or.inl ⟨n0_at (by omega), rfl⟩, fun c hc => ⟨0, by omega, rfl, fun p hp => absurd hp (Nat.not_lt_zero p), fun p _ hp => n0_at (by omega)⟩, ?_⟩
  refine ⟨fun j k hj => absurd hj (Nat.not_lt_zero j), fun k hk => absurd hk (Nat.not_lt_zero k), Nat.zero_le _, ⟨fun r hr => absurd hr (Nat.not_lt_zero r), fun r s _ hs => absurd hs (Nat.not_lt_zero s)⟩, Nat.zero_le _, ⟨by decide, Nat.zero_le _, fun k c hk => absurd hk (Nat.not_lt_zero k)⟩, by decide, by decide, fun q _ => rP_0 q _ _⟩
