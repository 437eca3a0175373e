theorem g_ok_0 : g_ok (S0, 10, 5, 10, 0) := by
  have hce : ∀ q, ¬ v_ce (fun _ => 0) 0 q := fun q => Nat.not_lt_zero _
  have hv : ∀ q c, v_c (fun _ => 0) 0 q c = 0 := fun q c => v_c_out (hce q)
  have hsd : ∀ q, ¬ s_d (fun _ => 0) 0 q := fun q h => hce q (s_d_ce h)
  refine ⟨⟨n0, 0, rA_0⟩, ⟨⟨fun r hr => absurd hr (Nat.not_lt_zero r), fun r s _ hs => absurd hs (Nat.not_lt_zero s)⟩, fun q hq => ⟨Or.inl (by show v_c (fun _ => 0) 0 q 5 = v_c (fun _ => 0) 0 q 6; rw [hv, hv]), Or.inl ⟨hv q 0, fun h => absurd h (hsd q), fun h => absurd h (hce q)⟩⟩, ?_⟩, ⟨fun _ => 0, ?_, fun c hc => ⟨Nat.zero_le _, rfl, fun p hp => absurd hp (Nat.not_lt_zero p)⟩⟩⟩
  · have e : q_sum (fun q => q_b (s_d (fun _ => 0) 0 q)) 2000 = q_sum (fun _ => 0) 2000 := q_sum_cong (fun q _ => q_b0 (hsd q))
    show (0 : Int32) = 0 + nI (q_sum (fun q => q_b (s_d (fun _ => 0) 0 q)) 2000)
    rw [e, q_sum_zero]; rfl
  · have : ∀ k, e_wo (fun _ => 0) 1 1 k = 0 := fun k => by
      induction k with
      | zero => rfl
      | succ k ih => rw [e_wo, if_pos (by rw [e_out, if_pos (by decide)]), ih]
    show 0 + 0 + 0 = e_wo (fun _ => 0) 1 1 64
    rw [this]
theorem uG_0 (ad : Nat → Nat) : uG (ad, (S0, 10, 5, 10, 0), ((fun _ => 0), 0, (0, 0, 0, 0, 0, 0, 0), 0, 0), 0, 0, (fun _ => none)) :=
  ⟨g_ok_0, Nat.zero_le _, by show 0 < 4; omega, fun i hi => absurd hi (Nat.not_lt_zero i)⟩
