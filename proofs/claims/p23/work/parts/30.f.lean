/-! a watermark that becomes greater: both loops by the panes' numbers -/
theorem m_nb_spec (now : Nat → Int32) (ab : Int32) : ∀ K, (m_nb now ab K = none → ∀ j, j < K → now (396 + 8 * j + 0) ≤ ab) ∧ ∀ b, m_nb now ab K = some b → b < K ∧ ¬ now (396 + 8 * b + 0) ≤ ab ∧ ∀ j, j < K → ¬ now (396 + 8 * j + 0) ≤ ab → now (396 + 8 * b + 0) ≤ now (396 + 8 * j + 0)
  | 0 => ⟨fun _ j hj => absurd hj (by omega), fun b h => by simp [m_nb] at h⟩
  | K + 1 => by
    obtain ⟨i1, i2⟩ := m_nb_spec now ab K
    rw [m_nb]
    by_cases h : now (396 + 8 * K + 0) ≤ ab
    · rw [if_pos h]
      refine ⟨fun e j hj => ?_, fun b e => ?_⟩
      · by_cases hjk : j = K
        · rw [hjk]; exact h
        · exact i1 e j (by omega)
      · obtain ⟨a1, a2, a3⟩ := i2 b e
        refine ⟨by omega, a2, fun j hj hn => ?_⟩
        by_cases hjk : j = K
        · rw [hjk] at hn; exact absurd h hn
        · exact a3 j (by omega) hn
    · rw [if_neg h]
      cases hb : m_nb now ab K with
      | none =>
        refine ⟨fun e => by simp at e, fun b e => ?_⟩
        simp only [Option.some.injEq] at e
        subst e
        refine ⟨by omega, h, fun j hj hn => ?_⟩
        by_cases hjk : j = K
        · rw [hjk]; exact Int32.le_refl _
        · exact absurd (i1 hb j (by omega)) hn
      | some b0 =>
        obtain ⟨a1, a2, a3⟩ := i2 b0 hb
        refine ⟨fun e => by simp only at e; split at e <;> simp at e, fun b e => ?_⟩
        simp only at e
        split at e
        · rename_i hle
          simp only [Option.some.injEq] at e
          subst e
          refine ⟨by omega, a2, fun j hj hn => ?_⟩
          by_cases hjk : j = K
          · rw [hjk]; exact hle
          · exact a3 j (by omega) hn
        · rename_i hle
          simp only [Option.some.injEq] at e
          subst e
          refine ⟨by omega, h, fun j hj hn => ?_⟩
          by_cases hjk : j = K
          · rw [hjk]; exact Int32.le_refl _
          · have h5 := a3 j (by omega) hn
            rw [Int32.le_iff_toInt_le] at hle h5 ⊢
            omega
theorem m_nb_congab {now : Nat → Int32} {ab ab' : Int32} : ∀ {K : Nat}, (∀ j, j < K → (now (396 + 8 * j + 0) ≤ ab ↔ now (396 + 8 * j + 0) ≤ ab')) → m_nb now ab K = m_nb now ab' K
  | 0, _ => rfl
  | K + 1, h => by
    rw [m_nb, m_nb, m_nb_congab (K := K) (fun j hj => h j (by omega))]
    by_cases e : now (396 + 8 * K + 0) ≤ ab
    · rw [if_pos e, if_pos ((h K (by omega)).mp e)]
    · rw [if_neg e, if_neg (fun e2 => e ((h K (by omega)).mpr e2))]
noncomputable def m_Q (bef to : Int32) (np sz : Nat) : Nat → Nat → (Nat → Int32) → Nat → Int32
  | 0, _, f => f
  | n + 1, q, f => m_Q bef to np sz n (q + 1) (if m_fk f (nI q) np < np then m_rstep bef to sz f (m_fk f (nI q) np) else f)
theorem m_rL_congab {bef to : Int32} {np sz : Nat} {f : Nat → Int32} {ab ab' : Int32} (h : ∀ j, j < np → (f (396 + 8 * j + 0) ≤ ab ↔ f (396 + 8 * j + 0) ≤ ab')) : ∀ fuel, m_rL bef to np sz fuel f ab = m_rL bef to np sz fuel f ab'
  | 0 => rfl
  | n + 1 => by rw [m_rL, m_rL, m_nb_congab h]
theorem m_rstep_num {bef to : Int32} {sz k np : Nat} {now : Nat → Int32} (h : wOk now) (hk : k < 64) (hn : np ≤ 64) : ∀ j, j < np → m_rstep bef to sz now k (396 + 8 * j + 0) = now (396 + 8 * j + 0) := fun j hj => m_rstep_o h (by omega) (by omega) (by omega) (by omega)
theorem m_rL_Q {bef to : Int32} {np sz : Nat} (hn64 : np ≤ 64) : ∀ (n q : Nat) (f : Nat → Int32) (ab : Int32) (fuel : Nat), ab.toInt + 1 = (q : Int) → q + n = 2000 → n ≤ fuel → nOk f np → dOk f np → wOk f → m_rL bef to np sz fuel f ab = m_Q bef to np sz n q f
  | 0, q, f, ab, fuel, hab, hq, _, hnk, _, _ => by
    have hnone : m_nb f ab np = none := m_fuel0 hnk (by omega)
    rw [m_Q]
    cases fuel with
    | zero => rfl
    | succ k => rw [m_rL, hnone]
  | n + 1, q, f, ab, fuel, hab, hq, hfu, hnk, hdk, hwk => by
    obtain ⟨s1, s2⟩ := m_nb_spec f ab np
    rw [m_Q]
    by_cases hk : m_fk f (nI q) np < np
    · rw [if_pos hk]
      have hkq := m_fk_at hk
      have hgt : ¬ f (396 + 8 * m_fk f (nI q) np + 0) ≤ ab := by
        rw [hkq, Int32.le_iff_toInt_le, nI_toInt (by omega)]; omega
      cases hb : m_nb f ab np with
      | none => exact absurd (s1 hb _ hk) hgt
      | some b =>
        obtain ⟨b1, b2, b3⟩ := s2 b hb
        have hbq : f (396 + 8 * b + 0) = nI q := by
          have h1 := b3 _ hk hgt
          rw [hkq, Int32.le_iff_toInt_le, nI_toInt (by omega)] at h1
          rw [Int32.le_iff_toInt_le] at b2
          rw [← Int32.toInt_inj, nI_toInt (by omega)]
          omega
        have hbk : b = m_fk f (nI q) np := hdk b _ b1 hk (hbq.trans hkq.symm)
        subst hbk
        cases fuel with
        | zero => exact absurd hfu (by omega)
        | succ fu =>
          rw [m_rL, hb]
          simp only
          rw [hkq]
          exact m_rL_Q hn64 n (q + 1) _ _ fu (by rw [nI_toInt (by omega)]; omega) (by omega) (by omega) (nOk_rstep hwk (by omega) hn64 hnk) (dOk_cong (m_rstep_num hwk (by omega) hn64) hdk) (wOk_rstep hwk)
    · rw [if_neg hk]
      rw [m_rL_congab (ab' := nI q) (fun j hj => ?_) fuel]
      · exact m_rL_Q hn64 n (q + 1) f (nI q) fuel (by rw [nI_toInt (by omega)]; omega) (by omega) (by omega) hnk hdk hwk
      · obtain ⟨p, p1, p2⟩ := hnk j hj
        have hne : ¬ p = q := fun e => hk (Nat.lt_of_le_of_lt (m_fk_ex hj (by rw [p2, e])) hj)
        rw [p2, Int32.le_iff_toInt_le, Int32.le_iff_toInt_le, nI_toInt (by omega), nI_toInt (by omega)]
        omega
def c_Q (lb ls wm : Int32) (u : Nat) : Nat → Nat → PW → PW
  | 0, _, S => S
  | n + 1, q, S => c_Q lb ls wm u n (q + 1) (if p_rk S.1 (nI q) u < u then p_scstep lb ls wm S (p_rk S.1 (nI q) u) else S)
theorem p_scstep_num {lb ls wm : Int32} {S : PW} {r : Nat} (j : Nat) : (p_scstep lb ls wm S r).1 (j * 8 + 7) = S.1 (j * 8 + 7) := by
  rw [p_scstep]
  repeat' split
  all_goals first | rfl | (simp only [p_tell]; repeat rw [pk_un (by omega)])
theorem sOk_cong {pn pn' : Nat → Int32} {u : Nat} (h : ∀ j, j < u → pn' (j * 8 + 7) = pn (j * 8 + 7)) (hs : sOk pn u) : sOk pn' u := by
  refine ⟨fun r hr => by rw [h r hr]; exact hs.1 r hr, fun r s h1 h2 => ?_⟩
  rw [h r (by omega), h s h2]; exact hs.2 r s h1 h2
theorem p_scL_Q {lb ls wm : Int32} {u : Nat} : ∀ (n q : Nat) (S : PW) (r n' : Nat), q + n = 2000 → r + n' = u → sOk S.1 u → (∀ j, j < r → (S.1 (j * 8 + 7)).toInt < (q : Int)) → (∀ j, r ≤ j → j < u → (q : Int) ≤ (S.1 (j * 8 + 7)).toInt) → p_scL lb ls wm n' r S = c_Q lb ls wm u n q S
  | 0, q, S, r, n', hq, hr, hs, h1, h2 => by
    rw [c_Q]
    cases n' with
    | zero => rfl
    | succ k =>
      obtain ⟨p, p1, p2⟩ := hs.1 r (by omega)
      have h3 := h2 r (Nat.le_refl _) (by omega)
      rw [p2, nI_toInt (by omega)] at h3
      omega
  | n + 1, q, S, r, n', hq, hr, hs, h1, h2 => by
    rw [c_Q]
    by_cases hk : p_rk S.1 (nI q) u < u
    · rw [if_pos hk]
      have hkq := p_rk_at hk
      have e : p_rk S.1 (nI q) u = r := by
        have a1 : ¬ p_rk S.1 (nI q) u < r := fun h => by
          have := h1 _ h
          rw [hkq, nI_toInt (by omega)] at this
          omega
        rcases Nat.lt_or_ge r (p_rk S.1 (nI q) u) with h | h
        · have h5 := hs.2 r _ h hk
          have h6 := h2 r (Nat.le_refl _) (by omega)
          rw [hkq, Int32.lt_iff_toInt_lt, nI_toInt (by omega)] at h5
          omega
        · omega
      rw [e] at hkq ⊢
      cases n' with
      | zero => exact absurd hk (by omega)
      | succ k =>
        rw [p_scL]
        refine p_scL_Q n (q + 1) _ (r + 1) k (by omega) (by omega) (sOk_cong (fun j _ => p_scstep_num j) hs) (fun j hj => ?_) (fun j hj hju => ?_)
        · rw [p_scstep_num]
          by_cases hjr : j = r
          · rw [hjr, hkq, nI_toInt (by omega)]; omega
          · have := h1 j (by omega); omega
        · rw [p_scstep_num]
          have h5 := hs.2 r j (by omega) hju
          rw [hkq, Int32.lt_iff_toInt_lt, nI_toInt (by omega)] at h5
          omega
    · rw [if_neg hk]
      refine p_scL_Q n (q + 1) S r n' (by omega) hr hs (fun j hj => by have := h1 j hj; omega) (fun j hj hju => ?_)
      have h3 := h2 j hj hju
      obtain ⟨p, p1, p2⟩ := hs.1 j hju
      have hne : ¬ p = q := fun e => hk (Nat.lt_of_le_of_lt (p_rk_ex hju (by rw [p2, e])) hju)
      rw [p2, nI_toInt (by omega)] at h3 ⊢
      omega
