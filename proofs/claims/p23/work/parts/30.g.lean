/-! a watermark that becomes greater, on both sides -/
theorem rB_upd {now pn wd : Nat → Int32} {np sz u w j : Nat} {tl tk x : Int32} {W : Nat → Int} {B : Nat → Nat} {E : Nat → Prop} (h : rB now np sz pn u wd w tl tk W B E) (hj : (j < 12 ∧ j ≠ 3 ∧ j ≠ 4 ∧ j ≠ 9) ∨ 1068 ≤ j) : rB (upd now j x) np sz pn u wd w tl tk W B E := by
  obtain ⟨hd, hnk, hn64, hs, hu, hw, h3, h4, hP⟩ := h
  have hnums : ∀ k, k < np → upd now j x (396 + 8 * k + 0) = now (396 + 8 * k + 0) := fun k hk => pk_un (by omega)
  refine ⟨dOk_cong hnums hd, nOk_cong hnums hnk, hn64, hs, hu, rW_cong (pk_un (by omega)) (fun i h1 h2 => pk_un (by omega)) hw, by rw [pk_un (by omega)]; exact h3, by rw [pk_un (by omega)]; exact h4, fun q hq => ?_⟩
  have hPq := hP q hq
  refine rP_mono hPq (fun i h1 h2 => pk_un (by omega)) (fun c hc0 hc => v_m_updo hn64 (by omega) hc) (fun c hc => rfl) ⟨⟨Or.inl, fun h => h.elim id (fun h => ?_)⟩, id⟩ (fun h => (v_me_cong hnums q).mpr h) (fun h => ?_) (Int.le_refl _) (Nat.le_refl _)
  · obtain ⟨n', a', s', -, f6, -⟩ := hPq
    exact f6.mpr (Or.inr h)
  · obtain ⟨n', a', s', -, f6, f7, -⟩ := hPq
    exact (v_me_cong hnums q).mpr (f7 (f6.mpr (Or.inr h)))
/-- a pane's own state changes, where no word stands -/
theorem rB_chg {now now' pn pn' wd : Nat → Int32} {np sz u w q : Nat} {tl tk : Int32} {W : Nat → Int} {B : Nat → Nat} {E : Nat → Prop} (h : rB now np sz pn u wd w tl tk W B E) (hq : q < 2000) (hce : v_ce pn u q) (hs0 : v_m now np q 5 = 0)
    (hl : ∀ j, j < 396 ∨ 908 ≤ j → now' j = now j) (hnums : ∀ j, j < np → now' (396 + 8 * j + 0) = now (396 + 8 * j + 0)) (hm : ∀ q' c', q' < 2000 → 0 < c' → c' < 8 → (q' ≠ q ∨ (c' ≠ 1 ∧ c' ≠ 2)) → v_m now' np q' c' = v_m now np q' c')
    (hp : ∀ j, j < u → pn' (j * 8 + 7) = pn (j * 8 + 7)) (hc : ∀ q' c', q' < 2000 → c' < 7 → (q' ≠ q ∨ (c' ≠ 0 ∧ c' ≠ 4)) → v_c pn' u q' c' = v_c pn u q' c')
    (hd : (v_m now' np q 1 = 1 ∧ v_c pn' u q 0 = 2 ∧ v_m now' np q 2 = v_c pn' u q 4) ∨ (v_m now' np q 1 = 2 ∧ v_c pn' u q 0 = 3)) :
    rB now' np sz pn' u wd w tl tk W B E ∧ v_m now' np q 5 = 0 := by
  obtain ⟨hdk, hnk, hn64, hs, hu, hw, h3, h4, hP⟩ := h
  have hce' : ∀ p, v_ce pn' u p ↔ v_ce pn u p := fun p => by rw [v_ce, v_ce, p_rk_cong hp]
  refine ⟨⟨dOk_cong hnums hdk, nOk_cong hnums hnk, hn64, sOk_cong hp hs, hu, rW_cong (hl 9 (by omega)) (fun i h1 h2 => hl i (by omega)) hw, by rw [hl 3 (by omega)]; exact h3, by rw [hl 4 (by omega)]; exact h4, fun q' hq' => ?_⟩, by rw [hm q 5 hq (by omega) (by omega) (by omega)]; exact hs0⟩
  have hPq := hP q' hq'
  by_cases hqq : q' = q
  · subst hqq
    obtain ⟨n, a, s, ⟨g1, g2, g3, g4, g5⟩, g6, g7, ⟨s1, s2, s3, s4, s5, s6, s7⟩, t1, t2⟩ := hPq
    obtain rfl : s = 0 := (nI_eq (a := s) (b := 0) (by omega) (by omega)).mp (s3.symm.trans hs0)
    obtain ⟨e1, e2, e3⟩ := m_num_cong (now := now) (now' := now') (sz := sz) (q := nI q') (fun j h1 h2 => hl j (by omega))
    refine ⟨n, a, 0, ⟨by rw [e1]; exact g1, g2, by rw [hc q' 1 hq (by omega) (by omega)]; exact g3, by rw [hc q' 2 hq (by omega) (by omega), e2]; exact g4, by rw [hc q' 3 hq (by omega) (by omega), e3]; exact g5⟩, by rw [hce']; exact g6, fun _ => (v_me_cong hnums q').mpr (g7 hce), ⟨by omega, s2, by rw [hm q' 5 hq (by omega) (by omega) (by omega)]; exact s3, by rw [hm q' 4 hq (by omega) (by omega) (by omega)]; exact s4, by rw [hm q' 3 hq (by omega) (by omega) (by omega)]; exact s5, by rw [hc q' 6 hq (by omega) (by omega)]; exact s6, by rw [hc q' 5 hq (by omega) (by omega)]; exact s7⟩, fun e => absurd e (by decide), ?_⟩
    rcases hd with ⟨d1, d2, d3⟩ | ⟨d1, d2⟩
    · exact Or.inr (Or.inl ⟨d1, d2, d3, rfl⟩)
    · exact Or.inr (Or.inr ⟨d1, d2⟩)
  · refine rP_mono hPq (fun i h1 h2 => hl i (by omega)) (fun c hc0 hc' => hm q' c hq' hc0 hc' (Or.inl hqq)) (fun c hc' => hc q' c hq' hc' (Or.inl hqq)) ⟨⟨fun h => Or.inl ((hce' q').mp h), fun h => (hce' q').mpr (h.elim id (fun h => ?_))⟩, id⟩ (fun h => (v_me_cong hnums q').mpr h) (fun h => ?_) (Int.le_refl _) (Nat.le_refl _)
    · obtain ⟨n', a', s', -, f6, -⟩ := hPq
      exact f6.mpr (Or.inr h)
    · obtain ⟨n', a', s', -, f6, f7, -⟩ := hPq
      exact (v_me_cong hnums q').mpr (f7 (f6.mpr (Or.inr h)))
def noE : Nat → Prop := fun _ => False
theorem m_isIn0 {v lo hi : Int32} : m_isIn v lo hi = 0 ↔ (v < lo ∨ hi < v) := by
  rw [m_isIn]
  by_cases h : v < lo
  · rw [if_pos h]; exact ⟨fun _ => Or.inl h, fun _ => rfl⟩
  · rw [if_neg h]
    by_cases h2 : hi < v
    · rw [if_pos h2]; exact ⟨fun _ => Or.inr h2, fun _ => rfl⟩
    · rw [if_neg h2]; exact ⟨fun e => absurd e (by decide), fun e => e.elim (fun e => absurd e h) (fun e => absurd e h2)⟩
theorem k_mulend {q sz : Nat} : (nI q + 1) * nI sz = nI ((q + 1) * sz) := by rw [nI_1, k_mul]
theorem k_szb {q sz : Nat} (hq : q < 2000) (hz : sz ≤ 100) : (q + 1) * sz ≤ 200000 := by
  have h1 : (q + 1) * sz ≤ 2000 * sz := Nat.mul_le_mul_right _ (by omega)
  omega
/-- which panes a watermark shuts -/
theorem k_shuts {q sz m0 mk : Nat} (h0 : 0 < sz) (hm0 : m0 < 2000) (hmk : mk < 2000) (hq : q < 2000) : (¬ nI q < nI (m0 / sz) ∧ ¬ nI (mk / sz) - 1 < nI q) ↔ (m0 < (q + 1) * sz ∧ (q + 1) * sz ≤ mk) := by
  have a0 : m0 / sz ≤ m0 := Nat.div_le_self _ _
  have a1 : mk / sz ≤ mk := Nat.div_le_self _ _
  have e1 : (nI (mk / sz) - 1).toInt = ((mk / sz : Nat) : Int) - 1 := pk_sub_toInt (a := mk / sz) (b := 1) (by omega) (by omega)
  rw [Int32.lt_iff_toInt_lt, Int32.lt_iff_toInt_lt, e1, nI_toInt (by omega), nI_toInt (by omega), ← Nat.div_lt_iff_lt_mul h0, ← Nat.le_div_iff_mul_le h0]
  omega
set_option maxHeartbeats 1000000 in
theorem sim_step {f : Nat → Int32} {np sz u q m0 mk : Nat} {S : PW} {bef tk : Int32} {B : Nat → Nat} (h0 : 0 < sz) (h1 : sz ≤ 100) (hm0 : m0 < 2000) (hmk : mk < 2000) (hb : bef = nI m0 ∨ (bef = -1 ∧ m0 = 0)) (hle : bef.toInt ≤ (mk : Int)) (hq : q < 2000)
    (h : rB f np sz S.1 u S.2.1 S.2.2.1 S.2.2.2 tk (fun p => if p < q then (mk : Int) else bef.toInt) B noE) :
    rB (if m_fk f (nI q) np < np then m_rstep bef (nI mk) sz f (m_fk f (nI q) np) else f) np sz
      (if p_rk S.1 (nI q) u < u then p_scstep (nI (m0 / sz) - 1) (nI (mk / sz) - 1) (nI mk) S (p_rk S.1 (nI q) u) else S).1 u
      (if p_rk S.1 (nI q) u < u then p_scstep (nI (m0 / sz) - 1) (nI (mk / sz) - 1) (nI mk) S (p_rk S.1 (nI q) u) else S).2.1
      (if p_rk S.1 (nI q) u < u then p_scstep (nI (m0 / sz) - 1) (nI (mk / sz) - 1) (nI mk) S (p_rk S.1 (nI q) u) else S).2.2.1
      (if p_rk S.1 (nI q) u < u then p_scstep (nI (m0 / sz) - 1) (nI (mk / sz) - 1) (nI mk) S (p_rk S.1 (nI q) u) else S).2.2.2 tk (fun p => if p < q + 1 then (mk : Int) else bef.toInt) B noE := by
  have hzb := k_szb hq h1
  have hPq := h.2.2.2.2.2.2.2.2 q hq
  have hmono : rB f np sz S.1 u S.2.1 S.2.2.1 S.2.2.2 tk (fun p => if p < q + 1 then (mk : Int) else bef.toInt) B noE := by
    refine rB_monoWB h (fun p hp => ?_) (fun _ _ => Nat.le_refl _)
    show (if p < q then (mk : Int) else bef.toInt) ≤ (if p < q + 1 then (mk : Int) else bef.toInt)
    split <;> split <;> omega
  obtain ⟨n, a, s, ⟨g1, g2, g3, g4, g5⟩, g6, g7, ⟨s1, s2, s3, s4, s5, s6, s7⟩, t1, t2⟩ := hPq
  have hbq : ∀ x : Nat, x ≤ 200000 → (nI x ≤ bef ↔ x ≤ m0 ∧ ¬ bef = -1) := by
    intro x hx
    rcases hb with e | ⟨e, e'⟩
    · rw [e]
      constructor
      · intro h; exact ⟨(nI_leI (a := x) (b := m0) (by omega) (by omega)).mp h, fun h9 => by
          have := congrArg Int32.toInt h9
          rw [nI_toInt (by omega), show (-1 : Int32).toInt = -1 by decide] at this
          omega⟩
      · intro h; exact (nI_leI (a := x) (b := m0) (by omega) (by omega)).mpr h.1
    · rw [e]
      constructor
      · intro h
        rw [Int32.le_iff_toInt_le, nI_toInt (by omega), show (-1 : Int32).toInt = -1 by decide] at h
        omega
      · intro h; exact absurd rfl h.2
  by_cases hce : v_ce S.1 u q
  · have hme := g7 hce
    have hn0 : 0 < n := (g6.mp hce).resolve_right id
    have hkq := m_fk_at hme
    have hrq := p_rk_at hce
    have hk64 : m_fk f (nI q) np < 64 := by have h9 : m_fk f (nI q) np < np := hme; have := h.2.2.1; omega
    rw [if_pos (show m_fk f (nI q) np < np from hme), if_pos (show p_rk S.1 (nI q) u < u from hce)]
    rw [m_rstep, hkq, k_mulend, p_scstep, hrq]
    rcases t2 with ⟨a1, a2, a3⟩ | ⟨a1, a2, a3, a4⟩ | ⟨a1, a2⟩
    · rw [v_m_in hme] at a1
      rw [v_c_in hce] at a2
      rw [a1, a2, if_pos (rfl : (0 : Int32) = 0)]
      have hsh := k_shuts (sz := sz) h0 hm0 hmk hq
      by_cases hc : m0 < (q + 1) * sz ∧ (q + 1) * sz ≤ mk
      · have hnle : ¬ nI ((q + 1) * sz) ≤ bef := fun e => by have := (hbq _ hzb).mp e; omega
        have hnlt : ¬ nI mk < nI ((q + 1) * sz) := fun e => by have := (nI_ltI (a := mk) (b := (q + 1) * sz) (by omega) (by omega)).mp e; omega
        rw [if_pos ⟨rfl, hnle, hnlt⟩]
        have hin : ¬ m_isIn (nI q) (nI (m0 / sz) - 1 + 1) (nI (mk / sz) - 1) = 0 := by
          rw [m_isIn0, Int32.sub_add_cancel]
          have := hsh.mpr hc
          exact fun e => e.elim this.1 this.2
        rw [if_neg hin]
        have hs0 : s = 0 := by
          rcases Nat.eq_zero_or_pos s with e | e
          · exact e
          · have h5 : (((q + 1) * sz : Nat) : Int) ≤ (if q < q then (mk : Int) else bef.toInt) := a3 (by omega)
            rw [if_neg (Nat.lt_irrefl _)] at h5
            rcases hb with e9 | ⟨e9, e10⟩
            · rw [e9, nI_toInt (by omega)] at h5; omega
            · rw [e9, show (-1 : Int32).toInt = -1 by decide] at h5; omega
        have ht := rB_tell hmono hq hce id (by rw [s3, hs0]; rfl) (Or.inr ⟨by rw [v_m_in hme]; exact a1, by rw [if_pos (Nat.lt_succ_self _)]; exact_mod_cast hc.2⟩)
        exact ht
      · have hin : m_isIn (nI q) (nI (m0 / sz) - 1 + 1) (nI (mk / sz) - 1) = 0 := by
          rw [m_isIn0, Int32.sub_add_cancel]
          by_cases e1 : nI q < nI (m0 / sz)
          · exact Or.inl e1
          · by_cases e2 : nI (mk / sz) - 1 < nI q
            · exact Or.inr e2
            · exact absurd (hsh.mp ⟨e1, e2⟩) hc
        rw [if_pos hin, if_neg (fun e => hc ?_), if_neg (fun e => absurd e.1 (by decide))]
        · exact hmono
        · obtain ⟨-, e2, e3⟩ := e
          rw [hbq _ hzb] at e2
          have e4 : (q + 1) * sz ≤ mk := Nat.le_of_not_lt (fun h9 => e3 ((nI_ltI (a := mk) (b := (q + 1) * sz) (by omega) (by omega)).mpr h9))
          refine ⟨?_, e4⟩
          rcases hb with e9 | ⟨e9, e10⟩
          · refine Nat.lt_of_not_le (fun h9 => e2 ⟨h9, fun h8 => ?_⟩)
            have := congrArg Int32.toInt (e9.symm.trans h8)
            rw [nI_toInt (by omega), show (-1 : Int32).toInt = -1 by decide] at this
            omega
          · rw [e10]; exact Nat.mul_pos (by omega) h0
    · have hb1 := a1
      rw [v_m_in hme] at a1 a3
      rw [v_c_in hce] at a2 a3
      rw [a1, a2, if_neg (show ¬ (2 : Int32) = 0 by decide), if_neg (show ¬ ¬ (2 : Int32) = 2 from fun e => e rfl), a3, if_neg (fun e => absurd e.1 (by decide))]
      by_cases hcl : nI mk < S.1 (p_rk S.1 (nI q) u * 8 + 4)
      · rw [if_pos hcl, if_neg (fun e => e.2 hcl)]
        exact hmono
      · rw [if_neg hcl, if_pos ⟨rfl, hcl⟩]
        have hch := rB_chg (now' := upd f (396 + 8 * m_fk f (nI q) np + 1) 2) (pn' := upd S.1 (p_rk S.1 (nI q) u * 8 + 0) 3) hmono hq hce (by rw [s3, a4]; rfl) (fun j hj => pk_un (by omega)) (fun j hj => pk_un (by omega))
          (fun q' c' hq' h1' h2' h3' => by rw [v_m_upd hme hq (by omega) (by omega) hq' h2', if_neg (by omega)]) (fun j hj => pk_un (by omega)) (fun q' c' hq' h2' h3' => by rw [v_c_upd hce hq (by omega) hq' (by omega), if_neg (by omega)])
          (Or.inr ⟨by rw [v_m_upd hme hq (by omega) (by omega) hq (by omega), if_pos ⟨rfl, rfl⟩], by rw [v_c_upd hce hq (by omega) hq (by omega), if_pos ⟨rfl, rfl⟩]⟩)
        have ht := rB_tell hch.1 hq ((v_ce_upd (by omega) q).mpr hce) id hch.2 (Or.inl (by rw [v_m_upd hme hq (by omega) (by omega) hq (by omega), if_pos ⟨rfl, rfl⟩]))
        rw [m_fk_upd (by omega) (by omega), p_rk_upd (by omega)] at ht
        exact ht
    · rw [v_m_in hme] at a1
      rw [v_c_in hce] at a2
      rw [a1, a2, if_neg (show ¬ (3 : Int32) = 0 by decide), if_pos (show ¬ (3 : Int32) = 2 by decide), if_neg (fun e => absurd e.1 (by decide)), if_neg (fun e => absurd e.1 (by decide))]
      exact hmono
  · rw [if_neg (show ¬ p_rk S.1 (nI q) u < u from hce)]
    have hn : n = 0 := by
      rcases Nat.eq_zero_or_pos n with e | e
      · exact e
      · exact absurd (g6.mpr (Or.inl e)) hce
    by_cases hme : m_fk f (nI q) np < np
    · rw [if_pos hme]
      have hkq := m_fk_at hme
      have a1 : v_m f np q 1 = 0 := by
        rcases t2 with ⟨a1, -⟩ | ⟨-, a2, -⟩ | ⟨-, a2⟩
        · exact a1
        · rw [v_c_out hce] at a2; exact absurd a2 (by decide)
        · rw [v_c_out hce] at a2; exact absurd a2 (by decide)
      rw [v_m_in hme] at a1
      have ht : m_tells f (m_fk f (nI q) np) sz = f := by rw [m_tells, hkq, g1, hn, if_pos (by decide)]
      have hr : m_rstep bef (nI mk) sz f (m_fk f (nI q) np) = f := by
        rw [m_rstep, ht, a1, if_neg (show ¬ ((0 : Int32) = 1 ∧ _) from fun e => absurd e.1 (by decide)), ite_self]
      rw [hr]
      exact hmono
    · rw [if_neg hme]
      exact hmono
theorem sim_Q {np sz u m0 mk : Nat} {bef tk : Int32} {B : Nat → Nat} (h0 : 0 < sz) (h1 : sz ≤ 100) (hm0 : m0 < 2000) (hmk : mk < 2000) (hb : bef = nI m0 ∨ (bef = -1 ∧ m0 = 0)) (hle : bef.toInt ≤ (mk : Int)) : ∀ (n q : Nat) (f : Nat → Int32) (S : PW), q + n = 2000 →
    rB f np sz S.1 u S.2.1 S.2.2.1 S.2.2.2 tk (fun p => if p < q then (mk : Int) else bef.toInt) B noE →
    rB (m_Q bef (nI mk) np sz n q f) np sz (c_Q (nI (m0 / sz) - 1) (nI (mk / sz) - 1) (nI mk) u n q S).1 u (c_Q (nI (m0 / sz) - 1) (nI (mk / sz) - 1) (nI mk) u n q S).2.1 (c_Q (nI (m0 / sz) - 1) (nI (mk / sz) - 1) (nI mk) u n q S).2.2.1 (c_Q (nI (m0 / sz) - 1) (nI (mk / sz) - 1) (nI mk) u n q S).2.2.2 tk (fun _ => (mk : Int)) B noE
  | 0, q, f, S, hq, h => by
    rw [m_Q, c_Q]
    refine rB_monoWB h (fun p hp => ?_) (fun _ _ => Nat.le_refl _)
    show (if p < q then (mk : Int) else bef.toInt) ≤ mk
    rw [if_pos (by omega)]
    exact Int.le_refl _
  | n + 1, q, f, S, hq, h => by
    rw [m_Q, c_Q]
    exact sim_Q h0 h1 hm0 hmk hb hle n (q + 1) _ _ (by omega) (sim_step h0 h1 hm0 hmk hb hle (by omega) h)
