/-! a watermark that becomes greater: whole; moving back -/
theorem m_Q_o {bef to : Int32} {np sz : Nat} (hn : np ≤ 64) {i : Nat} (hi : i < 396 ∨ 1068 ≤ i) (h9 : i ≠ 9) (h3 : i ≠ 3) : ∀ (n q : Nat) (f : Nat → Int32), wOk f → m_Q bef to np sz n q f i = f i
  | 0, q, f, _ => rfl
  | n + 1, q, f, hw => by
    rw [m_Q]
    split
    · rename_i hk
      rw [m_Q_o hn hi h9 h3 n (q + 1) _ (wOk_rstep hw)]
      exact m_rstep_o hw (by omega) h9 h3 (by omega)
    · exact m_Q_o hn hi h9 h3 n (q + 1) f hw
theorem m_rises_Q {now : Nat → Int32} {to : Int32} {np sz : Nat} (hn : np ≤ 64) (hnk : nOk now np) (hd : dOk now np) (hw : wOk now) : m_rises now to np sz = m_Q (now 0) to np sz 2000 0 (upd now 0 to) := by
  rw [m_rises]
  exact m_rL_Q hn 2000 0 _ _ 2000 (by decide) (by omega) (Nat.le_refl _) (nOk_upd (by omega) hnk) (dOk_cong (fun j hj => pk_un (by omega)) hd) (wOk_upd hw (by omega))
theorem m_rises_o {now : Nat → Int32} {to : Int32} {np sz i : Nat} (hn : np ≤ 64) (hnk : nOk now np) (hd : dOk now np) (hw : wOk now) (hi : i < 396 ∨ 1068 ≤ i) (h9 : i ≠ 9) (h3 : i ≠ 3) : m_rises now to np sz i = if i = 0 then to else now i := by
  rw [m_rises_Q hn hnk hd hw, m_Q_o hn hi h9 h3 _ _ _ (wOk_upd hw (by omega))]
  by_cases h : i = 0
  · rw [if_pos h, h]; exact pk_us
  · rw [if_neg h]; exact pk_un h
theorem rB_rises {now pn wd : Nat → Int32} {np sz u w m0 mk : Nat} {tl tk : Int32} {B : Nat → Nat} (h0 : 0 < sz) (h1 : sz ≤ 100) (hm0 : m0 < 2000) (hmk : mk < 2000) (hb : now 0 = nI m0 ∨ (now 0 = -1 ∧ m0 = 0)) (hle : (now 0).toInt ≤ (mk : Int)) (h : rB now np sz pn u wd w tl tk (fun _ => (now 0).toInt) B noE) :
    rB (m_rises now (nI mk) np sz) np sz (p_scR (nI (m0 / sz) - 1) (nI (mk / sz) - 1) (nI mk) u (pn, wd, w, tl)).1 u (p_scR (nI (m0 / sz) - 1) (nI (mk / sz) - 1) (nI mk) u (pn, wd, w, tl)).2.1 (p_scR (nI (m0 / sz) - 1) (nI (mk / sz) - 1) (nI mk) u (pn, wd, w, tl)).2.2.1 (p_scR (nI (m0 / sz) - 1) (nI (mk / sz) - 1) (nI mk) u (pn, wd, w, tl)).2.2.2 tk (fun _ => (mk : Int)) B noE := by
  have hw := rW_wN h.2.2.2.2.2.1
  rw [m_rises_Q h.2.2.1 h.2.1 h.1 hw.2]
  have hc : p_scR (nI (m0 / sz) - 1) (nI (mk / sz) - 1) (nI mk) u (pn, wd, w, tl) = c_Q (nI (m0 / sz) - 1) (nI (mk / sz) - 1) (nI mk) u 2000 0 (pn, wd, w, tl) := by
    rw [p_scR]
    refine p_scL_Q 2000 0 _ 0 u (by omega) (by omega) h.2.2.2.1 (fun j hj => absurd hj (by omega)) (fun j _ hj => ?_)
    obtain ⟨p, p1, p2⟩ := h.2.2.2.1.1 j hj
    show (0 : Int) ≤ (pn (j * 8 + 7)).toInt
    rw [p2, nI_toInt (by omega)]
    omega
  rw [hc]
  refine sim_Q h0 h1 hm0 hmk hb hle 2000 0 (upd now 0 (nI mk)) (pn, wd, w, tl) (by omega) ?_
  refine rB_monoWB (rB_upd h (by omega)) (fun p hp => ?_) (fun _ _ => Nat.le_refl _)
  show (now 0).toInt ≤ (if p < 0 then (mk : Int) else (now 0).toInt)
  rw [if_neg (by omega)]
  exact Int.le_refl _
theorem rB_setW {now pn wd : Nat → Int32} {np sz u w : Nat} {tl tk : Int32} {W W' : Nat → Int} {B : Nat → Nat} {E : Nat → Prop} (h : rB now np sz pn u wd w tl tk W B E) (hW : ∀ q, q < 2000 → v_m now np q 1 = 0 → v_m now np q 5 = 1 → (((q + 1) * sz : Nat) : Int) ≤ W' q) : rB now np sz pn u wd w tl tk W' B E := by
  obtain ⟨hd, hnk, hn64, hs, hu, hw, h3, h4, hP⟩ := h
  refine ⟨hd, hnk, hn64, hs, hu, hw, h3, h4, fun q hq => ?_⟩
  obtain ⟨n, a, s, g, g6, g7, ⟨s1, s2, s3, s4⟩, t1, t2⟩ := hP q hq
  refine ⟨n, a, s, g, g6, g7, ⟨s1, s2, s3, s4⟩, t1, ?_⟩
  rcases t2 with ⟨a1, a2, a3⟩ | h | h
  · exact Or.inl ⟨a1, a2, fun e => hW q hq a1 (by rw [s3, e]; rfl)⟩
  · exact Or.inr (Or.inl h)
  · exact Or.inr (Or.inr h)
theorem m_takes_no {now : Nat → Int32} {k : Nat} (h : ¬ now (396 + 8 * k + 5) = 1) : m_takes now k = now := by rw [m_takes, if_pos h]
theorem v_m_takes_o {now : Nat → Int32} {np q c k : Nat} (hw : wOk now) (hn : np ≤ 64) (hk : k < 64) (hc : c < 8) (h4 : c ≠ 4) (h5 : c ≠ 5) : v_m (m_takes now k) np q c = v_m now np q c := by
  have e : m_fk (m_takes now k) (nI q) np = m_fk now (nI q) np := m_fk_cong (fun j hj => m_takes_o hw (by omega) (by omega) (by omega) (by omega))
  rw [v_m, v_m, e]
  split
  · rename_i hl
    exact m_takes_o hw (by omega) (by omega) (by omega) (by omega)
  · rfl
set_option maxHeartbeats 1000000 in
theorem mv_main {np sz u v m0 c : Nat} {to tl : Int32} (h0 : 0 < sz) (h1 : sz ≤ 100) (hv : v < 2000) (hto : to = nI m0 ∨ (to = -1 ∧ m0 = 0)) (hmv : m0 ≤ v) (hc : c ≤ 64) : ∀ (n b : Nat) (f : Nat → Int32) (S : PW) (cn fuel : Nat), b + n = v / sz → m0 / sz ≤ b → n < fuel →
    rB f np sz S.1 u S.2.1 S.2.2.1 tl S.2.2.2 (fun p => if m0 / sz ≤ p ∧ p < b then (m0 : Int) - (if to = -1 then 1 else 0) else (v : Int)) (fun p => if p < b then c + 1 else c) noE →
    (m_mvL (nI v) to np sz fuel f b cn).1 = (c_mbL v sz u n b cn S).1 ∧ rB (m_mvL (nI v) to np sz fuel f b cn).2 np sz (c_mbL v sz u n b cn S).2.1 u (c_mbL v sz u n b cn S).2.2.1 (c_mbL v sz u n b cn S).2.2.2.1 tl (c_mbL v sz u n b cn S).2.2.2.2 (fun p => if m0 / sz ≤ p ∧ p < v / sz then (m0 : Int) - (if to = -1 then 1 else 0) else (v : Int)) (fun _ => c + 1) noE
  | 0, b, f, S, cn, fuel, hb, hmb, hf, h => by
    cases fuel with
    | zero => exact absurd hf (by omega)
    | succ fu =>
      have hvz : v / sz ≤ v := Nat.div_le_self _ _
      have hend : nI v < nI ((b + 1) * sz) := by
        have h2 : v < (b + 1) * sz := by rw [← Nat.div_lt_iff_lt_mul h0]; omega
        have h3 := k_szb (q := b) (sz := sz) (by omega) h1
        exact (nI_ltI (a := v) (b := (b + 1) * sz) (by omega) (by omega)).mpr h2
      rw [m_mvL, if_pos hend, c_mbL]
      refine ⟨rfl, ?_⟩
      rw [show v / sz = b by omega]
      refine rB_monoWB h (fun _ _ => Int.le_refl _) (fun p _ => ?_)
      show (if p < b then c + 1 else c) ≤ c + 1
      split <;> omega
  | n + 1, b, f, S, cn, fuel, hb, hmb, hf, h => by
    cases fuel with
    | zero => exact absurd hf (by omega)
    | succ fu =>
      have hvz : v / sz ≤ v := Nat.div_le_self _ _
      have h3 := k_szb (q := b) (sz := sz) (by omega) h1
      have hbv : (b + 1) * sz ≤ v := (Nat.le_div_iff_mul_le h0).mp (by omega)
      have hbm : m0 < (b + 1) * sz := (Nat.div_lt_iff_lt_mul h0).mp (by omega)
      have e1 : ¬ nI v < nI ((b + 1) * sz) := fun e => by have := (nI_ltI (a := v) (b := (b + 1) * sz) (by omega) (by omega)).mp e; omega
      have e2 : ¬ nI ((b + 1) * sz) ≤ to := by
        rcases hto with e | ⟨e, -⟩
        · rw [e]; exact fun e9 => by have := (nI_leI (a := (b + 1) * sz) (b := m0) (by omega) (by omega)).mp e9; omega
        · rw [e, Int32.le_iff_toInt_le, nI_toInt (by omega), show (-1 : Int32).toInt = -1 by decide]; omega
      have hwk := (rW_wN h.2.2.2.2.2.1).2
      have hn64 := h.2.2.1
      have hPb := h.2.2.2.2.2.2.2.2 b (by omega)
      rw [m_mvL, if_neg e1, if_neg e2, c_mbL]
      have hmode : m_mode f (nI b) np = v_m f np b 1 := rfl
      obtain ⟨n', a, s, g, g6, g7, ⟨s1, s2, s3, s4⟩, t1, t2⟩ := hPb
      have hB : ∀ p, p < 2000 → (if p < b then c + 1 else c) ≤ (if p < b + 1 then c + 1 else c) := fun p _ => by split <;> split <;> omega
      rcases t2 with ⟨a1, a2, a3⟩ | ⟨a1, a2, a3, a4⟩ | ⟨a1, a2⟩
      · have hst : c_state S.1 u (nI b) (nI v) sz = 1 := by
          rw [c_state, v_c_rd, a2, if_pos rfl, k_mulend, if_pos ((nI_leI (a := (b + 1) * sz) (b := v) (by omega) (by omega)).mpr hbv)]
        rw [hmode, a1, if_neg (fun e => e rfl), if_pos hst]
        by_cases hce : v_ce S.1 u b
        · have hme := g7 hce
          rw [if_pos (show m_fk f (nI b) np < np from hme)]
          have ht := rB_take (B' := fun p => if p < b + 1 then c + 1 else c) h (by omega) hce hB (by show (if b < b then c + 1 else c) + 1 ≤ (if b < b + 1 then c + 1 else c); rw [if_neg (by omega), if_pos (by omega)]; exact Nat.le_refl _) (by show (if b < b then c + 1 else c) ≤ 1000; split <;> omega)
          have etq : p_takeQ S (nI b) u = p_take (S.1, S.2.1, S.2.2.1, S.2.2.2) (p_rk S.1 (nI b) u) := by rw [p_takeQ, if_pos (show p_rk S.1 (nI b) u < u from hce)]
          rw [etq]
          refine mv_main h0 h1 hv hto hmv hc n (b + 1) _ (p_take (S.1, S.2.1, S.2.2.1, S.2.2.2) (p_rk S.1 (nI b) u)) (cn + 1) fu (by omega) (by omega) (by omega) ?_
          refine rB_setW ht.1 (fun q hq hm0' hm5 => ?_)
          have hk64 : m_fk f (nI b) np < 64 := by have h9 : m_fk f (nI b) np < np := hme; omega
          by_cases hqb : q = b
          · rw [hqb] at hm5
            rw [ht.2] at hm5
            exact absurd hm5 (by decide)
          · rw [v_m_takes_o hwk hn64 hk64 (by omega) (by omega) (by omega)] at hm0'
            have hold := ht.1.2.2.2.2.2.2.2.2 q hq
            obtain ⟨n9, a9, s9, -, -, -, ⟨z1, z2, z3, -⟩, -, z⟩ := hold
            have hs9 : s9 = 1 := (nI_eq (a := s9) (b := 1) (by omega) (by omega)).mp (z3.symm.trans hm5)
            rcases z with ⟨y1, y2, y3⟩ | ⟨y1, -⟩ | ⟨y1, -⟩
            · have y4 : (((q + 1) * sz : Nat) : Int) ≤ (if m0 / sz ≤ q ∧ q < b then (m0 : Int) - (if to = -1 then 1 else 0) else (v : Int)) := y3 hs9
              show _ ≤ (if m0 / sz ≤ q ∧ q < b + 1 then (m0 : Int) - (if to = -1 then 1 else 0) else (v : Int))
              by_cases hr : m0 / sz ≤ q ∧ q < b
              · rw [if_pos hr] at y4; rw [if_pos (by omega)]; exact y4
              · rw [if_neg hr] at y4; rw [if_neg (by omega)]; exact y4
            · rw [v_m_takes_o hwk hn64 hk64 (by omega) (by omega) (by omega), hm0'] at y1; exact absurd y1 (by decide)
            · rw [v_m_takes_o hwk hn64 hk64 (by omega) (by omega) (by omega), hm0'] at y1; exact absurd y1 (by decide)
        · have hs0 : s = 0 := by
            rcases Nat.eq_zero_or_pos s with e | e
            · exact e
            · exact absurd (g6.mpr (Or.inl (t1 (by omega)).1)) hce
          have etq : p_takeQ S (nI b) u = S := by rw [p_takeQ, if_neg (show ¬ p_rk S.1 (nI b) u < u from hce)]
          have hsame : rB f np sz S.1 u S.2.1 S.2.2.1 tl S.2.2.2 (fun p => if m0 / sz ≤ p ∧ p < b + 1 then (m0 : Int) - (if to = -1 then 1 else 0) else (v : Int)) (fun p => if p < b + 1 then c + 1 else c) noE := by
            refine rB_setW (rB_monoWB h (fun _ _ => Int.le_refl _) hB) (fun q hq hm0' hm5 => ?_)
            obtain ⟨n9, a9, s9, -, -, -, ⟨z1, z2, z3, -⟩, -, z⟩ := h.2.2.2.2.2.2.2.2 q hq
            have hs9 : s9 = 1 := (nI_eq (a := s9) (b := 1) (by omega) (by omega)).mp (z3.symm.trans hm5)
            by_cases hqb : q = b
            · rw [hqb, s3, hs0] at hm5; exact absurd hm5 (by decide)
            · rcases z with ⟨y1, y2, y3⟩ | ⟨y1, -⟩ | ⟨y1, -⟩
              · have y4 : (((q + 1) * sz : Nat) : Int) ≤ (if m0 / sz ≤ q ∧ q < b then (m0 : Int) - (if to = -1 then 1 else 0) else (v : Int)) := y3 hs9
                show _ ≤ (if m0 / sz ≤ q ∧ q < b + 1 then (m0 : Int) - (if to = -1 then 1 else 0) else (v : Int))
                by_cases hr : m0 / sz ≤ q ∧ q < b
                · rw [if_pos hr] at y4; rw [if_pos (by omega)]; exact y4
                · rw [if_neg hr] at y4; rw [if_neg (by omega)]; exact y4
              · rw [hm0'] at y1; exact absurd y1 (by decide)
              · rw [hm0'] at y1; exact absurd y1 (by decide)
          rw [etq]
          by_cases hme : m_fk f (nI b) np < np
          · rw [if_pos hme]
            have hno : ¬ f (396 + 8 * m_fk f (nI b) np + 5) = 1 := by
              rw [← v_m_in (q := b) (c := 5) hme, s3, hs0]; decide
            rw [m_takes_no hno]
            exact mv_main h0 h1 hv hto hmv hc n (b + 1) f S (cn + 1) fu (by omega) (by omega) (by omega) hsame
          · rw [if_neg hme]
            exact mv_main h0 h1 hv hto hmv hc n (b + 1) f S (cn + 1) fu (by omega) (by omega) (by omega) hsame
      all_goals
        have hst : ¬ c_state S.1 u (nI b) (nI v) sz = 1 := by
          rw [c_state, v_c_rd, a2, if_neg (by decide)]; decide
        rw [hmode, a1, if_pos (by decide), if_neg hst]
        refine mv_main h0 h1 hv hto hmv hc n (b + 1) f S cn fu (by omega) (by omega) (by omega) ?_
        refine rB_setW (rB_monoWB h (fun _ _ => Int.le_refl _) hB) (fun q hq hm0' hm5 => ?_)
        obtain ⟨n9, a9, s9, -, -, -, ⟨z1, z2, z3, -⟩, -, z⟩ := h.2.2.2.2.2.2.2.2 q hq
        have hs9 : s9 = 1 := (nI_eq (a := s9) (b := 1) (by omega) (by omega)).mp (z3.symm.trans hm5)
        by_cases hqb : q = b
        · rw [hqb, a1] at hm0'; exact absurd hm0' (by decide)
        · rcases z with ⟨y1, y2, y3⟩ | ⟨y1, -⟩ | ⟨y1, -⟩
          · have y4 : (((q + 1) * sz : Nat) : Int) ≤ (if m0 / sz ≤ q ∧ q < b then (m0 : Int) - (if to = -1 then 1 else 0) else (v : Int)) := y3 hs9
            show _ ≤ (if m0 / sz ≤ q ∧ q < b + 1 then (m0 : Int) - (if to = -1 then 1 else 0) else (v : Int))
            by_cases hr : m0 / sz ≤ q ∧ q < b
            · rw [if_pos hr] at y4; rw [if_pos (by omega)]; exact y4
            · rw [if_neg hr] at y4; rw [if_neg (by omega)]; exact y4
          · rw [hm0'] at y1; exact absurd y1 (by decide)
          · rw [hm0'] at y1; exact absurd y1 (by decide)
