/-! the panes' rows: a row made, counted in, reopened; the watermark moved back -/
theorem p_X_mp {pn : Nat → Int32} {u q z : Nat} {tl tk wt : Int32} (h : p_X pn u tl tk wt z) (hq : q < 2000) (hc : ¬ v_ce pn u q → u < 64) (hst : v_c pn u q 0 = 0 → ¬ nI ((q + 1) * z) ≤ wt) : p_X (p_mp pn (nI q) u) (p_mu pn (nI q) u) tl tk wt z := by
  obtain ⟨hs, hX, hT⟩ := h
  have hv : ∀ p c, p < 2000 → c < 7 → v_c (p_mp pn (nI q) u) (p_mu pn (nI q) u) p c = v_c pn u p c := fun p c hp hc7 => v_c_mp hs hc hq hp hc7
  have hsd : ∀ p, p < 2000 → (s_d (p_mp pn (nI q) u) (p_mu pn (nI q) u) p ↔ s_d pn u p) := fun p hp => s_d_cong (hv p 5 hp (by omega)) (hv p 6 hp (by omega))
  refine ⟨sOk_mp2 hs hc hq, fun p hp => ?_, by rw [q_sum_sd hsd]; exact hT⟩
  obtain ⟨b1, b2⟩ := hX p hp
  rw [p_X1, hsd p hp, hv p 0 hp (by omega), hv p 4 hp (by omega), hv p 5 hp (by omega), hv p 6 hp (by omega)]
  refine ⟨b1, ?_⟩
  rcases b2 with ⟨b3, b4, b5⟩ | b3
  · refine Or.inl ⟨b3, b4, fun h h2 => ?_⟩
    rcases (v_ce_mp hs hc hq hp).mp h with h | h
    · exact b5 h h2
    · rw [h] at b3 h2; exact absurd h2 (hst b3)
  · exact Or.inr b3
theorem p_X_chg {pn pn' : Nat → Int32} {u z : Nat} {tl tk wt : Int32} (h : p_X pn u tl tk wt z) (hn : ∀ j, pn' (j * 8 + 7) = pn (j * 8 + 7)) (hv : ∀ p c, p < 2000 → (c = 0 ∨ c = 4 ∨ c = 5 ∨ c = 6) → v_c pn' u p c = v_c pn u p c) : p_X pn' u tl tk wt z := by
  obtain ⟨hs, hX, hT⟩ := h
  have hsd : ∀ p, p < 2000 → (s_d pn' u p ↔ s_d pn u p) := fun p hp => s_d_cong (hv p 5 hp (by omega)) (hv p 6 hp (by omega))
  refine ⟨sOk_cong (fun j _ => hn j) hs, fun p hp => ?_, by rw [q_sum_sd hsd]; exact hT⟩
  rw [p_X1, hsd p hp, hv p 0 hp (by omega), hv p 4 hp (by omega), hv p 5 hp (by omega), hv p 6 hp (by omega), v_ce_num hn]
  exact hX p hp
theorem p_X_add {pn : Nat → Int32} {u q z : Nat} {tl tk wt key am : Int32} (h : p_X pn u tl tk wt z) (hq : q < 2000) (hc : ¬ v_ce pn u q → u < 64) (hst : v_c pn u q 0 = 0 → ¬ nI ((q + 1) * z) ≤ wt) : p_X (p_add (p_mp pn (nI q) u) (p_mr pn (nI q) u) key am) (p_mu pn (nI q) u) tl tk wt z := by
  have h1 := p_X_mp h hq hc hst
  have hce : v_ce (p_mp pn (nI q) u) (p_mu pn (nI q) u) q := (v_ce_mp h.1 hc hq hq).mpr (Or.inr rfl)
  refine p_X_chg h1 (fun j => ?_) (fun p c hp hcc => ?_)
  · rw [p_add, pk_un (by omega), pk_un (by omega), pk_un (by omega)]
  · rw [← p_mr_rk h.1 hc hq, p_add_v hce hq hp (by omega), if_neg (by omega), if_neg (by omega), if_neg (by omega)]
/-- what counting in leaves of the other panes, and of closed ones -/
theorem p_add_w {pn : Nat → Int32} {u q : Nat} {key am : Int32} (hs : sOk pn u) (hq : q < 2000) (hc : ¬ v_ce pn u q → u < 64) {p c : Nat} (hp : p < 2000) (hc7 : c < 7) (h : p ≠ q ∨ c = 0) : v_c (p_add (p_mp pn (nI q) u) (p_mr pn (nI q) u) key am) (p_mu pn (nI q) u) p c = v_c pn u p c := by
  have hce : v_ce (p_mp pn (nI q) u) (p_mu pn (nI q) u) q := (v_ce_mp hs hc hq hq).mpr (Or.inr rfl)
  rw [← p_mr_rk hs hc hq, p_add_v hce hq hp (by omega), if_neg (by omega), if_neg (by omega), if_neg (by omega)]
  exact v_c_mp hs hc hq hp hc7
set_option maxHeartbeats 1000000 in
theorem p_X_reop {pn wd : Nat → Int32} {u w q z a : Nat} {tl tk wt ca : Int32} (h : p_X pn u tl tk wt z) (hq : q < 2000) (hc : ¬ v_ce pn u q → u < 64) (h0 : v_c pn u q 0 = 0) (hca : wt < ca) (ha : a ≤ 1000) (h6 : v_c pn u q 6 = nI a) :
    p_X (c_reo (pn, wd, w, tk) u (nI q) ca).1 (p_mu pn (nI q) u) tl (c_reo (pn, wd, w, tk) u (nI q) ca).2.2.2 wt z ∧ v_ce (c_reo (pn, wd, w, tk) u (nI q) ca).1 (p_mu pn (nI q) u) q ∧ v_c (c_reo (pn, wd, w, tk) u (nI q) ca).1 (p_mu pn (nI q) u) q 0 = 2 ∧ (∀ p c, p < 2000 → c < 7 → p ≠ q → v_c (c_reo (pn, wd, w, tk) u (nI q) ca).1 (p_mu pn (nI q) u) p c = v_c pn u p c) := by
  obtain ⟨hs, hX, hT⟩ := h
  have hs1 := sOk_mp2 hs hc hq
  have hv : ∀ p c, p < 2000 → c < 7 → v_c (p_mp pn (nI q) u) (p_mu pn (nI q) u) p c = v_c pn u p c := fun p c hp hc7 => v_c_mp hs hc hq hp hc7
  have hcm : ∀ p, p < 2000 → (v_ce (p_mp pn (nI q) u) (p_mu pn (nI q) u) p ↔ (v_ce pn u p ∨ p = q)) := fun p hp => v_ce_mp hs hc hq hp
  have hrk := p_mr_rk hs hc hq
  have hce : v_ce (p_mp pn (nI q) u) (p_mu pn (nI q) u) q := (hcm q hq).mpr (Or.inr rfl)
  rw [c_reo]
  show p_X (upd (upd (p_take (p_mp pn (nI q) u, wd, w, tk) (p_mr pn (nI q) u)).1 (p_mr pn (nI q) u * 8 + 0) 2) (p_mr pn (nI q) u * 8 + 4) ca) (p_mu pn (nI q) u) tl (p_take (p_mp pn (nI q) u, wd, w, tk) (p_mr pn (nI q) u)).2.2.2 wt z ∧ v_ce (upd (upd (p_take (p_mp pn (nI q) u, wd, w, tk) (p_mr pn (nI q) u)).1 (p_mr pn (nI q) u * 8 + 0) 2) (p_mr pn (nI q) u * 8 + 4) ca) (p_mu pn (nI q) u) q ∧ v_c (upd (upd (p_take (p_mp pn (nI q) u, wd, w, tk) (p_mr pn (nI q) u)).1 (p_mr pn (nI q) u * 8 + 0) 2) (p_mr pn (nI q) u * 8 + 4) ca) (p_mu pn (nI q) u) q 0 = 2 ∧ (∀ p c, p < 2000 → c < 7 → p ≠ q → v_c (upd (upd (p_take (p_mp pn (nI q) u, wd, w, tk) (p_mr pn (nI q) u)).1 (p_mr pn (nI q) u * 8 + 0) 2) (p_mr pn (nI q) u * 8 + 4) ca) (p_mu pn (nI q) u) p c = v_c pn u p c)
  rw [← hrk]
  obtain ⟨M, hM⟩ : ∃ M : Nat → Int32, M = p_mp pn (nI q) u := ⟨_, rfl⟩
  obtain ⟨U, hU⟩ : ∃ U : Nat, U = p_mu pn (nI q) u := ⟨_, rfl⟩
  rw [← hM, ← hU] at hv hcm hce hs1 ⊢
  obtain ⟨S, hS⟩ : ∃ S : PW, S = (M, wd, w, tk) := ⟨_, rfl⟩
  rw [← hS]
  have hS1 : S.1 = M := by rw [hS]
  have hce1 : v_ce S.1 U q := by rw [hS1]; exact hce
  obtain ⟨t1, t2, t3⟩ := p_take_v hq hce1
  rw [hS1] at t1 t2 t3
  obtain ⟨R, hR⟩ : ∃ R : PW, R = p_take S (p_rk M (nI q) U) := ⟨_, rfl⟩
  rw [← hR] at t1 t2 t3 ⊢
  have hstk : S.2.2.2 = tk := by rw [hS]
  have rk1 : p_rk M (nI q) U = p_rk R.1 (nI q) U := (p_rk_cong (fun j _ => t3 j)).symm
  have hceR : v_ce R.1 U q := (v_ce_num t3 q).mpr hce
  have rk2 : ∀ x, p_rk (upd R.1 (p_rk R.1 (nI q) U * 8 + 0) x) (nI q) U = p_rk R.1 (nI q) U := fun x => p_rk_upd (by omega) _
  have hceR2 : ∀ x, v_ce (upd R.1 (p_rk R.1 (nI q) U * 8 + 0) x) U q := fun x => (v_ce_upd (by omega) q).mpr hceR
  rw [rk1]
  have hF : ∀ p c, p < 2000 → c < 7 → v_c (upd (upd R.1 (p_rk R.1 (nI q) U * 8 + 0) 2) (p_rk R.1 (nI q) U * 8 + 4) ca) U p c = if p = q ∧ c = 4 then ca else if p = q ∧ c = 0 then 2 else v_c R.1 U p c := fun p c hp hc7 => by
    have e := v_c_upd (x := ca) (hceR2 2) hq (c := 4) (by omega) hp (c' := c) (by omega)
    rw [rk2 2] at e
    rw [e, v_c_upd hceR hq (by omega) hp (by omega)]
  have hF7 : ∀ j, upd (upd R.1 (p_rk R.1 (nI q) U * 8 + 0) 2) (p_rk R.1 (nI q) U * 8 + 4) ca (j * 8 + 7) = M (j * 8 + 7) := fun j => by rw [pk_un (by omega), pk_un (by omega)]; exact t3 j
  obtain ⟨F, hF9⟩ : ∃ F : Nat → Int32, F = upd (upd R.1 (p_rk R.1 (nI q) U * 8 + 0) 2) (p_rk R.1 (nI q) U * 8 + 4) ca := ⟨_, rfl⟩
  rw [← hF9] at hF hF7 ⊢
  have hceF : ∀ p, v_ce F U p ↔ v_ce M U p := fun p => v_ce_num hF7 p
  have hRo : ∀ p c, p < 2000 → c < 7 → p ≠ q → v_c R.1 U p c = v_c pn u p c := fun p c hp hc7 hpq => by
    by_cases c5 : v_c M U q 5 ≤ v_c M U q 6
    · rw [t2 c5, hS1]; exact hv p c hp hc7
    · rw [(t1 c5).1 p c hp hc7, if_neg (fun h => hpq h.1)]; exact hv p c hp hc7
  have hFo : ∀ p c, p < 2000 → c < 7 → p ≠ q → v_c F U p c = v_c pn u p c := fun p c hp hc7 hpq => by
    rw [hF p c hp hc7, if_neg (fun h => hpq h.1), if_neg (fun h => hpq h.1)]; exact hRo p c hp hc7 hpq
  have hsdo : ∀ p, p < 2000 → p ≠ q → (s_d F U p ↔ s_d pn u p) := fun p hp hpq => s_d_cong (hFo p 5 hp (by omega) hpq) (hFo p 6 hp (by omega) hpq)
  have h6M : v_c M U q 6 = nI a := by rw [hv q 6 hq (by omega)]; exact h6
  have hq1 := (hX q hq).1
  have hqR : v_c R.1 U q 5 = v_c R.1 U q 6 ∧ ((s_d pn u q ∧ R.2.2.2 = tk + 1) ∨ (¬ s_d pn u q ∧ R.2.2.2 = tk)) := by
    by_cases c5 : v_c M U q 5 ≤ v_c M U q 6
    · have hne : v_c pn u q 5 = v_c pn u q 6 := by
        rcases hq1 with e | e
        · exact e
        · have e : v_c pn u q 5 = v_c pn u q 6 + 1 := e
          rw [hv q 5 hq (by omega), hv q 6 hq (by omega), e, h6, nI_1] at c5
          have := (nI_leI (a := a + 1) (b := a) (by omega) (by omega)).mp c5
          omega
      rw [t2 c5, hS1, hstk, hv q 5 hq (by omega), hv q 6 hq (by omega)]
      exact ⟨hne, Or.inr ⟨s_d_no hne, rfl⟩⟩
    · have hsd : s_d pn u q := by
        rcases hq1 with e | e
        · refine absurd ?_ c5
          rw [hv q 5 hq (by omega), hv q 6 hq (by omega), e, Int32.le_iff_toInt_le]; exact Int.le_refl _
        · exact e
      rw [(t1 c5).1 q 5 hq (by omega), (t1 c5).1 q 6 hq (by omega), if_neg (by omega), if_pos ⟨rfl, rfl⟩, hv q 5 hq (by omega), hv q 6 hq (by omega), (t1 c5).2, hstk]
      exact ⟨hsd, Or.inl ⟨hsd, rfl⟩⟩
  have hF5 : v_c F U q 5 = v_c F U q 6 := by
    rw [hF q 5 hq (by omega), hF q 6 hq (by omega), if_neg (by omega), if_neg (by omega), if_neg (by omega), if_neg (by omega)]; exact hqR.1
  have hF0 : v_c F U q 0 = 2 := by rw [hF q 0 hq (by omega), if_neg (by omega), if_pos ⟨rfl, rfl⟩]
  have hF4 : v_c F U q 4 = ca := by rw [hF q 4 hq (by omega), if_pos ⟨rfl, rfl⟩]
  refine ⟨⟨sOk_cong (fun j _ => hF7 j) hs1, fun p hp => ?_, ?_⟩, (hceF q).mpr hce, hF0, hFo⟩
  · by_cases hpq : p = q
    · rw [hpq]
      exact ⟨Or.inl hF5, Or.inr (Or.inl ⟨hF0, hF5, by rw [hF4]; exact hca⟩)⟩
    · obtain ⟨b1, b2⟩ := hX p hp
      rw [p_X1, hsdo p hp hpq, hFo p 0 hp (by omega) hpq, hFo p 4 hp (by omega) hpq, hFo p 5 hp (by omega) hpq, hFo p 6 hp (by omega) hpq]
      refine ⟨b1, ?_⟩
      rcases b2 with ⟨b3, b4, b5⟩ | b3
      · refine Or.inl ⟨b3, b4, fun h h2 => ?_⟩
        rcases (hcm p hp).mp ((hceF p).mp h) with h | h
        · exact b5 h h2
        · exact absurd h hpq
      · exact Or.inr b3
  · have e : q_sum (fun p => q_b (s_d pn u p)) 2000 = q_sum (fun p => q_b (s_d F U p)) 2000 + q_b (s_d pn u q) := by
      refine q_sum_add2 (a := q) hq (fun p hp hpq => (q_b_cong (hsdo p hp hpq)).symm) ?_
      show q_b (s_d pn u q) = q_b (s_d F U q) + q_b (s_d pn u q)
      rw [q_b0 (s_d_no hF5), Nat.zero_add]
    rw [hT, e]
    rcases hqR.2 with ⟨g1, g2⟩ | ⟨g1, g2⟩
    · rw [g2, q_b1 g1, ← nI_1, Int32.add_assoc tk 1, Int32.add_comm 1]
    · rw [g2, q_b0 g1, Nat.add_zero]
set_option maxHeartbeats 1000000 in
theorem p_X_move {pn wd : Nat → Int32} {u w z v m0 : Nat} {tl tk to : Int32} (h0 : 0 < z) (h1 : z ≤ 100) (hv : v < 2000) (hm : m0 ≤ v) (hto : to = nI m0 ∨ (to = -1 ∧ m0 = 0)) (hlt : to < nI v) (hA : ∀ q, q < 2000 → ∃ a, a ≤ 1000 ∧ v_c pn u q 6 = nI a) (h : p_X pn u tl tk (nI v) z) :
    p_X (c_mbL v z u (v / z - m0 / z) (m0 / z) 0 (pn, wd, w, tk)).2.1 u tl (c_mbL v z u (v / z - m0 / z) (m0 / z) 0 (pn, wd, w, tk)).2.2.2.2 to z ∧ (∀ p c, p < 2000 → c < 6 → v_c (c_mbL v z u (v / z - m0 / z) (m0 / z) 0 (pn, wd, w, tk)).2.1 u p c = v_c pn u p c) := by
  obtain ⟨hs, hX, hT⟩ := h
  have dv : m0 / z ≤ v / z := Nat.div_le_div_right hm
  have dv2 : v / z ≤ v := Nat.div_le_self _ _
  have hall := t_Q (v := v) (z := z) (u := u) (v / z - m0 / z) (m0 / z) 0 (pn, wd, w, tk) (by omega)
  obtain ⟨R, hR⟩ : ∃ R : Nat × PW, R = c_mbL v z u (v / z - m0 / z) (m0 / z) 0 (pn, wd, w, tk) := ⟨_, rfl⟩
  obtain ⟨T, hT9⟩ : ∃ T : Nat → Prop, T = fun p => m0 / z ≤ p ∧ p < m0 / z + (v / z - m0 / z) ∧ t_k v z pn u p := ⟨_, rfl⟩
  have a1 : ∀ j, R.2.1 (j * 8 + 7) = pn (j * 8 + 7) := fun j => by rw [hR]; exact hall.1 j
  have a2 : ∀ p c, p < 2000 → c < 7 → (T p → v_c R.2.1 u p c = if c = 6 then v_c pn u p 6 + 1 else v_c pn u p c) ∧ (¬ T p → v_c R.2.1 u p c = v_c pn u p c) := fun p c hp hc => by rw [hR, hT9]; exact hall.2.1 p c hp hc
  have a3 : R.2.2.2.2 = tk + nI (q_sum (fun p => q_b (T p)) 2000) := by
    rw [hT9]
    have e := q_sum_range (P := t_k v z pn u) (N := 2000) (b := m0 / z) (v / z - m0 / z) (by omega)
    rw [e, hR]; exact hall.2.2
  rw [← hR]
  have hce : ∀ q, v_ce R.2.1 u q ↔ v_ce pn u q := fun q => v_ce_num a1 q
  have hT1 : ∀ q, q < 2000 → (T q ↔ (m0 < (q + 1) * z ∧ v_c pn u q 0 = 0 ∧ s_d pn u q)) := fun q hq => by
    obtain ⟨b1, b2⟩ := hX q hq
    obtain ⟨a, ha, h6⟩ := hA q hq
    have ev := k_endw (wt := nI v) (m0 := v) h1 hq h0 hv (Or.inl rfl)
    have r1 : m0 / z ≤ q ↔ m0 < (q + 1) * z := by rw [← Nat.div_lt_iff_lt_mul h0]; omega
    have r2 : q < v / z ↔ (q + 1) * z ≤ v := by rw [← Nat.le_div_iff_mul_le h0]; omega
    have r3 : m0 / z + (v / z - m0 / z) = v / z := by omega
    rw [hT9]
    show (m0 / z ≤ q ∧ q < m0 / z + (v / z - m0 / z) ∧ t_k v z pn u q) ↔ _
    rw [r3, t_k, c_state_v, r1, r2]
    constructor
    · rintro ⟨g1, g2, g3, g4, g5⟩
      have c0 : v_c pn u q 0 = 0 := by
        rcases b2 with ⟨b3, -⟩ | ⟨b3, -⟩ | ⟨b3, -⟩
        · exact b3
        · rw [b3, if_neg (by decide)] at g4; exact absurd g4 (by decide)
        · rw [b3, if_neg (by decide)] at g4; exact absurd g4 (by decide)
      refine ⟨g1, c0, ?_⟩
      rcases b1 with b1 | b1
      · refine absurd ?_ g5
        rw [b1, Int32.le_iff_toInt_le]; exact Int.le_refl _
      · exact b1
    · rintro ⟨g1, g2, g3⟩
      have hend : nI ((q + 1) * z) ≤ nI v := by
        rcases b2 with ⟨-, b4, -⟩ | ⟨b3, -⟩ | ⟨b3, -⟩
        · exact b4 g3
        · rw [g2] at b3; exact absurd b3 (by decide)
        · rw [g2] at b3; exact absurd b3 (by decide)
      refine ⟨g1, ev.mp hend, s_d_ce g3, by rw [if_pos g2, if_pos hend], fun h9 => ?_⟩
      have e : v_c pn u q 5 = v_c pn u q 6 + 1 := g3
      rw [e, h6, nI_1] at h9
      have := (nI_leI (a := a + 1) (b := a) (by omega) (by omega)).mp h9
      omega
  have hk : ∀ q, q < 2000 → (T q → ¬ s_d R.2.1 u q ∧ s_d pn u q) ∧ (¬ T q → (s_d R.2.1 u q ↔ s_d pn u q)) ∧ p_X1 R.2.1 u to z q := fun q hq => by
    obtain ⟨b1, b2⟩ := hX q hq
    have em := k_endw (wt := to) (m0 := m0) h1 hq h0 (by omega) hto
    by_cases hTq : T q
    · obtain ⟨g1, g2, g3⟩ := (hT1 q hq).mp hTq
      have v5 := (a2 q 5 hq (by omega)).1 hTq
      have v6 := (a2 q 6 hq (by omega)).1 hTq
      have v0 := (a2 q 0 hq (by omega)).1 hTq
      rw [if_neg (by omega)] at v5
      rw [if_pos rfl] at v6
      rw [if_neg (by omega)] at v0
      have e : v_c R.2.1 u q 5 = v_c R.2.1 u q 6 := by rw [v5, v6]; exact g3
      refine ⟨fun _ => ⟨s_d_no e, g3⟩, fun h => absurd hTq h, Or.inl e, Or.inl ⟨v0.trans g2, fun h => absurd h (s_d_no e), fun _ h => ?_⟩⟩
      have := em.mp h; omega
    · have v5 := (a2 q 5 hq (by omega)).2 hTq
      have v6 := (a2 q 6 hq (by omega)).2 hTq
      have v0 := (a2 q 0 hq (by omega)).2 hTq
      have v4 := (a2 q 4 hq (by omega)).2 hTq
      have hsd := s_d_cong v5 v6
      refine ⟨fun h => absurd h hTq, fun _ => hsd, ?_⟩
      rw [p_X1, hsd, v5, v6, v0, v4, hce]
      refine ⟨b1, ?_⟩
      rcases b2 with ⟨b3, b4, b5⟩ | ⟨b3, b4, b5⟩ | b3
      · refine Or.inl ⟨b3, fun h => em.mpr ?_, fun h h2 => b5 h (i_le_trans h2 (i_lt_le hlt))⟩
        exact Classical.byContradiction (fun c9 => hTq ((hT1 q hq).mpr ⟨by omega, b3, h⟩))
      · exact Or.inr (Or.inl ⟨b3, b4, i_lt_trans hlt b5⟩)
      · exact Or.inr (Or.inr b3)
  refine ⟨⟨sOk_cong (fun j _ => a1 j) hs, fun q hq => (hk q hq).2.2, ?_⟩, fun p c hp hc => ?_⟩
  · have e : q_sum (fun q => q_b (s_d pn u q)) 2000 = q_sum (fun q => q_b (T q) + q_b (s_d R.2.1 u q)) 2000 := q_sum_cong (fun q hq => by
      obtain ⟨k1, k2, -⟩ := hk q hq
      by_cases hTq : T q
      · rw [q_b1 hTq, q_b1 (k1 hTq).2, q_b0 (k1 hTq).1]
      · rw [q_b0 hTq, q_b_cong (k2 hTq), Nat.zero_add])
    rw [a3, hT, i_add_nI, e, q_sum_add]
  · by_cases hTq : T p
    · rw [(a2 p c hp (by omega)).1 hTq, if_neg (by omega)]
    · exact (a2 p c hp (by omega)).2 hTq
