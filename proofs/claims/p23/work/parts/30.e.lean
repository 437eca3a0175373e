/-! taking back, on both sides -/
theorem p_st_v {pn : Nat → Int32} {u q a s : Nat} (hce : v_ce pn u q) (hs : s ≤ 1) (ha : a ≤ 1000) (h6 : v_c pn u q 6 = nI a) (h5 : v_c pn u q 5 = nI (a + s)) : p_st pn (p_rk pn (nI q) u) = if s = 0 then 0 else 1 := by
  rw [v_c_in hce] at h6 h5
  rw [p_st, h6, h5]
  by_cases e : s = 0
  · rw [if_pos e, if_pos ((nI_leI (a := a + s) (b := a) (by omega) (by omega)).mpr (by omega))]
  · rw [if_neg e, if_neg (fun h => by have := (nI_leI (a := a + s) (b := a) (by omega) (by omega)).mp h; omega)]
theorem rB_monoWB {now pn wd : Nat → Int32} {np sz u w : Nat} {tl tk : Int32} {W W' : Nat → Int} {B B' : Nat → Nat} {E : Nat → Prop} (h : rB now np sz pn u wd w tl tk W B E) (hW : ∀ q, q < 2000 → W q ≤ W' q) (hB : ∀ q, q < 2000 → B q ≤ B' q) : rB now np sz pn u wd w tl tk W' B' E := by
  obtain ⟨hd, hnk, hn64, hs, hu, hw, h3, h4, hP⟩ := h
  refine ⟨hd, hnk, hn64, hs, hu, hw, h3, h4, fun q hq => ?_⟩
  obtain ⟨n, a, s, g, g6, g7, ⟨s1, s2, s3⟩, t1, t2⟩ := hP q hq
  refine ⟨n, a, s, g, g6, g7, ⟨s1, Nat.le_trans s2 (hB q hq), s3⟩, t1, ?_⟩
  rcases t2 with ⟨a1, a2, a3⟩ | h | h
  · exact Or.inl ⟨a1, a2, fun e => Int.le_trans (a3 e) (hW q hq)⟩
  · exact Or.inr (Or.inl h)
  · exact Or.inr (Or.inr h)
set_option maxHeartbeats 800000 in
theorem rB_take1 {now pn wd : Nat → Int32} {np sz u w q : Nat} {tl tk : Int32} {W : Nat → Int} {B B' : Nat → Nat} {E : Nat → Prop} (h : rB now np sz pn u wd w tl tk W B E) (hq : q < 2000) (hce : v_ce pn u q) (hs1 : v_m now np q 5 = 1) (hB : ∀ p, p < 2000 → B p ≤ B' p) (hBq : B q + 1 ≤ B' q) :
    rB (m_takes now (m_fk now (nI q) np)) np sz (upd pn (p_rk pn (nI q) u * 8 + 6) (pn (p_rk pn (nI q) u * 8 + 6) + 1)) u (w_add wd w 1 (pn (p_rk pn (nI q) u * 8 + 7)) (pn (p_rk pn (nI q) u * 8 + 1)) (pn (p_rk pn (nI q) u * 8 + 2))) (w_n w) tl (tk + 1) W B' E ∧ v_m (m_takes now (m_fk now (nI q) np)) np q 5 = 0 := by
  obtain ⟨hd, hnk, hn64, hs, hu, hw, h3, h4, hP⟩ := h
  have hPq := hP q hq
  obtain ⟨n, a, s, ⟨g1, g2, g3, g4, g5⟩, g6, g7, ⟨s1, s2, s3, s4, s5, s6, s7⟩, t1, t2⟩ := hPq
  have hme := g7 hce
  have hk64 : m_fk now (nI q) np < 64 := by have : m_fk now (nI q) np < np := hme; omega
  obtain rfl : s = 1 := (nI_eq (a := s) (b := 1) (by omega) (by omega)).mp (s3.symm.trans hs1)
  obtain ⟨hn0, t6, t7⟩ := t1 rfl
  obtain ⟨ewN, hwk⟩ := rW_wN hw
  have hkq := m_fk_at hme
  rw [v_c_in hce] at g3 g4 g5 s6 s7
  rw [v_m_in hme] at s3 s4 s5 t6 t7
  rw [m_takes_eq hkq (by rw [s3]; rfl), ewN, p_rk_at hce, g3, g4, t6, t7]
  have hX : ∀ (X : Nat → Int32), X = upd (upd (upd now (396 + 8 * m_fk now (nI q) np + 5) 0) (396 + 8 * m_fk now (nI q) np + 4) (now (396 + 8 * m_fk now (nI q) np + 4) + 1)) 4 (now 4 + 1) →
      (∀ q' c', q' < 2000 → c' < 8 → v_m X np q' c' = if q' = q ∧ c' = 4 then now (396 + 8 * m_fk now (nI q) np + 4) + 1 else if q' = q ∧ c' = 5 then 0 else v_m now np q' c') ∧ (∀ j, j < 396 → j ≠ 4 → X j = now j) ∧ X 4 = now 4 + 1 ∧ (∀ j, j < np → X (396 + 8 * j + 0) = now (396 + 8 * j + 0)) ∧ rW X wd w := by
    intro X eX
    subst eX
    refine ⟨fun q' c' hq' hc' => ?_, fun j hj hj4 => ?_, pk_us, fun j hj => ?_, ?_⟩
    · rw [v_m_updo hn64 (by omega) hc', v_m_upk (by rw [v_me_upk (by omega) (by omega)]; exact hme) (by rw [m_fk_upd (by omega) (by omega)]) hq (by omega) (by omega) hq' hc', v_m_upk hme rfl hq (by omega) (by omega) hq' hc']
    · rw [pk_un hj4, pk_un (by omega), pk_un (by omega)]
    · rw [pk_un (by omega), pk_un (by omega), pk_un (by omega)]
    · exact rW_cong (by rw [pk_un (by omega), pk_un (by omega), pk_un (by omega)]) (fun j h1 h2 => by rw [pk_un (by omega), pk_un (by omega), pk_un (by omega)]) hw
  obtain ⟨xv, xl, x4, xn, xw⟩ := hX _ rfl
  clear hX
  generalize upd (upd (upd now (396 + 8 * m_fk now (nI q) np + 5) 0) (396 + 8 * m_fk now (nI q) np + 4) (now (396 + 8 * m_fk now (nI q) np + 4) + 1)) 4 (now 4 + 1) = X at *
  have hv : ∀ q' c', q' < 2000 → c' < 8 → v_m (m_says X w 1 (nI q) (nI n) (m_sum now sz (nI q))) np q' c' = if q' = q ∧ c' = 4 then now (396 + 8 * m_fk now (nI q) np + 4) + 1 else if q' = q ∧ c' = 5 then 0 else v_m now np q' c' := fun q' c' hq' hc' => by rw [v_m_says hn64 hw.2.1 hc']; exact xv q' c' hq' hc'
  have hlow : ∀ j, j < 396 → j ≠ 4 → j ≠ 9 → m_says X w 1 (nI q) (nI n) (m_sum now sz (nI q)) j = now j := fun j hj hj4 hj9 => by rw [m_says_o hw.2.1 ⟨hj9, Or.inl (by omega)⟩]; exact xl j hj hj4
  have hnums : ∀ j, j < np → m_says X w 1 (nI q) (nI n) (m_sum now sz (nI q)) (396 + 8 * j + 0) = now (396 + 8 * j + 0) := fun j hj => by rw [m_says_o hw.2.1 (by omega)]; exact xn j hj
  have hn4 : m_says X w 1 (nI q) (nI n) (m_sum now sz (nI q)) 4 = tk + 1 := by rw [m_says_o hw.2.1 ⟨by omega, Or.inl (by omega)⟩, x4, h4]
  have hW9 := rW_says (so := 1) (pa := nI q) (ma := nI n) (su := m_sum now sz (nI q)) xw
  generalize m_says X w 1 (nI q) (nI n) (m_sum now sz (nI q)) = now9 at *
  have hvc : ∀ q' c', q' < 2000 → c' < 8 → v_c (upd pn (p_rk pn (nI q) u * 8 + 6) (pn (p_rk pn (nI q) u * 8 + 6) + 1)) u q' c' = if q' = q ∧ c' = 6 then pn (p_rk pn (nI q) u * 8 + 6) + 1 else v_c pn u q' c' := fun q' c' hq' hc' => v_c_upd hce hq (by omega) hq' hc'
  refine ⟨⟨dOk_cong hnums hd, nOk_cong hnums hnk, hn64, sOk_upd (by omega) hs, hu, hW9, by rw [hlow 3 (by omega) (by omega) (by omega)]; exact h3, hn4, fun q' hq' => ?_⟩, by rw [hv q 5 hq (by omega), if_neg (by omega), if_pos ⟨rfl, rfl⟩]⟩
  by_cases hqq : q' = q
  · subst hqq
    obtain ⟨e1, e2, e3⟩ := m_num_cong (now := now) (now' := now9) (sz := sz) (q := nI q') (fun j h1 h2 => hlow j h2 (by omega) (by omega))
    refine ⟨n, a + 1, 0, ⟨by rw [e1]; exact g1, g2, ?_, ?_, ?_⟩, ?_, ?_, ⟨by omega, by omega, ?_, ?_, ?_, ?_, ?_⟩, ?_, ?_⟩
    · rw [hvc q' 1 hq (by omega), if_neg (by omega), v_c_in hce]; exact g3
    · rw [hvc q' 2 hq (by omega), if_neg (by omega), v_c_in hce, e2]; exact g4
    · rw [hvc q' 3 hq (by omega), if_neg (by omega), v_c_in hce, e3]; exact g5
    · rw [v_ce_upd (by omega)]; exact g6
    · intro _; exact (v_me_cong hnums q').mpr hme
    · rw [hv q' 5 hq (by omega), if_neg (by omega), if_pos ⟨rfl, rfl⟩]; rfl
    · rw [hv q' 4 hq (by omega), if_pos ⟨rfl, rfl⟩, s4]; exact nI_inc a
    · rw [hv q' 3 hq (by omega), if_neg (by omega), if_neg (by omega), v_m_in hme]; exact s5
    · rw [hvc q' 6 hq (by omega), if_pos ⟨rfl, rfl⟩, s6]; exact nI_inc a
    · rw [hvc q' 5 hq (by omega), if_neg (by omega), v_c_in hce]; exact s7
    · intro e; exact absurd e (by decide)
    · rw [hv q' 1 hq (by omega), if_neg (by omega), if_neg (by omega), hvc q' 0 hq (by omega), if_neg (by omega)]
      rcases t2 with ⟨a1, a2, a3⟩ | ⟨a1, a2, a3, a4⟩ | ⟨a1, a2⟩
      · exact Or.inl ⟨a1, a2, fun e => absurd e (by decide)⟩
      · exact absurd a4 (by decide)
      · exact Or.inr (Or.inr ⟨a1, a2⟩)
  · refine rP_mono (hP q' hq') (fun j h1 h2 => hlow j h2 (by omega) (by omega)) (fun c hc0 hc => ?_) (fun c hc => ?_) ⟨?_, id⟩ (fun h => (v_me_cong hnums q').mpr h) ?_ (Int.le_refl _) (hB q' hq')
    · rw [hv q' c hq' hc, if_neg (fun e => hqq e.1), if_neg (fun e => hqq e.1)]
    · rw [hvc q' c hq' (by omega), if_neg (fun e => hqq e.1)]
    · rw [v_ce_upd (by omega)]
      exact ⟨Or.inl, fun h => h.elim id (fun h => by
        obtain ⟨n', a', s', -, f6, -⟩ := hP q' hq'
        exact f6.mpr (Or.inr h))⟩
    · intro h
      obtain ⟨n', a', s', -, f6, f7, -⟩ := hP q' hq'
      exact (v_me_cong hnums q').mpr (f7 (f6.mpr (Or.inr h)))
/-- taking back, whether a word stands or not -/
theorem rB_take {now pn wd : Nat → Int32} {np sz u w q : Nat} {tl tk : Int32} {W : Nat → Int} {B B' : Nat → Nat} {E : Nat → Prop} (h : rB now np sz pn u wd w tl tk W B E) (hq : q < 2000) (hce : v_ce pn u q) (hB : ∀ p, p < 2000 → B p ≤ B' p) (hBq : B q + 1 ≤ B' q) (hB9 : B q ≤ 1000) :
    rB (m_takes now (m_fk now (nI q) np)) np sz (p_take (pn, wd, w, tk) (p_rk pn (nI q) u)).1 u (p_take (pn, wd, w, tk) (p_rk pn (nI q) u)).2.1 (p_take (pn, wd, w, tk) (p_rk pn (nI q) u)).2.2.1 tl (p_take (pn, wd, w, tk) (p_rk pn (nI q) u)).2.2.2 W B' E ∧ v_m (m_takes now (m_fk now (nI q) np)) np q 5 = 0 := by
  have hPq := h.2.2.2.2.2.2.2.2 q hq
  obtain ⟨n, a, s, g, g6, g7, ⟨s1, s2, s3, s4, s5, s6, s7⟩, t1, t2⟩ := hPq
  have hst := p_st_v hce s1 (by omega) s6 s7
  have hme := g7 hce
  by_cases e : s = 0
  · subst e
    have h0 : ¬ now (396 + 8 * m_fk now (nI q) np + 5) = 1 := by rw [← v_m_in hme, s3]; decide
    have e1 : m_takes now (m_fk now (nI q) np) = now := by rw [m_takes, if_pos h0]
    have e2 : p_take (pn, wd, w, tk) (p_rk pn (nI q) u) = (pn, wd, w, tk) := by rw [p_take, if_pos (by rw [hst]; rfl)]
    rw [e1, e2]
    exact ⟨rB_monoWB h (fun _ _ => Int.le_refl _) hB, s3⟩
  · obtain rfl : s = 1 := by omega
    have e2 : p_take (pn, wd, w, tk) (p_rk pn (nI q) u) = (upd pn (p_rk pn (nI q) u * 8 + 6) (pn (p_rk pn (nI q) u * 8 + 6) + 1), w_add wd w 1 (pn (p_rk pn (nI q) u * 8 + 7)) (pn (p_rk pn (nI q) u * 8 + 1)) (pn (p_rk pn (nI q) u * 8 + 2)), w_n w, tk + 1) := by
      rw [p_take, if_neg (by rw [hst]; decide)]
    rw [e2]
    exact rB_take1 h hq hce s3 hB hBq
