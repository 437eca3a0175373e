/-! an event's steps, on both sides -/
theorem m_fk_keep {now : Nat → Int32} {np q : Nat} (hn : ¬ v_me now np q) : m_fk (m_keep now (nI q) np) (nI q) (np + 1) = np := by
  have hnum : ∀ j, j < np → m_keep now (nI q) np (396 + 8 * j + 0) = now (396 + 8 * j + 0) := fun j hj => m_keep_o (by omega) (by omega)
  have hnew : m_keep now (nI q) np (396 + 8 * np + 0) = nI q := by rw [m_keep]; exact pk_us
  have h1 := m_fk_ex (now := m_keep now (nI q) np) (np := np + 1) (k := np) (Nat.lt_succ_self _) hnew
  by_cases h2 : m_fk (m_keep now (nI q) np) (nI q) (np + 1) < np
  · have a2 := m_fk_at (now := m_keep now (nI q) np) (q := nI q) (np := np + 1) (by omega)
    rw [hnum _ h2] at a2
    exact absurd (Nat.lt_of_le_of_lt (m_fk_ex h2 a2) h2) hn
  · omega
theorem rB_keep {now pn wd : Nat → Int32} {np sz u w q : Nat} {tl tk : Int32} {W : Nat → Int} {B : Nat → Nat} (h : rB now np sz pn u wd w tl tk W B noE) (hq : q < 2000) (hc : ¬ v_me now np q → np < 64) :
    rB (m_n2 now (nI q) np) (m_p2 now (nI q) np) sz pn u wd w tl tk W B noE ∧ v_me (m_n2 now (nI q) np) (m_p2 now (nI q) np) q ∧ m_fk (m_n2 now (nI q) np) (nI q) (m_p2 now (nI q) np) = m_k2 now (nI q) np := by
  by_cases hme : m_fk now (nI q) np < np
  · rw [m_n2, m_p2, m_k2, if_pos hme, if_pos hme, if_pos hme]
    exact ⟨h, hme, rfl⟩
  · rw [m_n2, m_p2, m_k2, if_neg hme, if_neg hme, if_neg hme]
    have hnp := hc hme
    obtain ⟨hd, hnk, hn64, hs, hu, hw, h3, h4, hP⟩ := h
    refine ⟨⟨dOk_keep hme hd, nOk_keep hq hnk, by omega, hs, hu, rW_cong (m_keep_o (by omega) (by omega)) (fun j h1 h2 => m_keep_o (by omega) (by omega)) hw, by rw [m_keep_o (by omega) (by omega)]; exact h3, by rw [m_keep_o (by omega) (by omega)]; exact h4, fun p hp => ?_⟩, (v_me_keep hme hq hq).mpr (Or.inr rfl), m_fk_keep hme⟩
    exact rP_mono (hP p hp) (fun i h1 h2 => m_keep_o (by omega) (by omega)) (fun c hc0 hc8 => v_m_keep hme hq hp hc0 hc8) (fun c hc7 => rfl) ⟨⟨Or.inl, fun h => h.elim id (fun h => h.elim)⟩, id⟩ (fun h => (v_me_keep hme hq hp).mpr (Or.inl h)) (fun h => h.elim) (Int.le_refl _) (Nat.le_refl _)
theorem rB_mp {now pn wd : Nat → Int32} {np sz u w q : Nat} {tl tk : Int32} {W : Nat → Int} {B : Nat → Nat} (h : rB now np sz pn u wd w tl tk W B noE) (hq : q < 2000) (hme : v_me now np q) (hc : ¬ v_ce pn u q → u < 64) :
    rB now np sz (p_mp pn (nI q) u) (p_mu pn (nI q) u) wd w tl tk W B (fun p => p = q) ∧ v_ce (p_mp pn (nI q) u) (p_mu pn (nI q) u) q := by
  obtain ⟨hd, hnk, hn64, hs, hu, hw, h3, h4, hP⟩ := h
  have hin := (v_ce_mp hs hc hq hq).mpr (Or.inr rfl)
  refine ⟨⟨hd, hnk, hn64, sOk_mp2 hs hc hq, p_mu_le hu hc, hw, h3, h4, fun p hp => ?_⟩, hin⟩
  refine rP_mono (hP p hp) (fun i _ _ => rfl) (fun c _ _ => rfl) (fun c hc7 => v_c_mp hs hc hq hp hc7) ⟨v_ce_mp hs hc hq hp, fun e => e.elim⟩ id (fun e => ?_) (Int.le_refl _) (Nat.le_refl _)
  rw [show p = q from e]; exact hme
/-- an event that counts -/
theorem p_add_v {pn : Nat → Int32} {u q : Nat} {key am : Int32} (hce : v_ce pn u q) (hq : q < 2000) {q' c : Nat} (hq' : q' < 2000) (hc : c < 8) :
    v_c (p_add pn (p_rk pn (nI q) u) key am) u q' c = if q' = q ∧ c = 3 then v_c pn u q 3 ||| ((1 : Int32) <<< (key &&& 31)) else if q' = q ∧ c = 2 then v_c pn u q 2 + am else if q' = q ∧ c = 1 then v_c pn u q 1 + 1 else v_c pn u q' c := by
  rw [p_add]
  have e1 : ∀ x, p_rk (upd pn (p_rk pn (nI q) u * 8 + 1) x) (nI q) u = p_rk pn (nI q) u := fun x => p_rk_upd (by omega) _
  have e2 : ∀ x y, p_rk (upd (upd pn (p_rk pn (nI q) u * 8 + 1) x) (p_rk pn (nI q) u * 8 + 2) y) (nI q) u = p_rk pn (nI q) u := fun x y => by rw [p_rk_upd (by omega), p_rk_upd (by omega)]
  rw [v_c_in (c := 1) hce, v_c_in (c := 2) hce, v_c_in (c := 3) hce]
  generalize hx : pn (p_rk pn (nI q) u * 8 + 1) + 1 = x1
  generalize hy : pn (p_rk pn (nI q) u * 8 + 2) + am = x2
  generalize hz : pn (p_rk pn (nI q) u * 8 + 3) ||| ((1 : Int32) <<< (key &&& 31)) = x3
  have h1 := v_c_upd (x := x1) (c := 1) hce hq (by omega) hq' hc
  have h2 := v_c_upd (pn := upd pn (p_rk pn (nI q) u * 8 + 1) x1) (x := x2) (c := 2) ((v_ce_upd (by omega) q).mpr hce) hq (by omega) hq' hc
  have h3 := v_c_upd (pn := upd (upd pn (p_rk pn (nI q) u * 8 + 1) x1) (p_rk pn (nI q) u * 8 + 2) x2) (x := x3) (c := 3) ((v_ce_upd (by omega) q).mpr ((v_ce_upd (by omega) q).mpr hce)) hq (by omega) hq' hc
  rw [e1] at h2
  rw [e2] at h3
  rw [h3, h2, h1]
theorem p_add_ce {pn : Nat → Int32} {u q r : Nat} {key am : Int32} : v_ce (p_add pn r key am) u q ↔ v_ce pn u q := by
  rw [p_add, v_ce_upd (by omega), v_ce_upd (by omega), v_ce_upd (by omega)]
theorem k_tdiv {t sz : Nat} (ht : t < 2000) (h0 : 0 < sz) (h1 : sz ≤ 100) : nI t / nI sz = nI (t / sz) := pk_div (by omega) h0 (by omega)
theorem rB_count {now pn wd : Nat → Int32} {np sz u w i t r : Nat} {tl tk key am x : Int32} {W : Nat → Int} {B : Nat → Nat} (hi : i < 64) (hnew : ¬ now (12 + 6 * i + 0) = 1) (ht : t < 2000) (h0 : 0 < sz) (h1 : sz ≤ 100) (hr : r ≤ 1)
    (h : rB now np sz pn u wd w tl tk W B (fun p => p = t / sz)) (hs0 : v_m now np (t / sz) 5 = 0) :
    rB (m_put now i (nI t) key am x (nI r)) np sz (p_add pn (p_rk pn (nI (t / sz)) u) key am) u wd w tl tk W B noE := by
  obtain ⟨hd, hnk, hn64, hs, hu, hw, h3, h4, hP⟩ := h
  have hq : t / sz < 2000 := Nat.lt_of_le_of_lt (Nat.div_le_self _ _) ht
  have hnums : ∀ k, k < np → m_put now i (nI t) key am x (nI r) (396 + 8 * k + 0) = now (396 + 8 * k + 0) := fun k hk => m_put_o (by omega)
  have hdiv := k_tdiv ht h0 h1
  have hPq := hP (t / sz) hq
  obtain ⟨n, a, s, ⟨g1, g2, g3, g4, g5⟩, g6, g7, ⟨s1, s2, s3, s4, s5, s6, s7⟩, t1, t2⟩ := hPq
  have hce : v_ce pn u (t / sz) := g6.mpr (Or.inr rfl)
  have hin : ¬ m_isIn (nI r) 0 1 = 0 := by
    rcases (show r = 0 ∨ r = 1 by omega) with e | e <;> rw [e] <;> decide
  have hvm : ∀ p c, c < 8 → v_m (m_put now i (nI t) key am x (nI r)) np p c = v_m now np p c := fun p c hc => v_m_cong (fun k c' hk hc' => m_put_o (by omega)) hc
  have hvc := fun p c (hp : p < 2000) (hc : c < 8) => p_add_v (key := key) (am := am) hce hq (q' := p) (c := c) hp hc
  refine ⟨dOk_cong hnums hd, nOk_cong hnums hnk, hn64, sOk_cong (fun j hj => by rw [p_add, pk_un (by omega), pk_un (by omega), pk_un (by omega)]) hs, hu, rW_cong (m_put_o (by omega)) (fun j h1 h2 => m_put_o (by omega)) hw, by rw [m_put_o (by omega)]; exact h3, by rw [m_put_o (by omega)]; exact h4, fun p hp => ?_⟩
  by_cases hpq : p = t / sz
  · subst hpq
    obtain rfl : s = 0 := (nI_eq (a := s) (b := 0) (by omega) (by omega)).mp (s3.symm.trans hs0)
    have hacc := m_acc_put1 (now := now) (i := i) (sz := sz) (t := nI t) (key := key) (am := am) (x := x) (res := nI r) (q := nI (t / sz)) hnew hin hdiv 64
    rw [if_pos hi] at hacc
    have en : m_num (m_put now i (nI t) key am x (nI r)) sz (nI (t / sz)) = nI (n + 1) := by
      rw [m_num, hacc]; show m_num now sz (nI (t / sz)) + 1 = _; rw [g1]; exact nI_inc n
    have es : m_sum (m_put now i (nI t) key am x (nI r)) sz (nI (t / sz)) = m_sum now sz (nI (t / sz)) + am := by rw [m_sum, hacc]; rfl
    have ek : m_key (m_put now i (nI t) key am x (nI r)) sz (nI (t / sz)) = m_key now sz (nI (t / sz)) ||| ((1 : Int32) <<< (key &&& 31)) := by rw [m_key, hacc]; rfl
    obtain ⟨n2, b1, b2⟩ := m_acc_nat (m_put now i (nI t) key am x (nI r)) sz (nI (t / sz)) 64 (Nat.le_refl _)
    have hn2 : n2 = n + 1 := (nI_eq (a := n2) (b := n + 1) (by omega) (by omega)).mp (b2.symm.trans en)
    refine ⟨n + 1, a, 0, ⟨en, by omega, ?_, ?_, ?_⟩, ?_, fun _ => (v_me_cong hnums _).mpr (g7 hce), ⟨by omega, s2, by rw [hvm _ 5 (by omega)]; exact s3, by rw [hvm _ 4 (by omega)]; exact s4, by rw [hvm _ 3 (by omega)]; exact s5, ?_, ?_⟩, fun e => absurd e (by decide), ?_⟩
    · rw [hvc _ 1 hq (by omega), if_neg (by omega), if_neg (by omega), if_pos ⟨rfl, rfl⟩, g3]; exact nI_inc n
    · rw [hvc _ 2 hq (by omega), if_neg (by omega), if_pos ⟨rfl, rfl⟩, g4, es]
    · rw [hvc _ 3 hq (by omega), if_pos ⟨rfl, rfl⟩, g5, ek]
    · rw [p_add_ce]; exact ⟨fun _ => Or.inl (by omega), fun _ => hce⟩
    · rw [hvc _ 6 hq (by omega), if_neg (by omega), if_neg (by omega), if_neg (by omega)]; exact s6
    · rw [hvc _ 5 hq (by omega), if_neg (by omega), if_neg (by omega), if_neg (by omega)]; exact s7
    · rw [hvm _ 1 (by omega), hvm _ 2 (by omega), hvc _ 0 hq (by omega), if_neg (by omega), if_neg (by omega), if_neg (by omega), hvc _ 4 hq (by omega), if_neg (by omega), if_neg (by omega), if_neg (by omega)]
      rcases t2 with ⟨a1, a2, a3⟩ | h | h
      · exact Or.inl ⟨a1, a2, fun e => absurd e (by decide)⟩
      · exact Or.inr (Or.inl h)
      · exact Or.inr (Or.inr h)
  · have hPp := hP p hp
    obtain ⟨n', a', s', ⟨f1, f2, f3, f4, f5⟩, f6, f7, f8, f9, f10⟩ := hPp
    have hne : ¬ nI t / nI sz = nI p := by rw [hdiv]; exact fun e => hpq (k_nIinj hq hp e).symm
    have hacc := m_acc_put0 (now := now) (i := i) (sz := sz) (t := nI t) (key := key) (am := am) (x := x) (res := nI r) (q := nI p) hnew (Or.inr hne) 64
    have en : m_num (m_put now i (nI t) key am x (nI r)) sz (nI p) = m_num now sz (nI p) := by rw [m_num, hacc]; rfl
    have es : m_sum (m_put now i (nI t) key am x (nI r)) sz (nI p) = m_sum now sz (nI p) := by rw [m_sum, hacc]; rfl
    have ek : m_key (m_put now i (nI t) key am x (nI r)) sz (nI p) = m_key now sz (nI p) := by rw [m_key, hacc]; rfl
    have hv : ∀ c, c < 8 → v_c (p_add pn (p_rk pn (nI (t / sz)) u) key am) u p c = v_c pn u p c := fun c hc => by
      rw [hvc p c hp hc, if_neg (fun e => hpq e.1), if_neg (fun e => hpq e.1), if_neg (fun e => hpq e.1)]
    refine ⟨n', a', s', ⟨by rw [en]; exact f1, f2, by rw [hv 1 (by omega)]; exact f3, by rw [hv 2 (by omega), es]; exact f4, by rw [hv 3 (by omega), ek]; exact f5⟩, ?_, fun h => (v_me_cong hnums _).mpr (f7 (p_add_ce.mp h)), ?_, ?_, ?_⟩
    · rw [p_add_ce, f6]
      exact ⟨fun h => h.elim Or.inl (fun h => absurd h hpq), fun h => h.elim Or.inl (fun h => h.elim)⟩
    · rw [hvm _ 5 (by omega), hvm _ 4 (by omega), hvm _ 3 (by omega), hv 6 (by omega), hv 5 (by omega)]; exact f8
    · rw [hvm _ 6 (by omega), hvm _ 7 (by omega), es]; exact f9
    · rw [hvm _ 1 (by omega), hvm _ 2 (by omega), hv 0 (by omega), hv 4 (by omega)]; exact f10
/-- an event that is turned away -/
theorem rB_put0 {now pn wd : Nat → Int32} {np sz u w i : Nat} {tl tk t key am x res : Int32} {W : Nat → Int} {B : Nat → Nat} {E : Nat → Prop} (hi : i < 64) (hnew : ¬ now (12 + 6 * i + 0) = 1) (hr : m_isIn res 0 1 = 0)
    (h : rB now np sz pn u wd w tl tk W B E) : rB (m_put now i t key am x res) np sz pn u wd w tl tk W B E := by
  obtain ⟨hd, hnk, hn64, hs, hu, hw, h3, h4, hP⟩ := h
  have hnums : ∀ k, k < np → m_put now i t key am x res (396 + 8 * k + 0) = now (396 + 8 * k + 0) := fun k hk => m_put_o (by omega)
  have hvm : ∀ p c, c < 8 → v_m (m_put now i t key am x res) np p c = v_m now np p c := fun p c hc => v_m_cong (fun k c' hk hc' => m_put_o (by omega)) hc
  refine ⟨dOk_cong hnums hd, nOk_cong hnums hnk, hn64, hs, hu, rW_cong (m_put_o (by omega)) (fun j h1 h2 => m_put_o (by omega)) hw, by rw [m_put_o (by omega)]; exact h3, by rw [m_put_o (by omega)]; exact h4, fun p hp => ?_⟩
  obtain ⟨n', a', s', ⟨f1, f2, f3, f4, f5⟩, f6, f7, f8, f9, f10⟩ := hP p hp
  have hacc := m_acc_put0 (now := now) (i := i) (sz := sz) (t := t) (key := key) (am := am) (x := x) (res := res) (q := nI p) hnew (Or.inl hr) 64
  have en : m_num (m_put now i t key am x res) sz (nI p) = m_num now sz (nI p) := by rw [m_num, hacc]; rfl
  have es : m_sum (m_put now i t key am x res) sz (nI p) = m_sum now sz (nI p) := by rw [m_sum, hacc]; rfl
  have ek : m_key (m_put now i t key am x res) sz (nI p) = m_key now sz (nI p) := by rw [m_key, hacc]; rfl
  refine ⟨n', a', s', ⟨by rw [en]; exact f1, f2, f3, by rw [es]; exact f4, by rw [ek]; exact f5⟩, f6, fun h => (v_me_cong hnums _).mpr (f7 h), ?_, ?_, ?_⟩
  · rw [hvm _ 5 (by omega), hvm _ 4 (by omega), hvm _ 3 (by omega)]; exact f8
  · rw [hvm _ 6 (by omega), hvm _ 7 (by omega), es]; exact f9
  · rw [hvm _ 1 (by omega), hvm _ 2 (by omega)]; exact f10
