/-! panes and words of both sides: telling and taking back -/
theorem m_num_cong {now now' : Nat → Int32} {sz : Nat} {q : Int32} (h : ∀ i, 12 ≤ i → i < 396 → now' i = now i) : m_num now' sz q = m_num now sz q ∧ m_sum now' sz q = m_sum now sz q ∧ m_key now' sz q = m_key now sz q := by
  refine ⟨?_, m_sum_cong h, ?_⟩
  · rw [m_num, m_num, m_acc_cong h 64 (Nat.le_refl _)]
  · rw [m_key, m_key, m_acc_cong h 64 (Nat.le_refl _)]
def rP (now pn : Nat → Int32) (np u sz : Nat) (W : Nat → Int) (B : Nat → Nat) (E : Nat → Prop) (q : Nat) : Prop :=
  ∃ n a s : Nat, (m_num now sz (nI q) = nI n ∧ n ≤ 64 ∧ v_c pn u q 1 = nI n ∧ v_c pn u q 2 = m_sum now sz (nI q) ∧ v_c pn u q 3 = m_key now sz (nI q)) ∧ (v_ce pn u q ↔ (0 < n ∨ E q)) ∧ (v_ce pn u q → v_me now np q) ∧ (s ≤ 1 ∧ a ≤ B q ∧ v_m now np q 5 = nI s ∧ v_m now np q 4 = nI a ∧ v_m now np q 3 = nI (a + s) ∧ v_c pn u q 6 = nI a ∧ v_c pn u q 5 = nI (a + s)) ∧ (s = 1 → 0 < n ∧ v_m now np q 6 = nI n ∧ v_m now np q 7 = m_sum now sz (nI q)) ∧
   ((v_m now np q 1 = 0 ∧ v_c pn u q 0 = 0 ∧ (s = 1 → (((q + 1) * sz : Nat) : Int) ≤ W q)) ∨ (v_m now np q 1 = 1 ∧ v_c pn u q 0 = 2 ∧ v_m now np q 2 = v_c pn u q 4 ∧ s = 0) ∨ (v_m now np q 1 = 2 ∧ v_c pn u q 0 = 3))
theorem rP_mono {now now' pn pn' : Nat → Int32} {np np' u u' sz : Nat} {W W' : Nat → Int} {B B' : Nat → Nat} {E E' : Nat → Prop} {q : Nat} (h : rP now pn np u sz W B E q)
    (hn : ∀ i, 12 ≤ i → i < 396 → now' i = now i) (hm : ∀ c, 0 < c → c < 8 → v_m now' np' q c = v_m now np q c) (hc : ∀ c, c < 7 → v_c pn' u' q c = v_c pn u q c) (hce : (v_ce pn' u' q ↔ (v_ce pn u q ∨ E' q)) ∧ (E q → E' q)) (hme : v_me now np q → v_me now' np' q) (hme2 : E' q → v_me now' np' q) (hW : W q ≤ W' q) (hB : B q ≤ B' q) : rP now' pn' np' u' sz W' B' E' q := by
  obtain ⟨n, a, s, ⟨g1, g2, g3, g4, g5⟩, g6, g7, ⟨s1, s2, s3, s4, s5, s6, s7⟩, t1, t2⟩ := h
  obtain ⟨e1, e2, e3⟩ := m_num_cong (now := now) (now' := now') (sz := sz) (q := nI q) hn
  refine ⟨n, a, s, ⟨by rw [e1]; exact g1, g2, by rw [hc 1 (by omega)]; exact g3, by rw [hc 2 (by omega), e2]; exact g4, by rw [hc 3 (by omega), e3]; exact g5⟩, ?_, ?_, ⟨s1, Nat.le_trans s2 hB, by rw [hm 5 (by omega) (by omega)]; exact s3, by rw [hm 4 (by omega) (by omega)]; exact s4, by rw [hm 3 (by omega) (by omega)]; exact s5, by rw [hc 6 (by omega)]; exact s6, by rw [hc 5 (by omega)]; exact s7⟩, ?_, ?_⟩
  · rw [hce.1, g6]
    constructor
    · rintro ((h | h) | h)
      · exact Or.inl h
      · exact Or.inr (hce.2 h)
      · exact Or.inr h
    · rintro (h | h)
      · exact Or.inl (Or.inl h)
      · exact Or.inr h
  · intro h
    rcases hce.1.mp h with h | h
    · exact hme (g7 h)
    · exact hme2 h
  · intro h; rw [hm 6 (by omega) (by omega), hm 7 (by omega) (by omega), e2]; exact t1 h
  · rw [hm 1 (by omega) (by omega), hm 2 (by omega) (by omega), hc 0 (by omega), hc 4 (by omega)]
    rcases t2 with ⟨a1, a2, a3⟩ | h | h
    · exact Or.inl ⟨a1, a2, fun hs => Int.le_trans (a3 hs) hW⟩
    · exact Or.inr (Or.inl h)
    · exact Or.inr (Or.inr h)
def rB (now : Nat → Int32) (np sz : Nat) (pn : Nat → Int32) (u : Nat) (wd : Nat → Int32) (w : Nat) (tl tk : Int32) (W : Nat → Int) (B : Nat → Nat) (E : Nat → Prop) : Prop :=
  dOk now np ∧ nOk now np ∧ np ≤ 64 ∧ sOk pn u ∧ u ≤ 64 ∧ rW now wd w ∧ now 3 = tl ∧ now 4 = tk ∧ ∀ q, q < 2000 → rP now pn np u sz W B E q
theorem rW_wN {now wd : Nat → Int32} {w : Nat} (h : rW now wd w) : wN now = w ∧ wOk now := by
  have e : wN now = w := by
    have h2 := h.2.1
    rw [wN, h.1, nI_clamp (by omega)]
  exact ⟨e, by rw [wOk, e]; exact ⟨h.1, h.2.1⟩⟩
theorem m_fk_upd {now : Nat → Int32} {k c : Nat} {x : Int32} (hc0 : 0 < c) (hc : c < 8) (q : Int32) (np : Nat) : m_fk (upd now (396 + 8 * k + c) x) q np = m_fk now q np := m_fk_cong (fun j hj => pk_un (by omega))
theorem v_m_updo {now : Nat → Int32} {np j : Nat} {x : Int32} (hn : np ≤ 64) (hj : j < 396 ∨ 908 ≤ j) {q c : Nat} (hc : c < 8) : v_m (upd now j x) np q c = v_m now np q c := v_m_cong (fun k c' hk hc' => pk_un (by omega)) hc
theorem v_m_upk {now : Nat → Int32} {np q c k : Nat} {x : Int32} (he : v_me now np q) (hk : k = m_fk now (nI q) np) (hq : q < 2000) (hc0 : 0 < c) (hc : c < 8) {q' c' : Nat} (hq' : q' < 2000) (hc' : c' < 8) :
    v_m (upd now (396 + 8 * k + c) x) np q' c' = if q' = q ∧ c' = c then x else v_m now np q' c' := by rw [hk]; exact v_m_upd he hq hc0 hc hq' hc'
theorem v_me_upk {now : Nat → Int32} {np k c : Nat} {x : Int32} (hc0 : 0 < c) (hc : c < 8) (q : Nat) : v_me (upd now (396 + 8 * k + c) x) np q ↔ v_me now np q := by rw [v_me, v_me, m_fk_upd hc0 hc]
theorem m_tells_eq {now : Nat → Int32} {k sz : Nat} {q : Int32} (hq : now (396 + 8 * k + 0) = q) (h : ¬ m_num now sz q ≤ 0) : m_tells now k sz = m_says (upd (upd (upd (upd (upd now (396 + 8 * k + 5) 1) (396 + 8 * k + 6) (m_num now sz q)) (396 + 8 * k + 7) (m_sum now sz q)) (396 + 8 * k + 3) (now (396 + 8 * k + 3) + 1)) 3 (now 3 + 1)) (wN now) 0 q (m_num now sz q) (m_sum now sz q) := by
  rw [m_tells, hq, if_neg h]
theorem m_takes_eq {now : Nat → Int32} {k : Nat} {q : Int32} (hq : now (396 + 8 * k + 0) = q) (h : now (396 + 8 * k + 5) = 1) : m_takes now k = m_says (upd (upd (upd now (396 + 8 * k + 5) 0) (396 + 8 * k + 4) (now (396 + 8 * k + 4) + 1)) 4 (now 4 + 1)) (wN now) 1 q (now (396 + 8 * k + 6)) (now (396 + 8 * k + 7)) := by
  rw [m_takes, hq, if_neg (fun e => e h)]
theorem v_m_says {now : Nat → Int32} {np w : Nat} {so pa ma su : Int32} (hn : np ≤ 64) (hw : w ≤ 40) {q c : Nat} (hc : c < 8) : v_m (m_says now w so pa ma su) np q c = v_m now np q c := v_m_cong (fun k c' hk hc' => m_says_o hw (by omega)) hc
theorem nOk_cong {now now' : Nat → Int32} {np : Nat} (h : ∀ j, j < np → now' (396 + 8 * j + 0) = now (396 + 8 * j + 0)) (hd : nOk now np) : nOk now' np := fun k hk => by rw [h k hk]; exact hd k hk
theorem rB_tell {now pn wd : Nat → Int32} {np sz u w q : Nat} {tl tk : Int32} {W : Nat → Int} {B : Nat → Nat} {E : Nat → Prop} (h : rB now np sz pn u wd w tl tk W B E) (hq : q < 2000) (hce : v_ce pn u q) (hE : ¬ E q) (hs0 : v_m now np q 5 = 0)
    (hW : v_m now np q 1 = 2 ∨ (v_m now np q 1 = 0 ∧ (((q + 1) * sz : Nat) : Int) ≤ W q)) :
    rB (m_tells now (m_fk now (nI q) np) sz) np sz (upd pn (p_rk pn (nI q) u * 8 + 5) (pn (p_rk pn (nI q) u * 8 + 5) + 1)) u (w_add wd w 0 (pn (p_rk pn (nI q) u * 8 + 7)) (pn (p_rk pn (nI q) u * 8 + 1)) (pn (p_rk pn (nI q) u * 8 + 2))) (w_n w) (tl + 1) tk W B E := by
  obtain ⟨hd, hnk, hn64, hs, hu, hw, h3, h4, hP⟩ := h
  have hPq := hP q hq
  obtain ⟨n, a, s, ⟨g1, g2, g3, g4, g5⟩, g6, g7, ⟨s1, s2, s3, s4, s5, s6, s7⟩, t1, t2⟩ := hPq
  have hme := g7 hce
  have hn0 : 0 < n := (g6.mp hce).resolve_right hE
  have hk64 : m_fk now (nI q) np < 64 := by have : m_fk now (nI q) np < np := hme; omega
  obtain rfl : s = 0 := (nI_eq (a := s) (b := 0) (by omega) (by omega)).mp (s3.symm.trans hs0)
  obtain ⟨ewN, hwk⟩ := rW_wN hw
  have hnum : ¬ m_num now sz (nI q) ≤ 0 := by rw [g1]; exact nI_nle hn0 (by omega)
  have hkq := m_fk_at hme
  rw [v_c_in hce] at g3 g4 g5 s6 s7
  rw [v_m_in hme] at s3 s4 s5
  rw [m_tells_eq hkq hnum, ewN, p_rk_at hce, g3, g4, ← g1]
  have hv : ∀ q' c', q' < 2000 → c' < 8 → v_m (m_says (upd (upd (upd (upd (upd now (396 + 8 * m_fk now (nI q) np + 5) 1) (396 + 8 * m_fk now (nI q) np + 6) (m_num now sz (nI q))) (396 + 8 * m_fk now (nI q) np + 7) (m_sum now sz (nI q))) (396 + 8 * m_fk now (nI q) np + 3) (now (396 + 8 * m_fk now (nI q) np + 3) + 1)) 3 (now 3 + 1)) w 0 (nI q) (m_num now sz (nI q)) (m_sum now sz (nI q))) np q' c' =
      if q' = q ∧ c' = 3 then now (396 + 8 * m_fk now (nI q) np + 3) + 1 else if q' = q ∧ c' = 7 then m_sum now sz (nI q) else if q' = q ∧ c' = 6 then m_num now sz (nI q) else if q' = q ∧ c' = 5 then 1 else v_m now np q' c' := by
    intro q' c' hq' hc'
    rw [v_m_says hn64 hw.2.1 hc', v_m_updo hn64 (by omega) hc',
      v_m_upk (by rw [v_me_upk (by omega) (by omega), v_me_upk (by omega) (by omega), v_me_upk (by omega) (by omega)]; exact hme) (by rw [m_fk_upd (by omega) (by omega), m_fk_upd (by omega) (by omega), m_fk_upd (by omega) (by omega)]) hq (by omega) (by omega) hq' hc',
      v_m_upk (by rw [v_me_upk (by omega) (by omega), v_me_upk (by omega) (by omega)]; exact hme) (by rw [m_fk_upd (by omega) (by omega), m_fk_upd (by omega) (by omega)]) hq (by omega) (by omega) hq' hc',
      v_m_upk (by rw [v_me_upk (by omega) (by omega)]; exact hme) (by rw [m_fk_upd (by omega) (by omega)]) hq (by omega) (by omega) hq' hc',
      v_m_upk hme rfl hq (by omega) (by omega) hq' hc']
  have hlow : ∀ j, j < 396 → j ≠ 3 → j ≠ 9 → m_says (upd (upd (upd (upd (upd now (396 + 8 * m_fk now (nI q) np + 5) 1) (396 + 8 * m_fk now (nI q) np + 6) (m_num now sz (nI q))) (396 + 8 * m_fk now (nI q) np + 7) (m_sum now sz (nI q))) (396 + 8 * m_fk now (nI q) np + 3) (now (396 + 8 * m_fk now (nI q) np + 3) + 1)) 3 (now 3 + 1)) w 0 (nI q) (m_num now sz (nI q)) (m_sum now sz (nI q)) j = now j := by
    intro j hj hj3 hj9
    rw [m_says_o hw.2.1 ⟨hj9, Or.inl (by omega)⟩, pk_un hj3, pk_un (by omega), pk_un (by omega), pk_un (by omega), pk_un (by omega)]
  have hnums : ∀ j, j < np → m_says (upd (upd (upd (upd (upd now (396 + 8 * m_fk now (nI q) np + 5) 1) (396 + 8 * m_fk now (nI q) np + 6) (m_num now sz (nI q))) (396 + 8 * m_fk now (nI q) np + 7) (m_sum now sz (nI q))) (396 + 8 * m_fk now (nI q) np + 3) (now (396 + 8 * m_fk now (nI q) np + 3) + 1)) 3 (now 3 + 1)) w 0 (nI q) (m_num now sz (nI q)) (m_sum now sz (nI q)) (396 + 8 * j + 0) = now (396 + 8 * j + 0) := by
    intro j hj
    rw [m_says_o hw.2.1 (by omega), pk_un (by omega), pk_un (by omega), pk_un (by omega), pk_un (by omega), pk_un (by omega)]
  have hwds : rW (upd (upd (upd (upd (upd now (396 + 8 * m_fk now (nI q) np + 5) 1) (396 + 8 * m_fk now (nI q) np + 6) (m_num now sz (nI q))) (396 + 8 * m_fk now (nI q) np + 7) (m_sum now sz (nI q))) (396 + 8 * m_fk now (nI q) np + 3) (now (396 + 8 * m_fk now (nI q) np + 3) + 1)) 3 (now 3 + 1)) wd w :=
    rW_cong (by rw [pk_un (by omega), pk_un (by omega), pk_un (by omega), pk_un (by omega), pk_un (by omega)]) (fun j h1 h2 => by rw [pk_un (by omega), pk_un (by omega), pk_un (by omega), pk_un (by omega), pk_un (by omega)]) hw
  have hn3 : m_says (upd (upd (upd (upd (upd now (396 + 8 * m_fk now (nI q) np + 5) 1) (396 + 8 * m_fk now (nI q) np + 6) (m_num now sz (nI q))) (396 + 8 * m_fk now (nI q) np + 7) (m_sum now sz (nI q))) (396 + 8 * m_fk now (nI q) np + 3) (now (396 + 8 * m_fk now (nI q) np + 3) + 1)) 3 (now 3 + 1)) w 0 (nI q) (m_num now sz (nI q)) (m_sum now sz (nI q)) 3 = tl + 1 := by
    rw [m_says_o hw.2.1 ⟨by omega, Or.inl (by omega)⟩, pk_us, h3]
  have hW9 := rW_says (so := 0) (pa := nI q) (ma := m_num now sz (nI q)) (su := m_sum now sz (nI q)) hwds
  generalize m_says (upd (upd (upd (upd (upd now (396 + 8 * m_fk now (nI q) np + 5) 1) (396 + 8 * m_fk now (nI q) np + 6) (m_num now sz (nI q))) (396 + 8 * m_fk now (nI q) np + 7) (m_sum now sz (nI q))) (396 + 8 * m_fk now (nI q) np + 3) (now (396 + 8 * m_fk now (nI q) np + 3) + 1)) 3 (now 3 + 1)) w 0 (nI q) (m_num now sz (nI q)) (m_sum now sz (nI q)) = now9 at *
  have hvc : ∀ q' c', q' < 2000 → c' < 8 → v_c (upd pn (p_rk pn (nI q) u * 8 + 5) (pn (p_rk pn (nI q) u * 8 + 5) + 1)) u q' c' = if q' = q ∧ c' = 5 then pn (p_rk pn (nI q) u * 8 + 5) + 1 else v_c pn u q' c' := fun q' c' hq' hc' => v_c_upd hce hq (by omega) hq' hc'
  refine ⟨dOk_cong hnums hd, nOk_cong hnums hnk, hn64, sOk_upd (by omega) hs, hu, hW9, hn3, by rw [hlow 4 (by omega) (by omega) (by omega)]; exact h4, fun q' hq' => ?_⟩
  by_cases hqq : q' = q
  · subst hqq
    obtain ⟨e1, e2, e3⟩ := m_num_cong (now := now) (now' := now9) (sz := sz) (q := nI q') (fun j h1 h2 => hlow j h2 (by omega) (by omega))
    refine ⟨n, a, 1, ⟨by rw [e1]; exact g1, g2, ?_, ?_, ?_⟩, ?_, ?_, ⟨Nat.le_refl _, s2, ?_, ?_, ?_, ?_, ?_⟩, ?_, ?_⟩
    · rw [hvc q' 1 hq (by omega), if_neg (by omega), v_c_in hce]; exact g3
    · rw [hvc q' 2 hq (by omega), if_neg (by omega), v_c_in hce, e2]; exact g4
    · rw [hvc q' 3 hq (by omega), if_neg (by omega), v_c_in hce, e3]; exact g5
    · rw [v_ce_upd (by omega)]; exact g6
    · intro _; exact (v_me_cong hnums q').mpr hme
    · rw [hv q' 5 hq (by omega), if_neg (by omega), if_neg (by omega), if_neg (by omega), if_pos ⟨rfl, rfl⟩]; rfl
    · rw [hv q' 4 hq (by omega), if_neg (by omega), if_neg (by omega), if_neg (by omega), if_neg (by omega), v_m_in hme]; exact s4
    · rw [hv q' 3 hq (by omega), if_pos ⟨rfl, rfl⟩, s5]; exact nI_inc (a + 0)
    · rw [hvc q' 6 hq (by omega), if_neg (by omega), v_c_in hce]; exact s6
    · rw [hvc q' 5 hq (by omega), if_pos ⟨rfl, rfl⟩, s7]; exact nI_inc (a + 0)
    · intro _
      refine ⟨hn0, ?_, ?_⟩
      · rw [hv q' 6 hq (by omega), if_neg (by omega), if_neg (by omega), if_pos ⟨rfl, rfl⟩]; exact g1
      · rw [hv q' 7 hq (by omega), if_neg (by omega), if_pos ⟨rfl, rfl⟩, e2]
    · rw [hv q' 1 hq (by omega), if_neg (by omega), if_neg (by omega), if_neg (by omega), if_neg (by omega), hvc q' 0 hq (by omega), if_neg (by omega)]
      rcases t2 with ⟨a1, a2, a3⟩ | ⟨a1, a2, a3⟩ | ⟨a1, a2⟩
      · rcases hW with h | ⟨h, h'⟩
        · rw [a1] at h; exact absurd h (by decide)
        · exact Or.inl ⟨a1, a2, fun _ => h'⟩
      · rcases hW with h | ⟨h, h'⟩
        · rw [a1] at h; exact absurd h (by decide)
        · rw [a1] at h; exact absurd h (by decide)
      · exact Or.inr (Or.inr ⟨a1, a2⟩)
  · refine rP_mono (hP q' hq') (fun j h1 h2 => hlow j h2 (by omega) (by omega)) (fun c hc0 hc => ?_) (fun c hc => ?_) ⟨?_, id⟩ (fun h => (v_me_cong hnums q').mpr h) ?_ (Int.le_refl _) (Nat.le_refl _)
    · rw [hv q' c hq' hc, if_neg (fun e => hqq e.1), if_neg (fun e => hqq e.1), if_neg (fun e => hqq e.1), if_neg (fun e => hqq e.1)]
    · rw [hvc q' c hq' (by omega), if_neg (fun e => hqq e.1)]
    · rw [v_ce_upd (by omega)]
      exact ⟨Or.inl, fun h => h.elim id (fun h => by
        obtain ⟨n', a', s', -, f6, -⟩ := hP q' hq'
        exact f6.mpr (Or.inr h))⟩
    · intro h
      obtain ⟨n', a', s', -, f6, f7, -⟩ := hP q' hq'
      exact (v_me_cong hnums q').mpr (f7 (f6.mpr (Or.inr h)))
