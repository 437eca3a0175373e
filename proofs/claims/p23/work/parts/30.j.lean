/-! the judgement, on both sides -/
theorem st_rel {now pn wd : Nat → Int32} {np sz u w q : Nat} {tl tk wt : Int32} {W : Nat → Int} {B : Nat → Nat} {E : Nat → Prop} (h : rB now np sz pn u wd w tl tk W B E) (hwt : now 0 = wt) (hq : q < 2000) :
    (m_mode now (nI q) np = 0 ∧ (wt < nI ((q + 1) * sz) → c_state pn u (nI q) wt sz = 0 ∧ m_shut now q np sz = 0) ∧ (¬ wt < nI ((q + 1) * sz) → c_state pn u (nI q) wt sz = 1 ∧ m_shut now q np sz = 1)) ∨ (m_mode now (nI q) np = 1 ∧ c_state pn u (nI q) wt sz = 2 ∧ m_shut now q np sz = 0) ∨ (m_mode now (nI q) np = 2 ∧ c_state pn u (nI q) wt sz = 3 ∧ m_shut now q np sz = 0) := by
  obtain ⟨n, a, s, g, g6, g7, s1, t1, t2⟩ := h.2.2.2.2.2.2.2.2 q hq
  have hm : m_mode now (nI q) np = v_m now np q 1 := rfl
  rw [c_state, m_shut, v_c_rd, hm, k_mulend, hwt]
  rcases t2 with ⟨a1, a2, a3⟩ | ⟨a1, a2, a3, a4⟩ | ⟨a1, a2⟩
  · refine Or.inl ⟨a1, fun e => ?_, fun e => ?_⟩
    · rw [a1, a2, if_pos rfl, if_neg (fun e9 => i_lt_irrefl (show wt < wt from ?_)), if_neg (fun e9 => e9 rfl), if_pos e]
      · exact ⟨rfl, rfl⟩
      · rw [Int32.lt_iff_toInt_lt] at e ⊢
        rw [Int32.le_iff_toInt_le] at e9
        omega
    · rw [a1, a2, if_pos rfl, if_pos (by rw [Int32.le_iff_toInt_le]; rw [Int32.lt_iff_toInt_lt] at e; omega), if_neg (fun e9 => e9 rfl), if_neg e]
      exact ⟨rfl, rfl⟩
  · exact Or.inr (Or.inl ⟨a1, by rw [a2, if_neg (by decide)], by rw [a1, if_pos (by decide)]⟩)
  · exact Or.inr (Or.inr ⟨a1, by rw [a2, if_neg (by decide)], by rw [a1, if_pos (by decide)]⟩)
theorem e_out_iff {ev : Nat → Int32} {k : Nat} {lo hi : Int32} : ¬ e_out ev k lo hi = 0 ↔ (ev (k * 7 + 6) = 1 ∧ ¬ ev (k * 7 + 4) < lo ∧ ¬ hi < ev (k * 7 + 4)) := by
  rw [e_out]
  by_cases h1 : ev (k * 7 + 6) = 1
  · rw [if_neg (fun e => e h1)]
    by_cases h2 : ev (k * 7 + 4) < lo
    · rw [if_pos h2]; exact ⟨fun e => absurd rfl e, fun e => absurd h2 e.2.1⟩
    · rw [if_neg h2]
      by_cases h3 : hi < ev (k * 7 + 4)
      · rw [if_pos h3]; exact ⟨fun e => absurd rfl e, fun e => absurd h3 e.2.2⟩
      · rw [if_neg h3]; exact ⟨fun _ => ⟨h1, h2, h3⟩, fun _ => by decide⟩
  · rw [if_pos h1]; exact ⟨fun e => absurd rfl e, fun e => absurd e.1 h1⟩
theorem i_eq1 {a : Int32} : (¬ a < 1 ∧ ¬ 1 < a) ↔ a = 1 := by
  rw [Int32.lt_iff_toInt_lt, Int32.lt_iff_toInt_lt, ← Int32.toInt_inj, show (1 : Int32).toInt = 1 by decide]; omega
/-- the reference's events as the class has them -/
theorem rE_ill {now ev : Nat → Int32} {sz k : Nat} {key : Int32} (h : rE now ev sz k) : (ev (k * 7 + 1) = key ∧ ev (k * 7 + 3) = 2 ∧ ¬ e_out ev k 1 1 = 0) ↔ (now (12 + 6 * k + 0) = 1 ∧ now (12 + 6 * k + 2) = key ∧ now (12 + 6 * k + 4) = 2 ∧ now (12 + 6 * k + 5) = 1) := by
  rw [e_out_iff]
  rcases h with ⟨h1, h2⟩ | ⟨h1, h2, -, h3, h4, h5, h6, -⟩
  · rw [h1, h2]
    exact ⟨fun e => absurd e.2.2.1 (by decide), fun e => absurd e.1 (by decide)⟩
  · rw [h1, h2, h3, h5, h6]
    constructor
    · rintro ⟨a, b, -, c⟩; exact ⟨rfl, a, b, i_eq1.mp c⟩
    · rintro ⟨-, a, b, c⟩; exact ⟨a, b, rfl, i_eq1.mpr c⟩
theorem m_ill_iff (now : Nat → Int32) (key : Int32) : ∀ k, (m_ill now key k = 0 ∨ m_ill now key k = 1) ∧ (¬ m_ill now key k = 0 ↔ ∃ j, j < k ∧ now (12 + 6 * j + 0) = 1 ∧ now (12 + 6 * j + 2) = key ∧ now (12 + 6 * j + 4) = 2 ∧ now (12 + 6 * j + 5) = 1)
  | 0 => ⟨Or.inl rfl, ⟨fun e => absurd rfl e, fun ⟨j, hj, _⟩ => absurd hj (by omega)⟩⟩
  | k + 1 => by
    obtain ⟨-, ih⟩ := m_ill_iff now key k
    rw [m_ill]
    by_cases h : m_ill now key k = 0
    · rw [if_neg (fun e => e h)]
      have hno : ∀ j, j < k → ¬ (now (12 + 6 * j + 0) = 1 ∧ now (12 + 6 * j + 2) = key ∧ now (12 + 6 * j + 4) = 2 ∧ now (12 + 6 * j + 5) = 1) := fun j hj e => (ih.mpr ⟨j, hj, e⟩) h
      by_cases c : now (12 + 6 * k + 0) = 1 ∧ now (12 + 6 * k + 2) = key ∧ now (12 + 6 * k + 4) = 2 ∧ now (12 + 6 * k + 5) = 1
      · rw [if_neg (fun e => e c.1), if_neg (fun e => e c.2.1), if_neg (fun e => e c.2.2.1), if_neg (fun e => e c.2.2.2)]
        exact ⟨Or.inr rfl, ⟨fun _ => ⟨k, by omega, c⟩, fun _ => by decide⟩⟩
      · have hz : (if ¬ now (12 + 6 * k + 0) = 1 then (0 : Int32) else if ¬ now (12 + 6 * k + 2) = key then 0 else if ¬ now (12 + 6 * k + 4) = 2 then 0 else if ¬ now (12 + 6 * k + 5) = 1 then 0 else 1) = 0 := by
          by_cases c0 : now (12 + 6 * k + 0) = 1
          · by_cases c1 : now (12 + 6 * k + 2) = key
            · by_cases c2 : now (12 + 6 * k + 4) = 2
              · by_cases c3 : now (12 + 6 * k + 5) = 1
                · exact absurd ⟨c0, c1, c2, c3⟩ c
                · rw [if_neg (fun e => e c0), if_neg (fun e => e c1), if_neg (fun e => e c2), if_pos c3]
              · rw [if_neg (fun e => e c0), if_neg (fun e => e c1), if_pos c2]
            · rw [if_neg (fun e => e c0), if_pos c1]
          · rw [if_pos c0]
        rw [hz]
        refine ⟨Or.inl rfl, ⟨fun e => absurd rfl e, fun ⟨j, hj, hc⟩ => ?_⟩⟩
        by_cases hjk : j = k
        · rw [hjk] at hc; exact absurd hc c
        · exact absurd hc (hno j (by omega))
    · rw [if_pos h]
      obtain ⟨j, hj, hc⟩ := ih.mp h
      exact ⟨Or.inr rfl, ⟨fun _ => ⟨j, by omega, hc⟩, fun _ => by decide⟩⟩
theorem e_ilL_iff (ev : Nat → Int32) (key : Int32) : ∀ n k, (e_ilL ev key n k = 0 ∨ e_ilL ev key n k = 1) ∧ (¬ e_ilL ev key n k = 0 ↔ ∃ j, k ≤ j ∧ j < k + n ∧ ev (j * 7 + 1) = key ∧ ev (j * 7 + 3) = 2 ∧ ¬ e_out ev j 1 1 = 0)
  | 0, k => ⟨Or.inl rfl, ⟨fun e => absurd rfl e, fun ⟨j, h1, h2, _⟩ => absurd h1 (by omega)⟩⟩
  | n + 1, k => by
    obtain ⟨i1, i2⟩ := e_ilL_iff ev key n (k + 1)
    rw [e_ilL]
    have step : ∀ (c : ¬ (ev (k * 7 + 1) = key ∧ ev (k * 7 + 3) = 2 ∧ ¬ e_out ev k 1 1 = 0)), (e_ilL ev key n (k + 1) = 0 ∨ e_ilL ev key n (k + 1) = 1) ∧ (¬ e_ilL ev key n (k + 1) = 0 ↔ ∃ j, k ≤ j ∧ j < k + (n + 1) ∧ ev (j * 7 + 1) = key ∧ ev (j * 7 + 3) = 2 ∧ ¬ e_out ev j 1 1 = 0) := by
      intro c
      refine ⟨i1, i2.trans ⟨fun ⟨j, a1, a2, a3⟩ => ⟨j, by omega, by omega, a3⟩, fun ⟨j, a1, a2, a3⟩ => ?_⟩⟩
      by_cases hjk : j = k
      · rw [hjk] at a3; exact absurd a3 c
      · exact ⟨j, by omega, by omega, a3⟩
    by_cases c0 : ev (k * 7 + 1) = key
    · rw [if_neg (fun e => e c0)]
      by_cases c1 : ev (k * 7 + 3) = 2
      · rw [if_neg (fun e => e c1)]
        by_cases c2 : e_out ev k 1 1 = 0
        · rw [if_pos c2]; exact step (fun e => e.2.2 c2)
        · rw [if_neg c2]
          exact ⟨Or.inr rfl, ⟨fun _ => ⟨k, Nat.le_refl _, by omega, c0, c1, c2⟩, fun _ => by decide⟩⟩
      · rw [if_pos c1]; exact step (fun e => c1 e.2.1)
    · rw [if_pos c0]; exact step (fun e => c0 e.1)
theorem ill_rel {now ev : Nat → Int32} {sz : Nat} {key : Int32} (h : ∀ k, k < 64 → rE now ev sz k) : (m_ill now key 64 = 0) ↔ (e_ilL ev key 64 0 = 0) := by
  have h1 := (m_ill_iff now key 64).2
  have h2 := (e_ilL_iff ev key 64 0).2
  have h3 : (¬ m_ill now key 64 = 0) ↔ (¬ e_ilL ev key 64 0 = 0) := by
    rw [h1, h2]
    constructor
    · rintro ⟨j, hj, hc⟩; exact ⟨j, by omega, by omega, (rE_ill (h j hj)).mpr hc⟩
    · rintro ⟨j, _, hj, hc⟩; exact ⟨j, by omega, (rE_ill (h j (by omega))).mp hc⟩
  exact ⟨fun e => Classical.byContradiction fun e2 => (h3.mpr e2) e, fun e => Classical.byContradiction fun e2 => (h3.mp e2) e⟩
theorem exc_rel {now ev : Nat → Int32} {sz t : Nat} {key x wt : Int32} (h : ∀ k, k < 64 → rE now ev sz k) (hwt : now 0 = wt) : m_exc now t key x sz = c_acc ev wt sz t key x := by
  rw [m_exc, c_acc, hwt, k_mulend]
  by_cases c1 : x = 1
  · rw [if_pos c1, if_pos c1]
  · rw [if_neg c1, if_neg c1]
    by_cases c2 : x = 2
    · rw [if_pos c2, if_pos c2]
      have e1 : (if ¬ m_ill now key 64 = 0 then (0 : Int32) else 1) = (if ¬ e_ilL ev key 64 0 = 0 then (0 : Int32) else 1) := by
        by_cases c3 : m_ill now key 64 = 0
        · have c4 : ¬ ¬ m_ill now key 64 = 0 := fun e => e c3
          have c5 : ¬ ¬ e_ilL ev key 64 0 = 0 := fun e => e ((ill_rel h).mp c3)
          rw [if_neg c4, if_neg c5]
        · have c5 : ¬ e_ilL ev key 64 0 = 0 := fun e => c3 ((ill_rel h).mpr e)
          rw [if_pos c3, if_pos c5]
      rw [e1]
    · rw [if_neg c2, if_neg c2]
theorem judge_rel {now pn wd ev cb : Nat → Int32} {np sz u w t x : Nat} {tl tk wt key : Int32} {W : Nat → Int} {B : Nat → Nat} {E : Nat → Prop} (h : rB now np sz pn u wd w tl tk W B E) (hwt : now 0 = wt) (hev : ∀ k, k < 64 → rE now ev sz k) (hcb : ∀ c, c < 3 → rC now cb c) (ht : t < 2000) (hx : x ≤ 3) :
    m_judge now t key x np sz = c_ver ev pn u cb wt sz t key (nI x) := by
  have hq : t / sz < 2000 := Nat.lt_of_le_of_lt (Nat.div_le_self _ _) ht
  rw [m_judge, c_ver, exc_rel hev hwt]
  have hlast : (if c_acc ev wt sz t key (nI x) = 0 then (2 : Int32) else if m_pI (m_pfN now x) < 0 then 2 else 1) = (if c_acc ev wt sz t key (nI x) = 0 then 2 else if (if g_full cb (g_for cb (nI x)) = 0 then 1 else 0 : Int32) = 0 then 2 else 1) := by
    by_cases c : c_acc ev wt sz t key (nI x) = 0
    · rw [if_pos c, if_pos c]
    · rw [if_neg c, if_neg c]
      have hx1 : 1 ≤ x := Nat.pos_of_ne_zero (fun e => c (by rw [e]; exact c_acc_d (Or.inl (by decide))))
      rw [rC_for hcb hx1 hx]
      rcases rC_full (hcb _ (g_for_lt cb (nI x))) with ⟨a, b⟩ | ⟨n, a, -, b, d⟩
      · rw [a, b, if_pos (by decide), if_pos (by decide)]
      · have hg := g_for_lt cb (nI x)
        rw [d, b, m_pI, if_neg (show ¬ 1068 + 4 * g_for cb (nI x) + n = 0 by omega), if_neg (show ¬ nI (1068 + 4 * g_for cb (nI x) + n) < 0 from nI_pos (by omega))]
        decide
  rcases st_rel h hwt hq with ⟨a1, a2, a3⟩ | ⟨a1, a2, a3⟩ | ⟨a1, a2, a3⟩
  · rw [a1, if_neg (by decide)]
    by_cases e : wt < nI ((t / sz + 1) * sz)
    · rw [(a2 e).1, (a2 e).2, if_pos rfl, if_neg (by decide), if_pos (by decide)]
    · rw [(a3 e).1, (a3 e).2, if_neg (show ¬ (1 : Int32) = 0 by decide), if_neg (show ¬ (1 : Int32) = 3 by decide), if_neg (show ¬ ¬ (1 : Int32) = 1 from fun e => e rfl)]
      exact hlast
  · rw [a1, a2, a3, if_neg (by decide), if_pos rfl, if_neg (by decide), if_pos (by decide)]
  · rw [a1, a2, if_pos rfl, if_pos rfl]
/-- when a judgement tells that an event counts, no word of its pane stands -/
theorem judge_ns {now pn wd ev cb : Nat → Int32} {np sz u w t x : Nat} {tl tk wt key : Int32} {B : Nat → Nat} {E : Nat → Prop} (h : rB now np sz pn u wd w tl tk (fun _ => wt.toInt) B E) (hwt : now 0 = wt) (ht : t < 2000) (h1 : sz ≤ 100) (hj : c_ver ev pn u cb wt sz t key (nI x) = 0) : v_m now np (t / sz) 5 = 0 := by
  have hq : t / sz < 2000 := Nat.lt_of_le_of_lt (Nat.div_le_self _ _) ht
  have hzb := k_szb hq h1
  have hst : ¬ c_state pn u (nI (t / sz)) wt sz = 3 ∧ ¬ c_state pn u (nI (t / sz)) wt sz = 1 := by
    rw [c_ver] at hj
    by_cases e3 : c_state pn u (nI (t / sz)) wt sz = 3
    · rw [if_pos e3] at hj; exact absurd hj (by decide)
    · refine ⟨e3, fun e1 => ?_⟩
      rw [if_neg e3, if_neg (fun e => e e1)] at hj
      split at hj
      · exact absurd hj (by decide)
      · split at hj <;> exact absurd hj (by decide)
  have hr := st_rel h hwt hq
  obtain ⟨n, a, s, g, g6, g7, ⟨s1, s2, s3, s4⟩, t1, t2⟩ := h.2.2.2.2.2.2.2.2 (t / sz) hq
  have hm : m_mode now (nI (t / sz)) np = v_m now np (t / sz) 1 := rfl
  rcases t2 with ⟨a1, a2, a3⟩ | ⟨a1, a2, a3, a4⟩ | ⟨a1, a2⟩
  · rcases hr with ⟨b1, b2, b3⟩ | ⟨b1, -⟩ | ⟨b1, -⟩
    · by_cases e : wt < nI ((t / sz + 1) * sz)
      · have hs0 : s = 0 := by
          rcases Nat.eq_zero_or_pos s with e9 | e9
          · exact e9
          · have h9 : (((t / sz + 1) * sz : Nat) : Int) ≤ wt.toInt := a3 (by omega)
            rw [Int32.lt_iff_toInt_lt, nI_toInt (by omega)] at e
            omega
        rw [s3, hs0]; rfl
      · exact absurd (b3 e).1 hst.2
    · rw [hm, a1] at b1; exact absurd b1 (by decide)
    · rw [hm, a1] at b1; exact absurd b1 (by decide)
  · rw [s3, a4]; rfl
  · rcases hr with ⟨b1, -⟩ | ⟨b1, -⟩ | ⟨b1, b2, -⟩
    · rw [hm, a1] at b1; exact absurd b1 (by decide)
    · rw [hm, a1] at b1; exact absurd b1 (by decide)
    · exact absurd b2 hst.1
