/-! what the law's looks at the panes and events find -/
theorem q_cnt0 (v : CV) : q_cnt v 0 = nI (e_wo (aEv (cS v)) 0 3 64) := by
  show c_num (aEv (cS v)) (aDb (cS v)) (aWt (cS v)) (aLt (cS v)) (cMv v) (nI 0) = _
  rw [c_num, if_pos (by decide)]
theorem q_cnt1 (v : CV) : q_cnt v 1 = nI (e_wo (aEv (cS v)) 0 1 64) := by
  show c_num (aEv (cS v)) (aDb (cS v)) (aWt (cS v)) (aLt (cS v)) (cMv v) (nI 1) = _
  rw [c_num, if_neg (by decide), if_pos (by decide)]
theorem q_cnt2 (v : CV) : q_cnt v 2 = nI (e_wo (aEv (cS v)) 1 1 64) := by
  show c_num (aEv (cS v)) (aDb (cS v)) (aWt (cS v)) (aLt (cS v)) (cMv v) (nI 2) = _
  rw [c_num, if_neg (by decide), if_neg (by decide), if_pos (by decide)]
theorem q_cnt3 (v : CV) : q_cnt v 3 = nI (e_wo (aEv (cS v)) 2 3 64) := by
  show c_num (aEv (cS v)) (aDb (cS v)) (aWt (cS v)) (aLt (cS v)) (cMv v) (nI 3) = _
  rw [c_num, if_neg (by decide), if_neg (by decide), if_neg (by decide), if_pos (by decide)]
theorem q_cnt5 (v : CV) : q_cnt v 5 = aWt (cS v) := by
  show c_num (aEv (cS v)) (aDb (cS v)) (aWt (cS v)) (aLt (cS v)) (cMv v) (nI 5) = _
  rw [c_num, if_neg (by decide), if_neg (by decide), if_neg (by decide), if_neg (by decide), if_neg (by decide), if_pos (by decide)]
theorem q_cnt11 (v : CV) : q_cnt v 11 = q_mv v := by
  show c_num (aEv (cS v)) (aDb (cS v)) (aWt (cS v)) (aLt (cS v)) (cMv v) (nI 11) = _
  rw [c_num, if_neg (by decide), if_neg (by decide), if_neg (by decide), if_neg (by decide), if_neg (by decide), if_neg (by decide), if_neg (by decide)]
  rfl
theorem q_cnt8 (v : CV) : q_cnt v 8 = aTl (cS v) := rfl
theorem q_cnt9 (v : CV) : q_cnt v 9 = aTk (cS v) := rfl
theorem q_cnt10 (v : CV) : q_cnt v 10 = nI (p_cc (aPn (cS v)) (aU (cS v))) := rfl
theorem nI_nf {n : Nat} (h : n < 2 ^ 31) : ¬ nI n = -1000004 := fun e => by
  have h2 := congrArg Int32.toInt e
  rw [nI_toInt h, show (-1000004 : Int32).toInt = -1000004 by decide] at h2
  omega
theorem i_1sub (x : Int32) : x + 1 - x = nI 1 := by
  rw [Int32.add_comm, Int32.add_sub_cancel]; rfl
theorem i_0sub (x : Int32) : x - x = nI 0 := Int32.sub_self x
def p_case (v : CV) (r : Nat) (N : Nat) (q : Nat) : Prop :=
  (q_pof v r 0 = nI 0 ∧ ¬ s_d (aPn (cS v)) (q_u v) q ∧ ¬ v_c (aPn (cS v)) (q_u v) q 0 = 3 ∧ q_pof v r 5 - q_pof v r 6 = nI 0 ∧ q_std v r 0 = -1000004 ∧ q_pof v r 4 = -1000004) ∨
  (q_pof v r 0 = nI 1 ∧ s_d (aPn (cS v)) (q_u v) q ∧ ¬ v_c (aPn (cS v)) (q_u v) q 0 = 3 ∧ q_pof v r 5 - q_pof v r 6 = nI 1 ∧ q_std v r 0 = nI N ∧ q_std v r 1 = q_pof v r 2 ∧ q_pof v r 4 = -1000004) ∨
  (q_pof v r 0 = nI 2 ∧ ¬ s_d (aPn (cS v)) (q_u v) q ∧ ¬ v_c (aPn (cS v)) (q_u v) q 0 = 3 ∧ q_pof v r 5 - q_pof v r 6 = nI 0 ∧ q_std v r 0 = -1000004 ∧ q_cnt v 5 < q_pof v r 4 ∧ ¬ q_pof v r 4 = -1000004) ∨
  (q_pof v r 0 = nI 3 ∧ s_d (aPn (cS v)) (q_u v) q ∧ v_c (aPn (cS v)) (q_u v) q 0 = 3 ∧ q_pof v r 5 - q_pof v r 6 = nI 1 ∧ q_std v r 0 = nI N ∧ q_std v r 1 = q_pof v r 2 ∧ q_pof v r 4 = -1000004)
theorem q_pof_v {v : CV} {r k : Nat} (hs : sOk (aPn (cS v)) (q_u v)) (hr : r < q_u v) : q_pof v r k = if k = 0 then c_state (aPn (cS v)) (q_u v) (nI (r_p (aPn (cS v)) r)) (aWt (cS v)) (cZ v) else if k = 4 ∧ ¬ c_state (aPn (cS v)) (q_u v) (nI (r_p (aPn (cS v)) r)) (aWt (cS v)) (cZ v) = 2 then -1000004 else v_c (aPn (cS v)) (q_u v) (r_p (aPn (cS v)) r) k := by
  have e := (r_p_at hs hr).2.1
  rw [q_pof, q_pn, e]; rfl
theorem q_std_v {v : CV} {r w a : Nat} (hs : sOk (aPn (cS v)) (q_u v)) (hr : r < q_u v) (ha : a ≤ 1000) (h6 : v_c (aPn (cS v)) (q_u v) (r_p (aPn (cS v)) r) 6 = nI a) :
    (s_d (aPn (cS v)) (q_u v) (r_p (aPn (cS v)) r) → q_std v r w = v_c (aPn (cS v)) (q_u v) (r_p (aPn (cS v)) r) (w + 1)) ∧ (v_c (aPn (cS v)) (q_u v) (r_p (aPn (cS v)) r) 5 = v_c (aPn (cS v)) (q_u v) (r_p (aPn (cS v)) r) 6 → q_std v r w = -1000004) := by
  obtain ⟨q1, q2, q3, q4⟩ := r_p_at hs hr
  have q3' : p_rk (aPn (cS v)) (nI (r_p (aPn (cS v)) r)) (q_u v) < q_u v := q3
  have e5 := v_c_in (c := 5) q3
  have e6 := v_c_in (c := 6) q3
  have e : q_std v r w = x_stand (aPn (cS v)) (q_u v) (nI (r_p (aPn (cS v)) r)) w := by rw [q_std, q_pn, q2]
  rw [e, x_stand, if_pos q3', p_st, ← e5, ← e6]
  constructor
  · intro h
    have h : v_c (aPn (cS v)) (q_u v) (r_p (aPn (cS v)) r) 5 = v_c (aPn (cS v)) (q_u v) (r_p (aPn (cS v)) r) 6 + 1 := h
    have hn : ¬ v_c (aPn (cS v)) (q_u v) (r_p (aPn (cS v)) r) 5 ≤ v_c (aPn (cS v)) (q_u v) (r_p (aPn (cS v)) r) 6 := by
      rw [h, h6, nI_1]
      intro h9
      have := (nI_leI (a := a + 1) (b := a) (by omega) (by omega)).mp h9
      omega
    rw [if_neg hn, if_neg (by decide)]; rfl
  · intro h
    have hn : v_c (aPn (cS v)) (q_u v) (r_p (aPn (cS v)) r) 5 ≤ v_c (aPn (cS v)) (q_u v) (r_p (aPn (cS v)) r) 6 := by
      rw [h, Int32.le_iff_toInt_le]; exact Int.le_refl _
    rw [if_pos hn, if_pos rfl]
theorem row_facts {v : CV} (h : g_ok v) : ∃ N : Nat → Nat, q_sum N 2000 = e_wo (aEv (cS v)) 0 1 64 ∧ (∀ q, q < 2000 → ¬ v_ce (aPn (cS v)) (q_u v) q → N q = 0) ∧ ∀ r, r < q_u v → 0 < N (r_p (aPn (cS v)) r) ∧ N (r_p (aPn (cS v)) r) ≤ 64 ∧ q_pof v r 1 = nI (N (r_p (aPn (cS v)) r)) ∧ p_case v r (N (r_p (aPn (cS v)) r)) (r_p (aPn (cS v)) r) := by
  obtain ⟨⟨now, np, hA⟩, hX, hF⟩ := h
  obtain ⟨N, n1, n2⟩ := num_sum hA
  obtain ⟨⟨z0, z1⟩, -, hmv, hwt, -⟩ := id hA
  refine ⟨N, n2, fun q hq hn => ?_, fun r hr => ?_⟩
  · rcases Nat.eq_zero_or_pos (N q) with e | e
    · exact e
    · exact absurd ((n1 q hq).2.2.mpr e) hn
  · obtain ⟨q1, q2, q3, q4⟩ := r_p_at hX.1 hr
    obtain ⟨m1, m2, m3⟩ := n1 _ q1
    obtain ⟨a, ha, h6⟩ := rA_a hA _ q1
    obtain ⟨b1, b2⟩ := hX.2.1 _ q1
    obtain ⟨s1, s2⟩ := q_std_v (w := 0) hX.1 hr ha h6
    obtain ⟨s3, -⟩ := q_std_v (w := 1) hX.1 hr ha h6
    have p0 := q_pof_v (k := 0) hX.1 hr
    have p1 := q_pof_v (k := 1) hX.1 hr
    have p2 := q_pof_v (k := 2) hX.1 hr
    have p4 := q_pof_v (k := 4) hX.1 hr
    have p5 := q_pof_v (k := 5) hX.1 hr
    have p6 := q_pof_v (k := 6) hX.1 hr
    rw [if_pos rfl] at p0
    rw [if_neg (by omega), if_neg (fun h => by omega)] at p1 p2 p5 p6
    rw [if_neg (by omega)] at p4
    rw [c_state_v] at p0 p4
    refine ⟨m3.mp q3, m1, p1.trans m2, ?_⟩
    have hnosd : v_c (aPn (cS v)) (q_u v) (r_p (aPn (cS v)) r) 5 = v_c (aPn (cS v)) (q_u v) (r_p (aPn (cS v)) r) 6 → q_pof v r 5 - q_pof v r 6 = nI 0 := fun e => by rw [p5, p6, e]; exact i_0sub _
    have hsd : s_d (aPn (cS v)) (q_u v) (r_p (aPn (cS v)) r) → q_pof v r 5 - q_pof v r 6 = nI 1 := fun e => by
      have e : v_c (aPn (cS v)) (q_u v) (r_p (aPn (cS v)) r) 5 = v_c (aPn (cS v)) (q_u v) (r_p (aPn (cS v)) r) 6 + 1 := e
      rw [p5, p6, e]; exact i_1sub _
    have hs0 : s_d (aPn (cS v)) (q_u v) (r_p (aPn (cS v)) r) → q_std v r 0 = nI (N (r_p (aPn (cS v)) r)) := fun e => (s1 e).trans m2
    have hs1 : s_d (aPn (cS v)) (q_u v) (r_p (aPn (cS v)) r) → q_std v r 1 = q_pof v r 2 := fun e => (s3 e).trans p2.symm
    rcases b2 with ⟨c0, c1, c2⟩ | ⟨c0, c1, c2⟩ | ⟨c0, c1⟩
    · rw [if_pos c0] at p0 p4
      have n3 : ¬ v_c (aPn (cS v)) (q_u v) (r_p (aPn (cS v)) r) 0 = 3 := fun e => by rw [c0] at e; exact absurd e (by decide)
      by_cases hw : nI ((r_p (aPn (cS v)) r + 1) * cZ v) ≤ aWt (cS v)
      · rw [if_pos hw] at p0 p4
        rw [if_pos ⟨rfl, by decide⟩] at p4
        have sd := c2 q3 hw
        exact Or.inr (Or.inl ⟨p0, sd, n3, hsd sd, hs0 sd, hs1 sd, p4⟩)
      · rw [if_neg hw] at p0 p4
        rw [if_pos ⟨rfl, by decide⟩] at p4
        have ns : ¬ s_d (aPn (cS v)) (q_u v) (r_p (aPn (cS v)) r) := fun e => hw (c1 e)
        have e56 := b1.resolve_right ns
        exact Or.inl ⟨p0, ns, n3, hnosd e56, s2 e56, p4⟩
    · rw [if_neg (by rw [c0]; decide), c0] at p0
      rw [if_neg (show ¬ v_c (aPn (cS v)) (q_u v) (r_p (aPn (cS v)) r) 0 = 0 by rw [c0]; decide), if_neg (fun h => h.2 c0)] at p4
      have n3 : ¬ v_c (aPn (cS v)) (q_u v) (r_p (aPn (cS v)) r) 0 = 3 := fun e => by rw [c0] at e; exact absurd e (by decide)
      refine Or.inr (Or.inr (Or.inl ⟨p0, s_d_no c1, n3, hnosd c1, s2 c1, by rw [q_cnt5, p4]; exact c2, fun e => ?_⟩))
      rw [p4] at e
      rw [e, Int32.lt_iff_toInt_lt, show (-1000004 : Int32).toInt = -1000004 by decide] at c2
      rcases hwt with e9 | ⟨vv, v1, e9⟩
      · rw [e9, show (-1 : Int32).toInt = -1 by decide] at c2; omega
      · rw [e9, nI_toInt (by omega)] at c2; omega
    · rw [if_neg (by rw [c0]; decide), c0] at p0
      rw [if_neg (show ¬ v_c (aPn (cS v)) (q_u v) (r_p (aPn (cS v)) r) 0 = 0 by rw [c0]; decide), if_pos ⟨rfl, by rw [c0]; decide⟩] at p4
      exact Or.inr (Or.inr (Or.inr ⟨p0, c1, c0, hsd c1, hs0 c1, hs1 c1, p4⟩))
/-- told less taken back are the standing words -/
theorem stand_sum {v : CV} (h : g_ok v) : q_cnt v 8 - q_cnt v 9 = nI (q_sum (fun q => q_b (s_d (aPn (cS v)) (q_u v) q)) 2000) := by
  rw [q_cnt8, q_cnt9]
  show aTl (cS v) - aTk (cS v) = nI (q_sum (fun q => q_b (s_d (aPn (cS v)) (aU (cS v)) q)) 2000)
  rw [h.2.1.2.2, Int32.add_comm, Int32.add_sub_cancel]
/-- what is filed -/
theorem filed_facts {v : CV} (h : g_ok v) : ∃ n : Nat → Nat, (n 0 ≤ 4 ∧ n 1 ≤ 4 ∧ n 2 ≤ 4) ∧ n 0 + n 1 + n 2 = e_wo (aEv (cS v)) 1 1 64 ∧ ∀ c p, c < 3 → p < 4 → (n c ≤ p ∧ q_fil v c p = -1000004) ∨ (p < n c ∧ ∃ id x : Nat, id < 64 ∧ q_fil v c p = nI id ∧ q_evo v id 4 = nI 1 ∧ q_evo v id 3 = nI x ∧ 1 ≤ x ∧ x ≤ 3 ∧ (c = 2 ∨ x = c + 1)) := by
  obtain ⟨n, n1, n2⟩ := h.2.2
  refine ⟨n, ⟨(n2 0 (by omega)).1, (n2 1 (by omega)).1, (n2 2 (by omega)).1⟩, n1, fun c p hc hp => ?_⟩
  obtain ⟨k1, k2, k3⟩ := n2 c hc
  by_cases hpn : n c ≤ p
  · refine Or.inl ⟨hpn, ?_⟩
    rw [q_fil, g_rd, k2, if_pos ((nI_leI (by omega) (by omega)).mpr hpn)]
  · obtain ⟨id, x, g1, g2, g3, g4, g5, g6⟩ := k3 p (by omega)
    refine Or.inr ⟨by omega, id, x, g1, ?_, ?_, ?_, g6⟩
    · rw [q_fil, g_rd, k2, if_neg (fun h => hpn ((nI_leI (by omega) (by omega)).mp h))]; exact g2
    · rw [q_evo, e_rd, e_has, g3, if_neg (by decide)]; exact g4
    · rw [q_evo, e_rd, e_has, g3, if_neg (by decide)]; exact g5
/-- each event counts or is turned away -/
theorem wo_split {ev : Nat → Int32} (h : ∀ k, k < 64 → ev (k * 7 + 6) = 1 → ∃ r : Nat, r ≤ 3 ∧ ev (k * 7 + 4) = nI r) : ∀ k, k ≤ 64 → e_wo ev 0 1 k + e_wo ev 2 3 k = e_wo ev 0 3 k
  | 0, _ => rfl
  | k + 1, hk => by
    have ih := wo_split h k (by omega)
    rw [e_wo, e_wo, e_wo]
    have a := e_out_iff (ev := ev) (k := k) (lo := 0) (hi := 1)
    have b := e_out_iff (ev := ev) (k := k) (lo := 2) (hi := 3)
    have c := e_out_iff (ev := ev) (k := k) (lo := 0) (hi := 3)
    by_cases hc : ev (k * 7 + 6) = 1
    · obtain ⟨r, r1, r2⟩ := h k (by omega) hc
      rw [r2] at a b c
      have l0 : ∀ n : Nat, n ≤ 3 → ¬ nI n < 0 := fun n hn => nI_pos (by omega)
      have hi : ∀ (m n : Nat), m ≤ 3 → n ≤ 3 → (nI m < nI n ↔ m < n) := fun m n hm hn => nI_ltI (by omega) (by omega)
      have h13 : ¬ (3 : Int32) < nI r := fun e => by have := (hi 3 r (by omega) r1).mp e; omega
      rw [if_neg (c.mpr ⟨hc, l0 r r1, h13⟩)]
      by_cases h1 : r ≤ 1
      · rw [if_neg (a.mpr ⟨hc, l0 r r1, fun e => by have := (hi 1 r (by omega) r1).mp e; omega⟩), if_pos (Classical.byContradiction (fun c9 => (b.mp c9).2.1 ((hi r 2 r1 (by omega)).mpr (by omega))))]
        omega
      · rw [if_pos (Classical.byContradiction (fun c9 => (a.mp c9).2.2 ((hi 1 r (by omega) r1).mpr (by omega)))), if_neg (b.mpr ⟨hc, fun e => by have := (hi r 2 r1 (by omega)).mp e; omega, h13⟩)]
        omega
    · have z : ∀ lo hi, e_out ev k lo hi = 0 := fun lo hi => by rw [e_out, if_pos hc]
      rw [if_pos (z _ _), if_pos (z _ _), if_pos (z _ _)]; exact ih
theorem ev_split {v : CV} (h : g_ok v) : q_cnt v 1 + q_cnt v 3 = q_cnt v 0 := by
  obtain ⟨⟨now, np, hA⟩, -⟩ := h
  rw [q_cnt1, q_cnt3, q_cnt0, nI_add, wo_split (fun k hk hc => ?_) 64 (Nat.le_refl _)]
  rcases hA.2.2.2.2.2.2.2.2.1 k hk with ⟨-, b⟩ | ⟨-, -, -, -, -, -, b4, ⟨r, r1, r2⟩, -⟩
  · rw [b] at hc; exact absurd hc (by decide)
  · exact ⟨r, r1, b4.trans r2⟩
