/-! an event on both sides: whole -/
theorem rA_fin {now N3 pn' wd' cb' : Nat → Int32} {np sz p2 u' w' i t x r : Nat} {S : AV} {lg gr mv key am tk' : Int32} (h : rA now np sz S lg gr mv) (hi : i < 64) (hnew : ¬ now (12 + 6 * i + 0) = 1) (ht : t < 2000) (hr : r ≤ 3) (ha : am.toInt.natAbs ≤ 100)
    (hfr : ∀ j, j < 396 → j ≠ 4 → j ≠ 9 → j ≠ 10 → j ≠ 11 → N3 j = now j) (h10 : N3 10 = nI p2) (h11 : N3 11 = 1) (hp2 : p2 ≤ np + 1) (hu' : u' ≤ aU S + 1)
    (hB : rB (m_put N3 i (nI t) key am (nI x) (nI r)) p2 sz pn' u' wd' w' (aTl S) tk' (fun _ => (aWt S).toInt) (fun _ => m_cn now 64 + 1 + (if mv = 1 then 1 else 0)) noE) (hC : ∀ c, c < 3 → rC N3 cb' c) :
    rA (m_late (m_put N3 i (nI t) key am (nI x) (nI r)) t p2 sz) p2 sz (x_mk S sz lg i t key am (nI x) (nI r) pn' u' wd' w' tk' cb') lg gr mv := by
  obtain ⟨⟨z0, z1⟩, ⟨f6, f10, f0, f1, f2, f5, f7, f8⟩, hmv, hwt, hlt, hlg, hgr, ⟨-, -, hnp, hu⟩, hE, -, -⟩ := h
  have hput : ∀ j, j < 12 → m_put N3 i (nI t) key am (nI x) (nI r) j = N3 j := fun j hj => m_put_o (by omega)
  obtain ⟨l1, l2, l3, l4, l5⟩ := late_rel (now := m_put N3 i (nI t) key am (nI x) (nI r)) (wt := aWt S) (lt := aLt S) (lg := lg) z0 z1 ht (by rw [hput 0 (by omega), hfr 0 (by omega) (by omega) (by omega) (by omega) (by omega)]; exact f0) (by rw [hput 1 (by omega), hfr 1 (by omega) (by omega) (by omega) (by omega) (by omega)]; exact f1) (by rw [hput 7 (by omega), hfr 7 (by omega) (by omega) (by omega) (by omega) (by omega)]; exact f7) hwt hlg hB
  have hcn : m_cn (m_late (m_put N3 i (nI t) key am (nI x) (nI r)) t p2 sz) 64 = m_cn now 64 + 1 := by
    have e1 : m_cn (m_late (m_put N3 i (nI t) key am (nI x) (nI r)) t p2 sz) 64 = m_cn (m_put N3 i (nI t) key am (nI x) (nI r)) 64 := m_cn_cong (fun j hj => l4 _ (by omega) (by omega) (by omega) (by omega) (by omega))
    have e2 : m_cn N3 64 = m_cn now 64 := m_cn_cong (fun j hj => hfr _ (by omega) (by omega) (by omega) (by omega) (by omega))
    rw [e1, m_cn_put (by rw [hfr _ (by omega) (by omega) (by omega) (by omega) (by omega)]; exact hnew), if_pos hi, e2]
  have lo : ∀ j, j < 12 → j ≠ 0 → j ≠ 1 → j ≠ 3 → j ≠ 9 → m_late (m_put N3 i (nI t) key am (nI x) (nI r)) t p2 sz j = N3 j := fun j hj a0 a1 a3 a9 => (l4 j (Or.inl (by omega)) a0 a1 a3 a9).trans (hput j hj)
  refine ⟨⟨z0, z1⟩, ⟨?_, ?_, l2, l3, ?_, ?_, ?_, ?_⟩, hmv, l5, ?_, hlg, hgr, ⟨Or.inr ?_, ?_, ?_, ?_⟩, fun k hk => ?_, fun c hc => ?_, ?_⟩
  · rw [lo 6 (by omega) (by omega) (by omega) (by omega) (by omega), hfr 6 (by omega) (by omega) (by omega) (by omega) (by omega)]; exact f6
  · rw [lo 10 (by omega) (by omega) (by omega) (by omega) (by omega)]; exact h10
  · rw [lo 2 (by omega) (by omega) (by omega) (by omega) (by omega), hfr 2 (by omega) (by omega) (by omega) (by omega) (by omega)]; exact f2
  · rw [lo 5 (by omega) (by omega) (by omega) (by omega) (by omega), hfr 5 (by omega) (by omega) (by omega) (by omega) (by omega)]; exact f5
  · rw [lo 7 (by omega) (by omega) (by omega) (by omega) (by omega), hfr 7 (by omega) (by omega) (by omega) (by omega) (by omega)]; exact f7
  · rw [lo 8 (by omega) (by omega) (by omega) (by omega) (by omega), hfr 8 (by omega) (by omega) (by omega) (by omega) (by omega)]; exact f8
  · show c_ltN (aLt S) t = -1 ∨ ∃ v : Nat, v < 2000 ∧ c_ltN (aLt S) t = nI v
    rw [c_ltN]
    split
    · exact hlt
    · exact Or.inr ⟨t, ht, rfl⟩
  · rw [lo 11 (by omega) (by omega) (by omega) (by omega) (by omega)]; exact h11
  · rw [lo 11 (by omega) (by omega) (by omega) (by omega) (by omega), hcn]; exact ⟨fun _ => by omega, fun _ => h11⟩
  · rw [hcn]; omega
  · rw [hcn]; show u' ≤ _; omega
  · refine rE_cong (fun c hc => l4 _ (by omega) (by omega) (by omega) (by omega) (by omega)) (fun c _ => rfl) (rE_put ht hr ha ?_)
    exact rE_cong (fun c hc => hfr _ (by omega) (by omega) (by omega) (by omega) (by omega)) (fun c _ => rfl) (hE k hk)
  · refine rC_cong hc (fun j h1 h2 => l4 j (Or.inr ⟨h1, h2⟩) (by omega) (by omega) (by omega) (by omega)) (rC_cong hc (fun j h1 h2 => m_put_o (by omega)) (hC c hc))
  · rw [hcn]; exact l1
theorem c_ver_nat (ev pn : Nat → Int32) (u : Nat) (cb : Nat → Int32) (wt : Int32) (z t : Nat) (key x : Int32) : ∃ r : Nat, r ≤ 3 ∧ c_ver ev pn u cb wt z t key x = nI r := by
  rw [c_ver]
  repeat' split
  all_goals first | exact ⟨3, by omega, rfl⟩ | exact ⟨0, by omega, rfl⟩ | exact ⟨2, by omega, rfl⟩ | exact ⟨1, by omega, rfl⟩
theorem rA_has {now : Nat → Int32} {np sz i : Nat} {S : AV} {lg gr mv : Int32} (h : rA now np sz S lg gr mv) (hi : i < 64) : (now (12 + 6 * i + 0) = 1 ∧ e_has (aEv S) i = 1) ∨ (¬ now (12 + 6 * i + 0) = 1 ∧ e_has (aEv S) i = 0) := by
  rcases h.2.2.2.2.2.2.2.2.1 i hi with ⟨a, b⟩ | ⟨a, b, -⟩
  · exact Or.inr ⟨by rw [a]; decide, by rw [e_has, b, if_pos (by decide)]⟩
  · exact Or.inl ⟨a, by rw [e_has, b, if_neg (fun e => e rfl)]⟩
theorem rA_zf {now : Nat → Int32} {np sz : Nat} {S : AV} {lg gr mv x : Int32} (h : rA now np sz S lg gr mv) : aCb S (g_for (aCb S) x * 5 + 4) = nI (x_zf S x) ∧ (g_full (aCb S) (g_for (aCb S) x) = 0 → x_zf S x < 4) := by
  obtain ⟨n, h1, h2, -⟩ := h.2.2.2.2.2.2.2.2.2.1 _ (g_for_lt (aCb S) x)
  have e : x_zf S x = n := by rw [x_zf, h2, nI_clamp (by omega)]
  rw [e]
  refine ⟨h2, fun hf => ?_⟩
  rw [g_full, h2] at hf
  by_cases hn : nI n < 4
  · exact (nI_ltI (a := n) (b := 4) (by omega) (by omega)).mp hn
  · rw [if_neg hn] at hf; exact absurd hf (by decide)
set_option maxHeartbeats 1000000 in
theorem come_rel {now : Nat → Int32} {np sz i t x : Nat} {S : AV} {lg gr mv key am : Int32} (h : rA now np sz S lg gr mv) (hi : i < 64) (ht : t < 2000) (hx : x ≤ 3) (ha : am.toInt.natAbs ≤ 100) :
    (m_come now i t key am x np sz).1 = (x_adm sz lg gr S i t key am (nI x)).1 ∧ rA (m_come now i t key am x np sz).2 (m_cnp now i t np sz) sz (x_adm sz lg gr S i t key am (nI x)).2 lg gr mv := by
  have hh := h
  obtain ⟨⟨z0, z1⟩, ⟨f6, f10, f0, f1, f2, f5, f7, f8⟩, hmv, hwt, hlt, hlg, hgr, ⟨h11, h11b, hnp, hu⟩, hE, hC, hB⟩ := h
  have hq : t / sz < 2000 := Nat.lt_of_le_of_lt (Nat.div_le_self _ _) ht
  rcases rA_has hh hi with ⟨e1, e2⟩ | ⟨e1, e2⟩
  · rw [m_come, if_pos e1, x_adm, e2, if_pos (by decide), m_cnp, if_pos e1]
    have hcn : m_cn (upd (upd now 11 1) 5 (now 5 + 1)) 64 = m_cn now 64 := m_cn_cong (fun j hj => by rw [pk_un (by omega), pk_un (by omega)])
    refine ⟨rfl, ?_⟩
    show rA (upd (upd now 11 1) 5 (now 5 + 1)) np sz _ lg gr mv
    refine ⟨⟨z0, z1⟩, ⟨?_, ?_, ?_, ?_, ?_, ?_, ?_, ?_⟩, hmv, hwt, hlt, hlg, hgr, ⟨Or.inr ?_, ?_, ?_, ?_⟩, fun k hk => ?_, fun c hc => ?_, ?_⟩
    · rw [pk_un (by omega), pk_un (by omega)]; exact f6
    · rw [pk_un (by omega), pk_un (by omega)]; exact f10
    · rw [pk_un (by omega), pk_un (by omega)]; exact f0
    · rw [pk_un (by omega), pk_un (by omega)]; exact f1
    · rw [pk_un (by omega), pk_un (by omega)]; exact f2
    · rw [pk_us, f5]
    · rw [pk_un (by omega), pk_un (by omega)]; exact f7
    · rw [pk_un (by omega), pk_un (by omega)]; exact f8
    · rw [pk_un (by omega)]; exact pk_us
    · rw [hcn]; exact ⟨fun _ => m_cn_pos e1 hi, fun _ => by rw [pk_un (by omega)]; exact pk_us⟩
    · rw [hcn]; exact hnp
    · rw [hcn]; exact hu
    · exact rE_cong (fun c hc => by rw [pk_un (by omega), pk_un (by omega)]) (fun c _ => rfl) (hE k hk)
    · exact rC_cong hc (fun j h1 h2 => by rw [pk_un (by omega), pk_un (by omega)]) (hC c hc)
    · rw [hcn]; exact rB_upd (rB_upd hB (by omega)) (by omega)
  · have hcn64 := m_cn_lt e1 hi
    have hE1 : ∀ k, k < 64 → rE (upd now 11 1) (aEv S) sz k := fun k hk => rE_cong (fun c hc => pk_un (by omega)) (fun c _ => rfl) (hE k hk)
    have hC1 : ∀ c, c < 3 → rC (upd now 11 1) (aCb S) c := fun c hc => rC_cong hc (fun j h1 h2 => pk_un (by omega)) (hC c hc)
    have hB1 := rB_upd (x := 1) hB (j := 11) (by omega)
    have hw1 : upd now 11 1 0 = aWt S := (pk_un (by omega)).trans f0
    have hj : m_judge (upd now 11 1) t key x np sz = x_o S sz t key (nI x) := judge_rel hB1 hw1 hE1 hC1 ht hx
    obtain ⟨k1, k2, k3⟩ := rB_keep hB1 hq (fun _ => by omega)
    obtain ⟨r, r3, hr⟩ := c_ver_nat (aEv S) (aPn S) (aU S) (aCb S) (aWt S) sz t key (nI x)
    have hor : x_o S sz t key (nI x) = nI r := hr
    have hn2 : ∀ j, (j < 396 ∧ j ≠ 10) ∨ (1068 ≤ j ∧ j < 1080) → m_n2 (upd now 11 1) (nI (t / sz)) np j = upd now 11 1 j := fun j hj => by
      rw [m_n2]; split
      · rfl
      · exact m_keep_o (by omega) (by omega)
    have hn10 : m_n2 (upd now 11 1) (nI (t / sz)) np 10 = nI (m_p2 (upd now 11 1) (nI (t / sz)) np) := by
      rw [m_n2, m_p2]; split
      · rw [pk_un (by omega)]; exact f10
      · exact m_keep_10 _ _ _
    have hp2 : m_p2 (upd now 11 1) (nI (t / sz)) np ≤ np + 1 := by rw [m_p2]; split <;> omega
    have hnewN2 : ¬ m_n2 (upd now 11 1) (nI (t / sz)) np (12 + 6 * i + 0) = 1 := by rw [hn2 _ (by omega), pk_un (by omega)]; exact e1
    have hC2 : ∀ c, c < 3 → rC (m_n2 (upd now 11 1) (nI (t / sz)) np) (aCb S) c := fun c hc => rC_cong hc (fun j h1 h2 => hn2 j (Or.inr ⟨h1, h2⟩)) (hC1 c hc)
    have hcap : ¬ v_ce (aPn S) (aU S) (t / sz) → aU S < 64 := fun _ => by omega
    have hmu : p_mu (aPn S) (nI (t / sz)) (aU S) ≤ aU S + 1 := by rw [p_mu]; split <;> omega
    have hs := hB.2.2.2.1
    have hBm : ∀ {f pn wd : Nat → Int32} {p u w : Nat} {tl tk : Int32}, rB f p sz pn u wd w tl tk (fun _ => (aWt S).toInt) (fun _ => m_cn now 64 + (if mv = 1 then 1 else 0)) noE → rB f p sz pn u wd w tl tk (fun _ => (aWt S).toInt) (fun _ => m_cn now 64 + 1 + (if mv = 1 then 1 else 0)) noE := fun hb => rB_monoWB hb (fun _ _ => Int.le_refl _) (fun _ _ => by show _ ≤ m_cn now 64 + 1 + _; omega)
    rw [m_come, if_neg e1, m_come1, x_adm, e2, if_neg (fun e => e rfl), m_cnp, if_neg e1, hj, hor]
    by_cases o2 : 1 < nI r
    · have hr2 : 2 ≤ r := (nI_ltI (a := 1) (b := r) (by omega) (by omega)).mp o2
      have hr1 : ¬ nI r = 1 := fun e => by have := (nI_eq (a := r) (b := 1) (by omega) (by omega)).mp e; omega
      have hin : m_isIn (nI r) 0 1 = 0 := m_isIn0.mpr (Or.inr o2)
      rw [if_pos o2, m_n3, if_neg hr1]
      refine ⟨rfl, rA_fin hh hi e1 ht r3 ha (fun j hj a4 a9 a10 a11 => ?_) hn10 ?_ hp2 (by omega) (hBm (rB_put0 hi hnewN2 hin k1)) hC2⟩
      · rw [hn2 j (by omega), pk_un a11]
      · rw [hn2 11 (by omega)]; exact pk_us
    · rw [if_neg o2]
      by_cases o0 : nI r = 0
      · have hr0 : r = 0 := (nI_eq (a := r) (b := 0) (by omega) (by omega)).mp o0
        subst hr0
        have hns0 := judge_ns hB1 hw1 ht z1 hr
        have hns : v_m (m_n2 (upd now 11 1) (nI (t / sz)) np) (m_p2 (upd now 11 1) (nI (t / sz)) np) (t / sz) 5 = 0 := by
          rw [m_n2, m_p2]
          by_cases hm : m_fk (upd now 11 1) (nI (t / sz)) np < np
          · rw [if_pos hm, if_pos hm]; exact hns0
          · rw [if_neg hm, if_neg hm, v_m_keep hm hq hq (by omega) (by omega)]; exact hns0
        obtain ⟨q1, q2⟩ := rB_mp k1 hq k2 hcap
        have hct := rB_count (key := key) (am := am) (x := nI x) (r := 0) hi hnewN2 ht z0 z1 (by omega) q1 hns
        rw [p_mr_rk hs hcap hq] at hct
        rw [if_pos o0, m_n3, if_neg (show ¬ nI 0 = 1 by decide)]
        refine ⟨rfl, rA_fin hh hi e1 ht (by omega) ha (fun j hj a4 a9 a10 a11 => ?_) hn10 ?_ hp2 hmu (hBm hct) hC2⟩
        · rw [hn2 j (by omega), pk_un a11]
        · rw [hn2 11 (by omega)]; exact pk_us
      · have hr1 : r = 1 := by
          have a1 : ¬ r = 0 := fun e => o0 (by rw [e]; rfl)
          have a2 : ¬ 1 < r := fun e => o2 ((nI_ltI (a := 1) (b := r) (by omega) (by omega)).mpr e)
          omega
        subst hr1
        rw [if_neg o0, m_n3, if_pos (show nI 1 = 1 by decide)]
        have hj1 : m_judge (upd now 11 1) t key x np sz = 1 := hj.trans hor
        have hx1 := m_judge_x1 hj1
        have hpf0 : ¬ m_pfN (m_n2 (upd now 11 1) (nI (t / sz)) np) x = 0 := by
          rw [m_pfN_cong (fun j a b => hn2 j (Or.inr ⟨a, b⟩)) hx1]; exact m_judge_pf hj1
        have hpf := (m_pfN_lt (m_n2 (upd now 11 1) (nI (t / sz)) np) hx1).resolve_left hpf0
        obtain ⟨q1, q2⟩ := rB_mp k1 hq k2 hcap
        have hgr1 : upd now 11 1 0 + upd now 11 1 8 + 1 = aWt S + gr + 1 := by rw [pk_un (by omega), pk_un (by omega), f0, f8]
        have hre := rB_reop (i := i) (pf := m_pfN (m_n2 (upd now 11 1) (nI (t / sz)) np) x) (v := aWt S + gr + 1) (B' := fun _ => m_cn now 64 + 1 + (if mv = 1 then 1 else 0)) hpf.1 q1 hq q2 (fun p _ => by show m_cn now 64 + _ ≤ m_cn now 64 + 1 + _; omega) (by show m_cn now 64 + _ + 1 ≤ m_cn now 64 + 1 + _; omega) (by show m_cn now 64 + (if mv = 1 then 1 else 0) ≤ 1000; split <;> omega)
        rw [k3, p_mr_rk hs hcap hq] at hre
        rw [hgr1]
        have hxre : x_re S sz gr t = (upd (upd (p_take (p_mp (aPn S) (nI (t / sz)) (aU S), aWd S, aW S, aTk S) (p_mr (aPn S) (nI (t / sz)) (aU S))).1 (p_mr (aPn S) (nI (t / sz)) (aU S) * 8 + 0) 2) (p_mr (aPn S) (nI (t / sz)) (aU S) * 8 + 4) (aWt S + gr + 1), (p_take (p_mp (aPn S) (nI (t / sz)) (aU S), aWd S, aW S, aTk S) (p_mr (aPn S) (nI (t / sz)) (aU S))).2) := rfl
        have hcab := rC_file (i := i) hC2 hx1 hx hi hpf0 (rA_zf hh).1 (rA_zf (x := nI x) hh).2
        have hwN2 := (rW_wN k1.2.2.2.2.2.1).2
        have hk64 : m_k2 (upd now 11 1) (nI (t / sz)) np < 64 := by
          rw [m_k2]; split <;> omega
        have hro : ∀ j, j < 396 → j ≠ 4 → j ≠ 9 → m_reop (m_n2 (upd now 11 1) (nI (t / sz)) np) (m_k2 (upd now 11 1) (nI (t / sz)) np) i (m_pfN (m_n2 (upd now 11 1) (nI (t / sz)) np) x) (aWt S + gr + 1) j = m_n2 (upd now 11 1) (nI (t / sz)) np j := fun j hj a4 a9 => m_reop_o hwN2 hpf.1 (by omega) a9 a4 (by omega)
        have hrc : ∀ j, 1068 ≤ j → j < 1080 → m_reop (m_n2 (upd now 11 1) (nI (t / sz)) np) (m_k2 (upd now 11 1) (nI (t / sz)) np) i (m_pfN (m_n2 (upd now 11 1) (nI (t / sz)) np) x) (aWt S + gr + 1) j = upd (m_n2 (upd now 11 1) (nI (t / sz)) np) (m_pfN (m_n2 (upd now 11 1) (nI (t / sz)) np) x) (nI (i + 1)) j := fun j a b => by
          rw [m_reop, pk_un (by omega), pk_un (by omega), m_takes_o (wOk_upd hwN2 (by omega)) (by omega) (by omega) (by omega) (by omega)]
        have hex : p_rk (x_re S sz gr t).1 (nI (t / sz)) (p_mu (aPn S) (nI (t / sz)) (aU S)) < p_mu (aPn S) (nI (t / sz)) (aU S) := by
          obtain ⟨n9, a9, s9, -, g9, -⟩ := hre.1.2.2.2.2.2.2.2.2 (t / sz) hq
          exact g9.mpr (Or.inr rfl)
        have hct := rB_count (key := key) (am := am) (x := nI x) (r := 1) hi (by rw [hro _ (by omega) (by omega) (by omega)]; exact hnewN2) ht z0 z1 (by omega) hre.1 hre.2
        have g1 : p_mp (x_re S sz gr t).1 (nI (t / sz)) (p_mu (aPn S) (nI (t / sz)) (aU S)) = (x_re S sz gr t).1 := if_pos hex
        have g2 : p_mr (x_re S sz gr t).1 (nI (t / sz)) (p_mu (aPn S) (nI (t / sz)) (aU S)) = p_rk (x_re S sz gr t).1 (nI (t / sz)) (p_mu (aPn S) (nI (t / sz)) (aU S)) := if_pos hex
        have g3 : p_mu (x_re S sz gr t).1 (nI (t / sz)) (p_mu (aPn S) (nI (t / sz)) (aU S)) = p_mu (aPn S) (nI (t / sz)) (aU S) := if_pos hex
        rw [g1, g2, g3]
        refine ⟨rfl, rA_fin hh hi e1 ht (by omega) ha (fun j hj a4 a9 a10 a11 => ?_) ?_ ?_ hp2 hmu hct (fun c hc => rC_cong hc (fun j a b => hrc j a b) (hcab c hc))⟩
        · rw [hro j hj a4 a9, hn2 j (by omega), pk_un a11]
        · rw [hro 10 (by omega) (by omega) (by omega)]; exact hn10
        · rw [hro 11 (by omega) (by omega) (by omega), hn2 11 (by omega)]; exact pk_us
