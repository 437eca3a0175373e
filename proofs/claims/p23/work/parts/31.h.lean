/-! settings, on both sides -/
theorem m_acc_zero {now : Nat → Int32} {sz : Nat} {q : Int32} (h : ∀ k, k < 64 → ¬ now (12 + 6 * k + 0) = 1) : ∀ k, k ≤ 64 → m_acc now sz q k = (0, 0, 0)
  | 0, _ => rfl
  | k + 1, hk => by
    have hc : m_cts now k = 0 := if_pos (h k (by omega))
    rw [m_acc, if_pos hc]
    exact m_acc_zero h k (by omega)
theorem m_cn_zero {now : Nat → Int32} (h : m_cn now 64 = 0) : ∀ k, k < 64 → ¬ now (12 + 6 * k + 0) = 1 := fun k hk e => by
  have := m_cn_pos e hk
  omega
theorem wo_cn {now ev : Nat → Int32} {sz : Nat} (h : ∀ k, k < 64 → rE now ev sz k) : ∀ k, k ≤ 64 → e_wo ev 0 3 k = m_cn now k
  | 0, _ => rfl
  | k + 1, hk => by
    have ih := wo_cn h k (by omega)
    rw [e_wo, m_cn, ih]
    have hE2 : (¬ e_out ev k 0 3 = 0) ↔ now (12 + 6 * k + 0) = 1 := by
      rw [e_out_iff]
      rcases h k (by omega) with ⟨h1, h2⟩ | ⟨h1, h2, -, -, -, -, h6, ⟨r, r3, hr⟩, -⟩
      · rw [h1, h2]
        exact ⟨fun e => absurd e.1 (by decide), fun e => absurd e (by decide)⟩
      · rw [h1, h2, h6, hr]
        refine ⟨fun _ => rfl, fun _ => ⟨rfl, ?_, ?_⟩⟩
        · exact nI_pos (by omega)
        · exact fun e => by have := (nI_ltI (a := 3) (b := r) (by omega) (by omega)).mp e; omega
    by_cases c : e_out ev k 0 3 = 0
    · have c2 : ¬ now (12 + 6 * k + 0) = 1 := fun e => (hE2.mpr e) c
      rw [if_pos c, if_neg c2]
    · rw [if_neg c, if_pos (hE2.mp c)]
theorem set_rel0 {now : Nat → Int32} {np sz s' : Nat} {S : AV} {lg gr mv : Int32} (h : rA now np sz S lg gr mv) (hno : e_wo (aEv S) 0 3 64 = 0) (hs : 0 < s' ∧ s' ≤ 100) : rA (upd now 6 (nI s')) np s' S lg gr mv := by
  obtain ⟨⟨z0, z1⟩, ⟨f6, f10, f0, f1, f2, f5, f7, f8⟩, hmv, hwt, hlt, hlg, hgr, ⟨h11, h11b, hnp, hu⟩, hE, hC, hB⟩ := h
  have hcn0 : m_cn now 64 = 0 := by rw [← wo_cn hE 64 (Nat.le_refl _)]; exact hno
  have hz := m_cn_zero hcn0
  have hcn : m_cn (upd now 6 (nI s')) 64 = m_cn now 64 := m_cn_cong (fun j hj => pk_un (by omega))
  refine ⟨hs, ⟨pk_us, ?_, ?_, ?_, ?_, ?_, ?_, ?_⟩, hmv, hwt, hlt, hlg, hgr, ⟨?_, ?_, ?_, ?_⟩, fun k hk => ?_, fun c hc => rC_cong hc (fun j a b => pk_un (by omega)) (hC c hc), ?_⟩
  · rw [pk_un (by omega)]; exact f10
  · rw [pk_un (by omega)]; exact f0
  · rw [pk_un (by omega)]; exact f1
  · rw [pk_un (by omega)]; exact f2
  · rw [pk_un (by omega)]; exact f5
  · rw [pk_un (by omega)]; exact f7
  · rw [pk_un (by omega)]; exact f8
  · rw [pk_un (by omega)]; exact h11
  · rw [pk_un (by omega), hcn]; exact h11b
  · rw [hcn]; exact hnp
  · rw [hcn]; exact hu
  · rcases hE k hk with ⟨a, b⟩ | ⟨a, -⟩
    · exact Or.inl ⟨by rw [pk_un (by omega)]; exact a, b⟩
    · exact absurd a (hz k hk)
  · rw [hcn]
    have hB2 := rB_upd (x := nI s') hB (j := 6) (by omega)
    obtain ⟨hd, hnk, hn64, hs', hu', hw, h3, h4, hP⟩ := hB2
    refine ⟨hd, hnk, hn64, hs', hu', hw, h3, h4, fun q hq => ?_⟩
    obtain ⟨n, a, s, ⟨g1, g2, g3, g4, g5⟩, g6, g7, s1, t1, t2⟩ := hP q hq
    have hz2 : ∀ k, k < 64 → ¬ upd now 6 (nI s') (12 + 6 * k + 0) = 1 := fun k hk => by rw [pk_un (by omega)]; exact hz k hk
    have e1 : ∀ z : Nat, m_num (upd now 6 (nI s')) z (nI q) = 0 := fun z => by rw [m_num, m_acc_zero hz2 64 (Nat.le_refl _)]
    have e2 : ∀ z : Nat, m_sum (upd now 6 (nI s')) z (nI q) = 0 := fun z => by rw [m_sum, m_acc_zero hz2 64 (Nat.le_refl _)]
    have e3 : ∀ z : Nat, m_key (upd now 6 (nI s')) z (nI q) = 0 := fun z => by rw [m_key, m_acc_zero hz2 64 (Nat.le_refl _)]
    have hn0 : n = 0 := (nI_eq (a := n) (b := 0) (by omega) (by omega)).mp (g1.symm.trans (e1 sz))
    refine ⟨n, a, s, ⟨by rw [e1, ← e1 sz]; exact g1, g2, g3, by rw [e2, ← e2 sz]; exact g4, by rw [e3, ← e3 sz]; exact g5⟩, g6, g7, s1, fun e => ?_, ?_⟩
    · have := (t1 e).1; omega
    · rcases t2 with ⟨a1, a2, a3⟩ | h | h
      · exact Or.inl ⟨a1, a2, fun e => by have := (t1 e).1; omega⟩
      · exact Or.inr (Or.inl h)
      · exact Or.inr (Or.inr h)
theorem set_relX {now : Nat → Int32} {np sz : Nat} {S : AV} {lg gr mv lg' gr' : Int32} (now' : Nat → Int32) (h : rA now np sz S lg gr mv) (ho : ∀ j, j ≠ 7 → j ≠ 8 → now' j = now j) (h7 : now' 7 = lg') (h8 : now' 8 = gr') (hl : ∃ g : Nat, g ≤ 100 ∧ lg' = nI g) (hg : ∃ g : Nat, g ≤ 100 ∧ gr' = nI g) : rA now' np sz S lg' gr' mv := by
  obtain ⟨⟨z0, z1⟩, ⟨f6, f10, f0, f1, f2, f5, f7, f8⟩, hmv, hwt, hlt, hlg, hgr, ⟨h11, h11b, hnp, hu⟩, hE, hC, hB⟩ := h
  have hcn : m_cn now' 64 = m_cn now 64 := m_cn_cong (fun j hj => ho _ (by omega) (by omega))
  have hEq : now' = upd (upd now 7 lg') 8 gr' := by
    funext j
    by_cases e8 : j = 8
    · rw [e8, h8]; exact pk_us.symm
    · by_cases e7 : j = 7
      · rw [e7, h7, pk_un (by omega)]; exact pk_us.symm
      · rw [ho j e7 e8, pk_un e8, pk_un e7]
  refine ⟨⟨z0, z1⟩, ⟨?_, ?_, ?_, ?_, ?_, ?_, h7, h8⟩, hmv, hwt, hlt, hl, hg, ⟨?_, ?_, ?_, ?_⟩, fun k hk => rE_cong (fun c hc => ho _ (by omega) (by omega)) (fun c _ => rfl) (hE k hk), fun c hc => rC_cong hc (fun j a b => ho _ (by omega) (by omega)) (hC c hc), ?_⟩
  · rw [ho 6 (by omega) (by omega)]; exact f6
  · rw [ho 10 (by omega) (by omega)]; exact f10
  · rw [ho 0 (by omega) (by omega)]; exact f0
  · rw [ho 1 (by omega) (by omega)]; exact f1
  · rw [ho 2 (by omega) (by omega)]; exact f2
  · rw [ho 5 (by omega) (by omega)]; exact f5
  · rw [ho 11 (by omega) (by omega)]; exact h11
  · rw [ho 11 (by omega) (by omega), hcn]; exact h11b
  · rw [hcn]; exact hnp
  · rw [hcn]; exact hu
  · rw [hcn, hEq]; exact rB_upd (rB_upd hB (by omega)) (by omega)
/-- what set does, on both sides -/
theorem set_rel {now : Nat → Int32} {np sz w : Nat} {S : AV} {lg gr mv v : Int32} (h : rA now np sz S lg gr mv) (hw : w < 3) (hv : ¬ m_isIn v (if nI w = 0 then 1 else 0) 100 = 0) (hno : nI w = 0 → e_wo (aEv S) 0 3 64 = 0) :
    now (6 + w) = (if nI w = 0 then nI sz else if nI w = 1 then lg else gr) ∧ ∃ s' : Nat, (if nI w = 0 then v else nI sz) = nI s' ∧ rA (upd now (6 + w) v) np s' S (if nI w = 0 then lg else if nI w = 1 then v else lg) (if nI w = 0 then gr else if nI w = 1 then gr else v) mv := by
  have hh := h
  obtain ⟨⟨z0, z1⟩, ⟨f6, f10, f0, f1, f2, f5, f7, f8⟩, hmv, hwt, hlt, hlg, hgr, -⟩ := h
  have e00 : nI 0 = 0 := rfl
  have e10 : ¬ nI 1 = 0 := by decide
  have e11 : nI 1 = 1 := rfl
  have e20 : ¬ nI 2 = 0 := by decide
  have e21 : ¬ nI 2 = 1 := by decide
  rcases (show w = 0 ∨ w = 1 ∨ w = 2 by omega) with rfl | rfl | rfl
  · simp only [if_pos e00]
    rw [if_pos e00] at hv
    obtain ⟨s', b1, b2⟩ := isIn_nat (v := v) (hi := 100) (b := 100) (fun e => hv (by
      rw [m_isIn0] at e ⊢
      rw [Int32.lt_iff_toInt_lt, Int32.lt_iff_toInt_lt, show (0 : Int32).toInt = 0 by decide] at e
      rw [Int32.lt_iff_toInt_lt, Int32.lt_iff_toInt_lt, show (1 : Int32).toInt = 1 by decide]
      omega)) (by decide)
    have hpos : 0 < s' := by
      have h1 := isIn1 hv
      rw [b2, nI_toInt (by omega), show (1 : Int32).toInt = 1 by decide] at h1
      omega
    refine ⟨f6, s', b2, ?_⟩
    rw [b2]
    exact set_rel0 hh (hno e00) ⟨hpos, b1⟩
  · simp only [if_neg e10, if_pos e11]
    rw [if_neg e10] at hv
    obtain ⟨g, b1, b2⟩ := isIn_nat (v := v) (hi := 100) (b := 100) hv (by decide)
    exact ⟨f7, sz, rfl, set_relX _ hh (fun j a b => pk_un a) pk_us (by rw [pk_un (by omega)]; exact f8) ⟨g, b1, b2⟩ hgr⟩
  · simp only [if_neg e20, if_neg e21]
    rw [if_neg e20] at hv
    obtain ⟨g, b1, b2⟩ := isIn_nat (v := v) (hi := 100) (b := 100) hv (by decide)
    exact ⟨f8, sz, rfl, set_relX _ hh (fun j a b => pk_un b) (by rw [pk_un (by omega)]; exact f7) pk_us hlg ⟨g, b1, b2⟩⟩
/-! moving back, on both sides -/
theorem mv_ff {now : Nat → Int32} {np sz v m0 : Nat} {to : Int32} (h0 : 0 < sz) (h1 : sz ≤ 100) (hv : v < 2000) (hto : to = nI m0 ∨ (to = -1 ∧ m0 = 0)) (hmv : m0 ≤ v) : ∀ j, j ≤ m0 / sz → m_mvL (nI v) to np sz 2000 now 0 0 = m_mvL (nI v) to np sz (2000 - j) now j 0
  | 0, _ => rfl
  | j + 1, hj => by
    rw [mv_ff h0 h1 hv hto hmv j (by omega)]
    have hm : m0 / sz ≤ m0 := Nat.div_le_self _ _
    have hjm : (j + 1) * sz ≤ m0 := (Nat.le_div_iff_mul_le h0).mp hj
    have e1 : ¬ nI v < nI ((j + 1) * sz) := fun e => by have := (nI_ltI (a := v) (b := (j + 1) * sz) (by omega) (by omega)).mp e; omega
    have hpos : 0 < (j + 1) * sz := Nat.mul_pos (by omega) h0
    have e2 : nI ((j + 1) * sz) ≤ to := by
      rcases hto with e | ⟨e, e'⟩
      · rw [e]; exact (nI_leI (a := (j + 1) * sz) (b := m0) (by omega) (by omega)).mpr hjm
      · omega
    rw [show 2000 - j = (2000 - (j + 1)) + 1 by omega, m_mvL, if_neg e1, if_pos e2]
theorem m_mvL_o {bef to : Int32} {np sz i : Nat} (hn : np ≤ 64) (hi : i < 396 ∨ 1068 ≤ i) (h9 : i ≠ 9) (h4 : i ≠ 4) : ∀ (n : Nat) (f : Nat → Int32) (b c : Nat), wOk f → (m_mvL bef to np sz n f b c).2 i = f i
  | 0, f, b, c, _ => rfl
  | n + 1, f, b, c, hw => by
    rw [m_mvL]
    by_cases c1 : bef < nI ((b + 1) * sz)
    · rw [if_pos c1]
    · rw [if_neg c1]
      by_cases c2 : nI ((b + 1) * sz) ≤ to
      · rw [if_pos c2]; exact m_mvL_o hn hi h9 h4 n f _ _ hw
      · rw [if_neg c2]
        by_cases c3 : ¬ m_mode f (nI b) np = 0
        · rw [if_pos c3]; exact m_mvL_o hn hi h9 h4 n f _ _ hw
        · rw [if_neg c3]
          by_cases c4 : m_fk f (nI b) np < np
          · rw [if_pos c4, m_mvL_o hn hi h9 h4 n _ _ _ (wOk_takes hw)]
            exact m_takes_o hw (by omega) h9 h4 (by omega)
          · rw [if_neg c4]; exact m_mvL_o hn hi h9 h4 n f _ _ hw
/-- where the watermark comes to -/
theorem mv_to {v t : Nat} (hv : v < 2000) (ht : t ≤ 100) : ∃ m0 : Nat, (if 0 < c_mk (nI v) (nI t) then c_mk (nI v) (nI t) else 0) = nI m0 ∧ m0 ≤ v ∧ (c_mk (nI v) (nI t) = nI m0 ∨ (c_mk (nI v) (nI t) = -1 ∧ m0 = 0)) := by
  have e : (nI v - nI t).toInt = (v : Int) - (t : Int) := pk_sub_toInt (by omega) (by omega)
  by_cases c : t ≤ v
  · have e2 : nI v - nI t = nI (v - t) := pk_sub c
    have e3 : c_mk (nI v) (nI t) = nI (v - t) := by
      rw [c_mk, if_pos, e2]
      rw [Int32.lt_iff_toInt_lt, e, show (-1 : Int32).toInt = -1 by decide]; omega
    rw [e3]
    refine ⟨v - t, ?_, by omega, Or.inl rfl⟩
    rcases Nat.eq_zero_or_pos (v - t) with z | z
    · rw [z]; decide
    · rw [if_pos (show (0 : Int32) < nI (v - t) from (nI_ltI (a := 0) (b := v - t) (by omega) (by omega)).mpr z)]
  · have e3 : c_mk (nI v) (nI t) = -1 := by
      rw [c_mk, if_neg]
      rw [Int32.lt_iff_toInt_lt, e, show (-1 : Int32).toInt = -1 by decide]; omega
    rw [e3]
    exact ⟨0, by decide, by omega, Or.inr ⟨rfl, rfl⟩⟩
theorem mvT_mk {now : Nat → Int32} {wt ti : Int32} (h : now 0 = wt) : m_mvT now ti = c_mk wt ti := by
  rw [m_mvT, c_mk, h]
  by_cases c : -1 < wt - ti
  · rw [if_pos c, if_pos]
    rw [Int32.lt_iff_toInt_lt] at c
    rw [Int32.le_iff_toInt_le]; omega
  · rw [if_neg c]
    by_cases c2 : -1 ≤ wt - ti
    · rw [if_pos c2]
      rw [Int32.lt_iff_toInt_lt] at c
      rw [Int32.le_iff_toInt_le] at c2
      rw [← Int32.toInt_inj]; omega
    · rw [if_neg c2]
def mvS (S : AV) (X : PW) (wt : Int32) : AV := (aEv S, aDb S, X.1, aU S, X.2.1, X.2.2.1, aTl S, X.2.2.2, aCb S, wt, aLt S)
theorem move_rel {now : Nat → Int32} {np sz v t m0 : Nat} {S : AV} {lg gr : Int32} (h : rA now np sz S lg gr 0) (hwt : aWt S = nI v) (hv : v < 2000) (ht : t ≤ 100) (hm0 : (if 0 < c_mk (nI v) (nI t) then c_mk (nI v) (nI t) else 0) = nI m0) (hmv : m0 ≤ v) (hto : c_mk (nI v) (nI t) = nI m0 ∨ (c_mk (nI v) (nI t) = -1 ∧ m0 = 0)) :
    (m_mv now (nI t) np sz).1 = (c_mbL v sz (aU S) (v / sz - m0 / sz) (m0 / sz) 0 (aPn S, aWd S, aW S, aTk S)).1 ∧ rA (upd (upd (m_mv now (nI t) np sz).2 0 (m_mvT now (nI t))) 2 1) np sz (mvS S (c_mbL v sz (aU S) (v / sz - m0 / sz) (m0 / sz) 0 (aPn S, aWd S, aW S, aTk S)).2 (c_mk (nI v) (nI t))) lg gr 1 := by
  obtain ⟨⟨z0, z1⟩, ⟨f6, f10, f0, f1, f2, f5, f7, f8⟩, -, hwt2, hlt, hlg, hgr, ⟨h11, h11b, hnp, hu⟩, hE, hC, hB⟩ := h
  have h0 : now 0 = nI v := f0.trans hwt
  have hTo := mvT_mk (ti := nI t) h0
  have hdv : m0 / sz ≤ v / sz := Nat.div_le_div_right hmv
  have hvz : v / sz ≤ v := Nat.div_le_self _ _
  have hw := rW_wN hB.2.2.2.2.2.1
  have hcn64 := m_cn_le now 64
  rw [m_mv, h0, hTo, mv_ff z0 z1 hv hto hmv (m0 / sz) (Nat.le_refl _)]
  have hst : rB now np sz (aPn S) (aU S) (aWd S) (aW S) (aTl S) (aTk S) (fun p => if m0 / sz ≤ p ∧ p < m0 / sz then (m0 : Int) - (if c_mk (nI v) (nI t) = -1 then 1 else 0) else (v : Int)) (fun p => if p < m0 / sz then m_cn now 64 + 1 else m_cn now 64) noE := by
    refine rB_monoWB hB (fun p _ => ?_) (fun p _ => ?_)
    · show (aWt S).toInt ≤ _
      rw [if_neg (by omega), hwt, nI_toInt (by omega)]; exact Int.le_refl _
    · show m_cn now 64 + (if (0 : Int32) = 1 then 1 else 0) ≤ _
      rw [if_neg (by decide)]; split <;> omega
  obtain ⟨r1, r2⟩ := mv_main (to := c_mk (nI v) (nI t)) z0 z1 hv hto hmv hcn64 (v / sz - m0 / sz) (m0 / sz) now (aPn S, aWd S, aW S, aTk S) 0 (2000 - m0 / sz) (by omega) (Nat.le_refl _) (by omega) hst
  refine ⟨r1, ?_⟩
  have ho : ∀ i, (i < 396 ∨ 1068 ≤ i) → i ≠ 9 → i ≠ 4 → (m_mvL (nI v) (c_mk (nI v) (nI t)) np sz (2000 - m0 / sz) now (m0 / sz) 0).2 i = now i := fun i hi a b => m_mvL_o hB.2.2.1 hi a b _ _ _ _ hw.2
  generalize m_mvL (nI v) (c_mk (nI v) (nI t)) np sz (2000 - m0 / sz) now (m0 / sz) 0 = M at *
  generalize c_mbL v sz (aU S) (v / sz - m0 / sz) (m0 / sz) 0 (aPn S, aWd S, aW S, aTk S) = Cc at *
  have hcn : m_cn (upd (upd M.2 0 (c_mk (nI v) (nI t))) 2 1) 64 = m_cn now 64 := m_cn_cong (fun j hj => by rw [pk_un (by omega), pk_un (by omega)]; exact ho _ (by omega) (by omega) (by omega))
  have hto2 : (c_mk (nI v) (nI t)).toInt = (m0 : Int) - (if c_mk (nI v) (nI t) = -1 then 1 else 0) := by
    rcases hto with e | ⟨e, e'⟩
    · have hne : ¬ nI m0 = -1 := fun e9 => by
        have := congrArg Int32.toInt e9
        rw [nI_toInt (by omega), show (-1 : Int32).toInt = -1 by decide] at this
        omega
      rw [e, if_neg hne, nI_toInt (by omega)]; omega
    · rw [e, e', if_pos rfl]; decide
  refine ⟨⟨z0, z1⟩, ⟨?_, ?_, ?_, ?_, ?_, ?_, ?_, ?_⟩, Or.inr rfl, ?_, hlt, hlg, hgr, ⟨?_, ?_, ?_, ?_⟩, fun k hk => ?_, fun c hc => ?_, ?_⟩
  · rw [pk_un (by omega), pk_un (by omega), ho 6 (by omega) (by omega) (by omega)]; exact f6
  · rw [pk_un (by omega), pk_un (by omega), ho 10 (by omega) (by omega) (by omega)]; exact f10
  · rw [pk_un (by omega)]; exact pk_us
  · rw [pk_un (by omega), pk_un (by omega), ho 1 (by omega) (by omega) (by omega)]; exact f1
  · exact pk_us
  · rw [pk_un (by omega), pk_un (by omega), ho 5 (by omega) (by omega) (by omega)]; exact f5
  · rw [pk_un (by omega), pk_un (by omega), ho 7 (by omega) (by omega) (by omega)]; exact f7
  · rw [pk_un (by omega), pk_un (by omega), ho 8 (by omega) (by omega) (by omega)]; exact f8
  · show c_mk (nI v) (nI t) = -1 ∨ ∃ v' : Nat, v' < 2000 ∧ c_mk (nI v) (nI t) = nI v'
    rcases hto with e | ⟨e, -⟩
    · exact Or.inr ⟨m0, by omega, e⟩
    · exact Or.inl e
  · rw [pk_un (by omega), pk_un (by omega), ho 11 (by omega) (by omega) (by omega)]; exact h11
  · rw [hcn, pk_un (by omega), pk_un (by omega), ho 11 (by omega) (by omega) (by omega)]; exact h11b
  · rw [hcn]; exact hnp
  · rw [hcn]; exact hu
  · exact rE_cong (fun c hc => by rw [pk_un (by omega), pk_un (by omega)]; exact ho _ (by omega) (by omega) (by omega)) (fun c _ => rfl) (hE k hk)
  · exact rC_cong hc (fun j a b => by rw [pk_un (by omega), pk_un (by omega)]; exact ho _ (by omega) (by omega) (by omega)) (hC c hc)
  · rw [hcn, if_pos rfl]
    refine rB_upd (rB_upd (rB_setW r2 (fun q hq hm hs => ?_)) (by omega)) (by omega)
    show _ ≤ (c_mk (nI v) (nI t)).toInt
    rw [hto2]
    obtain ⟨n9, a9, s9, -, -, -, ⟨y1, y2, y3, -⟩, -, y⟩ := r2.2.2.2.2.2.2.2.2 q hq
    have hs9 : s9 = 1 := (nI_eq (a := s9) (b := 1) (by omega) (by omega)).mp (y3.symm.trans hs)
    rcases y with ⟨x1, x2, x3⟩ | ⟨x1, -⟩ | ⟨x1, -⟩
    · have x4 : (((q + 1) * sz : Nat) : Int) ≤ (if m0 / sz ≤ q ∧ q < v / sz then (m0 : Int) - (if c_mk (nI v) (nI t) = -1 then 1 else 0) else (v : Int)) := x3 hs9
      by_cases c : m0 / sz ≤ q ∧ q < v / sz
      · rw [if_pos c] at x4; exact x4
      · rw [if_neg c] at x4
        have hqv : q + 1 ≤ v / sz := by rw [Nat.le_div_iff_mul_le z0]; exact_mod_cast x4
        have hqm : (q + 1) * sz ≤ m0 := (Nat.le_div_iff_mul_le z0).mp (by omega)
        have hm0p : 0 < m0 := Nat.lt_of_lt_of_le (Nat.mul_pos (by omega) z0) hqm
        rcases hto with e | ⟨e, e'⟩
        · have hne : ¬ c_mk (nI v) (nI t) = -1 := fun e9 => by
            have := congrArg Int32.toInt (e.symm.trans e9)
            rw [nI_toInt (by omega), show (-1 : Int32).toInt = -1 by decide] at this
            omega
          rw [if_neg hne]; omega
        · omega
    · rw [hm] at x1; exact absurd x1 (by decide)
    · rw [hm] at x1; exact absurd x1 (by decide)
