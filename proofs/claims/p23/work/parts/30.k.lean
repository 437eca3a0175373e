/-! an event on both sides -/
def rA (now : Nat → Int32) (np sz : Nat) (S : AV) (lg gr mv : Int32) : Prop :=
  (0 < sz ∧ sz ≤ 100) ∧ (now 6 = nI sz ∧ now 10 = nI np ∧ now 0 = aWt S ∧ now 1 = aLt S ∧ now 2 = mv ∧ now 5 = aDb S ∧ now 7 = lg ∧ now 8 = gr) ∧ (mv = 0 ∨ mv = 1) ∧
  (aWt S = -1 ∨ ∃ v : Nat, v < 2000 ∧ aWt S = nI v) ∧ (aLt S = -1 ∨ ∃ v : Nat, v < 2000 ∧ aLt S = nI v) ∧ (∃ g : Nat, g ≤ 100 ∧ lg = nI g) ∧ (∃ g : Nat, g ≤ 100 ∧ gr = nI g) ∧
  ((now 11 = 0 ∨ now 11 = 1) ∧ (now 11 = 1 ↔ 0 < m_cn now 64) ∧ np ≤ m_cn now 64 ∧ aU S ≤ m_cn now 64) ∧ (∀ k, k < 64 → rE now (aEv S) sz k) ∧ (∀ c, c < 3 → rC now (aCb S) c) ∧
  rB now np sz (aPn S) (aU S) (aWd S) (aW S) (aTl S) (aTk S) (fun _ => (aWt S).toInt) (fun _ => m_cn now 64 + (if mv = 1 then 1 else 0)) noE
theorem k_m0 {wt : Int32} (h : wt = -1 ∨ ∃ v : Nat, v < 2000 ∧ wt = nI v) : ∃ m0 : Nat, m0 < 2000 ∧ (if 0 < wt then wt else 0) = nI m0 ∧ (wt = nI m0 ∨ (wt = -1 ∧ m0 = 0)) ∧ (wt.toInt = -1 ∨ wt.toInt = (m0 : Int)) ∧ -1 ≤ wt.toInt := by
  rcases h with h | ⟨v, h1, h2⟩
  · exact ⟨0, by omega, by rw [h]; decide, Or.inr ⟨h, rfl⟩, Or.inl (by rw [h]; decide), by rw [h]; decide⟩
  · refine ⟨v, h1, ?_, Or.inl h2, Or.inr (by rw [h2, nI_toInt (by omega)]), by rw [h2, nI_toInt (by omega)]; omega⟩
    rw [h2]
    rcases Nat.eq_zero_or_pos v with e | e
    · rw [e]; decide
    · rw [if_pos (show (0 : Int32) < nI v from (nI_ltI (a := 0) (b := v) (by omega) (by omega)).mpr e)]
/-- the latest time and the watermark behind an event, on both sides: panes and words -/
theorem late_rel {now pn wd : Nat → Int32} {np sz u w t : Nat} {tl tk lg wt lt : Int32} {B : Nat → Nat} (h0 : 0 < sz) (h1 : sz ≤ 100) (ht : t < 2000) (hwt : now 0 = wt) (hlt : now 1 = lt) (hlg : now 7 = lg) (hw : wt = -1 ∨ ∃ v : Nat, v < 2000 ∧ wt = nI v) (hg : ∃ g : Nat, g ≤ 100 ∧ lg = nI g)
    (h : rB now np sz pn u wd w tl tk (fun _ => wt.toInt) B noE) :
    rB (m_late now t np sz) np sz (c_scN (pn, wd, w, tl) u lt wt lg sz t).1 u (c_scN (pn, wd, w, tl) u lt wt lg sz t).2.1 (c_scN (pn, wd, w, tl) u lt wt lg sz t).2.2.1 (c_scN (pn, wd, w, tl) u lt wt lg sz t).2.2.2 tk (fun _ => (c_wtN lt wt lg t).toInt) B noE ∧
    m_late now t np sz 0 = c_wtN lt wt lg t ∧ m_late now t np sz 1 = c_ltN lt t ∧ (∀ j, (j < 396 ∨ (1068 ≤ j ∧ j < 1080)) → j ≠ 0 → j ≠ 1 → j ≠ 3 → j ≠ 9 → m_late now t np sz j = now j) ∧ (c_wtN lt wt lg t = -1 ∨ ∃ v : Nat, v < 2000 ∧ c_wtN lt wt lg t = nI v) := by
  obtain ⟨g, hg1, hg2⟩ := hg
  rw [m_late, hlt, hlg, hwt, c_scN, c_wtN, c_ltN]
  by_cases c1 : nI t ≤ lt
  · rw [if_pos c1, if_pos c1, if_pos c1, if_pos c1]
    exact ⟨h, hwt, hlt, fun j _ _ _ _ _ => rfl, hw⟩
  · rw [if_neg c1, if_neg c1, if_neg c1, if_neg c1]
    by_cases c2 : nI t - lg ≤ wt
    · rw [if_pos c2, if_pos c2, if_pos c2]
      exact ⟨rB_upd h (by omega), by rw [pk_un (by omega)]; exact hwt, pk_us, fun j _ _ h1 _ _ => pk_un h1, hw⟩
    · rw [if_neg c2, if_neg c2, if_neg c2]
      obtain ⟨m0, m1, m2, m3, m4, m5⟩ := k_m0 hw
      have hti : (nI t - lg).toInt = (t : Int) - (g : Int) := by rw [hg2]; exact pk_sub_toInt (by omega) (by omega)
      have hgt : g ≤ t := by
        rw [Int32.le_iff_toInt_le, hti] at c2
        omega
      have hmk : nI t - lg = nI (t - g) := by rw [hg2]; exact pk_sub hgt
      have hle : wt.toInt ≤ ((t - g : Nat) : Int) := by
        rw [Int32.le_iff_toInt_le, hti] at c2
        omega
      have hN : upd now 1 (nI t) 0 = wt := (pk_un (by omega)).trans hwt
      have hB := rB_upd (x := nI t) h (j := 1) (by omega)
      have hw2 := rW_wN hB.2.2.2.2.2.1
      have hr := rB_rises (now := upd now 1 (nI t)) (m0 := m0) (mk := t - g) h0 h1 m1 (by omega) (by rw [hN]; exact m3) (by rw [hN]; exact hle) (by rw [hN]; exact hB)
      rw [hmk, c_lbs, m2, k_tdiv m1 h0 h1, k_tdiv (t := t - g) (by omega) h0 h1]
      refine ⟨?_, ?_, ?_, fun j hj h0' h1' h3' h9' => ?_, Or.inr ⟨t - g, by omega, rfl⟩⟩
      · rw [nI_toInt (by omega)]; exact hr
      · rw [m_rises_o hB.2.2.1 hB.2.1 hB.1 hw2.2 (Or.inl (by omega)) (by omega) (by omega), if_pos rfl]
      · rw [m_rises_o hB.2.2.1 hB.2.1 hB.1 hw2.2 (Or.inl (by omega)) (by omega) (by omega), if_neg (by omega)]; exact pk_us
      · rw [m_rises_o hB.2.2.1 hB.2.1 hB.1 hw2.2 (by omega) h9' h3', if_neg h0', pk_un h1']
/-- a pane is reopened, on both sides -/
theorem rB_reop {now pn wd : Nat → Int32} {np sz u w q i pf : Nat} {tl tk v : Int32} {W : Nat → Int} {B B' : Nat → Nat} {E : Nat → Prop} (hpf : 1068 ≤ pf) (h : rB now np sz pn u wd w tl tk W B E) (hq : q < 2000) (hce : v_ce pn u q) (hB : ∀ p, p < 2000 → B p ≤ B' p) (hBq : B q + 1 ≤ B' q) (hB9 : B q ≤ 1000) :
    rB (m_reop now (m_fk now (nI q) np) i pf v) np sz (upd (upd (p_take (pn, wd, w, tk) (p_rk pn (nI q) u)).1 (p_rk pn (nI q) u * 8 + 0) 2) (p_rk pn (nI q) u * 8 + 4) v) u (p_take (pn, wd, w, tk) (p_rk pn (nI q) u)).2.1 (p_take (pn, wd, w, tk) (p_rk pn (nI q) u)).2.2.1 tl (p_take (pn, wd, w, tk) (p_rk pn (nI q) u)).2.2.2 W B' E ∧ v_m (m_reop now (m_fk now (nI q) np) i pf v) np q 5 = 0 := by
  have hp := rB_upd (x := nI (i + 1)) h (j := pf) (Or.inr hpf)
  have hn64 := h.2.2.1
  have hfk : m_fk (upd now pf (nI (i + 1))) (nI q) np = m_fk now (nI q) np := m_fk_cong (fun j hj => pk_un (by omega))
  have ht := rB_take (B' := B') hp hq hce hB hBq hB9
  rw [hfk] at ht
  have hme : v_me now np q := by
    obtain ⟨n, a, s, -, -, g7, -⟩ := h.2.2.2.2.2.2.2.2 q hq
    exact g7 hce
  have hk64 : m_fk now (nI q) np < 64 := by have h9 : m_fk now (nI q) np < np := hme; omega
  have hwk := (rW_wN hp.2.2.2.2.2.1).2
  rw [m_reop]
  have hfk2 : m_fk (m_takes (upd now pf (nI (i + 1))) (m_fk now (nI q) np)) (nI q) np = m_fk now (nI q) np := by
    rw [m_fk_cong (now := upd now pf (nI (i + 1))) (fun j hj => m_takes_o hwk (by omega) (by omega) (by omega) (by omega)), hfk]
  have hce2 : v_ce (p_take (pn, wd, w, tk) (p_rk pn (nI q) u)).1 u q ∧ p_rk (p_take (pn, wd, w, tk) (p_rk pn (nI q) u)).1 (nI q) u = p_rk pn (nI q) u := by
    rw [p_take]
    split
    · exact ⟨hce, rfl⟩
    · exact ⟨(v_ce_upd (by omega) q).mpr hce, p_rk_upd (by omega) _⟩
  generalize m_takes (upd now pf (nI (i + 1))) (m_fk now (nI q) np) = f at *
  generalize (p_take (pn, wd, w, tk) (p_rk pn (nI q) u)) = T at *
  have hme2 : v_me f np q := by show m_fk f (nI q) np < np; rw [hfk2]; exact hme
  rw [← hfk2, ← hce2.2]
  refine rB_chg (q := q) ht.1 hq hce2.1 ht.2 (fun j hj => by have : m_fk f (nI q) np < 64 := by rw [hfk2]; exact hk64
                                                             rw [pk_un (by omega), pk_un (by omega)]) (fun j hj => by rw [pk_un (by omega), pk_un (by omega)]) (fun q' c' hq' h1' h2' h3' => ?_) (fun j hj => by rw [pk_un (by omega), pk_un (by omega)]) (fun q' c' hq' h2' h3' => ?_) (Or.inl ⟨?_, ?_, ?_⟩)
  · rw [v_m_upk (by rw [v_me_upk (by omega) (by omega)]; exact hme2) (by rw [m_fk_upd (by omega) (by omega)]) hq (by omega) (by omega) hq' h2', if_neg (by omega), v_m_upd hme2 hq (by omega) (by omega) hq' h2', if_neg (by omega)]
  · have h9 := v_c_upd (pn := upd T.1 (p_rk T.1 (nI q) u * 8 + 0) 2) (x := v) (c := 4) ((v_ce_upd (by omega) q).mpr hce2.1) hq (by omega) hq' (show c' < 8 by omega)
    rw [p_rk_upd (by omega)] at h9
    rw [h9, if_neg (by omega), v_c_upd hce2.1 hq (by omega) hq' (by omega), if_neg (by omega)]
  · rw [v_m_upk (by rw [v_me_upk (by omega) (by omega)]; exact hme2) (by rw [m_fk_upd (by omega) (by omega)]) hq (by omega) (by omega) hq (by omega), if_neg (by omega), v_m_upd hme2 hq (by omega) (by omega) hq (by omega), if_pos ⟨rfl, rfl⟩]
  · have h9 := v_c_upd (pn := upd T.1 (p_rk T.1 (nI q) u * 8 + 0) 2) (x := v) (c := 4) ((v_ce_upd (by omega) q).mpr hce2.1) hq (by omega) hq (show 0 < 8 by omega)
    rw [p_rk_upd (by omega)] at h9
    rw [h9, if_neg (by omega), v_c_upd hce2.1 hq (by omega) hq (by omega), if_pos ⟨rfl, rfl⟩]
  · have h9 := v_c_upd (pn := upd T.1 (p_rk T.1 (nI q) u * 8 + 0) 2) (x := v) (c := 4) ((v_ce_upd (by omega) q).mpr hce2.1) hq (by omega) hq (show 4 < 8 by omega)
    rw [p_rk_upd (by omega)] at h9
    rw [h9, if_pos ⟨rfl, rfl⟩, v_m_upk (by rw [v_me_upk (by omega) (by omega)]; exact hme2) (by rw [m_fk_upd (by omega) (by omega)]) hq (by omega) (by omega) hq (by omega), if_pos ⟨rfl, rfl⟩]
