set_option maxHeartbeats 4000000 in
set_option maxRecDepth 100000 in
theorem uQ_set (l : Launch) (D : va_G) (I C Q : ClassId) (y0 a0 : Nat) (x : Int32) (vv : Int32) (mm : MV) (xx : LV) (h : uR mm xx) : uP l D I C Q y0 a0 yX8_set yX9_set wsX8_set wsX9_set [.int x, .int vv] mm xx := by
  obtain ⟨ma, now, kept, ns, text, L9, att, num, rd⟩ := mm
  obtain ⟨ad, ⟨⟨ev, dbl, pn, u, wd, w, tl, tk, cb, wt, lt⟩, z, lg, gr, mv⟩, ⟨sg, L, ⟨xp, xn, xi, xt, xk, xa, xe⟩, xf, xr⟩, o, n, hs⟩ := xx
  obtain ⟨⟨np, hA⟩, ⟨e1, e2, hn, ho⟩, hH, hT, hsg⟩ := id h
  obtain rfl : ns = n := e1
  obtain rfl : L9 = L := e2
  obtain ⟨n, rfl⟩ : ∃ n9, n9 = ns := ⟨_, rfl⟩
  obtain ⟨L, rfl⟩ : ∃ n9, n9 = L9 := ⟨_, rfl⟩
  have hA : rA now np z (ev, dbl, pn, u, wd, w, tl, tk, cb, wt, lt) lg gr mv := hA
  have hn : n ≤ 4 := hn
  have ho : o < 4 := ho
  have hT : rT text sg L := hT
  have hH : uH kept o n hs := hH
  have hsg : ∀ i, i < L → narrow .char (.int (sg i)) = .int (sg i) := hsg
  obtain ⟨⟨z0, z1⟩, ⟨f6, f10, f0, f1, f2, f5, f7, f8⟩, hmv, hwt, hlt, hlg, hgr, ⟨h11, h11b, hnp, hu⟩, hE, hC, hB⟩ := id hA
  have f0 : now 0 = wt := f0
  have f2 : now 2 = mv := f2
  have hwt : wt = -1 ∨ ∃ v : Nat, v < 2000 ∧ wt = nI v := hwt
  obtain ⟨np64, hwk, hnk, u64, w40⟩ := uB hA
  have u64 : u ≤ 64 := u64
  have w40 : w ≤ 40 := w40
  by_cases hb1 : m_isIn x 0 2 = 0
  · exact uP_text (m' := (ma, now, kept, n, text, L, att, num, rd)) (v' := ((ev, dbl, pn, u, wd, w, tl, tk, cb, wt, lt), z, lg, gr, mv)) (t' := (sg, L, (xp, xn, xi, xt, xk, xa, xe), xf, xr)) (o' := o) (n' := n) (c_X9_setB l D I C Q a0 (ma 0) (ma 1) (ma 2) (ma 3) now kept (nI n) text (nI L) att num rd x vv (Or.inl hb1)) (by decide) (c_X8_setB l D I C Q y0 (ad 0) (ad 1) (ad 2) (ad 3) (ad 4) (ad 5) (ad 6) (ad 7) (ad 8) (ad 9) (ad 10) (ad 11) (ad 12) (ad 13) (ad 14) (ad 15) (ad 16) ev dbl pn (nI u) wd (nI w) tl tk cb (nI z) lg gr wt lt mv sg (nI L) xp xn xi xt xk xa xe xf xr (nI o) (nI n) (u_fp hs) x vv (Or.inl hb1)) (by decide) h
  · by_cases hb2 : m_isIn vv (if x = 0 then 1 else 0) 100 = 0
    · exact uP_text (m' := (ma, now, kept, n, text, L, att, num, rd)) (v' := ((ev, dbl, pn, u, wd, w, tl, tk, cb, wt, lt), z, lg, gr, mv)) (t' := (sg, L, (xp, xn, xi, xt, xk, xa, xe), xf, xr)) (o' := o) (n' := n) (c_X9_setB l D I C Q a0 (ma 0) (ma 1) (ma 2) (ma 3) now kept (nI n) text (nI L) att num rd x vv (Or.inr hb2)) (by decide) (c_X8_setB l D I C Q y0 (ad 0) (ad 1) (ad 2) (ad 3) (ad 4) (ad 5) (ad 6) (ad 7) (ad 8) (ad 9) (ad 10) (ad 11) (ad 12) (ad 13) (ad 14) (ad 15) (ad 16) ev dbl pn (nI u) wd (nI w) tl tk cb (nI z) lg gr wt lt mv sg (nI L) xp xn xi xt xk xa xe xf xr (nI o) (nI n) (u_fp hs) x vv (Or.inr hb2)) (by decide) h
    · obtain ⟨q, hq, rfl⟩ := isIn_nat (b := 2) hb1 (by decide)
      have hq3 : q < 3 := by omega
      have hq0 : nI q = 0 ↔ q = 0 := ⟨fun e => (nI_eq (a := q) (b := 0) (by omega) (by omega)).mp e, fun e => by rw [e]; rfl⟩
      have hb2' : ¬ m_isIn vv (if q = 0 then 1 else 0) 100 = 0 := by
        by_cases c : q = 0
        · rw [if_pos c]; rw [if_pos (hq0.mpr c)] at hb2; exact hb2
        · rw [if_neg c]; rw [if_neg (fun e => c (hq0.mp e))] at hb2; exact hb2
      by_cases hN : q = 0 ∧ ¬ e_wo ev 0 3 64 = 0
      · exact uP_text (m' := (ma, now, kept, n, text, L, att, num, rd)) (v' := ((ev, dbl, pn, u, wd, w, tl, tk, cb, wt, lt), z, lg, gr, mv)) (t' := (sg, L, (xp, xn, xi, xt, xk, xa, xe), xf, xr)) (o' := o) (n' := n) (c_X9_setN l D I C Q a0 (ma 0) (ma 1) (ma 2) (ma 3) now kept (nI n) text (nI L) att num rd q vv hq3 hb2' hN.1 ((any_rel hA).mpr hN.2)) (by decide) (c_X8_setN l D I C Q y0 (ad 0) (ad 1) (ad 2) (ad 3) (ad 4) (ad 5) (ad 6) (ad 7) (ad 8) (ad 9) (ad 10) (ad 11) (ad 12) (ad 13) (ad 14) (ad 15) (ad 16) ev dbl pn (nI u) wd (nI w) tl tk cb (nI z) lg gr wt lt mv sg (nI L) xp xn xi xt xk xa xe xf xr (nI o) (nI n) (u_fp hs) (nI q) vv hb1 hb2 (hq0.mpr hN.1) hN.2) (by decide) h
      · have hno : nI q = 0 → e_wo ev 0 3 64 = 0 := fun e => Classical.byContradiction (fun c => hN ⟨hq0.mp e, c⟩)
        obtain ⟨r1, s', r2, r3⟩ := set_rel hA hq3 hb2 hno
        have h9 := c_X9_setO l D I C Q a0 (ma 0) (ma 1) (ma 2) (ma 3) now kept n text (nI L) att num rd q vv hq3 hb2' hn (fun e c => (any_rel hA).mp c (hno (hq0.mpr e)))
        refine uP_keep (rb := ({ frames := 6, cells := 0, slots := 0, locals := 147 } : Room)) (rc := ({ frames := 6, cells := 13, slots := 1166, locals := 147 } : Room)) (m' := (ma, (upd now (6 + q) vv), (m_rec now kept n), (m_rns n), text, L, att, num, rd)) (v' := ((ev, dbl, pn, u, wd, w, tl, tk, cb, wt, lt), s', (if nI q = 0 then lg else if nI q = 1 then vv else lg), (if nI q = 0 then gr else if nI q = 1 then gr else vv), mv)) (t' := (sg, L, (xp, xn, xi, xt, xk, xa, xe), xf, xr)) (o' := h_ol o n) (n' := m_rns n) (h_pl o n) (h_pl4 o n) h9 (by decide) (by decide) (by decide) (fun pa v0 hh => ?_) (fun hh => ?_) (fun pa => ⟨⟨np, r3⟩, ⟨rfl, rfl, m_rns4 hn, h_ol4 n ho⟩, uH_keep hH hn ho hA pa, hT, hsg⟩)
        · have h8 := c_X8_setR l D I C Q y0 (ad 0) (ad 1) (ad 2) (ad 3) (ad 4) (ad 5) (ad 6) (ad 7) (ad 8) (ad 9) (ad 10) (ad 11) (ad 12) (ad 13) (ad 14) (ad 15) (ad 16) (pa 0) (pa 1) (pa 2) (pa 3) (pa 4) (pa 5) (pa 6) (pa 7) (pa 8) (pa 9) (pa 10) (pa 11) (pa 12) ev dbl pn (nI u) wd (nI w) tl tk cb (nI z) lg gr wt lt mv sg (nI L) xp xn xi xt xk xa xe xf xr o n (u_fp hs) (aEv (cS v0)) (aDb (cS v0)) (aPn (cS v0)) (nI (aU (cS v0))) (aWd (cS v0)) (nI (aW (cS v0))) (aTl (cS v0)) (aTk (cS v0)) (aCb (cS v0)) (nI (cZ v0)) (cLg v0) (cGr v0) (aWt (cS v0)) (aLt (cS v0)) (cMv v0) (nI q) vv hb1 hb2 hno hn ho hmv (u_fp_at hh)
          rw [r2, ← r1] at h8
          exact h8
        · have h8 := c_X8_setA l D I C Q y0 (ad 0) (ad 1) (ad 2) (ad 3) (ad 4) (ad 5) (ad 6) (ad 7) (ad 8) (ad 9) (ad 10) (ad 11) (ad 12) (ad 13) (ad 14) (ad 15) (ad 16) ev dbl pn (nI u) wd (nI w) tl tk cb (nI z) lg gr wt lt mv sg (nI L) xp xn xi xt xk xa xe xf xr o n (u_fp hs) (nI q) vv hb1 hb2 hno hn ho hmv (u_fp_no hh)
          rw [r2, ← r1] at h8
          exact h8
set_option maxHeartbeats 4000000 in
set_option maxRecDepth 100000 in
theorem uQ_event (l : Launch) (D : va_G) (I C Q : ClassId) (y0 a0 : Nat) (i : Int32) (tt : Int32) (key : Int32) (am : Int32) (x : Int32) (mm : MV) (xx : LV) (h : uR mm xx) : uP l D I C Q y0 a0 yX8_event yX9_event wsX8_event wsX9_event [.int i, .int tt, .int key, .int am, .int x] mm xx := by
  obtain ⟨ma, now, kept, ns, text, L9, att, num, rd⟩ := mm
  obtain ⟨ad, ⟨⟨ev, dbl, pn, u, wd, w, tl, tk, cb, wt, lt⟩, z, lg, gr, mv⟩, ⟨sg, L, ⟨xp, xn, xi, xt, xk, xa, xe⟩, xf, xr⟩, o, n, hs⟩ := xx
  obtain ⟨⟨np, hA⟩, ⟨e1, e2, hn, ho⟩, hH, hT, hsg⟩ := id h
  obtain rfl : ns = n := e1
  obtain rfl : L9 = L := e2
  obtain ⟨n, rfl⟩ : ∃ n9, n9 = ns := ⟨_, rfl⟩
  obtain ⟨L, rfl⟩ : ∃ n9, n9 = L9 := ⟨_, rfl⟩
  have hA : rA now np z (ev, dbl, pn, u, wd, w, tl, tk, cb, wt, lt) lg gr mv := hA
  have hn : n ≤ 4 := hn
  have ho : o < 4 := ho
  have hT : rT text sg L := hT
  have hH : uH kept o n hs := hH
  have hsg : ∀ i, i < L → narrow .char (.int (sg i)) = .int (sg i) := hsg
  obtain ⟨⟨z0, z1⟩, ⟨f6, f10, f0, f1, f2, f5, f7, f8⟩, hmv, hwt, hlt, hlg, hgr, ⟨h11, h11b, hnp, hu⟩, hE, hC, hB⟩ := id hA
  have f0 : now 0 = wt := f0
  have f2 : now 2 = mv := f2
  have hwt : wt = -1 ∨ ∃ v : Nat, v < 2000 ∧ wt = nI v := hwt
  obtain ⟨np64, hwk, hnk, u64, w40⟩ := uB hA
  have u64 : u ≤ 64 := u64
  have w40 : w ≤ 40 := w40
  by_cases hb : m_isEv i tt key am x = 0
  · exact uP_text (m' := (ma, now, kept, n, text, L, att, num, rd)) (v' := ((ev, dbl, pn, u, wd, w, tl, tk, cb, wt, lt), z, lg, gr, mv)) (t' := (sg, L, (xp, xn, xi, xt, xk, xa, xe), xf, xr)) (o' := o) (n' := n) (c_X9_eventB l D I C Q a0 (ma 0) (ma 1) (ma 2) (ma 3) now kept (nI n) text (nI L) att num rd i tt key am x hb) (by decide) (c_X8_eventB l D I C Q y0 (ad 0) (ad 1) (ad 2) (ad 3) (ad 4) (ad 5) (ad 6) (ad 7) (ad 8) (ad 9) (ad 10) (ad 11) (ad 12) (ad 13) (ad 14) (ad 15) (ad 16) ev dbl pn (nI u) wd (nI w) tl tk cb (nI z) lg gr wt lt mv sg (nI L) xp xn xi xt xk xa xe xf xr (nI o) (nI n) (u_fp hs) i tt key am x (uE.mp hb)) (by decide) h
  · have hb2 : ¬ x_isE i tt key am = 0 := fun e => hb (uE.mpr (Or.inl e))
    have hb3 : ¬ m_isIn x 0 3 = 0 := fun e => hb (uE.mpr (Or.inr e))
    obtain ⟨g1, g2, g3, g4⟩ := x_isE_in hb2
    obtain ⟨i, hi, rfl⟩ := isIn_nat (b := 63) g1 (by decide)
    obtain ⟨tt, ht, rfl⟩ := isIn_nat (b := 1999) g2 (by decide)
    obtain ⟨x, hx, rfl⟩ := isIn_nat (b := 3) hb3 (by decide)
    have hi : i < 64 := by omega
    have ht : tt < 2000 := by omega
    obtain ⟨⟨k1, k2, k3, k4, k5, k6⟩, k7⟩ := rA_good hA hi ht hx
    obtain ⟨r1, r2⟩ := come_rel (key := key) hA hi ht hx (isE_am g4)
    have h9 := c_X9_eventO l D I C Q a0 (ma 0) (ma 1) (ma 2) (ma 3) now kept n text (nI L) att num rd np z i tt key am x k1 k2 k3 z0 z1 k4 k5 ht hi hx k6 hn hb
    refine uP_keep (rb := ({ frames := 7, cells := 0, slots := 0, locals := 180 } : Room)) (rc := ({ frames := 7, cells := 13, slots := 1166, locals := 180 } : Room)) (m' := (ma, ((m_come now i tt key am x np z).2), (m_rec now kept n), (m_rns n), text, L, att, num, rd)) (v' := ((x_adm z lg gr (ev, dbl, pn, u, wd, w, tl, tk, cb, wt, lt) i tt key am (nI x)).2, z, lg, gr, mv)) (t' := (sg, L, (xp, xn, xi, xt, xk, xa, xe), xf, xr)) (o' := h_ol o n) (n' := m_rns n) (h_pl o n) (h_pl4 o n) h9 (by decide) (by decide) (by decide) (fun pa v0 hh => ?_) (fun hh => ?_) (fun pa => ⟨⟨_, r2⟩, ⟨rfl, rfl, m_rns4 hn, h_ol4 n ho⟩, uH_keep hH hn ho hA pa, hT, hsg⟩)
    · have h8 := c_X8_eventR l D I C Q y0 (ad 0) (ad 1) (ad 2) (ad 3) (ad 4) (ad 5) (ad 6) (ad 7) (ad 8) (ad 9) (ad 10) (ad 11) (ad 12) (ad 13) (ad 14) (ad 15) (ad 16) (pa 0) (pa 1) (pa 2) (pa 3) (pa 4) (pa 5) (pa 6) (pa 7) (pa 8) (pa 9) (pa 10) (pa 11) (pa 12) ev dbl pn u wd w tl tk cb z lg gr wt lt mv sg (nI L) xp xn xi xt xk xa xe xf xr o n (u_fp hs) (aEv (cS v0)) (aDb (cS v0)) (aPn (cS v0)) (nI (aU (cS v0))) (aWd (cS v0)) (nI (aW (cS v0))) (aTl (cS v0)) (aTk (cS v0)) (aCb (cS v0)) (nI (cZ v0)) (cLg v0) (cGr v0) (aWt (cS v0)) (aLt (cS v0)) (cMv v0) i tt key am (nI x) z0 z1 hi ht hb2 hb3 k7 hn ho hmv (u_fp_at hh)
      rw [← r1] at h8
      exact h8
    · have h8 := c_X8_eventA l D I C Q y0 (ad 0) (ad 1) (ad 2) (ad 3) (ad 4) (ad 5) (ad 6) (ad 7) (ad 8) (ad 9) (ad 10) (ad 11) (ad 12) (ad 13) (ad 14) (ad 15) (ad 16) ev dbl pn u wd w tl tk cb z lg gr wt lt mv sg (nI L) xp xn xi xt xk xa xe xf xr o n (u_fp hs) i tt key am (nI x) z0 z1 hi ht hb2 hb3 k7 hn ho hmv (u_fp_no hh)
      rw [← r1] at h8
      exact h8
set_option maxHeartbeats 4000000 in
set_option maxRecDepth 100000 in
theorem uQ_move (l : Launch) (D : va_G) (I C Q : ClassId) (y0 a0 : Nat) (ti : Int32) (mm : MV) (xx : LV) (h : uR mm xx) : uP l D I C Q y0 a0 yX8_move yX9_move wsX8_move wsX9_move [.int ti] mm xx := by
  obtain ⟨ma, now, kept, ns, text, L9, att, num, rd⟩ := mm
  obtain ⟨ad, ⟨⟨ev, dbl, pn, u, wd, w, tl, tk, cb, wt, lt⟩, z, lg, gr, mv⟩, ⟨sg, L, ⟨xp, xn, xi, xt, xk, xa, xe⟩, xf, xr⟩, o, n, hs⟩ := xx
  obtain ⟨⟨np, hA⟩, ⟨e1, e2, hn, ho⟩, hH, hT, hsg⟩ := id h
  obtain rfl : ns = n := e1
  obtain rfl : L9 = L := e2
  obtain ⟨n, rfl⟩ : ∃ n9, n9 = ns := ⟨_, rfl⟩
  obtain ⟨L, rfl⟩ : ∃ n9, n9 = L9 := ⟨_, rfl⟩
  have hA : rA now np z (ev, dbl, pn, u, wd, w, tl, tk, cb, wt, lt) lg gr mv := hA
  have hn : n ≤ 4 := hn
  have ho : o < 4 := ho
  have hT : rT text sg L := hT
  have hH : uH kept o n hs := hH
  have hsg : ∀ i, i < L → narrow .char (.int (sg i)) = .int (sg i) := hsg
  obtain ⟨⟨z0, z1⟩, ⟨f6, f10, f0, f1, f2, f5, f7, f8⟩, hmv, hwt, hlt, hlg, hgr, ⟨h11, h11b, hnp, hu⟩, hE, hC, hB⟩ := id hA
  have f0 : now 0 = wt := f0
  have f2 : now 2 = mv := f2
  have hwt : wt = -1 ∨ ∃ v : Nat, v < 2000 ∧ wt = nI v := hwt
  obtain ⟨np64, hwk, hnk, u64, w40⟩ := uB hA
  have u64 : u ≤ 64 := u64
  have w40 : w ≤ 40 := w40
  by_cases hb : m_isIn ti 1 100 = 0
  · exact uP_text (m' := (ma, now, kept, n, text, L, att, num, rd)) (v' := ((ev, dbl, pn, u, wd, w, tl, tk, cb, wt, lt), z, lg, gr, mv)) (t' := (sg, L, (xp, xn, xi, xt, xk, xa, xe), xf, xr)) (o' := o) (n' := n) (c_X9_moveB l D I C Q a0 (ma 0) (ma 1) (ma 2) (ma 3) now kept (nI n) text (nI L) att num rd ti hb) (by decide) (c_X8_moveB l D I C Q y0 (ad 0) (ad 1) (ad 2) (ad 3) (ad 4) (ad 5) (ad 6) (ad 7) (ad 8) (ad 9) (ad 10) (ad 11) (ad 12) (ad 13) (ad 14) (ad 15) (ad 16) ev dbl pn (nI u) wd (nI w) tl tk cb (nI z) lg gr wt lt mv sg (nI L) xp xn xi xt xk xa xe xf xr (nI o) (nI n) (u_fp hs) ti hb) (by decide) h
  · by_cases hm : mv = 1
    · exact uP_text (m' := (ma, now, kept, n, text, L, att, num, rd)) (v' := ((ev, dbl, pn, u, wd, w, tl, tk, cb, wt, lt), z, lg, gr, mv)) (t' := (sg, L, (xp, xn, xi, xt, xk, xa, xe), xf, xr)) (o' := o) (n' := n) (c_X9_moveN l D I C Q a0 (ma 0) (ma 1) (ma 2) (ma 3) now kept (nI n) text (nI L) att num rd ti hb (Or.inl (f2.trans hm))) (by decide) (c_X8_moveN l D I C Q y0 (ad 0) (ad 1) (ad 2) (ad 3) (ad 4) (ad 5) (ad 6) (ad 7) (ad 8) (ad 9) (ad 10) (ad 11) (ad 12) (ad 13) (ad 14) (ad 15) (ad 16) ev dbl pn (nI u) wd (nI w) tl tk cb (nI z) lg gr wt lt mv sg (nI L) xp xn xi xt xk xa xe xf xr (nI o) (nI n) (u_fp hs) ti hb (by rw [hm]; rfl)) (by decide) h
    · have hm0 : mv = 0 := hmv.resolve_right hm
      subst hm0
      rcases hwt with hw | ⟨v, hv, hw⟩
      · exact uP_text (m' := (ma, now, kept, n, text, L, att, num, rd)) (v' := ((ev, dbl, pn, u, wd, w, tl, tk, cb, wt, lt), z, lg, gr, 0)) (t' := (sg, L, (xp, xn, xi, xt, xk, xa, xe), xf, xr)) (o' := o) (n' := n) (c_X9_moveN l D I C Q a0 (ma 0) (ma 1) (ma 2) (ma 3) now kept (nI n) text (nI L) att num rd ti hb (Or.inr (f0.trans hw))) (by decide) (c_X8_moveN l D I C Q y0 (ad 0) (ad 1) (ad 2) (ad 3) (ad 4) (ad 5) (ad 6) (ad 7) (ad 8) (ad 9) (ad 10) (ad 11) (ad 12) (ad 13) (ad 14) (ad 15) (ad 16) ev dbl pn (nI u) wd (nI w) tl tk cb (nI z) lg gr wt lt 0 sg (nI L) xp xn xi xt xk xa xe xf xr (nI o) (nI n) (u_fp hs) ti hb (by rw [hw]; rfl)) (by decide) h
      · subst hw
        obtain ⟨ti, ht, rfl⟩ := isIn_nat1 hb
        obtain ⟨v1, v2⟩ := uV hv
        obtain ⟨m0, hm0, hmm, hto⟩ := mv_to (v := v) (t := ti) hv ht
        obtain ⟨r1, r2⟩ := move_rel hA rfl hv ht hm0 hmm hto
        have r1 : (m_mv now (nI ti) np z).1 = (c_mbL v z u (v / z - m0 / z) (m0 / z) 0 (pn, wd, w, tk)).1 := r1
        have h9 := c_X9_moveO l D I C Q a0 (ma 0) (ma 1) (ma 2) (ma 3) now kept n text (nI L) att num rd np z (nI ti) hb f10 np64 f6 z0 z1 hwk hnk (by rw [f0]; exact v1) hn (by rw [f2]; decide) (by rw [f0]; exact v2)
        rw [r1] at h9
        refine uP_keep (rb := ({ frames := 6, cells := 0, slots := 0, locals := 152 } : Room)) (rc := ({ frames := 6, cells := 13, slots := 1166, locals := 152 } : Room)) (m' := (ma, (upd (upd (m_mv now (nI ti) np z).2 0 (m_mvT now (nI ti))) 2 1), (m_rec now kept n), (m_rns n), text, L, att, num, rd)) (v' := (mvS (ev, dbl, pn, u, wd, w, tl, tk, cb, nI v, lt) (c_mbL v z u (v / z - m0 / z) (m0 / z) 0 (pn, wd, w, tk)).2 (c_mk (nI v) (nI ti)), z, lg, gr, 1)) (t' := (sg, L, (xp, xn, xi, xt, xk, xa, xe), xf, xr)) (o' := h_ol o n) (n' := m_rns n) (h_pl o n) (h_pl4 o n) h9 (by decide) (by decide) (by decide) (fun pa v0 hh => ?_) (fun hh => ?_) (fun pa => ⟨⟨np, r2⟩, ⟨rfl, rfl, m_rns4 hn, h_ol4 n ho⟩, uH_keep hH hn ho hA pa, hT, hsg⟩)
        · exact (c_X8_moveR l D I C Q y0 (ad 0) (ad 1) (ad 2) (ad 3) (ad 4) (ad 5) (ad 6) (ad 7) (ad 8) (ad 9) (ad 10) (ad 11) (ad 12) (ad 13) (ad 14) (ad 15) (ad 16) (pa 0) (pa 1) (pa 2) (pa 3) (pa 4) (pa 5) (pa 6) (pa 7) (pa 8) (pa 9) (pa 10) (pa 11) (pa 12) ev dbl pn u wd w tl tk cb z lg gr v lt 0 sg (nI L) xp xn xi xt xk xa xe xf xr o n (u_fp hs) (aEv (cS v0)) (aDb (cS v0)) (aPn (cS v0)) (nI (aU (cS v0))) (aWd (cS v0)) (nI (aW (cS v0))) (aTl (cS v0)) (aTk (cS v0)) (aCb (cS v0)) (nI (cZ v0)) (cLg v0) (cGr v0) (aWt (cS v0)) (aLt (cS v0)) (cMv v0) m0 (nI ti) hb z0 z1 u64 w40 hv hm0 hmm rfl v2 hn ho (Or.inl rfl) (u_fp_at hh))
        · exact (c_X8_moveA l D I C Q y0 (ad 0) (ad 1) (ad 2) (ad 3) (ad 4) (ad 5) (ad 6) (ad 7) (ad 8) (ad 9) (ad 10) (ad 11) (ad 12) (ad 13) (ad 14) (ad 15) (ad 16) ev dbl pn u wd w tl tk cb z lg gr v lt 0 sg (nI L) xp xn xi xt xk xa xe xf xr o n (u_fp hs) m0 (nI ti) hb z0 z1 u64 w40 hv hm0 hmm rfl v2 hn ho (Or.inl rfl) (u_fp_no hh))
set_option maxHeartbeats 4000000 in
set_option maxRecDepth 100000 in
theorem uQ_undo (l : Launch) (D : va_G) (I C Q : ClassId) (y0 a0 : Nat) (mm : MV) (xx : LV) (h : uR mm xx) : uP l D I C Q y0 a0 yX8_undo yX9_undo wsX8_undo wsX9_undo [] mm xx := by
  obtain ⟨ma, now, kept, ns, text, L9, att, num, rd⟩ := mm
  obtain ⟨ad, ⟨⟨ev, dbl, pn, u, wd, w, tl, tk, cb, wt, lt⟩, z, lg, gr, mv⟩, ⟨sg, L, ⟨xp, xn, xi, xt, xk, xa, xe⟩, xf, xr⟩, o, n, hs⟩ := xx
  obtain ⟨⟨np, hA⟩, ⟨e1, e2, hn, ho⟩, hH, hT, hsg⟩ := id h
  obtain rfl : ns = n := e1
  obtain rfl : L9 = L := e2
  obtain ⟨n, rfl⟩ : ∃ n9, n9 = ns := ⟨_, rfl⟩
  obtain ⟨L, rfl⟩ : ∃ n9, n9 = L9 := ⟨_, rfl⟩
  have hA : rA now np z (ev, dbl, pn, u, wd, w, tl, tk, cb, wt, lt) lg gr mv := hA
  have hn : n ≤ 4 := hn
  have ho : o < 4 := ho
  have hT : rT text sg L := hT
  have hH : uH kept o n hs := hH
  have hsg : ∀ i, i < L → narrow .char (.int (sg i)) = .int (sg i) := hsg
  obtain ⟨⟨z0, z1⟩, ⟨f6, f10, f0, f1, f2, f5, f7, f8⟩, hmv, hwt, hlt, hlg, hgr, ⟨h11, h11b, hnp, hu⟩, hE, hC, hB⟩ := id hA
  have f0 : now 0 = wt := f0
  have f2 : now 2 = mv := f2
  have hwt : wt = -1 ∨ ∃ v : Nat, v < 2000 ∧ wt = nI v := hwt
  obtain ⟨np64, hwk, hnk, u64, w40⟩ := uB hA
  have u64 : u ≤ 64 := u64
  have w40 : w ≤ 40 := w40
  have h9 := c_X9_undo l D I C Q a0 (ma 0) (ma 1) (ma 2) (ma 3) now kept n text (nI L) att num rd hn
  by_cases e : n = 0
  · subst e
    rw [if_pos rfl, if_pos rfl] at h9
    exact uP_text (m' := (ma, now, kept, 0, text, L, att, num, rd)) (v' := ((ev, dbl, pn, u, wd, w, tl, tk, cb, wt, lt), z, lg, gr, mv)) (t' := (sg, L, (xp, xn, xi, xt, xk, xa, xe), xf, xr)) (o' := o) (n' := 0) h9 (by decide) (c_X8_undoN l D I C Q y0 (ad 0) (ad 1) (ad 2) (ad 3) (ad 4) (ad 5) (ad 6) (ad 7) (ad 8) (ad 9) (ad 10) (ad 11) (ad 12) (ad 13) (ad 14) (ad 15) (ad 16) ev dbl pn (nI u) wd (nI w) tl tk cb (nI z) lg gr wt lt mv sg (nI L) xp xn xi xt xk xa xe xf xr (nI o) 0 (u_fp hs) rfl) (by decide) h
  · rw [if_neg e, if_neg e] at h9
    obtain ⟨pa, v', now1, np1, g1, g2, g3⟩ := hH (n - 1) (by omega)
    rw [show o + (n - 1) = o + n - 1 by omega] at g1
    have h9b := h9.re (ws' := uM I a0 (ma, now1, kept, (n - 1), text, L, att, num, rd)) (rm' := rm9) (by decide) (fun H hP => k_reP (g := now1) 1 hP rfl (fun i hi => by
      show (if i < 1080 then kept ((n - 1) * 1080 + i) else now i) = now1 i
      rw [if_pos hi]; exact g2 i hi)) (fun A hD => hD.set (p := 1) (e := .inl (I, 1080, .inl now1)) rfl)
    exact uP_undo (v' := v') (t' := (sg, L, (xp, xn, xi, xt, xk, xa, xe), xf, xr)) (o' := o) (n' := n - 1) ((o + n - 1) % 4) (by omega) g1 h9b (by decide) (by decide) (c_X8_undoO l D I C Q y0 (ad 0) (ad 1) (ad 2) (ad 3) (ad 4) (ad 5) (ad 6) (ad 7) (ad 8) (ad 9) (ad 10) (ad 11) (ad 12) (ad 13) (ad 14) (ad 15) (ad 16) (pa 0) (pa 1) (pa 2) (pa 3) (pa 4) (pa 5) (pa 6) (pa 7) (pa 8) (pa 9) (pa 10) (pa 11) (pa 12) ev dbl pn (nI u) wd (nI w) tl tk cb (nI z) lg gr wt lt mv sg (nI L) xp xn xi xt xk xa xe xf xr o n (u_fp hs) (aEv (cS v')) (aDb (cS v')) (aPn (cS v')) (nI (aU (cS v'))) (aWd (cS v')) (nI (aW (cS v'))) (aTl (cS v')) (aTk (cS v')) (aCb (cS v')) (nI (cZ v')) (cLg v') (cGr v') (aWt (cS v')) (aLt (cS v')) (cMv v') (by omega) hn ho (u_fp_at g1) g3.2.2.1) ⟨⟨np1, g3⟩, ⟨rfl, rfl, by show n - 1 ≤ 4; omega, ho⟩, uH_less hH (Nat.sub_le n 1), hT, hsg⟩
