set_option maxHeartbeats 4000000 in
set_option maxRecDepth 100000 in
theorem uQ_type (l : Launch) (D : va_G) (I C Q : ClassId) (y0 a0 : Nat) (ch : Int32) (mm : MV) (xx : LV) (h : uR mm xx) : uP l D I C Q y0 a0 yX8_type yX9_type wsX8_type wsX9_type [.int ch] mm xx := by
  obtain ⟨ma, now, kept, ns, text, L9, att, num, rd⟩ := mm
  obtain ⟨ad, ⟨⟨ev, dbl, pn, u, wd, w, tl, tk, cb, wt, lt⟩, z, lg, gr, mv⟩, ⟨sg, L, ⟨xp, xn, xi, xt, xk, xa, xe⟩, xf, xr⟩, o, n, hs⟩ := xx
  obtain ⟨⟨np, hA⟩, ⟨e1, e2, hn, ho⟩, hH, hT, hsg⟩ := id h
  obtain rfl : ns = n := e1
  obtain rfl : L9 = L := e2
  obtain ⟨n, rfl⟩ : ∃ n9, n9 = ns := ⟨_, rfl⟩
  obtain ⟨L, rfl⟩ : ∃ n9, n9 = L9 := ⟨_, rfl⟩
  have hA : rA now np z (ev, dbl, pn, u, wd, w, tl, tk, cb, wt, lt) lg gr mv := hA
  have hn : n ≤ 4 := hn
  have ho : o < 4 := ho
  have hT : rT text sg L := hT
  have hH : uH kept o n hs := hH
  have hsg : ∀ i, i < L → narrow .char (.int (sg i)) = .int (sg i) := hsg
  obtain ⟨⟨z0, z1⟩, ⟨f6, f10, f0, f1, f2, f5, f7, f8⟩, hmv, hwt, hlt, hlg, hgr, ⟨h11, h11b, hnp, hu⟩, hE, hC, hB⟩ := id hA
  have f0 : now 0 = wt := f0
  have f2 : now 2 = mv := f2
  have hwt : wt = -1 ∨ ∃ v : Nat, v < 2000 ∧ wt = nI v := hwt
  obtain ⟨np64, hwk, hnk, u64, w40⟩ := uB hA
  have u64 : u ≤ 64 := u64
  have w40 : w ≤ 40 := w40
  by_cases hb : m_isIn ch 32 126 = 0
  · exact uP_text (m' := (ma, now, kept, n, text, L, att, num, rd)) (v' := ((ev, dbl, pn, u, wd, w, tl, tk, cb, wt, lt), z, lg, gr, mv)) (t' := (sg, L, (xp, xn, xi, xt, xk, xa, xe), xf, xr)) (o' := o) (n' := n) (c_X9_typeB l D I C Q a0 (ma 0) (ma 1) (ma 2) (ma 3) now kept (nI n) text (nI L) att num rd ch hb) (by decide) (c_X8_typeB l D I C Q y0 (ad 0) (ad 1) (ad 2) (ad 3) (ad 4) (ad 5) (ad 6) (ad 7) (ad 8) (ad 9) (ad 10) (ad 11) (ad 12) (ad 13) (ad 14) (ad 15) (ad 16) ev dbl pn (nI u) wd (nI w) tl tk cb (nI z) lg gr wt lt mv sg (nI L) xp xn xi xt xk xa xe xf xr (nI o) (nI n) (u_fp hs) ch hb) (by decide) h
  · obtain ⟨c1, c2, c3⟩ := uCh2 hb
    by_cases h80 : L = 80
    · exact uP_text (m' := (ma, now, kept, n, text, L, att, num, rd)) (v' := ((ev, dbl, pn, u, wd, w, tl, tk, cb, wt, lt), z, lg, gr, mv)) (t' := (sg, L, (xp, xn, xi, xt, xk, xa, xe), xf, xr)) (o' := o) (n' := n) (c_X9_typeL l D I C Q a0 (ma 0) (ma 1) (ma 2) (ma 3) now kept (nI n) text L att num rd ch hb h80) (by decide) (c_X8_typeL l D I C Q y0 (ad 0) (ad 1) (ad 2) (ad 3) (ad 4) (ad 5) (ad 6) (ad 7) (ad 8) (ad 9) (ad 10) (ad 11) (ad 12) (ad 13) (ad 14) (ad 15) (ad 16) ev dbl pn (nI u) wd (nI w) tl tk cb (nI z) lg gr wt lt mv sg L xp xn xi xt xk xa xe xf xr (nI o) (nI n) (u_fp hs) ch hb c1 h80) (by decide) h
    · have h8 : L < 80 := by have := hT.1; omega
      refine uP_text (m' := (ma, now, kept, n, (upd text L ch), (L + 1), att, num, rd)) (v' := ((ev, dbl, pn, u, wd, w, tl, tk, cb, wt, lt), z, lg, gr, mv)) (t' := (upd sg L ch, L + 1, (xp, xn, xi, xt, xk, xa, xe), xf, xr)) (o' := o) (n' := n) (c_X9_typeO l D I C Q a0 (ma 0) (ma 1) (ma 2) (ma 3) now kept (nI n) text L att num rd ch hb h8) (by decide) (c_X8_typeO l D I C Q y0 (ad 0) (ad 1) (ad 2) (ad 3) (ad 4) (ad 5) (ad 6) (ad 7) (ad 8) (ad 9) (ad 10) (ad 11) (ad 12) (ad 13) (ad 14) (ad 15) (ad 16) ev dbl pn (nI u) wd (nI w) tl tk cb (nI z) lg gr wt lt mv sg L xp xn xi xt xk xa xe xf xr (nI o) (nI n) (u_fp hs) ch hb c1 h8 c2) (by decide) ⟨⟨np, hA⟩, ⟨rfl, rfl, hn, ho⟩, hH, ⟨by show L + 1 ≤ 80; omega, fun i hi => ?_⟩, fun i hi => ?_⟩
      · show upd sg L ch i = upd text L ch i
        have hi : i < L + 1 := hi
        by_cases e : i = L
        · rw [upd, upd, if_pos e, if_pos e]
        · rw [upd, upd, if_neg e, if_neg e]; exact hT.2 i (by omega)
      · show narrow .char (.int (upd sg L ch i)) = .int (upd sg L ch i)
        have hi : i < L + 1 := hi
        by_cases e : i = L
        · rw [upd, if_pos e]; exact c3
        · rw [upd, if_neg e]; exact hsg i (by omega)
set_option maxHeartbeats 4000000 in
set_option maxRecDepth 100000 in
theorem uQ_clearText (l : Launch) (D : va_G) (I C Q : ClassId) (y0 a0 : Nat) (mm : MV) (xx : LV) (h : uR mm xx) : uP l D I C Q y0 a0 yX8_clearText yX9_clearText wsX8_clearText wsX9_clearText [] mm xx := by
  obtain ⟨ma, now, kept, ns, text, L9, att, num, rd⟩ := mm
  obtain ⟨ad, ⟨⟨ev, dbl, pn, u, wd, w, tl, tk, cb, wt, lt⟩, z, lg, gr, mv⟩, ⟨sg, L, ⟨xp, xn, xi, xt, xk, xa, xe⟩, xf, xr⟩, o, n, hs⟩ := xx
  obtain ⟨⟨np, hA⟩, ⟨e1, e2, hn, ho⟩, hH, hT, hsg⟩ := id h
  obtain rfl : ns = n := e1
  obtain rfl : L9 = L := e2
  obtain ⟨n, rfl⟩ : ∃ n9, n9 = ns := ⟨_, rfl⟩
  obtain ⟨L, rfl⟩ : ∃ n9, n9 = L9 := ⟨_, rfl⟩
  have hA : rA now np z (ev, dbl, pn, u, wd, w, tl, tk, cb, wt, lt) lg gr mv := hA
  have hn : n ≤ 4 := hn
  have ho : o < 4 := ho
  have hT : rT text sg L := hT
  have hH : uH kept o n hs := hH
  have hsg : ∀ i, i < L → narrow .char (.int (sg i)) = .int (sg i) := hsg
  obtain ⟨⟨z0, z1⟩, ⟨f6, f10, f0, f1, f2, f5, f7, f8⟩, hmv, hwt, hlt, hlg, hgr, ⟨h11, h11b, hnp, hu⟩, hE, hC, hB⟩ := id hA
  have f0 : now 0 = wt := f0
  have f2 : now 2 = mv := f2
  have hwt : wt = -1 ∨ ∃ v : Nat, v < 2000 ∧ wt = nI v := hwt
  obtain ⟨np64, hwk, hnk, u64, w40⟩ := uB hA
  have u64 : u ≤ 64 := u64
  have w40 : w ≤ 40 := w40
  exact uP_text (m' := (ma, now, kept, n, text, 0, att, num, rd)) (v' := ((ev, dbl, pn, u, wd, w, tl, tk, cb, wt, lt), z, lg, gr, mv)) (t' := (sg, 0, (xp, xn, xi, xt, xk, xa, xe), xf, xr)) (o' := o) (n' := n) (c_X9_clearText l D I C Q a0 (ma 0) (ma 1) (ma 2) (ma 3) now kept (nI n) text (nI L) att num rd ) (by decide) (c_X8_clearText l D I C Q y0 (ad 0) (ad 1) (ad 2) (ad 3) (ad 4) (ad 5) (ad 6) (ad 7) (ad 8) (ad 9) (ad 10) (ad 11) (ad 12) (ad 13) (ad 14) (ad 15) (ad 16) ev dbl pn (nI u) wd (nI w) tl tk cb (nI z) lg gr wt lt mv sg (nI L) xp xn xi xt xk xa xe xf xr (nI o) (nI n) (u_fp hs) ) (by decide) ⟨⟨np, hA⟩, ⟨rfl, rfl, hn, ho⟩, hH, ⟨by show 0 ≤ 80; omega, fun i hi => absurd hi (Nat.not_lt_zero i)⟩, fun i hi => absurd hi (Nat.not_lt_zero i)⟩
set_option maxHeartbeats 4000000 in
set_option maxRecDepth 100000 in
theorem uQ_fault (l : Launch) (D : va_G) (I C Q : ClassId) (y0 a0 : Nat) (x : Int32) (mm : MV) (xx : LV) (h : uR mm xx) : uP l D I C Q y0 a0 yX8_fault yX9_fault wsX8_fault wsX9_fault [.int x] mm xx := by
  obtain ⟨ma, now, kept, ns, text, L9, att, num, rd⟩ := mm
  obtain ⟨ad, ⟨⟨ev, dbl, pn, u, wd, w, tl, tk, cb, wt, lt⟩, z, lg, gr, mv⟩, ⟨sg, L, ⟨xp, xn, xi, xt, xk, xa, xe⟩, xf, xr⟩, o, n, hs⟩ := xx
  obtain ⟨⟨np, hA⟩, ⟨e1, e2, hn, ho⟩, hH, hT, hsg⟩ := id h
  obtain rfl : ns = n := e1
  obtain rfl : L9 = L := e2
  obtain ⟨n, rfl⟩ : ∃ n9, n9 = ns := ⟨_, rfl⟩
  obtain ⟨L, rfl⟩ : ∃ n9, n9 = L9 := ⟨_, rfl⟩
  have hA : rA now np z (ev, dbl, pn, u, wd, w, tl, tk, cb, wt, lt) lg gr mv := hA
  have hn : n ≤ 4 := hn
  have ho : o < 4 := ho
  have hT : rT text sg L := hT
  have hH : uH kept o n hs := hH
  have hsg : ∀ i, i < L → narrow .char (.int (sg i)) = .int (sg i) := hsg
  obtain ⟨⟨z0, z1⟩, ⟨f6, f10, f0, f1, f2, f5, f7, f8⟩, hmv, hwt, hlt, hlg, hgr, ⟨h11, h11b, hnp, hu⟩, hE, hC, hB⟩ := id hA
  have f0 : now 0 = wt := f0
  have f2 : now 2 = mv := f2
  have hwt : wt = -1 ∨ ∃ v : Nat, v < 2000 ∧ wt = nI v := hwt
  obtain ⟨np64, hwk, hnk, u64, w40⟩ := uB hA
  have u64 : u ≤ 64 := u64
  have w40 : w ≤ 40 := w40
  by_cases hb : m_isIn x 0 1 = 0
  · exact uP_text (m' := (ma, now, kept, n, text, L, att, num, rd)) (v' := ((ev, dbl, pn, u, wd, w, tl, tk, cb, wt, lt), z, lg, gr, mv)) (t' := (sg, L, (xp, xn, xi, xt, xk, xa, xe), xf, xr)) (o' := o) (n' := n) (c_X9_faultB l D I C Q a0 (ma 0) (ma 1) (ma 2) (ma 3) now kept (nI n) text (nI L) att num rd x hb) (by decide) (c_X8_faultB l D I C Q y0 (ad 0) (ad 1) (ad 2) (ad 3) (ad 4) (ad 5) (ad 6) (ad 7) (ad 8) (ad 9) (ad 10) (ad 11) (ad 12) (ad 13) (ad 14) (ad 15) (ad 16) ev dbl pn (nI u) wd (nI w) tl tk cb (nI z) lg gr wt lt mv sg (nI L) xp xn xi xt xk xa xe xf xr (nI o) (nI n) (u_fp hs) x hb) (by decide) h
  · have h9 := c_X9_faultO l D I C Q a0 (ma 0) (ma 1) (ma 2) (ma 3) now kept (nI n) text L att num rd x hT.1 hb
    have hr : t_fl text L num rd x = (if (x_hfL sg L 80 0 (xp, xn, xi, xt, xk, xa, xe) xf xr).1 = 0 then -1000004 else if x = 0 then (x_hfL sg L 80 0 (xp, xn, xi, xt, xk, xa, xe) xf xr).2.2.1 else (x_hfL sg L 80 0 (xp, xn, xi, xt, xk, xa, xe) xf xr).2.2.2) := fault_rel (J := (xp, xn, xi, xt, xk, xa, xe)) hT hb
    rw [hr] at h9
    exact uP_text (m' := (ma, now, kept, n, text, L, (nI ((t_fo text L num rd).2.1)), ((t_fo text L num rd).2.2.1), ((t_fo text L num rd).2.2.2))) (v' := ((ev, dbl, pn, u, wd, w, tl, tk, cb, wt, lt), z, lg, gr, mv)) (t' := (sg, L, (x_hfL sg L 80 0 (xp, xn, xi, xt, xk, xa, xe) xf xr).2.1, (x_hfL sg L 80 0 (xp, xn, xi, xt, xk, xa, xe) xf xr).2.2.1, (x_hfL sg L 80 0 (xp, xn, xi, xt, xk, xa, xe) xf xr).2.2.2)) (o' := o) (n' := n) h9 (by decide) (c_X8_faultO l D I C Q y0 (ad 0) (ad 1) (ad 2) (ad 3) (ad 4) (ad 5) (ad 6) (ad 7) (ad 8) (ad 9) (ad 10) (ad 11) (ad 12) (ad 13) (ad 14) (ad 15) (ad 16) ev dbl pn (nI u) wd (nI w) tl tk cb (nI z) lg gr wt lt mv sg L xp xn xi xt xk xa xe xf xr (nI o) (nI n) (u_fp hs) x hT.1 hsg hb) (by decide) ⟨⟨np, hA⟩, ⟨rfl, rfl, hn, ho⟩, hH, hT, hsg⟩
set_option maxHeartbeats 4000000 in
set_option maxRecDepth 100000 in
theorem uQ_play (l : Launch) (D : va_G) (I C Q : ClassId) (y0 a0 : Nat) (mm : MV) (xx : LV) (h : uR mm xx) : uP l D I C Q y0 a0 yX8_play yX9_play wsX8_play wsX9_play [] mm xx := by
  obtain ⟨ma, now, kept, ns, text, L9, att, num, rd⟩ := mm
  obtain ⟨ad, ⟨⟨ev, dbl, pn, u, wd, w, tl, tk, cb, wt, lt⟩, z, lg, gr, mv⟩, ⟨sg, L, ⟨xp, xn, xi, xt, xk, xa, xe⟩, xf, xr⟩, o, n, hs⟩ := xx
  obtain ⟨⟨np, hA⟩, ⟨e1, e2, hn, ho⟩, hH, hT, hsg⟩ := id h
  obtain rfl : ns = n := e1
  obtain rfl : L9 = L := e2
  obtain ⟨n, rfl⟩ : ∃ n9, n9 = ns := ⟨_, rfl⟩
  obtain ⟨L, rfl⟩ : ∃ n9, n9 = L9 := ⟨_, rfl⟩
  have hA : rA now np z (ev, dbl, pn, u, wd, w, tl, tk, cb, wt, lt) lg gr mv := hA
  have hn : n ≤ 4 := hn
  have ho : o < 4 := ho
  have hT : rT text sg L := hT
  have hH : uH kept o n hs := hH
  have hsg : ∀ i, i < L → narrow .char (.int (sg i)) = .int (sg i) := hsg
  obtain ⟨⟨z0, z1⟩, ⟨f6, f10, f0, f1, f2, f5, f7, f8⟩, hmv, hwt, hlt, hlg, hgr, ⟨h11, h11b, hnp, hu⟩, hE, hC, hB⟩ := id hA
  have f0 : now 0 = wt := f0
  have f2 : now 2 = mv := f2
  have hwt : wt = -1 ∨ ∃ v : Nat, v < 2000 ∧ wt = nI v := hwt
  obtain ⟨np64, hwk, hnk, u64, w40⟩ := uB hA
  have u64 : u ≤ 64 := u64
  have w40 : w ≤ 40 := w40
  obtain ⟨F, hF⟩ : ∃ q, q = (t_fo text L num rd) := ⟨_, rfl⟩
  obtain ⟨Y, hY⟩ : ∃ q, q = (x_hfL sg L 80 0 (xp, xn, xi, xt, xk, xa, xe) xf xr) := ⟨_, rfl⟩
  have hF0 : t_flL text L 80 0 num rd = F := by rw [hF, t_fo]
  rcases fault_L hT 80 0 num rd (xp, xn, xi, xt, xk, xa, xe) xf xr (by omega) with ⟨a, b⟩ | ⟨p, r, p1, r1, a, b, -, -⟩
  · have hv := x_val_of hT 80 0 (xp, xn, xi, xt, xk, xa, xe) xf xr (by have := hT.1; omega) b
    obtain ⟨k1, k2, k3, np', k4⟩ := play_L hT 80 0 (t_fo text L num rd).2.2.1 (t_fo text L num rd).2.2.2 (x_hfL sg L 80 0 (xp, xn, xi, xt, xk, xa, xe) xf xr).2.1 now np (ev, dbl, pn, u, wd, w, tl, tk, cb, wt, lt) 0 hA hv
    have h9 := c_X9_playO l D I C Q a0 (ma 0) (ma 1) (ma 2) (ma 3) now kept n text L att num rd np z hT.1 (by rw [← hF, ← hF0, a]; decide) hn z0 z1 k1
    obtain ⟨G, hG⟩ : ∃ q, q = (m_plL text L z 80 0 (t_fo text L num rd).2.2.1 (t_fo text L num rd).2.2.2 now np 0) := ⟨_, rfl⟩
    obtain ⟨P, hP⟩ : ∃ q, q = (x_plL sg L z lg gr 80 0 (x_hfL sg L 80 0 (xp, xn, xi, xt, xk, xa, xe) xf xr).2.1 (ev, dbl, pn, u, wd, w, tl, tk, cb, wt, lt) 0) := ⟨_, rfl⟩
    rw [← hG, ← hP] at k3 k4
    rw [← hG, k3] at h9
    refine uP_keep (rb := ({ frames := 7, cells := 0, slots := 0, locals := 180 } : Room)) (rc := ({ frames := 7, cells := 13, slots := 1166, locals := 180 } : Room)) (m' := (ma, G.2.2.2.2, (m_rec now kept n), (m_rns n), text, L, (nI G.2.1), G.2.2.1, G.2.2.2.1)) (v' := (P.2.2, z, lg, gr, mv)) (t' := (sg, L, P.2.1, Y.2.2.1, Y.2.2.2)) (o' := h_ol o n) (n' := m_rns n) (h_pl o n) (h_pl4 o n) h9 (by decide) (by decide) (by decide) (fun pa v0 hh => ?_) (fun hh => ?_) (fun pa => ⟨⟨np', k4⟩, ⟨rfl, rfl, m_rns4 hn, h_ol4 n ho⟩, uH_keep hH hn ho hA pa, hT, hsg⟩)
    · have h8 := c_X8_playR l D I C Q y0 (ad 0) (ad 1) (ad 2) (ad 3) (ad 4) (ad 5) (ad 6) (ad 7) (ad 8) (ad 9) (ad 10) (ad 11) (ad 12) (ad 13) (ad 14) (ad 15) (ad 16) (pa 0) (pa 1) (pa 2) (pa 3) (pa 4) (pa 5) (pa 6) (pa 7) (pa 8) (pa 9) (pa 10) (pa 11) (pa 12) ev dbl pn u wd w tl tk cb z lg gr wt lt mv sg L xp xn xi xt xk xa xe xf xr o n (u_fp hs) (aEv (cS v0)) (aDb (cS v0)) (aPn (cS v0)) (nI (aU (cS v0))) (aWd (cS v0)) (nI (aW (cS v0))) (aTl (cS v0)) (aTk (cS v0)) (aCb (cS v0)) (nI (cZ v0)) (cLg v0) (cGr v0) (aWt (cS v0)) (aLt (cS v0)) (cMv v0) hT.1 hsg z0 z1 b k2 hn ho hmv (u_fp_at hh)
      rw [← hP, ← hY] at h8
      exact h8
    · have h8 := c_X8_playA l D I C Q y0 (ad 0) (ad 1) (ad 2) (ad 3) (ad 4) (ad 5) (ad 6) (ad 7) (ad 8) (ad 9) (ad 10) (ad 11) (ad 12) (ad 13) (ad 14) (ad 15) (ad 16) ev dbl pn u wd w tl tk cb z lg gr wt lt mv sg L xp xn xi xt xk xa xe xf xr o n (u_fp hs) hT.1 hsg z0 z1 b k2 hn ho hmv (u_fp_no hh)
      rw [← hP, ← hY] at h8
      exact h8
  · have hp : 0 ≤ (t_fo text L num rd).1 := by
      have h8 := hT.1
      rw [← hF, ← hF0, a, Int32.le_iff_toInt_le, nI_toInt (by rcases r1 with e | e <;> omega), show (0 : Int32).toInt = 0 by decide]
      omega
    have h9 := c_X9_playN l D I C Q a0 (ma 0) (ma 1) (ma 2) (ma 3) now kept (nI n) text L att num rd hT.1 hp
    have h8 := c_X8_playN l D I C Q y0 (ad 0) (ad 1) (ad 2) (ad 3) (ad 4) (ad 5) (ad 6) (ad 7) (ad 8) (ad 9) (ad 10) (ad 11) (ad 12) (ad 13) (ad 14) (ad 15) (ad 16) ev dbl pn (nI u) wd (nI w) tl tk cb (nI z) lg gr wt lt mv sg L xp xn xi xt xk xa xe xf xr (nI o) (nI n) (u_fp hs) hT.1 hsg (by rw [b]; decide)
    rw [← hF] at h9
    rw [← hY] at h8
    exact uP_text (m' := (ma, now, kept, n, text, L, (nI F.2.1), F.2.2.1, F.2.2.2)) (v' := ((ev, dbl, pn, u, wd, w, tl, tk, cb, wt, lt), z, lg, gr, mv)) (t' := (sg, L, Y.2.1, Y.2.2.1, Y.2.2.2)) (o' := o) (n' := n) h9 (by decide) h8 (by decide) ⟨⟨np, hA⟩, ⟨rfl, rfl, hn, ho⟩, hH, hT, hsg⟩
