set_option maxHeartbeats 4000000 in
set_option maxRecDepth 100000 in
theorem uQ_paneOf (l : Launch) (D : va_G) (I C Q : ClassId) (y0 a0 : Nat) (q : Int32) (x : Int32) (mm : MV) (xx : LV) (h : uR mm xx) : uP l D I C Q y0 a0 yX8_paneOf yX9_paneOf wsX8_paneOf wsX9_paneOf [.int q, .int x] mm xx := by
  obtain ⟨ma, now, kept, ns, text, L9, att, num, rd⟩ := mm
  obtain ⟨ad, ⟨⟨ev, dbl, pn, u, wd, w, tl, tk, cb, wt, lt⟩, z, lg, gr, mv⟩, ⟨sg, L, ⟨xp, xn, xi, xt, xk, xa, xe⟩, xf, xr⟩, o, n, hs⟩ := xx
  obtain ⟨⟨np, hA⟩, ⟨e1, e2, hn, ho⟩, hH, hT, hsg⟩ := id h
  obtain rfl : ns = n := e1
  obtain rfl : L9 = L := e2
  obtain ⟨n, rfl⟩ : ∃ n9, n9 = ns := ⟨_, rfl⟩
  obtain ⟨L, rfl⟩ : ∃ n9, n9 = L9 := ⟨_, rfl⟩
  have hA : rA now np z (ev, dbl, pn, u, wd, w, tl, tk, cb, wt, lt) lg gr mv := hA
  have hn : n ≤ 4 := hn
  have ho : o < 4 := ho
  have hT : rT text sg L := hT
  have hH : uH kept o n hs := hH
  have hsg : ∀ i, i < L → narrow .char (.int (sg i)) = .int (sg i) := hsg
  obtain ⟨⟨z0, z1⟩, ⟨f6, f10, f0, f1, f2, f5, f7, f8⟩, hmv, hwt, hlt, hlg, hgr, ⟨h11, h11b, hnp, hu⟩, hE, hC, hB⟩ := id hA
  have f0 : now 0 = wt := f0
  have f2 : now 2 = mv := f2
  have hwt : wt = -1 ∨ ∃ v : Nat, v < 2000 ∧ wt = nI v := hwt
  obtain ⟨np64, hwk, hnk, u64, w40⟩ := uB hA
  have u64 : u ≤ 64 := u64
  have w40 : w ≤ 40 := w40
  by_cases hb1 : x_ht q z = 0
  · exact uP_text (m' := (ma, now, kept, n, text, L, att, num, rd)) (v' := ((ev, dbl, pn, u, wd, w, tl, tk, cb, wt, lt), z, lg, gr, mv)) (t' := (sg, L, (xp, xn, xi, xt, xk, xa, xe), xf, xr)) (o' := o) (n' := n) (c_X9_paneOfB l D I C Q a0 (ma 0) (ma 1) (ma 2) (ma 3) now kept (nI n) text (nI L) att num rd z q x f6 z0 z1 (Or.inl (by rw [isP_rel]; exact hb1))) (by decide) (c_X8_paneOfB l D I C Q y0 (ad 0) (ad 1) (ad 2) (ad 3) (ad 4) (ad 5) (ad 6) (ad 7) (ad 8) (ad 9) (ad 10) (ad 11) (ad 12) (ad 13) (ad 14) (ad 15) (ad 16) ev dbl pn (nI u) wd (nI w) tl tk cb z lg gr wt lt mv sg (nI L) xp xn xi xt xk xa xe xf xr (nI o) (nI n) (u_fp hs) q x (Or.inl hb1)) (by decide) h
  · by_cases hb2 : m_isIn x 0 6 = 0
    · exact uP_text (m' := (ma, now, kept, n, text, L, att, num, rd)) (v' := ((ev, dbl, pn, u, wd, w, tl, tk, cb, wt, lt), z, lg, gr, mv)) (t' := (sg, L, (xp, xn, xi, xt, xk, xa, xe), xf, xr)) (o' := o) (n' := n) (c_X9_paneOfB l D I C Q a0 (ma 0) (ma 1) (ma 2) (ma 3) now kept (nI n) text (nI L) att num rd z q x f6 z0 z1 (Or.inr hb2)) (by decide) (c_X8_paneOfB l D I C Q y0 (ad 0) (ad 1) (ad 2) (ad 3) (ad 4) (ad 5) (ad 6) (ad 7) (ad 8) (ad 9) (ad 10) (ad 11) (ad 12) (ad 13) (ad 14) (ad 15) (ad 16) ev dbl pn (nI u) wd (nI w) tl tk cb z lg gr wt lt mv sg (nI L) xp xn xi xt xk xa xe xf xr (nI o) (nI n) (u_fp hs) q x (Or.inr hb2)) (by decide) h
    · obtain ⟨p, hp, rfl⟩ := x_ht_nat hb1
      obtain ⟨x, hx, rfl⟩ := isIn_nat (b := 6) hb2 (by decide)
      have h9 := c_X9_paneOfO l D I C Q a0 (ma 0) (ma 1) (ma 2) (ma 3) now kept (nI n) text (nI L) att num rd np z p x f10 np64 f6 z0 z1 (by rw [isP_rel]; exact hb1) hp (by omega)
      have hr : m_paneOf now p x np z = x_paneOf pn u wt z (nI p) x := paneOf_rel hA hp (by omega)
      rw [hr] at h9
      exact uP_text (m' := (ma, now, kept, n, text, L, att, num, rd)) (v' := ((ev, dbl, pn, u, wd, w, tl, tk, cb, wt, lt), z, lg, gr, mv)) (t' := (sg, L, (xp, xn, xi, xt, xk, xa, xe), xf, xr)) (o' := o) (n' := n) h9 (by decide) (c_X8_paneOfO l D I C Q y0 (ad 0) (ad 1) (ad 2) (ad 3) (ad 4) (ad 5) (ad 6) (ad 7) (ad 8) (ad 9) (ad 10) (ad 11) (ad 12) (ad 13) (ad 14) (ad 15) (ad 16) ev dbl pn u wd (nI w) tl tk cb z lg gr wt lt mv sg (nI L) xp xn xi xt xk xa xe xf xr (nI o) (nI n) (u_fp hs) (nI p) x u64 hb1 (by omega)) (by decide) h
set_option maxHeartbeats 4000000 in
set_option maxRecDepth 100000 in
theorem uQ_mean (l : Launch) (D : va_G) (I C Q : ClassId) (y0 a0 : Nat) (q : Int32) (mm : MV) (xx : LV) (h : uR mm xx) : uP l D I C Q y0 a0 yX8_mean yX9_mean wsX8_mean wsX9_mean [.int q] mm xx := by
  obtain ⟨ma, now, kept, ns, text, L9, att, num, rd⟩ := mm
  obtain ⟨ad, ⟨⟨ev, dbl, pn, u, wd, w, tl, tk, cb, wt, lt⟩, z, lg, gr, mv⟩, ⟨sg, L, ⟨xp, xn, xi, xt, xk, xa, xe⟩, xf, xr⟩, o, n, hs⟩ := xx
  obtain ⟨⟨np, hA⟩, ⟨e1, e2, hn, ho⟩, hH, hT, hsg⟩ := id h
  obtain rfl : ns = n := e1
  obtain rfl : L9 = L := e2
  obtain ⟨n, rfl⟩ : ∃ n9, n9 = ns := ⟨_, rfl⟩
  obtain ⟨L, rfl⟩ : ∃ n9, n9 = L9 := ⟨_, rfl⟩
  have hA : rA now np z (ev, dbl, pn, u, wd, w, tl, tk, cb, wt, lt) lg gr mv := hA
  have hn : n ≤ 4 := hn
  have ho : o < 4 := ho
  have hT : rT text sg L := hT
  have hH : uH kept o n hs := hH
  have hsg : ∀ i, i < L → narrow .char (.int (sg i)) = .int (sg i) := hsg
  obtain ⟨⟨z0, z1⟩, ⟨f6, f10, f0, f1, f2, f5, f7, f8⟩, hmv, hwt, hlt, hlg, hgr, ⟨h11, h11b, hnp, hu⟩, hE, hC, hB⟩ := id hA
  have f0 : now 0 = wt := f0
  have f2 : now 2 = mv := f2
  have hwt : wt = -1 ∨ ∃ v : Nat, v < 2000 ∧ wt = nI v := hwt
  obtain ⟨np64, hwk, hnk, u64, w40⟩ := uB hA
  have u64 : u ≤ 64 := u64
  have w40 : w ≤ 40 := w40
  by_cases hb1 : x_ht q z = 0
  · exact uP_text (m' := (ma, now, kept, n, text, L, att, num, rd)) (v' := ((ev, dbl, pn, u, wd, w, tl, tk, cb, wt, lt), z, lg, gr, mv)) (t' := (sg, L, (xp, xn, xi, xt, xk, xa, xe), xf, xr)) (o' := o) (n' := n) (c_X9_meanB l D I C Q a0 (ma 0) (ma 1) (ma 2) (ma 3) now kept (nI n) text (nI L) att num rd z q f6 z0 z1 (by rw [isP_rel]; exact hb1)) (by decide) (c_X8_meanB l D I C Q y0 (ad 0) (ad 1) (ad 2) (ad 3) (ad 4) (ad 5) (ad 6) (ad 7) (ad 8) (ad 9) (ad 10) (ad 11) (ad 12) (ad 13) (ad 14) (ad 15) (ad 16) ev dbl pn (nI u) wd (nI w) tl tk cb z lg gr wt lt mv sg (nI L) xp xn xi xt xk xa xe xf xr (nI o) (nI n) (u_fp hs) q hb1) (by decide) h
  · obtain ⟨p, hp, rfl⟩ := x_ht_nat hb1
    obtain ⟨r1, k, k1, k2, k3, k4, k5⟩ := mean_rel hA hp
    have r1 : m_mean now z (nI p) = x_mean pn u (nI p) := r1
    have h9 := c_X9_meanO l D I C Q a0 (ma 0) (ma 1) (ma 2) (ma 3) now kept (nI n) text (nI L) att num rd z k (nI p) f6 z0 z1 (by rw [isP_rel]; exact hb1) k2 k1 k4
    rw [r1] at h9
    exact uP_text (m' := (ma, now, kept, n, text, L, att, num, rd)) (v' := ((ev, dbl, pn, u, wd, w, tl, tk, cb, wt, lt), z, lg, gr, mv)) (t' := (sg, L, (xp, xn, xi, xt, xk, xa, xe), xf, xr)) (o' := o) (n' := n) h9 (by decide) (c_X8_meanO l D I C Q y0 (ad 0) (ad 1) (ad 2) (ad 3) (ad 4) (ad 5) (ad 6) (ad 7) (ad 8) (ad 9) (ad 10) (ad 11) (ad 12) (ad 13) (ad 14) (ad 15) (ad 16) ev dbl pn u wd (nI w) tl tk cb z lg gr wt lt mv sg (nI L) xp xn xi xt xk xa xe xf xr (nI o) (nI n) (u_fp hs) k (nI p) u64 hb1 k3 k1 k5) (by decide) h
set_option maxHeartbeats 4000000 in
set_option maxRecDepth 100000 in
theorem uQ_standing (l : Launch) (D : va_G) (I C Q : ClassId) (y0 a0 : Nat) (q : Int32) (x : Int32) (mm : MV) (xx : LV) (h : uR mm xx) : uP l D I C Q y0 a0 yX8_standing yX9_standing wsX8_standing wsX9_standing [.int q, .int x] mm xx := by
  obtain ⟨ma, now, kept, ns, text, L9, att, num, rd⟩ := mm
  obtain ⟨ad, ⟨⟨ev, dbl, pn, u, wd, w, tl, tk, cb, wt, lt⟩, z, lg, gr, mv⟩, ⟨sg, L, ⟨xp, xn, xi, xt, xk, xa, xe⟩, xf, xr⟩, o, n, hs⟩ := xx
  obtain ⟨⟨np, hA⟩, ⟨e1, e2, hn, ho⟩, hH, hT, hsg⟩ := id h
  obtain rfl : ns = n := e1
  obtain rfl : L9 = L := e2
  obtain ⟨n, rfl⟩ : ∃ n9, n9 = ns := ⟨_, rfl⟩
  obtain ⟨L, rfl⟩ : ∃ n9, n9 = L9 := ⟨_, rfl⟩
  have hA : rA now np z (ev, dbl, pn, u, wd, w, tl, tk, cb, wt, lt) lg gr mv := hA
  have hn : n ≤ 4 := hn
  have ho : o < 4 := ho
  have hT : rT text sg L := hT
  have hH : uH kept o n hs := hH
  have hsg : ∀ i, i < L → narrow .char (.int (sg i)) = .int (sg i) := hsg
  obtain ⟨⟨z0, z1⟩, ⟨f6, f10, f0, f1, f2, f5, f7, f8⟩, hmv, hwt, hlt, hlg, hgr, ⟨h11, h11b, hnp, hu⟩, hE, hC, hB⟩ := id hA
  have f0 : now 0 = wt := f0
  have f2 : now 2 = mv := f2
  have hwt : wt = -1 ∨ ∃ v : Nat, v < 2000 ∧ wt = nI v := hwt
  obtain ⟨np64, hwk, hnk, u64, w40⟩ := uB hA
  have u64 : u ≤ 64 := u64
  have w40 : w ≤ 40 := w40
  by_cases hb1 : x_ht q z = 0
  · exact uP_text (m' := (ma, now, kept, n, text, L, att, num, rd)) (v' := ((ev, dbl, pn, u, wd, w, tl, tk, cb, wt, lt), z, lg, gr, mv)) (t' := (sg, L, (xp, xn, xi, xt, xk, xa, xe), xf, xr)) (o' := o) (n' := n) (c_X9_standingB l D I C Q a0 (ma 0) (ma 1) (ma 2) (ma 3) now kept (nI n) text (nI L) att num rd z q x f6 z0 z1 (Or.inl (by rw [isP_rel]; exact hb1))) (by decide) (c_X8_standingB l D I C Q y0 (ad 0) (ad 1) (ad 2) (ad 3) (ad 4) (ad 5) (ad 6) (ad 7) (ad 8) (ad 9) (ad 10) (ad 11) (ad 12) (ad 13) (ad 14) (ad 15) (ad 16) ev dbl pn (nI u) wd (nI w) tl tk cb z lg gr wt lt mv sg (nI L) xp xn xi xt xk xa xe xf xr (nI o) (nI n) (u_fp hs) q x (Or.inl hb1)) (by decide) h
  · by_cases hb2 : m_isIn x 0 1 = 0
    · exact uP_text (m' := (ma, now, kept, n, text, L, att, num, rd)) (v' := ((ev, dbl, pn, u, wd, w, tl, tk, cb, wt, lt), z, lg, gr, mv)) (t' := (sg, L, (xp, xn, xi, xt, xk, xa, xe), xf, xr)) (o' := o) (n' := n) (c_X9_standingB l D I C Q a0 (ma 0) (ma 1) (ma 2) (ma 3) now kept (nI n) text (nI L) att num rd z q x f6 z0 z1 (Or.inr hb2)) (by decide) (c_X8_standingB l D I C Q y0 (ad 0) (ad 1) (ad 2) (ad 3) (ad 4) (ad 5) (ad 6) (ad 7) (ad 8) (ad 9) (ad 10) (ad 11) (ad 12) (ad 13) (ad 14) (ad 15) (ad 16) ev dbl pn (nI u) wd (nI w) tl tk cb z lg gr wt lt mv sg (nI L) xp xn xi xt xk xa xe xf xr (nI o) (nI n) (u_fp hs) q x (Or.inr hb2)) (by decide) h
    · obtain ⟨p, hp, rfl⟩ := x_ht_nat hb1
      obtain ⟨x, hx, rfl⟩ := isIn_nat (b := 1) hb2 (by decide)
      have h9 := c_X9_standingO l D I C Q a0 (ma 0) (ma 1) (ma 2) (ma 3) now kept (nI n) text (nI L) att num rd np z p x f10 np64 f6 z0 z1 (by rw [isP_rel]; exact hb1) hp (by omega)
      have hr : m_stand now p x np = x_stand pn u (nI p) x := stand_rel hA hp (by omega)
      rw [hr] at h9
      exact uP_text (m' := (ma, now, kept, n, text, L, att, num, rd)) (v' := ((ev, dbl, pn, u, wd, w, tl, tk, cb, wt, lt), z, lg, gr, mv)) (t' := (sg, L, (xp, xn, xi, xt, xk, xa, xe), xf, xr)) (o' := o) (n' := n) h9 (by decide) (c_X8_standingO l D I C Q y0 (ad 0) (ad 1) (ad 2) (ad 3) (ad 4) (ad 5) (ad 6) (ad 7) (ad 8) (ad 9) (ad 10) (ad 11) (ad 12) (ad 13) (ad 14) (ad 15) (ad 16) ev dbl pn u wd (nI w) tl tk cb z lg gr wt lt mv sg (nI L) xp xn xi xt xk xa xe xf xr (nI o) (nI n) (u_fp hs) (nI p) x u64 hb1 (by omega)) (by decide) h
set_option maxHeartbeats 4000000 in
set_option maxRecDepth 100000 in
theorem uQ_nextPane (l : Launch) (D : va_G) (I C Q : ClassId) (y0 a0 : Nat) (q : Int32) (mm : MV) (xx : LV) (h : uR mm xx) : uP l D I C Q y0 a0 yX8_nextPane yX9_nextPane wsX8_nextPane wsX9_nextPane [.int q] mm xx := by
  obtain ⟨ma, now, kept, ns, text, L9, att, num, rd⟩ := mm
  obtain ⟨ad, ⟨⟨ev, dbl, pn, u, wd, w, tl, tk, cb, wt, lt⟩, z, lg, gr, mv⟩, ⟨sg, L, ⟨xp, xn, xi, xt, xk, xa, xe⟩, xf, xr⟩, o, n, hs⟩ := xx
  obtain ⟨⟨np, hA⟩, ⟨e1, e2, hn, ho⟩, hH, hT, hsg⟩ := id h
  obtain rfl : ns = n := e1
  obtain rfl : L9 = L := e2
  obtain ⟨n, rfl⟩ : ∃ n9, n9 = ns := ⟨_, rfl⟩
  obtain ⟨L, rfl⟩ : ∃ n9, n9 = L9 := ⟨_, rfl⟩
  have hA : rA now np z (ev, dbl, pn, u, wd, w, tl, tk, cb, wt, lt) lg gr mv := hA
  have hn : n ≤ 4 := hn
  have ho : o < 4 := ho
  have hT : rT text sg L := hT
  have hH : uH kept o n hs := hH
  have hsg : ∀ i, i < L → narrow .char (.int (sg i)) = .int (sg i) := hsg
  obtain ⟨⟨z0, z1⟩, ⟨f6, f10, f0, f1, f2, f5, f7, f8⟩, hmv, hwt, hlt, hlg, hgr, ⟨h11, h11b, hnp, hu⟩, hE, hC, hB⟩ := id hA
  have f0 : now 0 = wt := f0
  have f2 : now 2 = mv := f2
  have hwt : wt = -1 ∨ ∃ v : Nat, v < 2000 ∧ wt = nI v := hwt
  obtain ⟨np64, hwk, hnk, u64, w40⟩ := uB hA
  have u64 : u ≤ 64 := u64
  have w40 : w ≤ 40 := w40
  by_cases hb1 : m_isIn q (-1) 1999 = 0
  · exact uP_text (m' := (ma, now, kept, n, text, L, att, num, rd)) (v' := ((ev, dbl, pn, u, wd, w, tl, tk, cb, wt, lt), z, lg, gr, mv)) (t' := (sg, L, (xp, xn, xi, xt, xk, xa, xe), xf, xr)) (o' := o) (n' := n) (c_X9_nextPaneB l D I C Q a0 (ma 0) (ma 1) (ma 2) (ma 3) now kept (nI n) text (nI L) att num rd q hb1) (by decide) (c_X8_nextPaneB l D I C Q y0 (ad 0) (ad 1) (ad 2) (ad 3) (ad 4) (ad 5) (ad 6) (ad 7) (ad 8) (ad 9) (ad 10) (ad 11) (ad 12) (ad 13) (ad 14) (ad 15) (ad 16) ev dbl pn (nI u) wd (nI w) tl tk cb (nI z) lg gr wt lt mv sg (nI L) xp xn xi xt xk xa xe xf xr (nI o) (nI n) (u_fp hs) q hb1) (by decide) h
  · have h1 := isIn1 hb1
    rw [show (-1 : Int32).toInt = -1 by decide, show (1999 : Int32).toInt = 1999 by decide] at h1
    have h9 := c_X9_nextPaneO l D I C Q a0 (ma 0) (ma 1) (ma 2) (ma 3) now kept (nI n) text (nI L) att num rd np z q f10 np64 f6 z0 z1 hb1 h1.1 hnk
    have hr : m_npL now np z 2000 q = p_beh pn q u := nextPane_L (rA_B hA) 2000 q h1.1 (by omega)
    rw [hr] at h9
    exact uP_text (m' := (ma, now, kept, n, text, L, att, num, rd)) (v' := ((ev, dbl, pn, u, wd, w, tl, tk, cb, wt, lt), z, lg, gr, mv)) (t' := (sg, L, (xp, xn, xi, xt, xk, xa, xe), xf, xr)) (o' := o) (n' := n) h9 (by decide) (c_X8_nextPaneO l D I C Q y0 (ad 0) (ad 1) (ad 2) (ad 3) (ad 4) (ad 5) (ad 6) (ad 7) (ad 8) (ad 9) (ad 10) (ad 11) (ad 12) (ad 13) (ad 14) (ad 15) (ad 16) ev dbl pn u wd (nI w) tl tk cb (nI z) lg gr wt lt mv sg (nI L) xp xn xi xt xk xa xe xf xr (nI o) (nI n) (u_fp hs) q u64 hb1) (by decide) h
set_option maxHeartbeats 4000000 in
set_option maxRecDepth 100000 in
theorem uQ_wordAt (l : Launch) (D : va_G) (I C Q : ClassId) (y0 a0 : Nat) (x : Int32) (y : Int32) (mm : MV) (xx : LV) (h : uR mm xx) : uP l D I C Q y0 a0 yX8_wordAt yX9_wordAt wsX8_wordAt wsX9_wordAt [.int x, .int y] mm xx := by
  obtain ⟨ma, now, kept, ns, text, L9, att, num, rd⟩ := mm
  obtain ⟨ad, ⟨⟨ev, dbl, pn, u, wd, w, tl, tk, cb, wt, lt⟩, z, lg, gr, mv⟩, ⟨sg, L, ⟨xp, xn, xi, xt, xk, xa, xe⟩, xf, xr⟩, o, n, hs⟩ := xx
  obtain ⟨⟨np, hA⟩, ⟨e1, e2, hn, ho⟩, hH, hT, hsg⟩ := id h
  obtain rfl : ns = n := e1
  obtain rfl : L9 = L := e2
  obtain ⟨n, rfl⟩ : ∃ n9, n9 = ns := ⟨_, rfl⟩
  obtain ⟨L, rfl⟩ : ∃ n9, n9 = L9 := ⟨_, rfl⟩
  have hA : rA now np z (ev, dbl, pn, u, wd, w, tl, tk, cb, wt, lt) lg gr mv := hA
  have hn : n ≤ 4 := hn
  have ho : o < 4 := ho
  have hT : rT text sg L := hT
  have hH : uH kept o n hs := hH
  have hsg : ∀ i, i < L → narrow .char (.int (sg i)) = .int (sg i) := hsg
  obtain ⟨⟨z0, z1⟩, ⟨f6, f10, f0, f1, f2, f5, f7, f8⟩, hmv, hwt, hlt, hlg, hgr, ⟨h11, h11b, hnp, hu⟩, hE, hC, hB⟩ := id hA
  have f0 : now 0 = wt := f0
  have f2 : now 2 = mv := f2
  have hwt : wt = -1 ∨ ∃ v : Nat, v < 2000 ∧ wt = nI v := hwt
  obtain ⟨np64, hwk, hnk, u64, w40⟩ := uB hA
  have u64 : u ≤ 64 := u64
  have w40 : w ≤ 40 := w40
  by_cases hb1 : x < 0
  · exact uP_text (m' := (ma, now, kept, n, text, L, att, num, rd)) (v' := ((ev, dbl, pn, u, wd, w, tl, tk, cb, wt, lt), z, lg, gr, mv)) (t' := (sg, L, (xp, xn, xi, xt, xk, xa, xe), xf, xr)) (o' := o) (n' := n) (c_X9_wordAtB l D I C Q a0 (ma 0) (ma 1) (ma 2) (ma 3) now kept (nI n) text (nI L) att num rd x y (Or.inl hb1)) (by decide) (c_X8_wordAtB l D I C Q y0 (ad 0) (ad 1) (ad 2) (ad 3) (ad 4) (ad 5) (ad 6) (ad 7) (ad 8) (ad 9) (ad 10) (ad 11) (ad 12) (ad 13) (ad 14) (ad 15) (ad 16) ev dbl pn (nI u) wd (nI w) tl tk cb (nI z) lg gr wt lt mv sg (nI L) xp xn xi xt xk xa xe xf xr (nI o) (nI n) (u_fp hs) x y (Or.inl hb1)) (by decide) h
  · by_cases hb2 : m_isIn y 0 3 = 0
    · exact uP_text (m' := (ma, now, kept, n, text, L, att, num, rd)) (v' := ((ev, dbl, pn, u, wd, w, tl, tk, cb, wt, lt), z, lg, gr, mv)) (t' := (sg, L, (xp, xn, xi, xt, xk, xa, xe), xf, xr)) (o' := o) (n' := n) (c_X9_wordAtB l D I C Q a0 (ma 0) (ma 1) (ma 2) (ma 3) now kept (nI n) text (nI L) att num rd x y (Or.inr hb2)) (by decide) (c_X8_wordAtB l D I C Q y0 (ad 0) (ad 1) (ad 2) (ad 3) (ad 4) (ad 5) (ad 6) (ad 7) (ad 8) (ad 9) (ad 10) (ad 11) (ad 12) (ad 13) (ad 14) (ad 15) (ad 16) ev dbl pn (nI u) wd (nI w) tl tk cb (nI z) lg gr wt lt mv sg (nI L) xp xn xi xt xk xa xe xf xr (nI o) (nI n) (u_fp hs) x y (Or.inr hb2)) (by decide) h
    · obtain ⟨x, hx, rfl⟩ := nat_nn hb1
      obtain ⟨y, hy, rfl⟩ := isIn_nat (b := 3) hb2 (by decide)
      have h9 := c_X9_wordAtO l D I C Q a0 (ma 0) (ma 1) (ma 2) (ma 3) now kept (nI n) text (nI L) att num rd x y hwk hx (by omega)
      have hr : m_word now x y = if w ≤ x then -1000004 else wd (x * 4 + y) := word_rel hA (by omega)
      rw [hr] at h9
      exact uP_text (m' := (ma, now, kept, n, text, L, att, num, rd)) (v' := ((ev, dbl, pn, u, wd, w, tl, tk, cb, wt, lt), z, lg, gr, mv)) (t' := (sg, L, (xp, xn, xi, xt, xk, xa, xe), xf, xr)) (o' := o) (n' := n) h9 (by decide) (c_X8_wordAtO l D I C Q y0 (ad 0) (ad 1) (ad 2) (ad 3) (ad 4) (ad 5) (ad 6) (ad 7) (ad 8) (ad 9) (ad 10) (ad 11) (ad 12) (ad 13) (ad 14) (ad 15) (ad 16) ev dbl pn (nI u) wd w tl tk cb (nI z) lg gr wt lt mv sg (nI L) xp xn xi xt xk xa xe xf xr (nI o) (nI n) (u_fp hs) x y w40 hx (by omega) hb2) (by decide) h
set_option maxHeartbeats 4000000 in
set_option maxRecDepth 100000 in
theorem uQ_eventOf (l : Launch) (D : va_G) (I C Q : ClassId) (y0 a0 : Nat) (x : Int32) (y : Int32) (mm : MV) (xx : LV) (h : uR mm xx) : uP l D I C Q y0 a0 yX8_eventOf yX9_eventOf wsX8_eventOf wsX9_eventOf [.int x, .int y] mm xx := by
  obtain ⟨ma, now, kept, ns, text, L9, att, num, rd⟩ := mm
  obtain ⟨ad, ⟨⟨ev, dbl, pn, u, wd, w, tl, tk, cb, wt, lt⟩, z, lg, gr, mv⟩, ⟨sg, L, ⟨xp, xn, xi, xt, xk, xa, xe⟩, xf, xr⟩, o, n, hs⟩ := xx
  obtain ⟨⟨np, hA⟩, ⟨e1, e2, hn, ho⟩, hH, hT, hsg⟩ := id h
  obtain rfl : ns = n := e1
  obtain rfl : L9 = L := e2
  obtain ⟨n, rfl⟩ : ∃ n9, n9 = ns := ⟨_, rfl⟩
  obtain ⟨L, rfl⟩ : ∃ n9, n9 = L9 := ⟨_, rfl⟩
  have hA : rA now np z (ev, dbl, pn, u, wd, w, tl, tk, cb, wt, lt) lg gr mv := hA
  have hn : n ≤ 4 := hn
  have ho : o < 4 := ho
  have hT : rT text sg L := hT
  have hH : uH kept o n hs := hH
  have hsg : ∀ i, i < L → narrow .char (.int (sg i)) = .int (sg i) := hsg
  obtain ⟨⟨z0, z1⟩, ⟨f6, f10, f0, f1, f2, f5, f7, f8⟩, hmv, hwt, hlt, hlg, hgr, ⟨h11, h11b, hnp, hu⟩, hE, hC, hB⟩ := id hA
  have f0 : now 0 = wt := f0
  have f2 : now 2 = mv := f2
  have hwt : wt = -1 ∨ ∃ v : Nat, v < 2000 ∧ wt = nI v := hwt
  obtain ⟨np64, hwk, hnk, u64, w40⟩ := uB hA
  have u64 : u ≤ 64 := u64
  have w40 : w ≤ 40 := w40
  by_cases hb1 : m_isIn x 0 63 = 0
  · exact uP_text (m' := (ma, now, kept, n, text, L, att, num, rd)) (v' := ((ev, dbl, pn, u, wd, w, tl, tk, cb, wt, lt), z, lg, gr, mv)) (t' := (sg, L, (xp, xn, xi, xt, xk, xa, xe), xf, xr)) (o' := o) (n' := n) (c_X9_eventOfB l D I C Q a0 (ma 0) (ma 1) (ma 2) (ma 3) now kept (nI n) text (nI L) att num rd x y (Or.inl hb1)) (by decide) (c_X8_eventOfB l D I C Q y0 (ad 0) (ad 1) (ad 2) (ad 3) (ad 4) (ad 5) (ad 6) (ad 7) (ad 8) (ad 9) (ad 10) (ad 11) (ad 12) (ad 13) (ad 14) (ad 15) (ad 16) ev dbl pn (nI u) wd (nI w) tl tk cb (nI z) lg gr wt lt mv sg (nI L) xp xn xi xt xk xa xe xf xr (nI o) (nI n) (u_fp hs) x y (Or.inl hb1)) (by decide) h
  · by_cases hb2 : m_isIn y 0 5 = 0
    · exact uP_text (m' := (ma, now, kept, n, text, L, att, num, rd)) (v' := ((ev, dbl, pn, u, wd, w, tl, tk, cb, wt, lt), z, lg, gr, mv)) (t' := (sg, L, (xp, xn, xi, xt, xk, xa, xe), xf, xr)) (o' := o) (n' := n) (c_X9_eventOfB l D I C Q a0 (ma 0) (ma 1) (ma 2) (ma 3) now kept (nI n) text (nI L) att num rd x y (Or.inr hb2)) (by decide) (c_X8_eventOfB l D I C Q y0 (ad 0) (ad 1) (ad 2) (ad 3) (ad 4) (ad 5) (ad 6) (ad 7) (ad 8) (ad 9) (ad 10) (ad 11) (ad 12) (ad 13) (ad 14) (ad 15) (ad 16) ev dbl pn (nI u) wd (nI w) tl tk cb (nI z) lg gr wt lt mv sg (nI L) xp xn xi xt xk xa xe xf xr (nI o) (nI n) (u_fp hs) x y (Or.inr hb2)) (by decide) h
    · obtain ⟨x, hx, rfl⟩ := isIn_nat (b := 63) hb1 (by decide)
      obtain ⟨y, hy, rfl⟩ := isIn_nat (b := 5) hb2 (by decide)
      have h9 := c_X9_eventOfO l D I C Q a0 (ma 0) (ma 1) (ma 2) (ma 3) now kept (nI n) text (nI L) att num rd z x y f6 z0 z1 (by omega) hb1 (by omega)
      have hr : m_evOf now x y z = e_rd ev x y := evOf_rel hA (by omega) (by omega)
      rw [hr] at h9
      exact uP_text (m' := (ma, now, kept, n, text, L, att, num, rd)) (v' := ((ev, dbl, pn, u, wd, w, tl, tk, cb, wt, lt), z, lg, gr, mv)) (t' := (sg, L, (xp, xn, xi, xt, xk, xa, xe), xf, xr)) (o' := o) (n' := n) h9 (by decide) (c_X8_eventOfO l D I C Q y0 (ad 0) (ad 1) (ad 2) (ad 3) (ad 4) (ad 5) (ad 6) (ad 7) (ad 8) (ad 9) (ad 10) (ad 11) (ad 12) (ad 13) (ad 14) (ad 15) (ad 16) ev dbl pn (nI u) wd (nI w) tl tk cb (nI z) lg gr wt lt mv sg (nI L) xp xn xi xt xk xa xe xf xr (nI o) (nI n) (u_fp hs) x y (by omega) hb1 hb2 (by omega)) (by decide) h
set_option maxHeartbeats 4000000 in
set_option maxRecDepth 100000 in
theorem uQ_judge (l : Launch) (D : va_G) (I C Q : ClassId) (y0 a0 : Nat) (tt : Int32) (key : Int32) (x : Int32) (mm : MV) (xx : LV) (h : uR mm xx) : uP l D I C Q y0 a0 yX8_judge yX9_judge wsX8_judge wsX9_judge [.int tt, .int key, .int x] mm xx := by
  obtain ⟨ma, now, kept, ns, text, L9, att, num, rd⟩ := mm
  obtain ⟨ad, ⟨⟨ev, dbl, pn, u, wd, w, tl, tk, cb, wt, lt⟩, z, lg, gr, mv⟩, ⟨sg, L, ⟨xp, xn, xi, xt, xk, xa, xe⟩, xf, xr⟩, o, n, hs⟩ := xx
  obtain ⟨⟨np, hA⟩, ⟨e1, e2, hn, ho⟩, hH, hT, hsg⟩ := id h
  obtain rfl : ns = n := e1
  obtain rfl : L9 = L := e2
  obtain ⟨n, rfl⟩ : ∃ n9, n9 = ns := ⟨_, rfl⟩
  obtain ⟨L, rfl⟩ : ∃ n9, n9 = L9 := ⟨_, rfl⟩
  have hA : rA now np z (ev, dbl, pn, u, wd, w, tl, tk, cb, wt, lt) lg gr mv := hA
  have hn : n ≤ 4 := hn
  have ho : o < 4 := ho
  have hT : rT text sg L := hT
  have hH : uH kept o n hs := hH
  have hsg : ∀ i, i < L → narrow .char (.int (sg i)) = .int (sg i) := hsg
  obtain ⟨⟨z0, z1⟩, ⟨f6, f10, f0, f1, f2, f5, f7, f8⟩, hmv, hwt, hlt, hlg, hgr, ⟨h11, h11b, hnp, hu⟩, hE, hC, hB⟩ := id hA
  have f0 : now 0 = wt := f0
  have f2 : now 2 = mv := f2
  have hwt : wt = -1 ∨ ∃ v : Nat, v < 2000 ∧ wt = nI v := hwt
  obtain ⟨np64, hwk, hnk, u64, w40⟩ := uB hA
  have u64 : u ≤ 64 := u64
  have w40 : w ≤ 40 := w40
  by_cases hb : m_isEv 0 tt key 0 x = 0
  · exact uP_text (m' := (ma, now, kept, n, text, L, att, num, rd)) (v' := ((ev, dbl, pn, u, wd, w, tl, tk, cb, wt, lt), z, lg, gr, mv)) (t' := (sg, L, (xp, xn, xi, xt, xk, xa, xe), xf, xr)) (o' := o) (n' := n) (c_X9_judgeB l D I C Q a0 (ma 0) (ma 1) (ma 2) (ma 3) now kept (nI n) text (nI L) att num rd tt key x hb) (by decide) (c_X8_judgeB l D I C Q y0 (ad 0) (ad 1) (ad 2) (ad 3) (ad 4) (ad 5) (ad 6) (ad 7) (ad 8) (ad 9) (ad 10) (ad 11) (ad 12) (ad 13) (ad 14) (ad 15) (ad 16) ev dbl pn (nI u) wd (nI w) tl tk cb (nI z) lg gr wt lt mv sg (nI L) xp xn xi xt xk xa xe xf xr (nI o) (nI n) (u_fp hs) tt key x (uJ.mp hb)) (by decide) h
  · have hb1 : ¬ m_isIn tt 0 1999 = 0 := fun e => hb (uJ.mpr (Or.inl e))
    have hb2 : ¬ m_isIn key 0 5 = 0 := fun e => hb (uJ.mpr (Or.inr (Or.inl e)))
    have hb3 : ¬ m_isIn x 0 3 = 0 := fun e => hb (uJ.mpr (Or.inr (Or.inr e)))
    obtain ⟨tt, ht, rfl⟩ := isIn_nat (b := 1999) hb1 (by decide)
    obtain ⟨x, hx, rfl⟩ := isIn_nat (b := 3) hb3 (by decide)
    have ht : tt < 2000 := by omega
    have h9 := c_X9_judgeO l D I C Q a0 (ma 0) (ma 1) (ma 2) (ma 3) now kept (nI n) text (nI L) att num rd np z tt key x f10 np64 f6 z0 z1 ht hx hb
    have hr : m_judge now tt key x np z = c_ver ev pn u cb wt z tt key (nI x) := judge_rel (rA_B hA) f0 hE hC ht hx
    rw [hr] at h9
    exact uP_text (m' := (ma, now, kept, n, text, L, att, num, rd)) (v' := ((ev, dbl, pn, u, wd, w, tl, tk, cb, wt, lt), z, lg, gr, mv)) (t' := (sg, L, (xp, xn, xi, xt, xk, xa, xe), xf, xr)) (o' := o) (n' := n) h9 (by decide) (c_X8_judgeO l D I C Q y0 (ad 0) (ad 1) (ad 2) (ad 3) (ad 4) (ad 5) (ad 6) (ad 7) (ad 8) (ad 9) (ad 10) (ad 11) (ad 12) (ad 13) (ad 14) (ad 15) (ad 16) ev dbl pn u wd (nI w) tl tk cb z lg gr wt lt mv sg (nI L) xp xn xi xt xk xa xe xf xr (nI o) (nI n) (u_fp hs) tt key (nI x) z0 z1 u64 ht hb1 hb2 hb3) (by decide) h
set_option maxHeartbeats 4000000 in
set_option maxRecDepth 100000 in
theorem uQ_lateness (l : Launch) (D : va_G) (I C Q : ClassId) (y0 a0 : Nat) (tt : Int32) (mm : MV) (xx : LV) (h : uR mm xx) : uP l D I C Q y0 a0 yX8_lateness yX9_lateness wsX8_lateness wsX9_lateness [.int tt] mm xx := by
  obtain ⟨ma, now, kept, ns, text, L9, att, num, rd⟩ := mm
  obtain ⟨ad, ⟨⟨ev, dbl, pn, u, wd, w, tl, tk, cb, wt, lt⟩, z, lg, gr, mv⟩, ⟨sg, L, ⟨xp, xn, xi, xt, xk, xa, xe⟩, xf, xr⟩, o, n, hs⟩ := xx
  obtain ⟨⟨np, hA⟩, ⟨e1, e2, hn, ho⟩, hH, hT, hsg⟩ := id h
  obtain rfl : ns = n := e1
  obtain rfl : L9 = L := e2
  obtain ⟨n, rfl⟩ : ∃ n9, n9 = ns := ⟨_, rfl⟩
  obtain ⟨L, rfl⟩ : ∃ n9, n9 = L9 := ⟨_, rfl⟩
  have hA : rA now np z (ev, dbl, pn, u, wd, w, tl, tk, cb, wt, lt) lg gr mv := hA
  have hn : n ≤ 4 := hn
  have ho : o < 4 := ho
  have hT : rT text sg L := hT
  have hH : uH kept o n hs := hH
  have hsg : ∀ i, i < L → narrow .char (.int (sg i)) = .int (sg i) := hsg
  obtain ⟨⟨z0, z1⟩, ⟨f6, f10, f0, f1, f2, f5, f7, f8⟩, hmv, hwt, hlt, hlg, hgr, ⟨h11, h11b, hnp, hu⟩, hE, hC, hB⟩ := id hA
  have f0 : now 0 = wt := f0
  have f2 : now 2 = mv := f2
  have hwt : wt = -1 ∨ ∃ v : Nat, v < 2000 ∧ wt = nI v := hwt
  obtain ⟨np64, hwk, hnk, u64, w40⟩ := uB hA
  have u64 : u ≤ 64 := u64
  have w40 : w ≤ 40 := w40
  by_cases hb : m_isIn tt 0 1999 = 0
  · exact uP_text (m' := (ma, now, kept, n, text, L, att, num, rd)) (v' := ((ev, dbl, pn, u, wd, w, tl, tk, cb, wt, lt), z, lg, gr, mv)) (t' := (sg, L, (xp, xn, xi, xt, xk, xa, xe), xf, xr)) (o' := o) (n' := n) (c_X9_latenessB l D I C Q a0 (ma 0) (ma 1) (ma 2) (ma 3) now kept (nI n) text (nI L) att num rd tt hb) (by decide) (c_X8_latenessB l D I C Q y0 (ad 0) (ad 1) (ad 2) (ad 3) (ad 4) (ad 5) (ad 6) (ad 7) (ad 8) (ad 9) (ad 10) (ad 11) (ad 12) (ad 13) (ad 14) (ad 15) (ad 16) ev dbl pn (nI u) wd (nI w) tl tk cb (nI z) lg gr wt lt mv sg (nI L) xp xn xi xt xk xa xe xf xr (nI o) (nI n) (u_fp hs) tt hb) (by decide) h
  · obtain ⟨tt, ht, rfl⟩ := isIn_nat (b := 1999) hb (by decide)
    have ht : tt < 2000 := by omega
    have h9 := c_X9_latenessO l D I C Q a0 (ma 0) (ma 1) (ma 2) (ma 3) now kept (nI n) text (nI L) att num rd np z tt f10 np64 f6 z0 z1 ht hb
    have hr : m_lness now tt np z = x_lness pn u wt z tt := lness_rel hA ht
    rw [hr] at h9
    exact uP_text (m' := (ma, now, kept, n, text, L, att, num, rd)) (v' := ((ev, dbl, pn, u, wd, w, tl, tk, cb, wt, lt), z, lg, gr, mv)) (t' := (sg, L, (xp, xn, xi, xt, xk, xa, xe), xf, xr)) (o' := o) (n' := n) h9 (by decide) (c_X8_latenessO l D I C Q y0 (ad 0) (ad 1) (ad 2) (ad 3) (ad 4) (ad 5) (ad 6) (ad 7) (ad 8) (ad 9) (ad 10) (ad 11) (ad 12) (ad 13) (ad 14) (ad 15) (ad 16) ev dbl pn u wd (nI w) tl tk cb z lg gr wt lt mv sg (nI L) xp xn xi xt xk xa xe xf xr (nI o) (nI n) (u_fp hs) tt z0 z1 u64 ht hb) (by decide) h
set_option maxHeartbeats 4000000 in
set_option maxRecDepth 100000 in
theorem uQ_latestExcused (l : Launch) (D : va_G) (I C Q : ClassId) (y0 a0 : Nat) (key : Int32) (x : Int32) (mm : MV) (xx : LV) (h : uR mm xx) : uP l D I C Q y0 a0 yX8_latestExcused yX9_latestExcused wsX8_latestExcused wsX9_latestExcused [.int key, .int x] mm xx := by
  obtain ⟨ma, now, kept, ns, text, L9, att, num, rd⟩ := mm
  obtain ⟨ad, ⟨⟨ev, dbl, pn, u, wd, w, tl, tk, cb, wt, lt⟩, z, lg, gr, mv⟩, ⟨sg, L, ⟨xp, xn, xi, xt, xk, xa, xe⟩, xf, xr⟩, o, n, hs⟩ := xx
  obtain ⟨⟨np, hA⟩, ⟨e1, e2, hn, ho⟩, hH, hT, hsg⟩ := id h
  obtain rfl : ns = n := e1
  obtain rfl : L9 = L := e2
  obtain ⟨n, rfl⟩ : ∃ n9, n9 = ns := ⟨_, rfl⟩
  obtain ⟨L, rfl⟩ : ∃ n9, n9 = L9 := ⟨_, rfl⟩
  have hA : rA now np z (ev, dbl, pn, u, wd, w, tl, tk, cb, wt, lt) lg gr mv := hA
  have hn : n ≤ 4 := hn
  have ho : o < 4 := ho
  have hT : rT text sg L := hT
  have hH : uH kept o n hs := hH
  have hsg : ∀ i, i < L → narrow .char (.int (sg i)) = .int (sg i) := hsg
  obtain ⟨⟨z0, z1⟩, ⟨f6, f10, f0, f1, f2, f5, f7, f8⟩, hmv, hwt, hlt, hlg, hgr, ⟨h11, h11b, hnp, hu⟩, hE, hC, hB⟩ := id hA
  have f0 : now 0 = wt := f0
  have f2 : now 2 = mv := f2
  have hwt : wt = -1 ∨ ∃ v : Nat, v < 2000 ∧ wt = nI v := hwt
  obtain ⟨np64, hwk, hnk, u64, w40⟩ := uB hA
  have u64 : u ≤ 64 := u64
  have w40 : w ≤ 40 := w40
  by_cases hb1 : m_isIn key 0 5 = 0
  · exact uP_text (m' := (ma, now, kept, n, text, L, att, num, rd)) (v' := ((ev, dbl, pn, u, wd, w, tl, tk, cb, wt, lt), z, lg, gr, mv)) (t' := (sg, L, (xp, xn, xi, xt, xk, xa, xe), xf, xr)) (o' := o) (n' := n) (c_X9_latestExcusedB l D I C Q a0 (ma 0) (ma 1) (ma 2) (ma 3) now kept (nI n) text (nI L) att num rd key x (Or.inl hb1)) (by decide) (c_X8_latestExcusedB l D I C Q y0 (ad 0) (ad 1) (ad 2) (ad 3) (ad 4) (ad 5) (ad 6) (ad 7) (ad 8) (ad 9) (ad 10) (ad 11) (ad 12) (ad 13) (ad 14) (ad 15) (ad 16) ev dbl pn (nI u) wd (nI w) tl tk cb (nI z) lg gr wt lt mv sg (nI L) xp xn xi xt xk xa xe xf xr (nI o) (nI n) (u_fp hs) key x (Or.inl hb1)) (by decide) h
  · by_cases hb2 : m_isIn x 1 3 = 0
    · exact uP_text (m' := (ma, now, kept, n, text, L, att, num, rd)) (v' := ((ev, dbl, pn, u, wd, w, tl, tk, cb, wt, lt), z, lg, gr, mv)) (t' := (sg, L, (xp, xn, xi, xt, xk, xa, xe), xf, xr)) (o' := o) (n' := n) (c_X9_latestExcusedB l D I C Q a0 (ma 0) (ma 1) (ma 2) (ma 3) now kept (nI n) text (nI L) att num rd key x (Or.inr hb2)) (by decide) (c_X8_latestExcusedB l D I C Q y0 (ad 0) (ad 1) (ad 2) (ad 3) (ad 4) (ad 5) (ad 6) (ad 7) (ad 8) (ad 9) (ad 10) (ad 11) (ad 12) (ad 13) (ad 14) (ad 15) (ad 16) ev dbl pn (nI u) wd (nI w) tl tk cb (nI z) lg gr wt lt mv sg (nI L) xp xn xi xt xk xa xe xf xr (nI o) (nI n) (u_fp hs) key x (Or.inr hb2)) (by decide) h
    · have h9 := c_X9_latestExcusedO l D I C Q a0 (ma 0) (ma 1) (ma 2) (ma 3) now kept (nI n) text (nI L) att num rd np z key x f10 np64 f6 z0 z1 hb1 hb2
      rcases hwt with hw | ⟨v, hv, hw⟩
      · have hr : m_leL now key x np z 2000 = -1000004 := latest_no hA hw
        rw [hr] at h9
        exact uP_text (m' := (ma, now, kept, n, text, L, att, num, rd)) (v' := ((ev, dbl, pn, u, wd, w, tl, tk, cb, wt, lt), z, lg, gr, mv)) (t' := (sg, L, (xp, xn, xi, xt, xk, xa, xe), xf, xr)) (o' := o) (n' := n) h9 (by decide) (c_X8_latestExcusedA l D I C Q y0 (ad 0) (ad 1) (ad 2) (ad 3) (ad 4) (ad 5) (ad 6) (ad 7) (ad 8) (ad 9) (ad 10) (ad 11) (ad 12) (ad 13) (ad 14) (ad 15) (ad 16) ev dbl pn u wd (nI w) tl tk cb z lg gr wt lt mv sg (nI L) xp xn xi xt xk xa xe xf xr (nI o) (nI n) (u_fp hs) key x z0 z1 u64 hb1 hb2 hw) (by decide) h
      · subst hw
        have hr : m_leL now key x np z 2000 = c_laL ev pn u (nI v) z key x (v / z) := latest_rel hA rfl hv
        rw [hr] at h9
        exact uP_text (m' := (ma, now, kept, n, text, L, att, num, rd)) (v' := ((ev, dbl, pn, u, wd, w, tl, tk, cb, nI v, lt), z, lg, gr, mv)) (t' := (sg, L, (xp, xn, xi, xt, xk, xa, xe), xf, xr)) (o' := o) (n' := n) h9 (by decide) (c_X8_latestExcusedO l D I C Q y0 (ad 0) (ad 1) (ad 2) (ad 3) (ad 4) (ad 5) (ad 6) (ad 7) (ad 8) (ad 9) (ad 10) (ad 11) (ad 12) (ad 13) (ad 14) (ad 15) (ad 16) ev dbl pn u wd (nI w) tl tk cb z lg gr v lt mv sg (nI L) xp xn xi xt xk xa xe xf xr (nI o) (nI n) (u_fp hs) key x z0 z1 u64 hb1 hb2 hv) (by decide) h
set_option maxHeartbeats 4000000 in
set_option maxRecDepth 100000 in
theorem uQ_filed (l : Launch) (D : va_G) (I C Q : ClassId) (y0 a0 : Nat) (x : Int32) (y : Int32) (mm : MV) (xx : LV) (h : uR mm xx) : uP l D I C Q y0 a0 yX8_filed yX9_filed wsX8_filed wsX9_filed [.int x, .int y] mm xx := by
  obtain ⟨ma, now, kept, ns, text, L9, att, num, rd⟩ := mm
  obtain ⟨ad, ⟨⟨ev, dbl, pn, u, wd, w, tl, tk, cb, wt, lt⟩, z, lg, gr, mv⟩, ⟨sg, L, ⟨xp, xn, xi, xt, xk, xa, xe⟩, xf, xr⟩, o, n, hs⟩ := xx
  obtain ⟨⟨np, hA⟩, ⟨e1, e2, hn, ho⟩, hH, hT, hsg⟩ := id h
  obtain rfl : ns = n := e1
  obtain rfl : L9 = L := e2
  obtain ⟨n, rfl⟩ : ∃ n9, n9 = ns := ⟨_, rfl⟩
  obtain ⟨L, rfl⟩ : ∃ n9, n9 = L9 := ⟨_, rfl⟩
  have hA : rA now np z (ev, dbl, pn, u, wd, w, tl, tk, cb, wt, lt) lg gr mv := hA
  have hn : n ≤ 4 := hn
  have ho : o < 4 := ho
  have hT : rT text sg L := hT
  have hH : uH kept o n hs := hH
  have hsg : ∀ i, i < L → narrow .char (.int (sg i)) = .int (sg i) := hsg
  obtain ⟨⟨z0, z1⟩, ⟨f6, f10, f0, f1, f2, f5, f7, f8⟩, hmv, hwt, hlt, hlg, hgr, ⟨h11, h11b, hnp, hu⟩, hE, hC, hB⟩ := id hA
  have f0 : now 0 = wt := f0
  have f2 : now 2 = mv := f2
  have hwt : wt = -1 ∨ ∃ v : Nat, v < 2000 ∧ wt = nI v := hwt
  obtain ⟨np64, hwk, hnk, u64, w40⟩ := uB hA
  have u64 : u ≤ 64 := u64
  have w40 : w ≤ 40 := w40
  by_cases hb1 : m_isIn x 0 2 = 0
  · exact uP_text (m' := (ma, now, kept, n, text, L, att, num, rd)) (v' := ((ev, dbl, pn, u, wd, w, tl, tk, cb, wt, lt), z, lg, gr, mv)) (t' := (sg, L, (xp, xn, xi, xt, xk, xa, xe), xf, xr)) (o' := o) (n' := n) (c_X9_filedB l D I C Q a0 (ma 0) (ma 1) (ma 2) (ma 3) now kept (nI n) text (nI L) att num rd x y (Or.inl hb1)) (by decide) (c_X8_filedB l D I C Q y0 (ad 0) (ad 1) (ad 2) (ad 3) (ad 4) (ad 5) (ad 6) (ad 7) (ad 8) (ad 9) (ad 10) (ad 11) (ad 12) (ad 13) (ad 14) (ad 15) (ad 16) ev dbl pn (nI u) wd (nI w) tl tk cb (nI z) lg gr wt lt mv sg (nI L) xp xn xi xt xk xa xe xf xr (nI o) (nI n) (u_fp hs) x y (Or.inl hb1)) (by decide) h
  · by_cases hb2 : m_isIn y 0 3 = 0
    · exact uP_text (m' := (ma, now, kept, n, text, L, att, num, rd)) (v' := ((ev, dbl, pn, u, wd, w, tl, tk, cb, wt, lt), z, lg, gr, mv)) (t' := (sg, L, (xp, xn, xi, xt, xk, xa, xe), xf, xr)) (o' := o) (n' := n) (c_X9_filedB l D I C Q a0 (ma 0) (ma 1) (ma 2) (ma 3) now kept (nI n) text (nI L) att num rd x y (Or.inr hb2)) (by decide) (c_X8_filedB l D I C Q y0 (ad 0) (ad 1) (ad 2) (ad 3) (ad 4) (ad 5) (ad 6) (ad 7) (ad 8) (ad 9) (ad 10) (ad 11) (ad 12) (ad 13) (ad 14) (ad 15) (ad 16) ev dbl pn (nI u) wd (nI w) tl tk cb (nI z) lg gr wt lt mv sg (nI L) xp xn xi xt xk xa xe xf xr (nI o) (nI n) (u_fp hs) x y (Or.inr hb2)) (by decide) h
    · obtain ⟨x, hx, rfl⟩ := isIn_nat (b := 2) hb1 (by decide)
      obtain ⟨y, hy, rfl⟩ := isIn_nat (b := 3) hb2 (by decide)
      have h9 := c_X9_filedO l D I C Q a0 (ma 0) (ma 1) (ma 2) (ma 3) now kept (nI n) text (nI L) att num rd x y hb1 hb2 (by omega) (by omega)
      have hr : m_filed now x y = g_rd cb x y := filed_rel hA (by omega) (by omega)
      rw [hr] at h9
      exact uP_text (m' := (ma, now, kept, n, text, L, att, num, rd)) (v' := ((ev, dbl, pn, u, wd, w, tl, tk, cb, wt, lt), z, lg, gr, mv)) (t' := (sg, L, (xp, xn, xi, xt, xk, xa, xe), xf, xr)) (o' := o) (n' := n) h9 (by decide) (c_X8_filedO l D I C Q y0 (ad 0) (ad 1) (ad 2) (ad 3) (ad 4) (ad 5) (ad 6) (ad 7) (ad 8) (ad 9) (ad 10) (ad 11) (ad 12) (ad 13) (ad 14) (ad 15) (ad 16) ev dbl pn (nI u) wd (nI w) tl tk cb (nI z) lg gr wt lt mv sg (nI L) xp xn xi xt xk xa xe xf xr (nI o) (nI n) (u_fp hs) x y hb1 hb2 (by omega) (by omega)) (by decide) h
set_option maxHeartbeats 4000000 in
set_option maxRecDepth 100000 in
theorem uQ_trust (l : Launch) (D : va_G) (I C Q : ClassId) (y0 a0 : Nat) (key : Int32) (mm : MV) (xx : LV) (h : uR mm xx) : uP l D I C Q y0 a0 yX8_trust yX9_trust wsX8_trust wsX9_trust [.int key] mm xx := by
  obtain ⟨ma, now, kept, ns, text, L9, att, num, rd⟩ := mm
  obtain ⟨ad, ⟨⟨ev, dbl, pn, u, wd, w, tl, tk, cb, wt, lt⟩, z, lg, gr, mv⟩, ⟨sg, L, ⟨xp, xn, xi, xt, xk, xa, xe⟩, xf, xr⟩, o, n, hs⟩ := xx
  obtain ⟨⟨np, hA⟩, ⟨e1, e2, hn, ho⟩, hH, hT, hsg⟩ := id h
  obtain rfl : ns = n := e1
  obtain rfl : L9 = L := e2
  obtain ⟨n, rfl⟩ : ∃ n9, n9 = ns := ⟨_, rfl⟩
  obtain ⟨L, rfl⟩ : ∃ n9, n9 = L9 := ⟨_, rfl⟩
  have hA : rA now np z (ev, dbl, pn, u, wd, w, tl, tk, cb, wt, lt) lg gr mv := hA
  have hn : n ≤ 4 := hn
  have ho : o < 4 := ho
  have hT : rT text sg L := hT
  have hH : uH kept o n hs := hH
  have hsg : ∀ i, i < L → narrow .char (.int (sg i)) = .int (sg i) := hsg
  obtain ⟨⟨z0, z1⟩, ⟨f6, f10, f0, f1, f2, f5, f7, f8⟩, hmv, hwt, hlt, hlg, hgr, ⟨h11, h11b, hnp, hu⟩, hE, hC, hB⟩ := id hA
  have f0 : now 0 = wt := f0
  have f2 : now 2 = mv := f2
  have hwt : wt = -1 ∨ ∃ v : Nat, v < 2000 ∧ wt = nI v := hwt
  obtain ⟨np64, hwk, hnk, u64, w40⟩ := uB hA
  have u64 : u ≤ 64 := u64
  have w40 : w ≤ 40 := w40
  by_cases hb : m_isIn key 0 5 = 0
  · exact uP_text (m' := (ma, now, kept, n, text, L, att, num, rd)) (v' := ((ev, dbl, pn, u, wd, w, tl, tk, cb, wt, lt), z, lg, gr, mv)) (t' := (sg, L, (xp, xn, xi, xt, xk, xa, xe), xf, xr)) (o' := o) (n' := n) (c_X9_trustB l D I C Q a0 (ma 0) (ma 1) (ma 2) (ma 3) now kept (nI n) text (nI L) att num rd key hb) (by decide) (c_X8_trustB l D I C Q y0 (ad 0) (ad 1) (ad 2) (ad 3) (ad 4) (ad 5) (ad 6) (ad 7) (ad 8) (ad 9) (ad 10) (ad 11) (ad 12) (ad 13) (ad 14) (ad 15) (ad 16) ev dbl pn (nI u) wd (nI w) tl tk cb (nI z) lg gr wt lt mv sg (nI L) xp xn xi xt xk xa xe xf xr (nI o) (nI n) (u_fp hs) key hb) (by decide) h
  · have h9 := c_X9_trustO l D I C Q a0 (ma 0) (ma 1) (ma 2) (ma 3) now kept (nI n) text (nI L) att num rd key hb
    have hr : m_trust now key = x_trust ev key := trust_rel hA
    rw [hr] at h9
    exact uP_text (m' := (ma, now, kept, n, text, L, att, num, rd)) (v' := ((ev, dbl, pn, u, wd, w, tl, tk, cb, wt, lt), z, lg, gr, mv)) (t' := (sg, L, (xp, xn, xi, xt, xk, xa, xe), xf, xr)) (o' := o) (n' := n) h9 (by decide) (c_X8_trustO l D I C Q y0 (ad 0) (ad 1) (ad 2) (ad 3) (ad 4) (ad 5) (ad 6) (ad 7) (ad 8) (ad 9) (ad 10) (ad 11) (ad 12) (ad 13) (ad 14) (ad 15) (ad 16) ev dbl pn (nI u) wd (nI w) tl tk cb (nI z) lg gr wt lt mv sg (nI L) xp xn xi xt xk xa xe xf xr (nI o) (nI n) (u_fp hs) key hb) (by decide) h
set_option maxHeartbeats 4000000 in
set_option maxRecDepth 100000 in
theorem uQ_count (l : Launch) (D : va_G) (I C Q : ClassId) (y0 a0 : Nat) (x : Int32) (mm : MV) (xx : LV) (h : uR mm xx) : uP l D I C Q y0 a0 yX8_count yX9_count wsX8_count wsX9_count [.int x] mm xx := by
  obtain ⟨ma, now, kept, ns, text, L9, att, num, rd⟩ := mm
  obtain ⟨ad, ⟨⟨ev, dbl, pn, u, wd, w, tl, tk, cb, wt, lt⟩, z, lg, gr, mv⟩, ⟨sg, L, ⟨xp, xn, xi, xt, xk, xa, xe⟩, xf, xr⟩, o, n, hs⟩ := xx
  obtain ⟨⟨np, hA⟩, ⟨e1, e2, hn, ho⟩, hH, hT, hsg⟩ := id h
  obtain rfl : ns = n := e1
  obtain rfl : L9 = L := e2
  obtain ⟨n, rfl⟩ : ∃ n9, n9 = ns := ⟨_, rfl⟩
  obtain ⟨L, rfl⟩ : ∃ n9, n9 = L9 := ⟨_, rfl⟩
  have hA : rA now np z (ev, dbl, pn, u, wd, w, tl, tk, cb, wt, lt) lg gr mv := hA
  have hn : n ≤ 4 := hn
  have ho : o < 4 := ho
  have hT : rT text sg L := hT
  have hH : uH kept o n hs := hH
  have hsg : ∀ i, i < L → narrow .char (.int (sg i)) = .int (sg i) := hsg
  obtain ⟨⟨z0, z1⟩, ⟨f6, f10, f0, f1, f2, f5, f7, f8⟩, hmv, hwt, hlt, hlg, hgr, ⟨h11, h11b, hnp, hu⟩, hE, hC, hB⟩ := id hA
  have f0 : now 0 = wt := f0
  have f2 : now 2 = mv := f2
  have hwt : wt = -1 ∨ ∃ v : Nat, v < 2000 ∧ wt = nI v := hwt
  obtain ⟨np64, hwk, hnk, u64, w40⟩ := uB hA
  have u64 : u ≤ 64 := u64
  have w40 : w ≤ 40 := w40
  by_cases hb : m_isIn x 20 22 = 0 ∧ (x < 0 ∨ 13 < x)
  · exact uP_text (m' := (ma, now, kept, n, text, L, att, num, rd)) (v' := ((ev, dbl, pn, u, wd, w, tl, tk, cb, wt, lt), z, lg, gr, mv)) (t' := (sg, L, (xp, xn, xi, xt, xk, xa, xe), xf, xr)) (o' := o) (n' := n) (c_X9_countB l D I C Q a0 (ma 0) (ma 1) (ma 2) (ma 3) now kept (nI n) text (nI L) att num rd x hb.1 hb.2) (by decide) (c_X8_countB l D I C Q y0 (ad 0) (ad 1) (ad 2) (ad 3) (ad 4) (ad 5) (ad 6) (ad 7) (ad 8) (ad 9) (ad 10) (ad 11) (ad 12) (ad 13) (ad 14) (ad 15) (ad 16) ev dbl pn (nI u) wd (nI w) tl tk cb (nI z) lg gr wt lt mv sg (nI L) xp xn xi xt xk xa xe xf xr (nI o) (nI n) (u_fp hs) x hb.1 hb.2) (by decide) h
  · obtain ⟨x, rfl, hx⟩ := uCt hb
    have h9 := c_X9_countO l D I C Q a0 (ma 0) (ma 1) (ma 2) (ma 3) now kept n text L att num rd np x f10 np64 hx
    have hr : m_count now n L np x = x_count ev dbl pn u (nI w) tl tk (nI z) lg gr wt lt mv (nI L) (nI n) x := count_rel hA hx
    rw [hr] at h9
    exact uP_text (m' := (ma, now, kept, n, text, L, att, num, rd)) (v' := ((ev, dbl, pn, u, wd, w, tl, tk, cb, wt, lt), z, lg, gr, mv)) (t' := (sg, L, (xp, xn, xi, xt, xk, xa, xe), xf, xr)) (o' := o) (n' := n) h9 (by decide) (c_X8_countO l D I C Q y0 (ad 0) (ad 1) (ad 2) (ad 3) (ad 4) (ad 5) (ad 6) (ad 7) (ad 8) (ad 9) (ad 10) (ad 11) (ad 12) (ad 13) (ad 14) (ad 15) (ad 16) ev dbl pn u wd (nI w) tl tk cb (nI z) lg gr wt lt mv sg (nI L) xp xn xi xt xk xa xe xf xr (nI o) (nI n) (u_fp hs) x u64 hx) (by decide) h
