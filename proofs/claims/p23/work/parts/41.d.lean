/-! what can be asked -/
def q_cnt (v : CV) (w : Nat) : Int32 := x_count (aEv (cS v)) (aDb (cS v)) (aPn (cS v)) (aU (cS v)) (nI (aW (cS v))) (aTl (cS v)) (aTk (cS v)) (nI (cZ v)) (cLg v) (cGr v) (aWt (cS v)) (aLt (cS v)) (cMv v) 0 0 w
/-- what the r-th row's pane is asked by -/
abbrev q_pn (v : CV) (r : Nat) : Int32 := aPn (cS v) (r * 8 + 7)
def q_pof (v : CV) (r k : Nat) : Int32 := x_paneOf (aPn (cS v)) (aU (cS v)) (aWt (cS v)) (cZ v) (q_pn v r) k
noncomputable def q_mea (v : CV) (r : Nat) : Int32 := x_mean (aPn (cS v)) (aU (cS v)) (q_pn v r)
def q_std (v : CV) (r k : Nat) : Int32 := x_stand (aPn (cS v)) (aU (cS v)) (q_pn v r) k
def q_evo (v : CV) (i k : Nat) : Int32 := e_rd (aEv (cS v)) i k
def q_wrd (v : CV) (i k : Nat) : Int32 := aWd (cS v) (i * 4 + k)
def q_fil (v : CV) (c p : Nat) : Int32 := g_rd (aCb (cS v)) c p
def q_jdg (v : CV) (t : Nat) (key x : Int32) : Int32 := c_ver (aEv (cS v)) (aPn (cS v)) (aU (cS v)) (aCb (cS v)) (aWt (cS v)) (cZ v) t key x
abbrev q_u (v : CV) : Nat := aU (cS v)
theorem x_count_c {ev : Nat → Int32} {dbl : Int32} {pn : Nat → Int32} {u : Nat} {kp tl tk sz lg gr wt lt mv xl ns : Int32} {w : Nat} (hw : w < 12 ∨ (20 ≤ w ∧ w < 23)) : x_count ev dbl pn u kp tl tk sz lg gr wt lt mv xl ns w = x_count ev dbl pn u kp tl tk sz lg gr wt lt mv 0 0 w := by
  rcases (show w = 0 ∨ w = 1 ∨ w = 2 ∨ w = 3 ∨ w = 4 ∨ w = 5 ∨ w = 6 ∨ w = 7 ∨ w = 8 ∨ w = 9 ∨ w = 10 ∨ w = 11 ∨ w = 20 ∨ w = 21 ∨ w = 22 by omega) with rfl | rfl | rfl | rfl | rfl | rfl | rfl | rfl | rfl | rfl | rfl | rfl | rfl | rfl | rfl
  all_goals rfl
theorem x_ht_1 {q z : Nat} (hq : q < 2000) (h : q * z ≤ 1999) : ¬ x_ht (nI q) z = 0 := by
  have h1 : ¬ m_isIn (nI q) 0 1999 = 0 := fun e => by
    rcases m_isIn0.mp e with e | e
    · exact nI_pos (by omega) e
    · have := (nI_ltI (a := 1999) (b := q) (by omega) (by omega)).mp e; omega
  have h2 : ¬ (1999 : Int32) < nI q * nI z := fun e => by
    rw [k_mul] at e
    have := (nI_ltI (a := 1999) (b := q * z) (by omega) (by omega)).mp e; omega
  rw [x_ht, if_neg h1, if_neg h2]; decide
theorem isIn_ok {n a b : Nat} (ha : a ≤ n) (hb : n ≤ b) (h : b < 2 ^ 31) : ¬ m_isIn (nI n) (nI a) (nI b) = 0 := fun e => by
  rcases m_isIn0.mp e with e | e
  · have := (nI_ltI (a := n) (b := a) (by omega) (by omega)).mp e; omega
  · have := (nI_ltI (a := b) (b := n) (by omega) (by omega)).mp e; omega
set_option maxHeartbeats 4000000 in
set_option maxRecDepth 100000 in
theorem rd_count (l : Launch) (D : va_G) (I C Q : ClassId) (y0 : Nat) (k : Nat) {xx : LV} (h : uG xx) (hk : k < 12 ∨ (20 ≤ k ∧ k < 23)) : KI l D (tyL I C Q) yX8_count wsX8_count rm9 (.ref y0 :: [.int (nI k)]) (uX I C Q y0 xx) (uX I C Q y0 xx) (q_cnt xx.2.1 k) := by
  obtain ⟨ad, ⟨⟨ev, dbl, pn, u, wd, w, tl, tk, cb, wt, lt⟩, z, lg, gr, mv⟩, ⟨sg, L, ⟨xp, xn, xi, xt, xk, xa, xe⟩, xf, xr⟩, o, n, hs⟩ := xx
  obtain ⟨⟨⟨now, np, hA⟩, hX, hF⟩, hn, ho, hH⟩ := id h
  have hA : rA now np z (ev, dbl, pn, u, wd, w, tl, tk, cb, wt, lt) lg gr mv := hA
  have hX : p_X pn u tl tk wt z := hX
  have hn : n ≤ 4 := hn
  have ho : o < 4 := ho
  obtain ⟨⟨z0, z1⟩, ⟨f6, f10, f0, f1, f2, f5, f7, f8⟩, hmv, hwt, hlt, hlg, hgr, ⟨h11, h11b, hnp, hu⟩, hE, hC, hB⟩ := id hA
  have hwt : wt = -1 ∨ ∃ v : Nat, v < 2000 ∧ wt = nI v := hwt
  obtain ⟨np64, hwk, hnk, u64, w40⟩ := uB hA
  have u64 : u ≤ 64 := u64
  have w40 : w ≤ 40 := w40
  have e : q_cnt ((ad, ((ev, dbl, pn, u, wd, w, tl, tk, cb, wt, lt), z, lg, gr, mv), (sg, L, (xp, xn, xi, xt, xk, xa, xe), xf, xr), o, n, hs) : LV).2.1 k = x_count ev dbl pn u (nI w) tl tk (nI z) lg gr wt lt mv (nI L) (nI n) k := (x_count_c hk).symm
  rw [e]
  exact (c_X8_countO l D I C Q y0 (ad 0) (ad 1) (ad 2) (ad 3) (ad 4) (ad 5) (ad 6) (ad 7) (ad 8) (ad 9) (ad 10) (ad 11) (ad 12) (ad 13) (ad 14) (ad 15) (ad 16) ev dbl pn u wd (nI w) tl tk cb (nI z) lg gr wt lt mv sg (nI L) xp xn xi xt xk xa xe xf xr (nI o) (nI n) (u_fp hs) k u64 (by omega)).fr (by decide) (u_tl I hs)
set_option maxHeartbeats 4000000 in
set_option maxRecDepth 100000 in
theorem rd_states (l : Launch) (D : va_G) (I C Q : ClassId) (y0 : Nat) {xx : LV} (h : uG xx) : KI l D (tyL I C Q) yX8_count wsX8_count rm9 (.ref y0 :: [.int (nI 12)]) (uX I C Q y0 xx) (uX I C Q y0 xx) (nI xx.2.2.2.2.1) := by
  obtain ⟨ad, ⟨⟨ev, dbl, pn, u, wd, w, tl, tk, cb, wt, lt⟩, z, lg, gr, mv⟩, ⟨sg, L, ⟨xp, xn, xi, xt, xk, xa, xe⟩, xf, xr⟩, o, n, hs⟩ := xx
  obtain ⟨⟨⟨now, np, hA⟩, hX, hF⟩, hn, ho, hH⟩ := id h
  have hA : rA now np z (ev, dbl, pn, u, wd, w, tl, tk, cb, wt, lt) lg gr mv := hA
  have hX : p_X pn u tl tk wt z := hX
  have hn : n ≤ 4 := hn
  have ho : o < 4 := ho
  obtain ⟨⟨z0, z1⟩, ⟨f6, f10, f0, f1, f2, f5, f7, f8⟩, hmv, hwt, hlt, hlg, hgr, ⟨h11, h11b, hnp, hu⟩, hE, hC, hB⟩ := id hA
  have hwt : wt = -1 ∨ ∃ v : Nat, v < 2000 ∧ wt = nI v := hwt
  obtain ⟨np64, hwk, hnk, u64, w40⟩ := uB hA
  have u64 : u ≤ 64 := u64
  have w40 : w ≤ 40 := w40
  exact (c_X8_countO l D I C Q y0 (ad 0) (ad 1) (ad 2) (ad 3) (ad 4) (ad 5) (ad 6) (ad 7) (ad 8) (ad 9) (ad 10) (ad 11) (ad 12) (ad 13) (ad 14) (ad 15) (ad 16) ev dbl pn u wd (nI w) tl tk cb (nI z) lg gr wt lt mv sg (nI L) xp xn xi xt xk xa xe xf xr (nI o) (nI n) (u_fp hs) 12 u64 (by omega)).fr (by decide) (u_tl I hs)
set_option maxHeartbeats 4000000 in
set_option maxRecDepth 100000 in
theorem rd_eventOf (l : Launch) (D : va_G) (I C Q : ClassId) (y0 : Nat) (i k : Nat) {xx : LV} (h : uG xx) (hi : i < 64) (hk : k < 6) : KI l D (tyL I C Q) yX8_eventOf wsX8_eventOf rm9 (.ref y0 :: [.int (nI i), .int (nI k)]) (uX I C Q y0 xx) (uX I C Q y0 xx) (q_evo xx.2.1 i k) := by
  obtain ⟨ad, ⟨⟨ev, dbl, pn, u, wd, w, tl, tk, cb, wt, lt⟩, z, lg, gr, mv⟩, ⟨sg, L, ⟨xp, xn, xi, xt, xk, xa, xe⟩, xf, xr⟩, o, n, hs⟩ := xx
  obtain ⟨⟨⟨now, np, hA⟩, hX, hF⟩, hn, ho, hH⟩ := id h
  have hA : rA now np z (ev, dbl, pn, u, wd, w, tl, tk, cb, wt, lt) lg gr mv := hA
  have hX : p_X pn u tl tk wt z := hX
  have hn : n ≤ 4 := hn
  have ho : o < 4 := ho
  obtain ⟨⟨z0, z1⟩, ⟨f6, f10, f0, f1, f2, f5, f7, f8⟩, hmv, hwt, hlt, hlg, hgr, ⟨h11, h11b, hnp, hu⟩, hE, hC, hB⟩ := id hA
  have hwt : wt = -1 ∨ ∃ v : Nat, v < 2000 ∧ wt = nI v := hwt
  obtain ⟨np64, hwk, hnk, u64, w40⟩ := uB hA
  have u64 : u ≤ 64 := u64
  have w40 : w ≤ 40 := w40
  exact (c_X8_eventOfO l D I C Q y0 (ad 0) (ad 1) (ad 2) (ad 3) (ad 4) (ad 5) (ad 6) (ad 7) (ad 8) (ad 9) (ad 10) (ad 11) (ad 12) (ad 13) (ad 14) (ad 15) (ad 16) ev dbl pn (nI u) wd (nI w) tl tk cb (nI z) lg gr wt lt mv sg (nI L) xp xn xi xt xk xa xe xf xr (nI o) (nI n) (u_fp hs) i k hi (isIn_ok (a := 0) (b := 63) (by omega) (by omega) (by omega)) (isIn_ok (a := 0) (b := 5) (by omega) (by omega) (by omega)) (by omega)).fr (by decide) (u_tl I hs)
set_option maxHeartbeats 4000000 in
set_option maxRecDepth 100000 in
theorem rd_wordAt (l : Launch) (D : va_G) (I C Q : ClassId) (y0 : Nat) (i k : Nat) {xx : LV} (h : uG xx) (hi : i < aW (cS xx.2.1)) (hk : k < 4) : KI l D (tyL I C Q) yX8_wordAt wsX8_wordAt rm9 (.ref y0 :: [.int (nI i), .int (nI k)]) (uX I C Q y0 xx) (uX I C Q y0 xx) (q_wrd xx.2.1 i k) := by
  obtain ⟨ad, ⟨⟨ev, dbl, pn, u, wd, w, tl, tk, cb, wt, lt⟩, z, lg, gr, mv⟩, ⟨sg, L, ⟨xp, xn, xi, xt, xk, xa, xe⟩, xf, xr⟩, o, n, hs⟩ := xx
  obtain ⟨⟨⟨now, np, hA⟩, hX, hF⟩, hn, ho, hH⟩ := id h
  have hA : rA now np z (ev, dbl, pn, u, wd, w, tl, tk, cb, wt, lt) lg gr mv := hA
  have hX : p_X pn u tl tk wt z := hX
  have hn : n ≤ 4 := hn
  have ho : o < 4 := ho
  obtain ⟨⟨z0, z1⟩, ⟨f6, f10, f0, f1, f2, f5, f7, f8⟩, hmv, hwt, hlt, hlg, hgr, ⟨h11, h11b, hnp, hu⟩, hE, hC, hB⟩ := id hA
  have hwt : wt = -1 ∨ ∃ v : Nat, v < 2000 ∧ wt = nI v := hwt
  obtain ⟨np64, hwk, hnk, u64, w40⟩ := uB hA
  have u64 : u ≤ 64 := u64
  have w40 : w ≤ 40 := w40
  have hi : i < w := hi
  have h8 := c_X8_wordAtO l D I C Q y0 (ad 0) (ad 1) (ad 2) (ad 3) (ad 4) (ad 5) (ad 6) (ad 7) (ad 8) (ad 9) (ad 10) (ad 11) (ad 12) (ad 13) (ad 14) (ad 15) (ad 16) ev dbl pn (nI u) wd w tl tk cb (nI z) lg gr wt lt mv sg (nI L) xp xn xi xt xk xa xe xf xr (nI o) (nI n) (u_fp hs) i k w40 (by omega) hk (isIn_ok (a := 0) (b := 3) (by omega) (by omega) (by omega))
  rw [if_neg (by omega)] at h8
  exact h8.fr (by decide) (u_tl I hs)
set_option maxHeartbeats 4000000 in
set_option maxRecDepth 100000 in
theorem rd_filed (l : Launch) (D : va_G) (I C Q : ClassId) (y0 : Nat) (c k : Nat) {xx : LV} (h : uG xx) (hc : c < 3) (hk : k < 4) : KI l D (tyL I C Q) yX8_filed wsX8_filed rm9 (.ref y0 :: [.int (nI c), .int (nI k)]) (uX I C Q y0 xx) (uX I C Q y0 xx) (q_fil xx.2.1 c k) := by
  obtain ⟨ad, ⟨⟨ev, dbl, pn, u, wd, w, tl, tk, cb, wt, lt⟩, z, lg, gr, mv⟩, ⟨sg, L, ⟨xp, xn, xi, xt, xk, xa, xe⟩, xf, xr⟩, o, n, hs⟩ := xx
  obtain ⟨⟨⟨now, np, hA⟩, hX, hF⟩, hn, ho, hH⟩ := id h
  have hA : rA now np z (ev, dbl, pn, u, wd, w, tl, tk, cb, wt, lt) lg gr mv := hA
  have hX : p_X pn u tl tk wt z := hX
  have hn : n ≤ 4 := hn
  have ho : o < 4 := ho
  obtain ⟨⟨z0, z1⟩, ⟨f6, f10, f0, f1, f2, f5, f7, f8⟩, hmv, hwt, hlt, hlg, hgr, ⟨h11, h11b, hnp, hu⟩, hE, hC, hB⟩ := id hA
  have hwt : wt = -1 ∨ ∃ v : Nat, v < 2000 ∧ wt = nI v := hwt
  obtain ⟨np64, hwk, hnk, u64, w40⟩ := uB hA
  have u64 : u ≤ 64 := u64
  have w40 : w ≤ 40 := w40
  exact (c_X8_filedO l D I C Q y0 (ad 0) (ad 1) (ad 2) (ad 3) (ad 4) (ad 5) (ad 6) (ad 7) (ad 8) (ad 9) (ad 10) (ad 11) (ad 12) (ad 13) (ad 14) (ad 15) (ad 16) ev dbl pn (nI u) wd (nI w) tl tk cb (nI z) lg gr wt lt mv sg (nI L) xp xn xi xt xk xa xe xf xr (nI o) (nI n) (u_fp hs) c k (isIn_ok (a := 0) (b := 2) (by omega) (by omega) (by omega)) (isIn_ok (a := 0) (b := 3) (by omega) (by omega) (by omega)) hc hk).fr (by decide) (u_tl I hs)
set_option maxHeartbeats 4000000 in
set_option maxRecDepth 100000 in
theorem rd_next0 (l : Launch) (D : va_G) (I C Q : ClassId) (y0 : Nat) {xx : LV} (h : uG xx) : KI l D (tyL I C Q) yX8_nextPane wsX8_nextPane rm9 (.ref y0 :: [.int (-1)]) (uX I C Q y0 xx) (uX I C Q y0 xx) (q_nx (aPn (cS xx.2.1)) (q_u xx.2.1) 0) := by
  obtain ⟨ad, ⟨⟨ev, dbl, pn, u, wd, w, tl, tk, cb, wt, lt⟩, z, lg, gr, mv⟩, ⟨sg, L, ⟨xp, xn, xi, xt, xk, xa, xe⟩, xf, xr⟩, o, n, hs⟩ := xx
  obtain ⟨⟨⟨now, np, hA⟩, hX, hF⟩, hn, ho, hH⟩ := id h
  have hA : rA now np z (ev, dbl, pn, u, wd, w, tl, tk, cb, wt, lt) lg gr mv := hA
  have hX : p_X pn u tl tk wt z := hX
  have hn : n ≤ 4 := hn
  have ho : o < 4 := ho
  obtain ⟨⟨z0, z1⟩, ⟨f6, f10, f0, f1, f2, f5, f7, f8⟩, hmv, hwt, hlt, hlg, hgr, ⟨h11, h11b, hnp, hu⟩, hE, hC, hB⟩ := id hA
  have hwt : wt = -1 ∨ ∃ v : Nat, v < 2000 ∧ wt = nI v := hwt
  obtain ⟨np64, hwk, hnk, u64, w40⟩ := uB hA
  have u64 : u ≤ 64 := u64
  have w40 : w ≤ 40 := w40
  have h8 := c_X8_nextPaneO l D I C Q y0 (ad 0) (ad 1) (ad 2) (ad 3) (ad 4) (ad 5) (ad 6) (ad 7) (ad 8) (ad 9) (ad 10) (ad 11) (ad 12) (ad 13) (ad 14) (ad 15) (ad 16) ev dbl pn u wd (nI w) tl tk cb (nI z) lg gr wt lt mv sg (nI L) xp xn xi xt xk xa xe xf xr (nI o) (nI n) (u_fp hs) (-1) u64 (by decide)
  rw [nx_0 hX.1] at h8
  exact h8.fr (by decide) (u_tl I hs)
set_option maxHeartbeats 4000000 in
set_option maxRecDepth 100000 in
theorem rd_nextP (l : Launch) (D : va_G) (I C Q : ClassId) (y0 : Nat) (r : Nat) {xx : LV} (h : uG xx) (hr : r < q_u xx.2.1) : KI l D (tyL I C Q) yX8_nextPane wsX8_nextPane rm9 (.ref y0 :: [.int (q_pn xx.2.1 r)]) (uX I C Q y0 xx) (uX I C Q y0 xx) (q_nx (aPn (cS xx.2.1)) (q_u xx.2.1) (r + 1)) := by
  obtain ⟨ad, ⟨⟨ev, dbl, pn, u, wd, w, tl, tk, cb, wt, lt⟩, z, lg, gr, mv⟩, ⟨sg, L, ⟨xp, xn, xi, xt, xk, xa, xe⟩, xf, xr⟩, o, n, hs⟩ := xx
  obtain ⟨⟨⟨now, np, hA⟩, hX, hF⟩, hn, ho, hH⟩ := id h
  have hA : rA now np z (ev, dbl, pn, u, wd, w, tl, tk, cb, wt, lt) lg gr mv := hA
  have hX : p_X pn u tl tk wt z := hX
  have hn : n ≤ 4 := hn
  have ho : o < 4 := ho
  obtain ⟨⟨z0, z1⟩, ⟨f6, f10, f0, f1, f2, f5, f7, f8⟩, hmv, hwt, hlt, hlg, hgr, ⟨h11, h11b, hnp, hu⟩, hE, hC, hB⟩ := id hA
  have hwt : wt = -1 ∨ ∃ v : Nat, v < 2000 ∧ wt = nI v := hwt
  obtain ⟨np64, hwk, hnk, u64, w40⟩ := uB hA
  have u64 : u ≤ 64 := u64
  have w40 : w ≤ 40 := w40
  have hr : r < u := hr
  obtain ⟨q1, q2, q3, q4⟩ := r_p_at hX.1 hr
  have hfit := pane_fits hA q1 q3
  have hht : ¬ x_ht (pn (r * 8 + 7)) z = 0 := by rw [q2]; exact x_ht_1 q1 hfit
  have hin : ¬ m_isIn (pn (r * 8 + 7)) (-1) 1999 = 0 := fun e => by
    rw [q2] at e
    rcases m_isIn0.mp e with e | e
    · rw [Int32.lt_iff_toInt_lt, nI_toInt (by omega), show (-1 : Int32).toInt = -1 by decide] at e; omega
    · have := (nI_ltI (a := 1999) (b := r_p pn r) (by omega) (by omega)).mp e; omega
  have h8 := c_X8_nextPaneO l D I C Q y0 (ad 0) (ad 1) (ad 2) (ad 3) (ad 4) (ad 5) (ad 6) (ad 7) (ad 8) (ad 9) (ad 10) (ad 11) (ad 12) (ad 13) (ad 14) (ad 15) (ad 16) ev dbl pn u wd (nI w) tl tk cb (nI z) lg gr wt lt mv sg (nI L) xp xn xi xt xk xa xe xf xr (nI o) (nI n) (u_fp hs) (pn (r * 8 + 7)) u64 hin
  rw [nx_s hX.1 hr] at h8
  exact h8.fr (by decide) (u_tl I hs)
set_option maxHeartbeats 4000000 in
set_option maxRecDepth 100000 in
theorem rd_paneOf (l : Launch) (D : va_G) (I C Q : ClassId) (y0 : Nat) (r k : Nat) {xx : LV} (h : uG xx) (hr : r < q_u xx.2.1) (hk : k < 7) : KI l D (tyL I C Q) yX8_paneOf wsX8_paneOf rm9 (.ref y0 :: [.int (q_pn xx.2.1 r), .int (nI k)]) (uX I C Q y0 xx) (uX I C Q y0 xx) (q_pof xx.2.1 r k) := by
  obtain ⟨ad, ⟨⟨ev, dbl, pn, u, wd, w, tl, tk, cb, wt, lt⟩, z, lg, gr, mv⟩, ⟨sg, L, ⟨xp, xn, xi, xt, xk, xa, xe⟩, xf, xr⟩, o, n, hs⟩ := xx
  obtain ⟨⟨⟨now, np, hA⟩, hX, hF⟩, hn, ho, hH⟩ := id h
  have hA : rA now np z (ev, dbl, pn, u, wd, w, tl, tk, cb, wt, lt) lg gr mv := hA
  have hX : p_X pn u tl tk wt z := hX
  have hn : n ≤ 4 := hn
  have ho : o < 4 := ho
  obtain ⟨⟨z0, z1⟩, ⟨f6, f10, f0, f1, f2, f5, f7, f8⟩, hmv, hwt, hlt, hlg, hgr, ⟨h11, h11b, hnp, hu⟩, hE, hC, hB⟩ := id hA
  have hwt : wt = -1 ∨ ∃ v : Nat, v < 2000 ∧ wt = nI v := hwt
  obtain ⟨np64, hwk, hnk, u64, w40⟩ := uB hA
  have u64 : u ≤ 64 := u64
  have w40 : w ≤ 40 := w40
  have hr : r < u := hr
  obtain ⟨q1, q2, q3, q4⟩ := r_p_at hX.1 hr
  have hfit := pane_fits hA q1 q3
  have hht : ¬ x_ht (pn (r * 8 + 7)) z = 0 := by rw [q2]; exact x_ht_1 q1 hfit
  exact (c_X8_paneOfO l D I C Q y0 (ad 0) (ad 1) (ad 2) (ad 3) (ad 4) (ad 5) (ad 6) (ad 7) (ad 8) (ad 9) (ad 10) (ad 11) (ad 12) (ad 13) (ad 14) (ad 15) (ad 16) ev dbl pn u wd (nI w) tl tk cb z lg gr wt lt mv sg (nI L) xp xn xi xt xk xa xe xf xr (nI o) (nI n) (u_fp hs) (pn (r * 8 + 7)) k u64 hht hk).fr (by decide) (u_tl I hs)
set_option maxHeartbeats 4000000 in
set_option maxRecDepth 100000 in
theorem rd_mean (l : Launch) (D : va_G) (I C Q : ClassId) (y0 : Nat) (r : Nat) {xx : LV} (h : uG xx) (hr : r < q_u xx.2.1) : KI l D (tyL I C Q) yX8_mean wsX8_mean rm9 (.ref y0 :: [.int (q_pn xx.2.1 r)]) (uX I C Q y0 xx) (uX I C Q y0 xx) (q_mea xx.2.1 r) := by
  obtain ⟨ad, ⟨⟨ev, dbl, pn, u, wd, w, tl, tk, cb, wt, lt⟩, z, lg, gr, mv⟩, ⟨sg, L, ⟨xp, xn, xi, xt, xk, xa, xe⟩, xf, xr⟩, o, n, hs⟩ := xx
  obtain ⟨⟨⟨now, np, hA⟩, hX, hF⟩, hn, ho, hH⟩ := id h
  have hA : rA now np z (ev, dbl, pn, u, wd, w, tl, tk, cb, wt, lt) lg gr mv := hA
  have hX : p_X pn u tl tk wt z := hX
  have hn : n ≤ 4 := hn
  have ho : o < 4 := ho
  obtain ⟨⟨z0, z1⟩, ⟨f6, f10, f0, f1, f2, f5, f7, f8⟩, hmv, hwt, hlt, hlg, hgr, ⟨h11, h11b, hnp, hu⟩, hE, hC, hB⟩ := id hA
  have hwt : wt = -1 ∨ ∃ v : Nat, v < 2000 ∧ wt = nI v := hwt
  obtain ⟨np64, hwk, hnk, u64, w40⟩ := uB hA
  have u64 : u ≤ 64 := u64
  have w40 : w ≤ 40 := w40
  have hr : r < u := hr
  obtain ⟨q1, q2, q3, q4⟩ := r_p_at hX.1 hr
  have hfit := pane_fits hA q1 q3
  have hht : ¬ x_ht (pn (r * 8 + 7)) z = 0 := by rw [q2]; exact x_ht_1 q1 hfit
  obtain ⟨r1, k, k1, k2, k3, k4, k5⟩ := mean_rel hA q1
  rw [← q2] at k3 k5
  exact (c_X8_meanO l D I C Q y0 (ad 0) (ad 1) (ad 2) (ad 3) (ad 4) (ad 5) (ad 6) (ad 7) (ad 8) (ad 9) (ad 10) (ad 11) (ad 12) (ad 13) (ad 14) (ad 15) (ad 16) ev dbl pn u wd (nI w) tl tk cb z lg gr wt lt mv sg (nI L) xp xn xi xt xk xa xe xf xr (nI o) (nI n) (u_fp hs) k (pn (r * 8 + 7)) u64 hht k3 k1 k5).fr (by decide) (u_tl I hs)
set_option maxHeartbeats 4000000 in
set_option maxRecDepth 100000 in
theorem rd_standing (l : Launch) (D : va_G) (I C Q : ClassId) (y0 : Nat) (r k : Nat) {xx : LV} (h : uG xx) (hr : r < q_u xx.2.1) (hk : k < 2) : KI l D (tyL I C Q) yX8_standing wsX8_standing rm9 (.ref y0 :: [.int (q_pn xx.2.1 r), .int (nI k)]) (uX I C Q y0 xx) (uX I C Q y0 xx) (q_std xx.2.1 r k) := by
  obtain ⟨ad, ⟨⟨ev, dbl, pn, u, wd, w, tl, tk, cb, wt, lt⟩, z, lg, gr, mv⟩, ⟨sg, L, ⟨xp, xn, xi, xt, xk, xa, xe⟩, xf, xr⟩, o, n, hs⟩ := xx
  obtain ⟨⟨⟨now, np, hA⟩, hX, hF⟩, hn, ho, hH⟩ := id h
  have hA : rA now np z (ev, dbl, pn, u, wd, w, tl, tk, cb, wt, lt) lg gr mv := hA
  have hX : p_X pn u tl tk wt z := hX
  have hn : n ≤ 4 := hn
  have ho : o < 4 := ho
  obtain ⟨⟨z0, z1⟩, ⟨f6, f10, f0, f1, f2, f5, f7, f8⟩, hmv, hwt, hlt, hlg, hgr, ⟨h11, h11b, hnp, hu⟩, hE, hC, hB⟩ := id hA
  have hwt : wt = -1 ∨ ∃ v : Nat, v < 2000 ∧ wt = nI v := hwt
  obtain ⟨np64, hwk, hnk, u64, w40⟩ := uB hA
  have u64 : u ≤ 64 := u64
  have w40 : w ≤ 40 := w40
  have hr : r < u := hr
  obtain ⟨q1, q2, q3, q4⟩ := r_p_at hX.1 hr
  have hfit := pane_fits hA q1 q3
  have hht : ¬ x_ht (pn (r * 8 + 7)) z = 0 := by rw [q2]; exact x_ht_1 q1 hfit
  exact (c_X8_standingO l D I C Q y0 (ad 0) (ad 1) (ad 2) (ad 3) (ad 4) (ad 5) (ad 6) (ad 7) (ad 8) (ad 9) (ad 10) (ad 11) (ad 12) (ad 13) (ad 14) (ad 15) (ad 16) ev dbl pn u wd (nI w) tl tk cb z lg gr wt lt mv sg (nI L) xp xn xi xt xk xa xe xf xr (nI o) (nI n) (u_fp hs) (pn (r * 8 + 7)) k u64 hht hk).fr (by decide) (u_tl I hs)
set_option maxHeartbeats 4000000 in
set_option maxRecDepth 100000 in
theorem rd_judge (l : Launch) (D : va_G) (I C Q : ClassId) (y0 : Nat) (t : Nat) (key x : Int32) {xx : LV} (h : uG xx) (ht : t < 2000) (hk : ¬ m_isIn key 0 5 = 0) (hx : ¬ m_isIn x 0 3 = 0) : KI l D (tyL I C Q) yX8_judge wsX8_judge rm9 (.ref y0 :: [.int (nI t), .int key, .int x]) (uX I C Q y0 xx) (uX I C Q y0 xx) (q_jdg xx.2.1 t key x) := by
  obtain ⟨ad, ⟨⟨ev, dbl, pn, u, wd, w, tl, tk, cb, wt, lt⟩, z, lg, gr, mv⟩, ⟨sg, L, ⟨xp, xn, xi, xt, xk, xa, xe⟩, xf, xr⟩, o, n, hs⟩ := xx
  obtain ⟨⟨⟨now, np, hA⟩, hX, hF⟩, hn, ho, hH⟩ := id h
  have hA : rA now np z (ev, dbl, pn, u, wd, w, tl, tk, cb, wt, lt) lg gr mv := hA
  have hX : p_X pn u tl tk wt z := hX
  have hn : n ≤ 4 := hn
  have ho : o < 4 := ho
  obtain ⟨⟨z0, z1⟩, ⟨f6, f10, f0, f1, f2, f5, f7, f8⟩, hmv, hwt, hlt, hlg, hgr, ⟨h11, h11b, hnp, hu⟩, hE, hC, hB⟩ := id hA
  have hwt : wt = -1 ∨ ∃ v : Nat, v < 2000 ∧ wt = nI v := hwt
  obtain ⟨np64, hwk, hnk, u64, w40⟩ := uB hA
  have u64 : u ≤ 64 := u64
  have w40 : w ≤ 40 := w40
  exact (c_X8_judgeO l D I C Q y0 (ad 0) (ad 1) (ad 2) (ad 3) (ad 4) (ad 5) (ad 6) (ad 7) (ad 8) (ad 9) (ad 10) (ad 11) (ad 12) (ad 13) (ad 14) (ad 15) (ad 16) ev dbl pn u wd (nI w) tl tk cb z lg gr wt lt mv sg (nI L) xp xn xi xt xk xa xe xf xr (nI o) (nI n) (u_fp hs) t key x z0 z1 u64 ht (isIn_ok (a := 0) (b := 1999) (by omega) (by omega) (by omega)) hk hx).fr (by decide) (u_tl I hs)
