/-! one call on the class alone -/
def u_st (x : LV) (ov : Option CV) (x' : LV) : Prop :=
  (ov = none ∧ x' = x) ∨ ∃ v', ov = some v' ∧ ∃ pa : Nat → Nat, x' = (x.1, v', x.2.2.1, h_ol x.2.2.2.1 x.2.2.2.2.1, m_rns x.2.2.2.2.1, u_up x.2.2.2.2.2 (h_pl x.2.2.2.1 x.2.2.2.2.1) (pa, x.2.1))
def uG (x : LV) : Prop := g_ok x.2.1 ∧ x.2.2.2.2.1 ≤ 4 ∧ x.2.2.2.1 < 4 ∧ ∀ i, i < x.2.2.2.2.1 → ∃ (pa : Nat → Nat) (w : CV), x.2.2.2.2.2 ((x.2.2.2.1 + i) % 4) = some (pa, w) ∧ g_ok w
def uY (l : Launch) (D : va_G) (I C Q : ClassId) (y0 : Nat) (y8 : MethodName) (wm8 : List Cond) (as : List Value) (x : LV) (R : FR) : Prop :=
  KIe l D (tyL I C Q) y8 wm8 rm8 (.ref y0 :: as) (uX I C Q y0 x) 13 1166 (fun r9 w9 => r9 = R.1 ∧ ∃ x', w9 = uX I C Q y0 x' ∧ u_st x R.2 x')
theorem uG_keep {ad : Nat → Nat} {v v' : CV} {t : TXv} {o n : Nat} {hs : HS} (h : uG (ad, v, t, o, n, hs)) (hv : g_ok v') (pa : Nat → Nat) : uG (ad, v', t, h_ol o n, m_rns n, u_up hs (h_pl o n) (pa, v)) := by
  obtain ⟨hg, hn, ho, hH⟩ := h
  have hn : n ≤ 4 := hn
  have ho : o < 4 := ho
  refine ⟨hv, m_rns4 hn, h_ol4 n ho, fun i hi => ?_⟩
  show ∃ (pb : Nat → Nat) (w : CV), u_up hs (h_pl o n) (pa, v) ((h_ol o n + i) % 4) = some (pb, w) ∧ g_ok w
  have hi : i < m_rns n := hi
  by_cases c : n < 4
  · rw [m_rns, if_pos c] at hi
    rw [h_ol, if_pos c, h_pl, if_pos c]
    by_cases e : i = n
    · rw [e]; exact ⟨pa, v, u_up_at, hg⟩
    · obtain ⟨pb, w, g1, g2⟩ := hH i (by show i < n; omega)
      exact ⟨pb, w, by rw [u_up_ne (by omega)]; exact g1, g2⟩
  · have hn4 : n = 4 := by omega
    rw [m_rns, if_neg c] at hi
    rw [h_ol, if_neg c, h_pl, if_neg c]
    by_cases e : i = 3
    · rw [e]; exact ⟨pa, v, u_up_at, hg⟩
    · obtain ⟨pb, w, g1, g2⟩ := hH (i + 1) (by show i + 1 < n; omega)
      have g1 : hs ((o + (i + 1)) % 4) = some (pb, w) := g1
      exact ⟨pb, w, by rw [u_up_ne (by omega), show ((o + 1) % 4 + i) % 4 = (o + (i + 1)) % 4 by omega]; exact g1, g2⟩
theorem uG_st {x x' : LV} {R : FR} (h : uG x) (hR : f_good x.2.1 R) (hs : u_st x R.2 x') : uG x' := by
  obtain ⟨ad, v, t, o, n, hs9⟩ := x
  rcases hs with ⟨-, rfl⟩ | ⟨v', e, pa, rfl⟩
  · exact h
  · rcases hR with ⟨e2, -⟩ | ⟨v2, e2, -, hv, -⟩
    · rw [e2] at e; cases e
    · rw [e2] at e
      obtain rfl : v2 = v' := Option.some.inj e
      exact uG_keep h hv pa
theorem uG_last {ad : Nat → Nat} {v : CV} {t : TXv} {o n : Nat} {hs : HS} (h : uG (ad, v, t, o, n, hs)) (h0 : 0 < n) : ∃ (pa : Nat → Nat) (w : CV), hs ((o + n - 1) % 4) = some (pa, w) ∧ g_ok w ∧ uG (ad, w, t, o, n - 1, hs) := by
  obtain ⟨hg, hn, ho, hH⟩ := h
  obtain ⟨pa, w, g1, g2⟩ := hH (n - 1) (by show n - 1 < n; omega)
  have g1 : hs ((o + (n - 1)) % 4) = some (pa, w) := g1
  rw [show o + (n - 1) = o + n - 1 by omega] at g1
  refine ⟨pa, w, g1, g2, g2, ?_, ho, fun i hi => hH i ?_⟩
  · have hn : n ≤ 4 := hn
    show n - 1 ≤ 4; omega
  · have hi : i < n - 1 := hi
    show i < n; omega
section UY
variable {l : Launch} {D : va_G} {I C Q : ClassId} {y0 : Nat} {ty : kTy} {y y8 : MethodName} {wm wm8 : List Cond} {rm rm' rb rc : Room} {av as : List Value} {wc wc' : va_W} {ad : Nat → Nat} {v v' : CV} {t : TXv} {o n : Nat} {hs : HS} {r : Int32}
theorem KI.fr (h : KI l D ty y wm rm av wc wc' r) (hr : rmLe rm rm') (wr : va_W) : KI l D ty y wm rm' av (wc ++ wr) (wc' ++ wr) r := by
  intro sz p e ha hc2 hk s m args below hf happ hp ht
  obtain ⟨a0, hz, hP, hK, hD⟩ := hp
  obtain ⟨n, o, g1, g2, g3, ⟨⟨q, u, e1, e2, hP1, hD1⟩, hF⟩, L, hL, hL2⟩ := h sz p e ha hc2 hk s m args below hf (appl_le hr hf happ) ⟨a0, hz, wP_l hP, hK, wD_l hD⟩ ht
  subst hz
  obtain ⟨q1, q2⟩ := w_join (A0 := va_A (wc ++ wr) s.heap.size) hP (hD.self) hF.2 (fun q hq => wA_l hq) hP1 hD1
  exact ⟨n, o, g1, g2, g3, ⟨⟨q, u, e1, e2, q1, q2⟩, ⟨hF.1, fun q a b => hF.2 q a (fun c => b (wA_l c))⟩⟩, L, hL, fun q hq => wA_l (hL2 q hq)⟩
theorem uY_text (h8 : KI l D (tyL I C Q) y8 wm8 rb (.ref y0 :: as) (uL I C Q y0 ad v t o n (u_fp hs)) (uL I C Q y0 ad v t o n (u_fp hs)) r) (hb : rmLe rb rm8) : uY l D I C Q y0 y8 wm8 as (ad, v, t, o, n, hs) (r, none) := by
  refine (h8.toE.fr hb (Nat.zero_le _) (Nat.zero_le _) (u_tl I hs)).perm (List.Perm.refl _) (fun r9 w9 h => ?_)
  obtain ⟨w1, ⟨e1, e2⟩, e3⟩ := h
  exact ⟨_, List.Perm.refl _, e1, (ad, v, t, o, n, hs), by rw [e3, e2]; rfl, Or.inl ⟨rfl, rfl⟩⟩
theorem uY_keep (hb : rmLe rb rm8) (hc : rmLe rc rm8)
    (hKR : ∀ (pa : Nat → Nat) (v0 : CV), hs (h_pl o n) = some (pa, v0) → KI l D (tyL I C Q) y8 wm8 rb (.ref y0 :: as) (uL I C Q y0 ad v t o n (u_fp hs) ++ uC I pa v0) (uL I C Q y0 ad v' t (h_ol o n) (m_rns n) (u_fp hs) ++ uC I pa v) r)
    (hKA : hs (h_pl o n) = none → KIe l D (tyL I C Q) y8 wm8 rc (.ref y0 :: as) (uL I C Q y0 ad v t o n (u_fp hs)) 13 1166 (fun r9 w9 => r9 = r ∧ ∃ c0x e0x e1x e2x p0x p1x p2x w0x w1x w2x g0x g1x g2x : Nat, w9 = uL I C Q y0 ad v' t (h_ol o n) (m_rns n) (va_up (u_fp hs) (h_pl o n) (some c0x)) ++ wC I c0x e0x e1x e2x p0x p1x p2x w0x w1x w2x g0x g1x g2x (aEv (cS v)) (aDb (cS v)) (aPn (cS v)) (nI (aU (cS v))) (aWd (cS v)) (nI (aW (cS v))) (aTl (cS v)) (aTk (cS v)) (aCb (cS v)) (nI (cZ v)) (cLg v) (cGr v) (aWt (cS v)) (aLt (cS v)) (cMv v))) :
    uY l D I C Q y0 y8 wm8 as (ad, v, t, o, n, hs) (r, some v') := by
  have hj := h_pl4 o n
  have hst : ∀ pa : Nat → Nat, u_st (ad, v, t, o, n, hs) (some v') (ad, v', t, h_ol o n, m_rns n, u_up hs (h_pl o n) (pa, v)) := fun pa => Or.inr ⟨v', rfl, pa, rfl⟩
  obtain ⟨j, hj9⟩ : ∃ j, j = h_pl o n := ⟨_, rfl⟩
  rw [← hj9] at hj hst hKR hKA
  obtain ⟨o', ho9⟩ : ∃ j, j = h_ol o n := ⟨_, rfl⟩
  obtain ⟨n', hn9⟩ : ∃ j, j = m_rns n := ⟨_, rfl⟩
  rw [← ho9, ← hn9] at hst hKA
  rw [← ho9, ← hn9] at hKR
  have hp := u_tl_perm (I := I) (hs := hs) hj
  have hpu : ∀ q, (uC I q.1 q.2 ++ u_rs I hs j).Perm (u_tl I (u_up hs j q)) := fun q => by
    have h := u_tl_perm (I := I) (hs := u_up hs j q) hj
    rw [u_sl_eq u_up_at, u_rs_up hj] at h
    exact h.symm
  cases hh : hs j with
  | some q =>
    obtain ⟨pa, v0⟩ := q
    rw [u_sl_eq hh] at hp
    refine ((hKR pa v0 hh).toE.fr hb (Nat.zero_le _) (Nat.zero_le _) (u_rs I hs j)).perm ?_ (fun r9 w9 h => ?_)
    · show ((uL I C Q y0 ad v t o n (u_fp hs) ++ uC I pa v0) ++ u_rs I hs j).Perm (uL I C Q y0 ad v t o n (u_fp hs) ++ u_tl I hs)
      rw [List.append_assoc]
      exact hp.symm.append_left _
    · obtain ⟨w1, ⟨e1, e2⟩, e3⟩ := h
      refine ⟨_, ?_, e1, (ad, v', t, o', n', u_up hs j (pa, v)), rfl, hst pa⟩
      show w9.Perm (uL I C Q y0 ad v' t o' n' (u_fp (u_up hs j (pa, v))) ++ u_tl I (u_up hs j (pa, v)))
      rw [e3, e2, u_fp_same hh, List.append_assoc]
      exact (hpu (pa, v)).append_left _
  | none =>
    rw [u_sl_no hh] at hp
    refine ((hKA hh).fr hc (Nat.le_refl _) (Nat.le_refl _) (u_rs I hs j)).perm ?_ (fun r9 w9 h => ?_)
    · show (uL I C Q y0 ad v t o n (u_fp hs) ++ u_rs I hs j).Perm (uL I C Q y0 ad v t o n (u_fp hs) ++ u_tl I hs)
      exact hp.symm.append_left _
    · obtain ⟨w1, ⟨e1, c0x, e0x, e1x, e2x, p0x, p1x, p2x, w0x, w1x, w2x, g0x, g1x, g2x, e2⟩, e3⟩ := h
      obtain ⟨pa, hpa⟩ : ∃ pa : Nat → Nat, pa = fun i => match i with | 0 => c0x | 1 => e0x | 2 => e1x | 3 => e2x | 4 => p0x | 5 => p1x | 6 => p2x | 7 => w0x | 8 => w1x | 9 => w2x | 10 => g0x | 11 => g1x | _ => g2x := ⟨_, rfl⟩
      refine ⟨_, ?_, e1, (ad, v', t, o', n', u_up hs j (pa, v)), rfl, hst pa⟩
      show w9.Perm (uL I C Q y0 ad v' t o' n' (u_fp (u_up hs j (pa, v))) ++ u_tl I (u_up hs j (pa, v)))
      have h1 := hpu (pa, v)
      rw [e3, e2, u_fp_up, List.append_assoc]
      rw [hpa] at h1 ⊢
      exact h1.append_left _
end UY
theorem f_set_B {v : CV} {x y : Int32} (h : m_isIn x 0 2 = 0 ∨ m_isIn y (if x = 0 then 1 else 0) 100 = 0) : f_set v x y = (-1000001, none) := by rw [f_set, if_pos h]
theorem f_set_N {v : CV} {x y : Int32} (h : ¬ (m_isIn x 0 2 = 0 ∨ m_isIn y (if x = 0 then 1 else 0) 100 = 0)) (h2 : x = 0 ∧ ¬ e_wo (aEv (cS v)) 0 3 64 = 0) : f_set v x y = (-1000002, none) := by rw [f_set, if_neg h, if_pos h2]
theorem f_set_O {v : CV} {x y : Int32} {s' : Nat} (h : ¬ (m_isIn x 0 2 = 0 ∨ m_isIn y (if x = 0 then 1 else 0) 100 = 0)) (h2 : ¬ (x = 0 ∧ ¬ e_wo (aEv (cS v)) 0 3 64 = 0)) (h3 : (if x = 0 then y else nI (cZ v)) = nI s') (h4 : s' ≤ 100) : f_set v x y = ((if x = 0 then nI (cZ v) else if x = 1 then cLg v else cGr v), some (cS v, s', (if x = 0 then cLg v else if x = 1 then y else cLg v), (if x = 0 then cGr v else if x = 1 then cGr v else y), cMv v)) := by rw [f_set, if_neg h, if_neg h2, f_setV, h3, nI_clamp (by omega)]
theorem f_evt_B {v : CV} {i t key am x : Int32} (h : x_isE i t key am = 0 ∨ m_isIn x 0 3 = 0) : f_evt v i t key am x = (-1000001, none) := by rw [f_evt, if_pos h]
theorem f_evt_O {v : CV} {i t : Nat} {key am x : Int32} (hi : i < 64) (ht : t < 2000) (h : ¬ (x_isE (nI i) (nI t) key am = 0 ∨ m_isIn x 0 3 = 0)) : f_evt v (nI i) (nI t) key am x = ((x_adm (cZ v) (cLg v) (cGr v) (cS v) i t key am x).1, some ((x_adm (cZ v) (cLg v) (cGr v) (cS v) i t key am x).2, cZ v, cLg v, cGr v, cMv v)) := by rw [f_evt, if_neg h, f_adN hi ht]
theorem f_mov_B {v : CV} {ti : Int32} (h : m_isIn ti 1 100 = 0) : f_mov v ti = (-1000001, none) := by rw [f_mov, if_pos h]
theorem f_mov_N {v : CV} {ti : Int32} (h : ¬ m_isIn ti 1 100 = 0) (h2 : cMv v = 1 ∨ aWt (cS v) = -1) : f_mov v ti = (-1000002, none) := by rw [f_mov, if_neg h, if_pos h2]
theorem f_mov_O {v : CV} {ti : Int32} {V m0 : Nat} (h : ¬ m_isIn ti 1 100 = 0) (h2 : ¬ (cMv v = 1 ∨ aWt (cS v) = -1)) (hV : V < 2000) (hw : aWt (cS v) = nI V) (hm : (if 0 < c_mk (nI V) ti then c_mk (nI V) ti else 0) = nI m0) (hm2 : m0 ≤ V) : f_mov v ti = (nI (c_mbL V (cZ v) (aU (cS v)) (V / cZ v - m0 / cZ v) (m0 / cZ v) 0 (aPn (cS v), aWd (cS v), aW (cS v), aTk (cS v))).1, some (mvS (cS v) (c_mbL V (cZ v) (aU (cS v)) (V / cZ v - m0 / cZ v) (m0 / cZ v) 0 (aPn (cS v), aWd (cS v), aW (cS v), aTk (cS v))).2 (c_mk (nI V) ti), cZ v, cLg v, cGr v, 1)) := by
  rw [f_mov, if_neg h, if_neg h2, f_mR, f_mv0, hw, hm, nI_clamp (by omega), nI_clamp (by omega)]
set_option maxHeartbeats 4000000 in
set_option maxRecDepth 100000 in
theorem uY_set (l : Launch) (D : va_G) (I C Q : ClassId) (y0 : Nat) (x vv : Int32) {xx : LV} (h : uG xx) : uY l D I C Q y0 yX8_set wsX8_set [.int x, .int vv] xx (f_set xx.2.1 x vv) := by
  obtain ⟨ad, ⟨⟨ev, dbl, pn, u, wd, w, tl, tk, cb, wt, lt⟩, z, lg, gr, mv⟩, ⟨sg, L, ⟨xp, xn, xi, xt, xk, xa, xe⟩, xf, xr⟩, o, n, hs⟩ := xx
  obtain ⟨⟨⟨now, np, hA⟩, hX, hF⟩, hn, ho, hH⟩ := id h
  have hA : rA now np z (ev, dbl, pn, u, wd, w, tl, tk, cb, wt, lt) lg gr mv := hA
  have hX : p_X pn u tl tk wt z := hX
  have hn : n ≤ 4 := hn
  have ho : o < 4 := ho
  obtain ⟨⟨z0, z1⟩, ⟨f6, f10, f0, f1, f2, f5, f7, f8⟩, hmv, hwt, hlt, hlg, hgr, ⟨h11, h11b, hnp, hu⟩, hE, hC, hB⟩ := id hA
  have hwt : wt = -1 ∨ ∃ v : Nat, v < 2000 ∧ wt = nI v := hwt
  obtain ⟨np64, hwk, hnk, u64, w40⟩ := uB hA
  have u64 : u ≤ 64 := u64
  have w40 : w ≤ 40 := w40
  by_cases hb : m_isIn x 0 2 = 0 ∨ m_isIn vv (if x = 0 then 1 else 0) 100 = 0
  · rw [f_set_B hb]
    exact uY_text (ad := ad) (v := ((ev, dbl, pn, u, wd, w, tl, tk, cb, wt, lt), z, lg, gr, mv)) (t := (sg, L, (xp, xn, xi, xt, xk, xa, xe), xf, xr)) (o := o) (n := n) (hs := hs) (c_X8_setB l D I C Q y0 (ad 0) (ad 1) (ad 2) (ad 3) (ad 4) (ad 5) (ad 6) (ad 7) (ad 8) (ad 9) (ad 10) (ad 11) (ad 12) (ad 13) (ad 14) (ad 15) (ad 16) ev dbl pn (nI u) wd (nI w) tl tk cb (nI z) lg gr wt lt mv sg (nI L) xp xn xi xt xk xa xe xf xr (nI o) (nI n) (u_fp hs) x vv hb) (by decide)
  · have hb1 : ¬ m_isIn x 0 2 = 0 := fun h => hb (Or.inl h)
    have hb2 : ¬ m_isIn vv (if x = 0 then 1 else 0) 100 = 0 := fun h => hb (Or.inr h)
    by_cases hN : x = 0 ∧ ¬ e_wo ev 0 3 64 = 0
    · rw [f_set_N hb hN]
      exact uY_text (ad := ad) (v := ((ev, dbl, pn, u, wd, w, tl, tk, cb, wt, lt), z, lg, gr, mv)) (t := (sg, L, (xp, xn, xi, xt, xk, xa, xe), xf, xr)) (o := o) (n := n) (hs := hs) (c_X8_setN l D I C Q y0 (ad 0) (ad 1) (ad 2) (ad 3) (ad 4) (ad 5) (ad 6) (ad 7) (ad 8) (ad 9) (ad 10) (ad 11) (ad 12) (ad 13) (ad 14) (ad 15) (ad 16) ev dbl pn (nI u) wd (nI w) tl tk cb (nI z) lg gr wt lt mv sg (nI L) xp xn xi xt xk xa xe xf xr (nI o) (nI n) (u_fp hs) x vv hb1 hb2 hN.1 hN.2) (by decide)
    · obtain ⟨q, hq, rfl⟩ := isIn_nat (b := 2) hb1 (by decide)
      have hno : nI q = 0 → e_wo ev 0 3 64 = 0 := fun e => Classical.byContradiction (fun c => hN ⟨e, c⟩)
      obtain ⟨-, s', r2, r3⟩ := set_rel hA (by omega : q < 3) hb2 hno
      have hf := f_set_O (v := ((ev, dbl, pn, u, wd, w, tl, tk, cb, wt, lt), z, lg, gr, mv)) (s' := s') hb hN r2 r3.1.2
      have hf9 : f_set ((ad, ((ev, dbl, pn, u, wd, w, tl, tk, cb, wt, lt), z, lg, gr, mv), (sg, L, (xp, xn, xi, xt, xk, xa, xe), xf, xr), o, n, hs) : LV).2.1 (nI q) vv = _ := hf
      rw [hf9]
      refine uY_keep (rb := ({ frames := 6, cells := 0, slots := 0, locals := 147 } : Room)) (rc := ({ frames := 6, cells := 13, slots := 1166, locals := 147 } : Room)) (by decide) (by decide) (fun pa v0 hh => ?_) (fun hh => ?_)
      · have h8 := c_X8_setR l D I C Q y0 (ad 0) (ad 1) (ad 2) (ad 3) (ad 4) (ad 5) (ad 6) (ad 7) (ad 8) (ad 9) (ad 10) (ad 11) (ad 12) (ad 13) (ad 14) (ad 15) (ad 16) (pa 0) (pa 1) (pa 2) (pa 3) (pa 4) (pa 5) (pa 6) (pa 7) (pa 8) (pa 9) (pa 10) (pa 11) (pa 12) ev dbl pn (nI u) wd (nI w) tl tk cb (nI z) lg gr wt lt mv sg (nI L) xp xn xi xt xk xa xe xf xr o n (u_fp hs) (aEv (cS v0)) (aDb (cS v0)) (aPn (cS v0)) (nI (aU (cS v0))) (aWd (cS v0)) (nI (aW (cS v0))) (aTl (cS v0)) (aTk (cS v0)) (aCb (cS v0)) (nI (cZ v0)) (cLg v0) (cGr v0) (aWt (cS v0)) (aLt (cS v0)) (cMv v0) (nI q) vv hb1 hb2 hno hn ho hmv (u_fp_at hh)
        rw [r2] at h8
        exact h8
      · have h8 := c_X8_setA l D I C Q y0 (ad 0) (ad 1) (ad 2) (ad 3) (ad 4) (ad 5) (ad 6) (ad 7) (ad 8) (ad 9) (ad 10) (ad 11) (ad 12) (ad 13) (ad 14) (ad 15) (ad 16) ev dbl pn (nI u) wd (nI w) tl tk cb (nI z) lg gr wt lt mv sg (nI L) xp xn xi xt xk xa xe xf xr o n (u_fp hs) (nI q) vv hb1 hb2 hno hn ho hmv (u_fp_no hh)
        rw [r2] at h8
        exact h8
set_option maxHeartbeats 4000000 in
set_option maxRecDepth 100000 in
theorem uY_event (l : Launch) (D : va_G) (I C Q : ClassId) (y0 : Nat) (i tt key am x : Int32) {xx : LV} (h : uG xx) : uY l D I C Q y0 yX8_event wsX8_event [.int i, .int tt, .int key, .int am, .int x] xx (f_evt xx.2.1 i tt key am x) := by
  obtain ⟨ad, ⟨⟨ev, dbl, pn, u, wd, w, tl, tk, cb, wt, lt⟩, z, lg, gr, mv⟩, ⟨sg, L, ⟨xp, xn, xi, xt, xk, xa, xe⟩, xf, xr⟩, o, n, hs⟩ := xx
  obtain ⟨⟨⟨now, np, hA⟩, hX, hF⟩, hn, ho, hH⟩ := id h
  have hA : rA now np z (ev, dbl, pn, u, wd, w, tl, tk, cb, wt, lt) lg gr mv := hA
  have hX : p_X pn u tl tk wt z := hX
  have hn : n ≤ 4 := hn
  have ho : o < 4 := ho
  obtain ⟨⟨z0, z1⟩, ⟨f6, f10, f0, f1, f2, f5, f7, f8⟩, hmv, hwt, hlt, hlg, hgr, ⟨h11, h11b, hnp, hu⟩, hE, hC, hB⟩ := id hA
  have hwt : wt = -1 ∨ ∃ v : Nat, v < 2000 ∧ wt = nI v := hwt
  obtain ⟨np64, hwk, hnk, u64, w40⟩ := uB hA
  have u64 : u ≤ 64 := u64
  have w40 : w ≤ 40 := w40
  by_cases hb : x_isE i tt key am = 0 ∨ m_isIn x 0 3 = 0
  · rw [f_evt_B hb]
    exact uY_text (ad := ad) (v := ((ev, dbl, pn, u, wd, w, tl, tk, cb, wt, lt), z, lg, gr, mv)) (t := (sg, L, (xp, xn, xi, xt, xk, xa, xe), xf, xr)) (o := o) (n := n) (hs := hs) (c_X8_eventB l D I C Q y0 (ad 0) (ad 1) (ad 2) (ad 3) (ad 4) (ad 5) (ad 6) (ad 7) (ad 8) (ad 9) (ad 10) (ad 11) (ad 12) (ad 13) (ad 14) (ad 15) (ad 16) ev dbl pn (nI u) wd (nI w) tl tk cb (nI z) lg gr wt lt mv sg (nI L) xp xn xi xt xk xa xe xf xr (nI o) (nI n) (u_fp hs) i tt key am x hb) (by decide)
  · have hb2 : ¬ x_isE i tt key am = 0 := fun e => hb (Or.inl e)
    have hb3 : ¬ m_isIn x 0 3 = 0 := fun e => hb (Or.inr e)
    obtain ⟨i, tt, x, hi, ht, hx, rfl, rfl, rfl, ham⟩ := f_evt_in hb
    obtain ⟨⟨k1, k2, k3, k4, k5, k6⟩, k7⟩ := rA_good hA hi ht hx
    have hf := f_evt_O (v := ((ev, dbl, pn, u, wd, w, tl, tk, cb, wt, lt), z, lg, gr, mv)) hi ht hb
    have hf9 : f_evt ((ad, ((ev, dbl, pn, u, wd, w, tl, tk, cb, wt, lt), z, lg, gr, mv), (sg, L, (xp, xn, xi, xt, xk, xa, xe), xf, xr), o, n, hs) : LV).2.1 (nI i) (nI tt) key am (nI x) = _ := hf
    rw [hf9]
    refine uY_keep (rb := ({ frames := 7, cells := 0, slots := 0, locals := 180 } : Room)) (rc := ({ frames := 7, cells := 13, slots := 1166, locals := 180 } : Room)) (by decide) (by decide) (fun pa v0 hh => ?_) (fun hh => ?_)
    · exact (c_X8_eventR l D I C Q y0 (ad 0) (ad 1) (ad 2) (ad 3) (ad 4) (ad 5) (ad 6) (ad 7) (ad 8) (ad 9) (ad 10) (ad 11) (ad 12) (ad 13) (ad 14) (ad 15) (ad 16) (pa 0) (pa 1) (pa 2) (pa 3) (pa 4) (pa 5) (pa 6) (pa 7) (pa 8) (pa 9) (pa 10) (pa 11) (pa 12) ev dbl pn u wd w tl tk cb z lg gr wt lt mv sg (nI L) xp xn xi xt xk xa xe xf xr o n (u_fp hs) (aEv (cS v0)) (aDb (cS v0)) (aPn (cS v0)) (nI (aU (cS v0))) (aWd (cS v0)) (nI (aW (cS v0))) (aTl (cS v0)) (aTk (cS v0)) (aCb (cS v0)) (nI (cZ v0)) (cLg v0) (cGr v0) (aWt (cS v0)) (aLt (cS v0)) (cMv v0) i tt key am (nI x) z0 z1 hi ht hb2 hb3 k7 hn ho hmv (u_fp_at hh))
    · exact (c_X8_eventA l D I C Q y0 (ad 0) (ad 1) (ad 2) (ad 3) (ad 4) (ad 5) (ad 6) (ad 7) (ad 8) (ad 9) (ad 10) (ad 11) (ad 12) (ad 13) (ad 14) (ad 15) (ad 16) ev dbl pn u wd w tl tk cb z lg gr wt lt mv sg (nI L) xp xn xi xt xk xa xe xf xr o n (u_fp hs) i tt key am (nI x) z0 z1 hi ht hb2 hb3 k7 hn ho hmv (u_fp_no hh))
set_option maxHeartbeats 4000000 in
set_option maxRecDepth 100000 in
theorem uY_move (l : Launch) (D : va_G) (I C Q : ClassId) (y0 : Nat) (ti : Int32) {xx : LV} (h : uG xx) : uY l D I C Q y0 yX8_move wsX8_move [.int ti] xx (f_mov xx.2.1 ti) := by
  obtain ⟨ad, ⟨⟨ev, dbl, pn, u, wd, w, tl, tk, cb, wt, lt⟩, z, lg, gr, mv⟩, ⟨sg, L, ⟨xp, xn, xi, xt, xk, xa, xe⟩, xf, xr⟩, o, n, hs⟩ := xx
  obtain ⟨⟨⟨now, np, hA⟩, hX, hF⟩, hn, ho, hH⟩ := id h
  have hA : rA now np z (ev, dbl, pn, u, wd, w, tl, tk, cb, wt, lt) lg gr mv := hA
  have hX : p_X pn u tl tk wt z := hX
  have hn : n ≤ 4 := hn
  have ho : o < 4 := ho
  obtain ⟨⟨z0, z1⟩, ⟨f6, f10, f0, f1, f2, f5, f7, f8⟩, hmv, hwt, hlt, hlg, hgr, ⟨h11, h11b, hnp, hu⟩, hE, hC, hB⟩ := id hA
  have hwt : wt = -1 ∨ ∃ v : Nat, v < 2000 ∧ wt = nI v := hwt
  obtain ⟨np64, hwk, hnk, u64, w40⟩ := uB hA
  have u64 : u ≤ 64 := u64
  have w40 : w ≤ 40 := w40
  by_cases hb : m_isIn ti 1 100 = 0
  · rw [f_mov_B hb]
    exact uY_text (ad := ad) (v := ((ev, dbl, pn, u, wd, w, tl, tk, cb, wt, lt), z, lg, gr, mv)) (t := (sg, L, (xp, xn, xi, xt, xk, xa, xe), xf, xr)) (o := o) (n := n) (hs := hs) (c_X8_moveB l D I C Q y0 (ad 0) (ad 1) (ad 2) (ad 3) (ad 4) (ad 5) (ad 6) (ad 7) (ad 8) (ad 9) (ad 10) (ad 11) (ad 12) (ad 13) (ad 14) (ad 15) (ad 16) ev dbl pn (nI u) wd (nI w) tl tk cb (nI z) lg gr wt lt mv sg (nI L) xp xn xi xt xk xa xe xf xr (nI o) (nI n) (u_fp hs) ti hb) (by decide)
  · by_cases hc : mv = 1 ∨ wt = -1
    · rw [f_mov_N hb hc]
      exact uY_text (ad := ad) (v := ((ev, dbl, pn, u, wd, w, tl, tk, cb, wt, lt), z, lg, gr, mv)) (t := (sg, L, (xp, xn, xi, xt, xk, xa, xe), xf, xr)) (o := o) (n := n) (hs := hs) (c_X8_moveN l D I C Q y0 (ad 0) (ad 1) (ad 2) (ad 3) (ad 4) (ad 5) (ad 6) (ad 7) (ad 8) (ad 9) (ad 10) (ad 11) (ad 12) (ad 13) (ad 14) (ad 15) (ad 16) ev dbl pn (nI u) wd (nI w) tl tk cb (nI z) lg gr wt lt mv sg (nI L) xp xn xi xt xk xa xe xf xr (nI o) (nI n) (u_fp hs) ti hb (by
        rcases hc with e | e
        · rw [e]; rfl
        · rw [e]; split <;> rfl)) (by decide)
    · obtain rfl : mv = 0 := hmv.resolve_right (fun h => hc (Or.inl h))
      obtain ⟨v, hv, rfl⟩ := hwt.resolve_left (fun h => hc (Or.inr h))
      obtain ⟨ti, ht, rfl⟩ := isIn_nat1 hb
      obtain ⟨v1, v2⟩ := uV hv
      obtain ⟨m0, hm0, hmm, hto⟩ := mv_to (v := v) (t := ti) hv ht
      have hf := f_mov_O (v := ((ev, dbl, pn, u, wd, w, tl, tk, cb, nI v, lt), z, lg, gr, 0)) (V := v) hb hc hv rfl hm0 hmm
      have hf9 : f_mov ((ad, ((ev, dbl, pn, u, wd, w, tl, tk, cb, nI v, lt), z, lg, gr, 0), (sg, L, (xp, xn, xi, xt, xk, xa, xe), xf, xr), o, n, hs) : LV).2.1 (nI ti) = _ := hf
      rw [hf9]
      refine uY_keep (rb := ({ frames := 6, cells := 0, slots := 0, locals := 152 } : Room)) (rc := ({ frames := 6, cells := 13, slots := 1166, locals := 152 } : Room)) (by decide) (by decide) (fun pa v0 hh => ?_) (fun hh => ?_)
      · exact (c_X8_moveR l D I C Q y0 (ad 0) (ad 1) (ad 2) (ad 3) (ad 4) (ad 5) (ad 6) (ad 7) (ad 8) (ad 9) (ad 10) (ad 11) (ad 12) (ad 13) (ad 14) (ad 15) (ad 16) (pa 0) (pa 1) (pa 2) (pa 3) (pa 4) (pa 5) (pa 6) (pa 7) (pa 8) (pa 9) (pa 10) (pa 11) (pa 12) ev dbl pn u wd w tl tk cb z lg gr v lt 0 sg (nI L) xp xn xi xt xk xa xe xf xr o n (u_fp hs) (aEv (cS v0)) (aDb (cS v0)) (aPn (cS v0)) (nI (aU (cS v0))) (aWd (cS v0)) (nI (aW (cS v0))) (aTl (cS v0)) (aTk (cS v0)) (aCb (cS v0)) (nI (cZ v0)) (cLg v0) (cGr v0) (aWt (cS v0)) (aLt (cS v0)) (cMv v0) m0 (nI ti) hb z0 z1 u64 w40 hv hm0 hmm rfl v2 hn ho (Or.inl rfl) (u_fp_at hh))
      · exact (c_X8_moveA l D I C Q y0 (ad 0) (ad 1) (ad 2) (ad 3) (ad 4) (ad 5) (ad 6) (ad 7) (ad 8) (ad 9) (ad 10) (ad 11) (ad 12) (ad 13) (ad 14) (ad 15) (ad 16) ev dbl pn u wd w tl tk cb z lg gr v lt 0 sg (nI L) xp xn xi xt xk xa xe xf xr o n (u_fp hs) m0 (nI ti) hb z0 z1 u64 w40 hv hm0 hmm rfl v2 hn ho (Or.inl rfl) (u_fp_no hh))
set_option maxHeartbeats 4000000 in
set_option maxRecDepth 100000 in
theorem uY_undo (l : Launch) (D : va_G) (I C Q : ClassId) (y0 : Nat) {ad : Nat → Nat} {v : CV} {t : TXv} {o n : Nat} {hs : HS} (h : uG (ad, v, t, o, n, hs)) (h0 : 0 < n) : ∃ (pa : Nat → Nat) (w : CV), hs ((o + n - 1) % 4) = some (pa, w) ∧ uG (ad, w, t, o, n - 1, hs) ∧ KIe l D (tyL I C Q) yX8_undo wsX8_undo rm9 [.ref y0] (uX I C Q y0 (ad, v, t, o, n, hs)) 0 0 (fun r9 w9 => r9 = nI (n - 1) ∧ w9 = uX I C Q y0 (ad, w, t, o, n - 1, hs)) := by
  obtain ⟨pa, v0, g1, gg, g2⟩ := uG_last h h0
  refine ⟨pa, v0, g1, g2, ?_⟩
  obtain ⟨-, hn, ho, -⟩ := h
  have hn : n ≤ 4 := hn
  have ho : o < 4 := ho
  obtain ⟨⟨now, np, hA0⟩, -⟩ := gg
  have hp := u_tl_perm (I := I) (hs := hs) (j := (o + n - 1) % 4) (by omega)
  rw [u_sl_eq g1] at hp
  obtain ⟨⟨ev, dbl, pn, u, wd, w, tl, tk, cb, wt, lt⟩, z, lg, gr, mv⟩ := v
  obtain ⟨sg, L, ⟨xp, xn, xi, xt, xk, xa, xe⟩, xf, xr⟩ := t
  have h8 := c_X8_undoO l D I C Q y0 (ad 0) (ad 1) (ad 2) (ad 3) (ad 4) (ad 5) (ad 6) (ad 7) (ad 8) (ad 9) (ad 10) (ad 11) (ad 12) (ad 13) (ad 14) (ad 15) (ad 16) (pa 0) (pa 1) (pa 2) (pa 3) (pa 4) (pa 5) (pa 6) (pa 7) (pa 8) (pa 9) (pa 10) (pa 11) (pa 12) ev dbl pn (nI u) wd (nI w) tl tk cb (nI z) lg gr wt lt mv sg (nI L) xp xn xi xt xk xa xe xf xr o n (u_fp hs) (aEv (cS v0)) (aDb (cS v0)) (aPn (cS v0)) (nI (aU (cS v0))) (aWd (cS v0)) (nI (aW (cS v0))) (aTl (cS v0)) (aTk (cS v0)) (aCb (cS v0)) (nI (cZ v0)) (cLg v0) (cGr v0) (aWt (cS v0)) (aLt (cS v0)) (cMv v0) h0 hn ho (u_fp_at g1) hA0.2.2.1
  refine (h8.toE.fr (rm' := rm9) (by decide) (Nat.zero_le _) (Nat.zero_le _) (u_rs I hs ((o + n - 1) % 4))).perm ?_ (fun r9 w9 h => ?_)
  · show ((uL I C Q y0 ad ((ev, dbl, pn, u, wd, w, tl, tk, cb, wt, lt), z, lg, gr, mv) (sg, L, (xp, xn, xi, xt, xk, xa, xe), xf, xr) o n (u_fp hs) ++ uC I pa v0) ++ u_rs I hs ((o + n - 1) % 4)).Perm (uL I C Q y0 ad ((ev, dbl, pn, u, wd, w, tl, tk, cb, wt, lt), z, lg, gr, mv) (sg, L, (xp, xn, xi, xt, xk, xa, xe), xf, xr) o n (u_fp hs) ++ u_tl I hs)
    rw [List.append_assoc]
    exact hp.symm.append_left _
  · obtain ⟨w1, ⟨e1, e2⟩, e3⟩ := h
    refine ⟨_, ?_, e1, rfl⟩
    show w9.Perm (uL I C Q y0 ad v0 (sg, L, (xp, xn, xi, xt, xk, xa, xe), xf, xr) o (n - 1) (u_fp hs) ++ u_tl I hs)
    rw [e3, e2]
    show ((uL I C Q y0 ad v0 (sg, L, (xp, xn, xi, xt, xk, xa, xe), xf, xr) o (n - 1) (u_fp hs) ++ uC I pa v0) ++ u_rs I hs ((o + n - 1) % 4)).Perm _
    rw [List.append_assoc]
    exact hp.symm.append_left _
