/-! the court's calls as functions of its value; what holds of it all the time -/
def g_ok (v : CV) : Prop := (∃ (now : Nat → Int32) (np : Nat), rA now np (cZ v) (cS v) (cLg v) (cGr v) (cMv v)) ∧ p_X (aPn (cS v)) (aU (cS v)) (aTl (cS v)) (aTk (cS v)) (aWt (cS v)) (cZ v) ∧ x_F (aEv (cS v)) (aCb (cS v))
/-- count(11) -/
def q_mv (v : CV) : Int32 := if cMv v = 0 then 0 else 1
/-- what a change does to closed cases and to the watermark -/
def f_nx (v v' : CV) : Prop := x_cl (aPn (cS v)) (aU (cS v)) (aPn (cS v')) (aU (cS v')) ∧ (aWt (cS v') < aWt (cS v) ↔ (¬ q_mv v' = q_mv v ∧ -1 < aWt (cS v)))
abbrev FR : Type := Int32 × Option CV
def f_good (v : CV) (R : FR) : Prop := (R.2 = none ∧ R.1 < -1000) ∨ ∃ v', R.2 = some v' ∧ ¬ R.1 < -1000 ∧ g_ok v' ∧ f_nx v v'
def f_setV (v : CV) (x y : Int32) : CV := (cS v, (if x = 0 then y else nI (cZ v)).toNatClampNeg, (if x = 0 then cLg v else if x = 1 then y else cLg v), (if x = 0 then cGr v else if x = 1 then cGr v else y), cMv v)
def f_set (v : CV) (x y : Int32) : FR :=
  if m_isIn x 0 2 = 0 ∨ m_isIn y (if x = 0 then 1 else 0) 100 = 0 then (-1000001, none)
  else if x = 0 ∧ ¬ e_wo (aEv (cS v)) 0 3 64 = 0 then (-1000002, none)
  else ((if x = 0 then nI (cZ v) else if x = 1 then cLg v else cGr v), some (f_setV v x y))
def f_ad (v : CV) (i t key am x : Int32) : Int32 × AV := x_adm (cZ v) (cLg v) (cGr v) (cS v) i.toNatClampNeg t.toNatClampNeg key am x
def f_evt (v : CV) (i t key am x : Int32) : FR :=
  if x_isE i t key am = 0 ∨ m_isIn x 0 3 = 0 then (-1000001, none)
  else ((f_ad v i t key am x).1, some ((f_ad v i t key am x).2, cZ v, cLg v, cGr v, cMv v))
def f_mv0 (v : CV) (ti : Int32) : Nat := (if 0 < c_mk (aWt (cS v)) ti then c_mk (aWt (cS v)) ti else 0).toNatClampNeg
def f_mR (v : CV) (ti : Int32) : Nat × PW := c_mbL (aWt (cS v)).toNatClampNeg (cZ v) (aU (cS v)) ((aWt (cS v)).toNatClampNeg / cZ v - f_mv0 v ti / cZ v) (f_mv0 v ti / cZ v) 0 (aPn (cS v), aWd (cS v), aW (cS v), aTk (cS v))
def f_mov (v : CV) (ti : Int32) : FR :=
  if m_isIn ti 1 100 = 0 then (-1000001, none)
  else if cMv v = 1 ∨ aWt (cS v) = -1 then (-1000002, none)
  else (nI (f_mR v ti).1, some (mvS (cS v) (f_mR v ti).2 (c_mk (aWt (cS v)) ti), cZ v, cLg v, cGr v, 1))
theorem i_big {n : Nat} (h : n < 2 ^ 31) : ¬ nI n < -1000 := by
  rw [Int32.lt_iff_toInt_lt, nI_toInt h, show (-1000 : Int32).toInt = -1000 by decide]; omega
theorem f_nx_rf {v v' : CV} (h : cS v' = cS v) (hm : cMv v' = cMv v) : f_nx v v' := by
  refine ⟨fun q hq h3 => by rw [h]; exact ⟨h3, rfl⟩, ?_⟩
  rw [h, q_mv, q_mv, hm]
  exact ⟨fun h => absurd h i_lt_irrefl, fun h => absurd rfl h.1⟩
theorem f_set_good {v : CV} (h : g_ok v) (x y : Int32) : f_good v (f_set v x y) := by
  obtain ⟨⟨now, np, hA⟩, hX, hF⟩ := h
  rw [f_set]
  by_cases c1 : m_isIn x 0 2 = 0 ∨ m_isIn y (if x = 0 then 1 else 0) 100 = 0
  · rw [if_pos c1]; exact Or.inl ⟨rfl, by show (-1000001 : Int32) < -1000; decide⟩
  · rw [if_neg c1]
    by_cases c2 : x = 0 ∧ ¬ e_wo (aEv (cS v)) 0 3 64 = 0
    · rw [if_pos c2]; exact Or.inl ⟨rfl, by show (-1000002 : Int32) < -1000; decide⟩
    · rw [if_neg c2]
      have hb1 : ¬ m_isIn x 0 2 = 0 := fun h => c1 (Or.inl h)
      have hb2 : ¬ m_isIn y (if x = 0 then 1 else 0) 100 = 0 := fun h => c1 (Or.inr h)
      obtain ⟨q, hq, rfl⟩ := isIn_nat (b := 2) hb1 (by decide)
      have hno : nI q = 0 → e_wo (aEv (cS v)) 0 3 64 = 0 := fun e => Classical.byContradiction (fun c => c2 ⟨e, c⟩)
      obtain ⟨-, s', r2, r3⟩ := set_rel hA (by omega : q < 3) hb2 hno
      obtain ⟨⟨z0, z1⟩, -, hmv, hwt, hlt, hlg, hgr, -⟩ := id hA
      have hs1 := r3.1.2
      have hz' : (if nI q = 0 then y else nI (cZ v)).toNatClampNeg = s' := by rw [r2, nI_clamp (by omega)]
      refine Or.inr ⟨_, rfl, ?_, ⟨⟨upd now (6 + q) y, np, ?_⟩, ?_, hF⟩, f_nx_rf rfl rfl⟩
      · show ¬ (if nI q = 0 then nI (cZ v) else if nI q = 1 then cLg v else cGr v) < -1000
        obtain ⟨g1, g2, g3⟩ := hlg
        obtain ⟨k1, k2, k3⟩ := hgr
        split
        · exact i_big (by omega)
        · split
          · rw [g3]; exact i_big (by omega)
          · rw [k3]; exact i_big (by omega)
      · show rA _ np (if nI q = 0 then y else nI (cZ v)).toNatClampNeg _ _ _ _
        rw [hz']; exact r3
      · show p_X _ _ _ _ _ (if nI q = 0 then y else nI (cZ v)).toNatClampNeg
        rw [hz']
        by_cases c0 : nI q = 0
        · have hcn : m_cn now 64 = 0 := by rw [← wo_cn hA.2.2.2.2.2.2.2.2.1 64 (Nat.le_refl _)]; exact hno c0
          have hu := hA.2.2.2.2.2.2.2.1.2.2.2
          have hu0 : aU (cS v) = 0 := by omega
          obtain ⟨hs, -, hT⟩ := hX
          refine ⟨hs, fun p hp => ?_, hT⟩
          have hce : ¬ v_ce (aPn (cS v)) (aU (cS v)) p := by rw [hu0]; exact Nat.not_lt_zero _
          have hv : ∀ c, v_c (aPn (cS v)) (aU (cS v)) p c = 0 := fun c => v_c_out hce
          have h56 : v_c (aPn (cS v)) (aU (cS v)) p 5 = v_c (aPn (cS v)) (aU (cS v)) p 6 := by rw [hv, hv]
          exact ⟨Or.inl h56, Or.inl ⟨hv 0, fun h => absurd h (s_d_no h56), fun h => absurd h hce⟩⟩
        · rw [if_neg c0] at r2
          have : cZ v = s' := (nI_eq (by omega) (by omega)).mp r2
          rw [← this]; exact hX
theorem f_evt_in {i t key am x : Int32} (h : ¬ (x_isE i t key am = 0 ∨ m_isIn x 0 3 = 0)) : ∃ (i' t' x' : Nat), i' < 64 ∧ t' < 2000 ∧ x' ≤ 3 ∧ i = nI i' ∧ t = nI t' ∧ x = nI x' ∧ am.toInt.natAbs ≤ 100 := by
  have hb2 : ¬ x_isE i t key am = 0 := fun e => h (Or.inl e)
  have hb3 : ¬ m_isIn x 0 3 = 0 := fun e => h (Or.inr e)
  obtain ⟨g1, g2, g3, g4⟩ := x_isE_in hb2
  obtain ⟨i', hi, rfl⟩ := isIn_nat (b := 63) g1 (by decide)
  obtain ⟨t', ht, rfl⟩ := isIn_nat (b := 1999) g2 (by decide)
  obtain ⟨x', hx, rfl⟩ := isIn_nat (b := 3) hb3 (by decide)
  exact ⟨i', t', x', by omega, by omega, hx, rfl, rfl, rfl, isE_am g4⟩
theorem f_adN {v : CV} {i t : Nat} (hi : i < 64) (ht : t < 2000) (key am x : Int32) : f_ad v (nI i) (nI t) key am x = x_adm (cZ v) (cLg v) (cGr v) (cS v) i t key am x := by
  rw [f_ad, nI_clamp (by omega), nI_clamp (by omega)]
theorem x_adm_r (z : Nat) (lg gr : Int32) (S : AV) (i t : Nat) (key am x : Int32) : ∃ r : Nat, r ≤ 4 ∧ (x_adm z lg gr S i t key am x).1 = nI r := by
  obtain ⟨r, r3, hr⟩ := c_ver_nat (aEv S) (aPn S) (aU S) (aCb S) (aWt S) z t key x
  have hor : x_o S z t key x = nI r := hr
  rw [x_adm]
  by_cases h1 : ¬ e_has (aEv S) i = 0
  · rw [if_pos h1]; exact ⟨4, by omega, rfl⟩
  · rw [if_neg h1]
    by_cases h2 : 1 < x_o S z t key x
    · rw [if_pos h2]; exact ⟨r, by omega, hor⟩
    · rw [if_neg h2]
      by_cases h3 : x_o S z t key x = 0
      · rw [if_pos h3]; exact ⟨r, by omega, hor⟩
      · rw [if_neg h3]; exact ⟨r, by omega, hor⟩
theorem f_evt_good {v : CV} (h : g_ok v) (i t key am x : Int32) : f_good v (f_evt v i t key am x) := by
  obtain ⟨⟨now, np, hA⟩, hX, hF⟩ := h
  rw [f_evt]
  by_cases c1 : x_isE i t key am = 0 ∨ m_isIn x 0 3 = 0
  · rw [if_pos c1]; exact Or.inl ⟨rfl, by show (-1000001 : Int32) < -1000; decide⟩
  · rw [if_neg c1]
    obtain ⟨i, t, x, hi, ht, hx, rfl, rfl, rfl, ham⟩ := f_evt_in c1
    rw [f_adN hi ht]
    obtain ⟨-, r2⟩ := come_rel (key := key) hA hi ht hx ham
    obtain ⟨a1, a2, a3, a4⟩ := x_adm_ok (key := key) (am := am) hA hX hF hi ht hx
    obtain ⟨r, r4, hr⟩ := x_adm_r (cZ v) (cLg v) (cGr v) (cS v) i t key am (nI x)
    refine Or.inr ⟨_, rfl, ?_, ⟨⟨_, _, r2⟩, a1, a2⟩, a3, ?_⟩
    · show ¬ (x_adm (cZ v) (cLg v) (cGr v) (cS v) i t key am (nI x)).1 < -1000
      rw [hr]; exact i_big (by omega)
    · constructor
      · intro h
        rw [Int32.le_iff_toInt_le] at a4
        have h : aWt (x_adm (cZ v) (cLg v) (cGr v) (cS v) i t key am (nI x)).2 < aWt (cS v) := h
        rw [Int32.lt_iff_toInt_lt] at h
        omega
      · intro h; exact absurd rfl h.1
theorem f_mov_good {v : CV} (h : g_ok v) (ti : Int32) : f_good v (f_mov v ti) := by
  obtain ⟨⟨now, np, hA⟩, hX, hF⟩ := h
  rw [f_mov]
  by_cases c1 : m_isIn ti 1 100 = 0
  · rw [if_pos c1]; exact Or.inl ⟨rfl, by show (-1000001 : Int32) < -1000; decide⟩
  · rw [if_neg c1]
    by_cases c2 : cMv v = 1 ∨ aWt (cS v) = -1
    · rw [if_pos c2]; exact Or.inl ⟨rfl, by show (-1000002 : Int32) < -1000; decide⟩
    · rw [if_neg c2]
      obtain ⟨⟨z0, z1⟩, -, hmv, hwt, hlt, hlg, hgr, -⟩ := id hA
      have hm0 : cMv v = 0 := hmv.resolve_right (fun h => c2 (Or.inl h))
      obtain ⟨V, hV, hw⟩ := hwt.resolve_left (fun h => c2 (Or.inr h))
      obtain ⟨t, ht, rfl⟩ := isIn_nat1 c1
      obtain ⟨m0, g1, g2, g3⟩ := mv_to (v := V) (t := t) hV ht
      rw [hm0] at hA
      obtain ⟨r1, r2⟩ := move_rel hA hw hV ht g1 g2 g3
      have e0 : f_mv0 v (nI t) = m0 := by rw [f_mv0, hw, g1, nI_clamp (by omega)]
      have eV : (aWt (cS v)).toNatClampNeg = V := by rw [hw, nI_clamp (by omega)]
      have eR : f_mR v (nI t) = c_mbL V (cZ v) (aU (cS v)) (V / cZ v - m0 / cZ v) (m0 / cZ v) 0 (aPn (cS v), aWd (cS v), aW (cS v), aTk (cS v)) := by rw [f_mR, e0, eV]
      have ht1 : 1 ≤ t := by
        have h1 := isIn1 c1
        rw [show (1 : Int32).toInt = 1 by decide, nI_toInt (by omega)] at h1
        omega
      have hto : c_mk (nI V) (nI t) < nI V := by
        rcases g3 with e | ⟨e, -⟩
        · have e2 : c_mk (nI V) (nI t) = nI V - nI t ∨ c_mk (nI V) (nI t) = -1 := by
            rw [c_mk]; split
            · exact Or.inl rfl
            · exact Or.inr rfl
          rcases e2 with e2 | e2
          · rw [e2, Int32.lt_iff_toInt_lt, pk_sub_toInt (by omega) (by omega), nI_toInt (by omega)]; omega
          · rw [e2, Int32.lt_iff_toInt_lt, nI_toInt (by omega), show (-1 : Int32).toInt = -1 by decide]; omega
        · rw [e, Int32.lt_iff_toInt_lt, nI_toInt (by omega), show (-1 : Int32).toInt = -1 by decide]; omega
      rw [hw] at hX
      obtain ⟨x1, x2⟩ := p_X_move (wd := aWd (cS v)) (w := aW (cS v)) z0 z1 hV g2 g3 hto (fun q hq => rA_a hA q hq) hX
      rw [eR, hw]
      have hle : (c_mbL V (cZ v) (aU (cS v)) (V / cZ v - m0 / cZ v) (m0 / cZ v) 0 (aPn (cS v), aWd (cS v), aW (cS v), aTk (cS v))).1 ≤ V / cZ v - m0 / cZ v := by
        have : ∀ (n b cn : Nat) (S : PW), (c_mbL V (cZ v) (aU (cS v)) n b cn S).1 ≤ cn + n := by
          intro n
          induction n with
          | zero => intro b cn S; exact Nat.le_refl _
          | succ n ih =>
            intro b cn S
            rw [c_mbL]
            split
            · have := ih (b + 1) (cn + 1) (p_takeQ S (nI b) (aU (cS v))); omega
            · have := ih (b + 1) cn S; omega
        have h9 := this (V / cZ v - m0 / cZ v) (m0 / cZ v) 0 (aPn (cS v), aWd (cS v), aW (cS v), aTk (cS v))
        omega
      have hdv : V / cZ v ≤ V := Nat.div_le_self _ _
      refine Or.inr ⟨_, rfl, i_big (Nat.lt_of_le_of_lt (Nat.le_trans hle (Nat.le_trans (Nat.sub_le _ _) hdv)) (by omega)), ⟨⟨_, np, r2⟩, x1, hF⟩, fun q hq h3 => ⟨(x2 q 0 hq (by omega)).trans h3, x2 q 2 hq (by omega)⟩, ?_⟩
      show c_mk (nI V) (nI t) < aWt (cS v) ↔ _
      rw [hw]
      refine ⟨fun _ => ⟨?_, ?_⟩, fun _ => hto⟩
      · rw [q_mv, q_mv, hm0, if_pos rfl]
        show ¬ (if (1 : Int32) = 0 then (0 : Int32) else 1) = 0
        decide
      · rw [Int32.lt_iff_toInt_lt, nI_toInt (by omega), show (-1 : Int32).toInt = -1 by decide]; omega
