/-! both sides of the law as values: the class's court, its past courts, its text; the reference; how they hang together -/
abbrev CV : Type := AV × Nat × Int32 × Int32 × Int32
abbrev cS (v : CV) : AV := v.1
abbrev cZ (v : CV) : Nat := v.2.1
abbrev cLg (v : CV) : Int32 := v.2.2.1
abbrev cGr (v : CV) : Int32 := v.2.2.2.1
abbrev cMv (v : CV) : Int32 := v.2.2.2.2
abbrev uC (I : ClassId) (pa : Nat → Nat) (v : CV) : va_W := wC I (pa 0) (pa 1) (pa 2) (pa 3) (pa 4) (pa 5) (pa 6) (pa 7) (pa 8) (pa 9) (pa 10) (pa 11) (pa 12) (aEv (cS v)) (aDb (cS v)) (aPn (cS v)) (nI (aU (cS v))) (aWd (cS v)) (nI (aW (cS v))) (aTl (cS v)) (aTk (cS v)) (aCb (cS v)) (nI (cZ v)) (cLg v) (cGr v) (aWt (cS v)) (aLt (cS v)) (cMv v)
abbrev HS : Type := Nat → Option ((Nat → Nat) × CV)
def u_sl (I : ClassId) (hs : HS) (j : Nat) : va_W := match hs j with
  | none => []
  | some q => uC I q.1 q.2
def u_rs (I : ClassId) (hs : HS) (j : Nat) : va_W := (if j = 0 then [] else u_sl I hs 0) ++ ((if j = 1 then [] else u_sl I hs 1) ++ ((if j = 2 then [] else u_sl I hs 2) ++ (if j = 3 then [] else u_sl I hs 3)))
def u_tl (I : ClassId) (hs : HS) : va_W := u_rs I hs 4
def u_up (hs : HS) (j : Nat) (q : (Nat → Nat) × CV) : HS := fun i => if i = j then some q else hs i
def u_fp (hs : HS) : Nat → Option Nat := fun i => (hs i).map (fun q => q.1 0)
theorem u_sl_ne {I : ClassId} {hs : HS} {j k : Nat} {q : (Nat → Nat) × CV} (h : k ≠ j) : u_sl I (u_up hs j q) k = u_sl I hs k := by rw [u_sl, u_sl, u_up, if_neg h]
theorem u_sl_eq {I : ClassId} {hs : HS} {j : Nat} {q : (Nat → Nat) × CV} (h : hs j = some q) : u_sl I hs j = uC I q.1 q.2 := by rw [u_sl, h]
theorem u_sl_no {I : ClassId} {hs : HS} {j : Nat} (h : hs j = none) : u_sl I hs j = [] := by rw [u_sl, h]
theorem u_up_at {hs : HS} {j : Nat} {q : (Nat → Nat) × CV} : u_up hs j q j = some q := if_pos rfl
theorem u_up_ne {hs : HS} {j k : Nat} {q : (Nat → Nat) × CV} (h : k ≠ j) : u_up hs j q k = hs k := if_neg h
theorem u_rs_up {I : ClassId} {hs : HS} {j : Nat} {q : (Nat → Nat) × CV} (hj : j < 4) : u_rs I (u_up hs j q) j = u_rs I hs j := by
  rcases (show j = 0 ∨ j = 1 ∨ j = 2 ∨ j = 3 by omega) with rfl | rfl | rfl | rfl
  · show [] ++ (u_sl I _ 1 ++ (u_sl I _ 2 ++ u_sl I _ 3)) = [] ++ (u_sl I hs 1 ++ (u_sl I hs 2 ++ u_sl I hs 3))
    rw [u_sl_ne (by decide), u_sl_ne (by decide), u_sl_ne (by decide)]
  · show u_sl I _ 0 ++ ([] ++ (u_sl I _ 2 ++ u_sl I _ 3)) = u_sl I hs 0 ++ ([] ++ (u_sl I hs 2 ++ u_sl I hs 3))
    rw [u_sl_ne (by decide), u_sl_ne (by decide), u_sl_ne (by decide)]
  · show u_sl I _ 0 ++ (u_sl I _ 1 ++ ([] ++ u_sl I _ 3)) = u_sl I hs 0 ++ (u_sl I hs 1 ++ ([] ++ u_sl I hs 3))
    rw [u_sl_ne (by decide), u_sl_ne (by decide), u_sl_ne (by decide)]
  · show u_sl I _ 0 ++ (u_sl I _ 1 ++ (u_sl I _ 2 ++ [])) = u_sl I hs 0 ++ (u_sl I hs 1 ++ (u_sl I hs 2 ++ []))
    rw [u_sl_ne (by decide), u_sl_ne (by decide), u_sl_ne (by decide)]
theorem u_tl_perm {I : ClassId} {hs : HS} {j : Nat} (hj : j < 4) : (u_tl I hs).Perm (u_sl I hs j ++ u_rs I hs j) := by
  have h3 : (u_sl I hs 2 ++ u_sl I hs 3).Perm (u_sl I hs 3 ++ (u_sl I hs 2 ++ [])) := by rw [List.append_nil]; exact List.perm_append_comm
  rcases (show j = 0 ∨ j = 1 ∨ j = 2 ∨ j = 3 by omega) with rfl | rfl | rfl | rfl
  · show (u_sl I hs 0 ++ (u_sl I hs 1 ++ (u_sl I hs 2 ++ u_sl I hs 3))).Perm (u_sl I hs 0 ++ ([] ++ (u_sl I hs 1 ++ (u_sl I hs 2 ++ u_sl I hs 3))))
    exact List.Perm.refl _
  · show (u_sl I hs 0 ++ (u_sl I hs 1 ++ (u_sl I hs 2 ++ u_sl I hs 3))).Perm (u_sl I hs 1 ++ (u_sl I hs 0 ++ ([] ++ (u_sl I hs 2 ++ u_sl I hs 3))))
    exact List.perm_append_comm_assoc _ _ _
  · show (u_sl I hs 0 ++ (u_sl I hs 1 ++ (u_sl I hs 2 ++ u_sl I hs 3))).Perm (u_sl I hs 2 ++ (u_sl I hs 0 ++ (u_sl I hs 1 ++ ([] ++ u_sl I hs 3))))
    exact ((List.perm_append_comm_assoc (u_sl I hs 1) (u_sl I hs 2) (u_sl I hs 3)).append_left _).trans (List.perm_append_comm_assoc _ _ _)
  · show (u_sl I hs 0 ++ (u_sl I hs 1 ++ (u_sl I hs 2 ++ u_sl I hs 3))).Perm (u_sl I hs 3 ++ (u_sl I hs 0 ++ (u_sl I hs 1 ++ (u_sl I hs 2 ++ []))))
    exact (((h3.append_left (u_sl I hs 1)).trans (List.perm_append_comm_assoc _ _ _)).append_left (u_sl I hs 0)).trans (List.perm_append_comm_assoc _ _ _)
theorem u_fp_up {hs : HS} {j : Nat} {q : (Nat → Nat) × CV} : u_fp (u_up hs j q) = va_up (u_fp hs) j (some (q.1 0)) := by
  funext i
  show (u_up hs j q i).map _ = if i = j then some (q.1 0) else u_fp hs i
  by_cases h : i = j
  · rw [if_pos h, h, u_up_at]; rfl
  · rw [if_neg h, u_up_ne h]; rfl
theorem u_fp_same {hs : HS} {j : Nat} {pa : Nat → Nat} {v v' : CV} (h : hs j = some (pa, v)) : u_fp (u_up hs j (pa, v')) = u_fp hs := by
  funext i
  show (u_up hs j (pa, v') i).map _ = (hs i).map _
  by_cases e : i = j
  · rw [e, u_up_at, h]; rfl
  · rw [u_up_ne e]
theorem u_fp_at {hs : HS} {j : Nat} {pa : Nat → Nat} {v : CV} (h : hs j = some (pa, v)) : u_fp hs j = some (pa 0) := by
  show (hs j).map _ = _
  rw [h]; rfl
theorem u_fp_no {hs : HS} {j : Nat} (h : hs j = none) : u_fp hs j = none := by
  show (hs j).map _ = _
  rw [h]; rfl
abbrev TXv : Type := (Nat → Int32) × Nat × XJ × Int32 × Int32
abbrev uL (I C Q : ClassId) (y0 : Nat) (ad : Nat → Nat) (v : CV) (t : TXv) (o n : Nat) (fp : Nat → Option Nat) : va_W := wL I C Q y0 (ad 0) (ad 1) (ad 2) (ad 3) (ad 4) (ad 5) (ad 6) (ad 7) (ad 8) (ad 9) (ad 10) (ad 11) (ad 12) (ad 13) (ad 14) (ad 15) (ad 16) (aEv (cS v)) (aDb (cS v)) (aPn (cS v)) (nI (aU (cS v))) (aWd (cS v)) (nI (aW (cS v))) (aTl (cS v)) (aTk (cS v)) (aCb (cS v)) (nI (cZ v)) (cLg v) (cGr v) (aWt (cS v)) (aLt (cS v)) (cMv v) t.1 (nI t.2.1) t.2.2.1.1 t.2.2.1.2.1 t.2.2.1.2.2.1 t.2.2.1.2.2.2.1 t.2.2.1.2.2.2.2.1 t.2.2.1.2.2.2.2.2.1 t.2.2.1.2.2.2.2.2.2 t.2.2.2.1 t.2.2.2.2 (nI o) (nI n) fp
abbrev LV : Type := (Nat → Nat) × CV × TXv × Nat × Nat × HS
def uX (I C Q : ClassId) (y0 : Nat) (x : LV) : va_W := uL I C Q y0 x.1 x.2.1 x.2.2.1 x.2.2.2.1 x.2.2.2.2.1 (u_fp x.2.2.2.2.2) ++ u_tl I x.2.2.2.2.2
abbrev MV : Type := (Nat → Nat) × (Nat → Int32) × (Nat → Int32) × Nat × (Nat → Int32) × Nat × Int32 × Int32 × (Nat → Int32)
abbrev uM (I : ClassId) (a0 : Nat) (m : MV) : va_W := wM I a0 (m.1 0) (m.1 1) (m.1 2) (m.1 3) m.2.1 m.2.2.1 (nI m.2.2.2.1) m.2.2.2.2.1 (nI m.2.2.2.2.2.1) m.2.2.2.2.2.2.1 m.2.2.2.2.2.2.2.1 m.2.2.2.2.2.2.2.2
/-- the kept states -/
def uH (kept : Nat → Int32) (o n : Nat) (hs : HS) : Prop := ∀ i, i < n → ∃ (pa : Nat → Nat) (w : CV) (now1 : Nat → Int32) (np : Nat), hs ((o + i) % 4) = some (pa, w) ∧ (∀ j, j < 1080 → kept (i * 1080 + j) = now1 j) ∧ rA now1 np (cZ w) (cS w) (cLg w) (cGr w) (cMv w)
def uR (m : MV) (x : LV) : Prop := (∃ np, rA m.2.1 np (cZ x.2.1) (cS x.2.1) (cLg x.2.1) (cGr x.2.1) (cMv x.2.1)) ∧ (m.2.2.2.1 = x.2.2.2.2.1 ∧ m.2.2.2.2.2.1 = x.2.2.1.2.1 ∧ x.2.2.2.2.1 ≤ 4 ∧ x.2.2.2.1 < 4) ∧ uH m.2.2.1 x.2.2.2.1 x.2.2.2.2.1 x.2.2.2.2.2 ∧ rT m.2.2.2.2.1 x.2.2.1.1 x.2.2.1.2.1 ∧ ∀ i, i < x.2.2.1.2.1 → narrow .char (.int (x.2.2.1.1 i)) = .int (x.2.2.1.1 i)
theorem uH_keep {now kept : Nat → Int32} {np o n : Nat} {hs : HS} {v : CV} (h : uH kept o n hs) (hn : n ≤ 4) (ho : o < 4) (hA : rA now np (cZ v) (cS v) (cLg v) (cGr v) (cMv v)) (pa : Nat → Nat) : uH (m_rec now kept n) (h_ol o n) (m_rns n) (u_up hs (h_pl o n) (pa, v)) := by
  intro i hi
  by_cases c : n < 4
  · rw [m_rns, if_pos c] at hi
    rw [h_ol, if_pos c, h_pl, if_pos c, m_rec, if_pos c]
    by_cases e : i = n
    · subst e
      exact ⟨pa, v, now, np, u_up_at, fun j hj => by
        show (if i * 1080 ≤ i * 1080 + j ∧ i * 1080 + j < i * 1080 + 1080 then now (i * 1080 + j - i * 1080) else kept (i * 1080 + j)) = now j
        rw [if_pos ⟨by omega, by omega⟩, Nat.add_sub_cancel_left], hA⟩
    · obtain ⟨pb, w, now1, nq, g1, g2, g3⟩ := h i (by omega)
      exact ⟨pb, w, now1, nq, by rw [u_up_ne (by omega)]; exact g1, fun j hj => by
        show (if n * 1080 ≤ i * 1080 + j ∧ i * 1080 + j < n * 1080 + 1080 then now (i * 1080 + j - n * 1080) else kept (i * 1080 + j)) = now1 j
        rw [if_neg (by omega)]; exact g2 j hj, g3⟩
  · have hn4 : n = 4 := by omega
    subst hn4
    rw [m_rns, if_neg c] at hi
    rw [h_ol, if_neg c, h_pl, if_neg c, m_rec, if_neg c]
    by_cases e : i = 3
    · subst e
      exact ⟨pa, v, now, np, u_up_at, fun j hj => by
        show (if 3240 ≤ 3 * 1080 + j ∧ 3 * 1080 + j < 3240 + 1080 then now (3 * 1080 + j - 3240) else m_shK kept 3240 (3 * 1080 + j)) = now j
        rw [if_pos ⟨by omega, by omega⟩]
        exact congrArg now (by omega), hA⟩
    · obtain ⟨pb, w, now1, nq, g1, g2, g3⟩ := h (i + 1) (by omega)
      exact ⟨pb, w, now1, nq, by rw [u_up_ne (by omega), show ((o + 1) % 4 + i) % 4 = (o + (i + 1)) % 4 by omega]; exact g1, fun j hj => by
        show (if 3240 ≤ i * 1080 + j ∧ i * 1080 + j < 3240 + 1080 then now (i * 1080 + j - 3240) else (if i * 1080 + j < 3240 then kept (i * 1080 + j + 1080) else kept (i * 1080 + j))) = now1 j
        rw [if_neg (by omega), if_pos (by omega), ← g2 j hj]
        exact congrArg kept (by omega), g3⟩
theorem uH_less {kept : Nat → Int32} {o n k : Nat} {hs : HS} (h : uH kept o n hs) (hk : k ≤ n) : uH kept o k hs := fun i hi => h i (by omega)
theorem h_pl4 (o n : Nat) : h_pl o n < 4 := by rw [h_pl]; split <;> omega
theorem h_ol4 {o : Nat} (n : Nat) (ho : o < 4) : h_ol o n < 4 := by rw [h_ol]; split <;> omega
theorem m_rns4 {n : Nat} (hn : n ≤ 4) : m_rns n ≤ 4 := by rw [m_rns]; split <;> omega
abbrev rm9 : Room := { frames := 8, cells := 0, slots := 0, locals := 200 }
abbrev rm8 : Room := { frames := 8, cells := 13, slots := 1166, locals := 200 }
/-- one call on both sides: the same answer, and the sides hang together again -/
def uP (l : Launch) (D : va_G) (I C Q : ClassId) (y0 a0 : Nat) (y8 y9 : MethodName) (wm8 wm9 : List Cond) (as : List Value) (m : MV) (x : LV) : Prop :=
  ∃ (r : Int32) (m' : MV), KI l D (tyL I C Q) y9 wm9 rm9 (.ref a0 :: as) (uM I a0 m) (uM I a0 m') r ∧ KIe l D (tyL I C Q) y8 wm8 rm8 (.ref y0 :: as) (uX I C Q y0 x) 13 1166 (fun r9 w9 => r9 = r ∧ ∃ x', w9 = uX I C Q y0 x' ∧ uR m' x')
section UP
variable {l : Launch} {D : va_G} {I C Q : ClassId} {y0 a0 : Nat} {y8 y9 : MethodName} {wm8 wm9 : List Cond} {ra rb : Room} {as : List Value} {m m' : MV} {ad : Nat → Nat} {v v' : CV} {t t' : TXv} {o n o' n' : Nat} {hs : HS} {r : Int32}
/-- no past court is touched -/
theorem uP_text (h9 : KI l D (tyL I C Q) y9 wm9 ra (.ref a0 :: as) (uM I a0 m) (uM I a0 m') r) (ha : rmLe ra rm9) (h8 : KI l D (tyL I C Q) y8 wm8 rb (.ref y0 :: as) (uL I C Q y0 ad v t o n (u_fp hs)) (uL I C Q y0 ad v' t' o' n' (u_fp hs)) r) (hb : rmLe rb rm8) (hR : uR m' (ad, v', t', o', n', hs)) : uP l D I C Q y0 a0 y8 y9 wm8 wm9 as m (ad, v, t, o, n, hs) := by
  refine ⟨r, m', h9.wk ha, (h8.toE.fr hb (Nat.zero_le _) (Nat.zero_le _) (u_tl I hs)).perm (List.Perm.refl _) (fun r9 w9 h => ?_)⟩
  obtain ⟨w1, ⟨e1, e2⟩, e3⟩ := h
  exact ⟨_, List.Perm.refl _, e1, (ad, v', t', o', n', hs), by rw [e3, e2]; rfl, hR⟩
/-- the court goes into the history, at place j -/
theorem uP_keep (j : Nat) (hj : j < 4) (h9 : KI l D (tyL I C Q) y9 wm9 ra (.ref a0 :: as) (uM I a0 m) (uM I a0 m') r) (ha : rmLe ra rm9) {rc : Room} (hb : rmLe rb rm8) (hc : rmLe rc rm8)
    (hKR : ∀ (pa : Nat → Nat) (v0 : CV), hs j = some (pa, v0) → KI l D (tyL I C Q) y8 wm8 rb (.ref y0 :: as) (uL I C Q y0 ad v t o n (u_fp hs) ++ uC I pa v0) (uL I C Q y0 ad v' t' o' n' (u_fp hs) ++ uC I pa v) r)
    (hKA : hs j = none → KIe l D (tyL I C Q) y8 wm8 rc (.ref y0 :: as) (uL I C Q y0 ad v t o n (u_fp hs)) 13 1166 (fun r9 w9 => r9 = r ∧ ∃ c0x e0x e1x e2x p0x p1x p2x w0x w1x w2x g0x g1x g2x : Nat, w9 = uL I C Q y0 ad v' t' o' n' (va_up (u_fp hs) j (some c0x)) ++ wC I c0x e0x e1x e2x p0x p1x p2x w0x w1x w2x g0x g1x g2x (aEv (cS v)) (aDb (cS v)) (aPn (cS v)) (nI (aU (cS v))) (aWd (cS v)) (nI (aW (cS v))) (aTl (cS v)) (aTk (cS v)) (aCb (cS v)) (nI (cZ v)) (cLg v) (cGr v) (aWt (cS v)) (aLt (cS v)) (cMv v)))
    (hR : ∀ pa, uR m' (ad, v', t', o', n', u_up hs j (pa, v))) : uP l D I C Q y0 a0 y8 y9 wm8 wm9 as m (ad, v, t, o, n, hs) := by
  refine ⟨r, m', h9.wk ha, ?_⟩
  have hp := u_tl_perm (I := I) (hs := hs) hj
  have hpu : ∀ q, (uC I q.1 q.2 ++ u_rs I hs j).Perm (u_tl I (u_up hs j q)) := fun q => by
    have h := u_tl_perm (I := I) (hs := u_up hs j q) hj
    rw [u_sl_eq u_up_at, u_rs_up hj] at h
    exact h.symm
  cases hh : hs j with
  | some q =>
    obtain ⟨pa, v0⟩ := q
    rw [u_sl_eq hh] at hp
    refine ((hKR pa v0 hh).toE.fr hb (Nat.zero_le _) (Nat.zero_le _) (u_rs I hs j)).perm ?_ (fun r9 w9 h => ?_)
    · show ((uL I C Q y0 ad v t o n (u_fp hs) ++ uC I pa v0) ++ u_rs I hs j).Perm (uL I C Q y0 ad v t o n (u_fp hs) ++ u_tl I hs)
      rw [List.append_assoc]
      exact hp.symm.append_left _
    · obtain ⟨w1, ⟨e1, e2⟩, e3⟩ := h
      refine ⟨_, ?_, e1, (ad, v', t', o', n', u_up hs j (pa, v)), rfl, hR pa⟩
      show w9.Perm (uL I C Q y0 ad v' t' o' n' (u_fp (u_up hs j (pa, v))) ++ u_tl I (u_up hs j (pa, v)))
      rw [e3, e2, u_fp_same hh, List.append_assoc]
      exact (hpu (pa, v)).append_left _
  | none =>
    rw [u_sl_no hh] at hp
    refine ((hKA hh).fr hc (Nat.le_refl _) (Nat.le_refl _) (u_rs I hs j)).perm ?_ (fun r9 w9 h => ?_)
    · show (uL I C Q y0 ad v t o n (u_fp hs) ++ u_rs I hs j).Perm (uL I C Q y0 ad v t o n (u_fp hs) ++ u_tl I hs)
      exact hp.symm.append_left _
    · obtain ⟨w1, ⟨e1, c0x, e0x, e1x, e2x, p0x, p1x, p2x, w0x, w1x, w2x, g0x, g1x, g2x, e2⟩, e3⟩ := h
      obtain ⟨pa, hpa⟩ : ∃ pa : Nat → Nat, pa = fun i => match i with | 0 => c0x | 1 => e0x | 2 => e1x | 3 => e2x | 4 => p0x | 5 => p1x | 6 => p2x | 7 => w0x | 8 => w1x | 9 => w2x | 10 => g0x | 11 => g1x | _ => g2x := ⟨_, rfl⟩
      refine ⟨_, ?_, e1, (ad, v', t', o', n', u_up hs j (pa, v)), rfl, hR pa⟩
      show w9.Perm (uL I C Q y0 ad v' t' o' n' (u_fp (u_up hs j (pa, v))) ++ u_tl I (u_up hs j (pa, v)))
      have h1 := hpu (pa, v)
      rw [e3, e2, u_fp_up, List.append_assoc]
      rw [hpa] at h1 ⊢
      exact h1.append_left _
/-- the latest kept court comes back -/
theorem uP_undo {pa : Nat → Nat} {w : CV} (j : Nat) (hj : j < 4) (hh : hs j = some (pa, w)) (h9 : KI l D (tyL I C Q) y9 wm9 ra (.ref a0 :: as) (uM I a0 m) (uM I a0 m') r) (ha : rmLe ra rm9) (hb : rmLe rb rm8)
    (h8 : KI l D (tyL I C Q) y8 wm8 rb (.ref y0 :: as) (uL I C Q y0 ad v t o n (u_fp hs) ++ uC I pa w) (uL I C Q y0 ad v' t' o' n' (u_fp hs) ++ uC I pa w) r) (hR : uR m' (ad, v', t', o', n', hs)) : uP l D I C Q y0 a0 y8 y9 wm8 wm9 as m (ad, v, t, o, n, hs) := by
  refine ⟨r, m', h9.wk ha, ?_⟩
  have hp := u_tl_perm (I := I) (hs := hs) hj
  rw [u_sl_eq hh] at hp
  refine (h8.toE.fr hb (Nat.zero_le _) (Nat.zero_le _) (u_rs I hs j)).perm ?_ (fun r9 w9 h => ?_)
  · show ((uL I C Q y0 ad v t o n (u_fp hs) ++ uC I pa w) ++ u_rs I hs j).Perm (uL I C Q y0 ad v t o n (u_fp hs) ++ u_tl I hs)
    rw [List.append_assoc]
    exact hp.symm.append_left _
  · obtain ⟨w1, ⟨e1, e2⟩, e3⟩ := h
    refine ⟨_, ?_, e1, (ad, v', t', o', n', hs), rfl, hR⟩
    show w9.Perm (uL I C Q y0 ad v' t' o' n' (u_fp hs) ++ u_tl I hs)
    rw [e3, e2, List.append_assoc]
    exact hp.symm.append_left _
end UP
