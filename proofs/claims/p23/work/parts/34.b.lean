/-! both sides of the law as values: the class's court, its past courts, its text; the reference; how they hang together -/
abbrev CV : Type := AV × Nat × Int32 × Int32 × Int32
abbrev cS (v : CV) : AV := v.1
abbrev cZ (v : CV) : Nat := v.2.1
abbrev cLg (v : CV) : Int32 := v.2.2.1
abbrev cGr (v : CV) : Int32 := v.2.2.2.1
abbrev cMv (v : CV) : Int32 := v.2.2.2.2
abbrev uC (I : ClassId) (pa : Nat → Nat) (v : CV) : va_W := wC I (pa 0) (pa 1) (pa 2) (pa 3) (pa 4) (pa 5) (pa 6) (pa 7) (pa 8) (pa 9) (pa 10) (pa 11) (pa 12) (aEv (cS v)) (aDb (cS v)) (aPn (cS v)) (nI (aU (cS v))) (aWd (cS v)) (nI (aW (cS v))) (aTl (cS v)) (aTk (cS v)) (aCb (cS v)) (nI (cZ v)) (cLg v) (cGr v) (aWt (cS v)) (aLt (cS v)) (cMv v)
abbrev HS : Type := Nat → Option ((Nat → Nat) × CV)
def u_sl (I : ClassId) (hs : HS) (j : Nat) : va_W := match hs j with
  | none => []
  | some q => uC I q.1 q.2
def u_rs (I : ClassId) (hs : HS) (j : Nat) : va_W := (if j = 0 then [] else u_sl I hs 0) ++ ((if j = 1 then [] else u_sl I hs 1) ++ ((if j = 2 then [] else u_sl I hs 2) ++ (if j = 3 then [] else u_sl I hs 3)))
def u_tl (I : ClassId) (hs : HS) : va_W := u_rs I hs 4
def u_up (hs : HS) (j : Nat) (q : (Nat → Nat) × CV) : HS := fun i => if i = j then some q else hs i
def u_fp (hs : HS) : Nat → Option Nat := fun i => (hs i).map (fun q => q.1 0)
theorem u_sl_ne {I : ClassId} {hs : HS} {j k : Nat} {q : (Nat → Nat) × CV} (h : k ≠ j) : u_sl I (u_up hs j q) k = u_sl I hs k := by rw [u_sl, u_sl, u_up, if_neg h]
theorem u_sl_eq {I : ClassId} {hs : HS} {j : Nat} {q : (Nat → Nat) × CV} (h : hs j = some q) : u_sl I hs j = uC I q.1 q.2 := by rw [u_sl, h]
theorem u_sl_no {I : ClassId} {hs : HS} {j : Nat} (h : hs j = none) : u_sl I hs j = [] := by rw [u_sl, h]
theorem u_up_at {hs : HS} {j : Nat} {q : (Nat → Nat) × CV} : u_up hs j q j = some q := if_pos rfl
theorem u_up_ne {hs : HS} {j k : Nat} {q : (Nat → Nat) × CV} (h : k ≠ j) : u_up hs j q k = hs k := if_neg h
theorem u_rs_up {I : ClassId} {hs : HS} {j : Nat} {q : (Nat → Nat) × CV} (hj : j < 4) : u_rs I (u_up hs j q) j = u_rs I hs j := by
  rcases (show j = 0 ∨ j = 1 ∨ j = 2 ∨ j = 3 by omega) with rfl | rfl | rfl | rfl
  · show [] ++ (u_sl I _ 1 ++ (u_sl I _ 2 ++ u_sl I _ 3)) = [] ++ (u_sl I hs 1 ++ (u_sl I hs 2 ++ u_sl I hs 3))
    rw [u_sl_ne (by decide), u_sl_ne (by decide), u_sl_ne (by decide)]
  · show u_sl I _ 0 ++ ([] ++ (u_sl I _ 2 ++ u_sl I _ 3)) = u_sl I hs 0 ++ ([] ++ (u_sl I hs 2 ++ u_sl I hs 3))
    rw [u_sl_ne (by decide), u_sl_ne (by decide), u_sl_ne (by decide)]
  · show u_sl I _ 0 ++ (u_sl I _ 1 ++ ([] ++ u_sl I _ 3)) = u_sl I hs 0 ++ (u_sl I hs 1 ++ ([] ++ u_sl I hs 3))
    rw [u_sl_ne (by decide), u_sl_ne (by decide), u_sl_ne (by decide)]
  · show u_sl I _ 0 ++ (u_sl I _ 1 ++ (u_sl I _ 2 ++ [])) = u_sl I hs 0 ++ (u_sl I hs 1 ++ (u_sl I hs 2 ++ []))
    rw [u_sl_ne (by decide), u_sl_ne (by decide), u_sl_ne (by decide)]
theorem u_tl_perm {I : ClassId} {hs : HS} {j : Nat} (hj : j < 4) : (u_tl I hs).Perm (u_sl I hs j ++ u_rs I hs j) := by
  have h3 : (u_sl I hs 2 ++ u_sl I hs 3).Perm (u_sl I hs 3 ++ (u_sl I hs 2 ++ [])) := by rw [List.append_nil]; exact List.perm_append_comm
  rcases (show j = 0 ∨ j = 1 ∨ j = 2 ∨ j = 3 by omega) with rfl | rfl | rfl | rfl
  · show (u_sl I hs 0 ++ (u_sl I hs 1 ++ (u_sl I hs 2 ++ u_sl I hs 3))).Perm (u_sl I hs 0 ++ ([] ++ (u_sl I hs 1 ++ (u_sl I hs 2 ++ u_sl I hs 3))))
    exact List.Perm.refl _
  · show (u_sl I hs 0 ++ (u_sl I hs 1 ++ (u_sl I hs 2 ++ u_sl I hs 3))).Perm (u_sl I hs 1 ++ (u_sl I hs 0 ++ ([] ++ (u_sl I hs 2 ++ u_sl I hs 3))))
    exact List.perm_append_comm_assoc _ _ _
  · show (u_sl I hs 0 ++ (u_sl I hs 1 ++ (u_sl I hs 2 ++ u_sl I hs 3))).Perm (u_sl I hs 2 ++ (u_sl I hs 0 ++ (u_sl I hs 1 ++ ([] ++ u_sl I hs 3))))
    exact ((List.perm_append_comm_assoc (u_sl I hs 1) (u_sl I hs 2) (u_sl I hs 3)).append_left _).trans (List.perm_append_comm_assoc _ _ _)
  · show (u_sl I hs 0 ++ (u_sl I hs 1 ++ (u_sl I hs 2 ++ u_sl I hs 3))).Perm (u_sl I hs 3 ++ (u_sl I hs 0 ++ (u_sl I hs 1 ++ (u_sl I hs 2 ++ []))))
    exact (((h3.append_left (u_sl I hs 1)).trans (List.perm_append_comm_assoc _ _ _)).append_left (u_sl I hs 0)).trans (List.perm_append_comm_assoc _ _ _)
theorem u_fp_up {hs : HS} {j : Nat} {q : (Nat → Nat) × CV} : u_fp (u_up hs j q) = va_up (u_fp hs) j (some (q.1 0)) := by
  funext i
  show (u_up hs j q i).map _ = if i = j then some (q.1 0) else u_fp hs i
  by_cases h : i = j
  · rw [if_pos h, h, u_up_at]; rfl
  · rw [if_neg h, u_up_ne h]; rfl
theorem u_fp_same {hs : HS} {j : Nat} {pa : Nat → Nat} {v v' : CV} (h : hs j = some (pa, v)) : u_fp (u_up hs j (pa, v')) = u_fp hs := by
  funext i
  show (u_up hs j (pa, v') i).map _ = (hs i).map _
  by_cases e : i = j
  · rw [e, u_up_at, h]; rfl
  · rw [u_up_ne e]
theorem u_fp_at {hs : HS} {j : Nat} {pa : Nat → Nat} {v : CV} (h : hs j = some (pa, v)) : u_fp hs j = some (pa 0) := by
  show (hs j).map _ = _
  rw [h]; rfl
theorem u_fp_no {hs : HS} {j : Nat} (h : hs j = none) : u_fp hs j = none := by
  show (hs j).map _ = _
  rw [h]; rfl
abbrev TXv : Type := (Nat → Int32) × Nat × XJ × Int32 × Int32
abbrev uL (I C Q : ClassId) (y0 : Nat) (ad : Nat → Nat) (v : CV) (t : TXv) (o n : Nat) (fp : Nat → Option Nat) : va_W := wL I C Q y0 (ad 0) (ad 1) (ad 2) (ad 3) (ad 4) (ad 5) (ad 6) (ad 7) (ad 8) (ad 9) (ad 10) (ad 11) (ad 12) (ad 13) (ad 14) (ad 15) (ad 16) (aEv (cS v)) (aDb (cS v)) (aPn (cS v)) (nI (aU (cS v))) (aWd (cS v)) (nI (aW (cS v))) (aTl (cS v)) (aTk (cS v)) (aCb (cS v)) (nI (cZ v)) (cLg v) (cGr v) (aWt (cS v)) (aLt (cS v)) (cMv v) t.1 (nI t.2.1) t.2.2.1.1 t.2.2.1.2.1 t.2.2.1.2.2.1 t.2.2.1.2.2.2.1 t.2.2.1.2.2.2.2.1 t.2.2.1.2.2.2.2.2.1 t.2.2.1.2.2.2.2.2.2 t.2.2.2.1 t.2.2.2.2 (nI o) (nI n) fp
abbrev LV : Type := (Nat → Nat) × CV × TXv × Nat × Nat × HS
def uX (I C Q : ClassId) (y0 : Nat) (x : LV) : va_W := uL I C Q y0 x.1 x.2.1 x.2.2.1 x.2.2.2.1 x.2.2.2.2.1 (u_fp x.2.2.2.2.2) ++ u_tl I x.2.2.2.2.2
theorem h_pl4 (o n : Nat) : h_pl o n < 4 := by rw [h_pl]; split <;> omega
theorem h_ol4 {o : Nat} (n : Nat) (ho : o < 4) : h_ol o n < 4 := by rw [h_ol]; split <;> omega
theorem m_rns4 {n : Nat} (hn : n ≤ 4) : m_rns n ≤ 4 := by rw [m_rns]; split <;> omega
abbrev rm9 : Room := { frames := 8, cells := 0, slots := 0, locals := 200 }
abbrev rm8 : Room := { frames := 8, cells := 13, slots := 1166, locals := 200 }
