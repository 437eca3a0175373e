/-! what the tables give at the law's entry: the classes, the arrays' classes, the nest mates' links -/
set_option maxRecDepth 100000 in
set_option maxHeartbeats 4000000 in
theorem law_K {b : Nat} {s : State} (hts : ∀ w ∈ lw_tbl, w.before #[Value.ref b] s = true) : ∃ D : va_G, ∀ (k : Nat) (q : vw_C), vwCl[k]? = some q → u_Kn s q.1 q.2.1 q.2.2 (D.1 k) (D.2 k) := by
  obtain ⟨c0, i0, h0⟩ := u_known (C := RX0) (T := TX0) (N := 1) (n := 1) hts inX0 (hts (.instantiable RX0 1) (List.mem_of_getElem? (l := lw_tbl) (i := 111) (by decide +kernel)))
  obtain ⟨c1, i1, h1⟩ := u_known (C := RX1) (T := TX1) (N := 9) (n := 9) hts inX1 (hts (.instantiable RX1 9) (List.mem_of_getElem? (l := lw_tbl) (i := 33) (by decide +kernel)))
  obtain ⟨c2, i2, h2⟩ := u_known (C := RX2) (T := TX2) (N := 2) (n := 2) hts inX2 (hts (.instantiable RX2 2) (List.mem_of_getElem? (l := lw_tbl) (i := 39) (by decide +kernel)))
  obtain ⟨c3, i3, h3⟩ := u_known (C := RX3) (T := TX3) (N := 3) (n := 3) hts inX3 (hts (.instantiable RX3 3) (List.mem_of_getElem? (l := lw_tbl) (i := 151) (by decide +kernel)))
  obtain ⟨c4, i4, h4⟩ := u_known (C := RX4) (T := TX4) (N := 3) (n := 3) hts inX4 (hts (.instantiable RX4 3) (List.mem_of_getElem? (l := lw_tbl) (i := 72) (by decide +kernel)))
  obtain ⟨c5, i5, h5⟩ := u_known (C := RX5) (T := TX5) (N := 3) (n := 3) hts inX5 (hts (.instantiable RX5 3) (List.mem_of_getElem? (l := lw_tbl) (i := 45) (by decide +kernel)))
  obtain ⟨c6, i6, h6⟩ := u_known (C := RX6) (T := TX6) (N := 11) (n := 11) hts inX6 (hts (.instantiable RX6 11) (List.mem_of_getElem? (l := lw_tbl) (i := 169) (by decide +kernel)))
  obtain ⟨c7, i7, h7⟩ := u_known (C := RX7) (T := TX7) (N := 4) (n := 4) hts inX7 (hts (.instantiable RX7 4) (List.mem_of_getElem? (l := lw_tbl) (i := 80) (by decide +kernel)))
  obtain ⟨c8, i8, h8⟩ := u_known (C := RX8) (T := TX8) (N := 3) (n := 3) hts inX8 (hts (.instantiable RX8 3) (List.mem_of_getElem? (l := lw_tbl) (i := 25) (by decide +kernel)))
  refine ⟨(fun k => match k with | 0 => c0 | 1 => c1 | 2 => c2 | 3 => c3 | 4 => c4 | 5 => c5 | 6 => c6 | 7 => c7 | _ => c8, fun k => match k with | 0 => i0 | 1 => i1 | 2 => i2 | 3 => i3 | 4 => i4 | 5 => i5 | 6 => i6 | 7 => i7 | _ => i8), fun k q hq => ?_⟩
  match k, hq with
  | 0, hq => cases hq; exact h0
  | 1, hq => cases hq; exact h1
  | 2, hq => cases hq; exact h2
  | 3, hq => cases hq; exact h3
  | 4, hq => cases hq; exact h4
  | 5, hq => cases hq; exact h5
  | 6, hq => cases hq; exact h6
  | 7, hq => cases hq; exact h7
  | 8, hq => cases hq; exact h8
  | k + 9, hq => simp [vwCl] at hq
theorem law_A {b : Nat} {s : State} (hts : ∀ w ∈ lw_tbl, w.before #[Value.ref b] s = true) : ∃ I C Q : ClassId, (ArrOfT s I .int ∧ va_RA s I .int) ∧ (ArrOfT s C .char ∧ va_RA s C .char) ∧ (ArrOfT s Q (.object RX1) ∧ va_RA s Q (.object RX1)) ∧ va_AO RX1 s := by
  have w1 := hts (.arrayClass .int) (List.mem_of_getElem? (l := lw_tbl) (i := 63) (by decide +kernel))
  have w2 := hts (.arrayClass .char) (List.mem_of_getElem? (l := lw_tbl) (i := 199) (by decide +kernel))
  have w3 := hts (.arrayOver (.object RX1)) (List.mem_of_getElem? (l := lw_tbl) (i := 157) (by decide +kernel))
  obtain ⟨I, k1, p1, a1, a2, a3⟩ := Cond.arrayClass_spec w1
  obtain ⟨C, k2, p2, b1, b2, b3⟩ := Cond.arrayClass_spec w2
  obtain ⟨p3, Q, k3, d1, d2, d3, d4, d5⟩ := Cond.arrayOver_spec w3
  exact ⟨I, C, Q, ⟨fun n z => ⟨fun k h => (by cases h), k1, a2, p1, a3⟩, a1⟩, ⟨fun n z => ⟨fun k h => (by cases h), k2, b2, p2, b3⟩, b1⟩, ⟨fun n z => ⟨fun k h => (by cases h), k3, d3, p3, d4⟩, k3, p3, d3, d4, d1, d5⟩, va_AO.of w3⟩
set_option maxRecDepth 100000 in
theorem law_N {b : Nat} {s : State} (hts : ∀ w ∈ lw_tbl, w.before #[Value.ref b] s = true) : (∀ q ∈ kNests, va_Nw (.methodLinkNest q.1 q.2.1 q.2.2 RX8) s) ∧ ∀ q ∈ kNestF, va_Nw (.fieldLinkNest RX8 q.1 RX6 q.2 "I" RX8) s := by
  refine ⟨?_, ?_⟩
  · rw [kNests]
    exact List.forall_mem_cons.mpr ⟨va_Nw.of rfl (hts (.methodLinkNest RX8 9 yX1_init RX8) (List.mem_of_getElem? (l := lw_tbl) (i := 34) (by decide +kernel))), List.forall_mem_cons.mpr ⟨va_Nw.of rfl (hts (.methodLinkNest RX8 18 yX3_init RX8) (List.mem_of_getElem? (l := lw_tbl) (i := 152) (by decide +kernel))), List.forall_mem_cons.mpr ⟨va_Nw.of rfl (hts (.methodLinkNest RX8 25 yX6_init RX8) (List.mem_of_getElem? (l := lw_tbl) (i := 170) (by decide +kernel))), List.forall_mem_cons.mpr ⟨va_Nw.of rfl (hts (.methodLinkNest RX1 11 yX2_init RX8) (List.mem_of_getElem? (l := lw_tbl) (i := 40) (by decide +kernel))), List.forall_mem_cons.mpr ⟨va_Nw.of rfl (hts (.methodLinkNest RX1 20 yX4_init RX8) (List.mem_of_getElem? (l := lw_tbl) (i := 73) (by decide +kernel))), List.forall_mem_cons.mpr ⟨va_Nw.of rfl (hts (.methodLinkNest RX1 27 yX0_init RX8) (List.mem_of_getElem? (l := lw_tbl) (i := 112) (by decide +kernel))), List.forall_mem_cons.mpr ⟨va_Nw.of rfl (hts (.methodLinkNest RX1 75 yX8_isWithin RX8) (List.mem_of_getElem? (l := lw_tbl) (i := 347) (by decide +kernel))), List.forall_mem_cons.mpr ⟨va_Nw.of rfl (hts (.methodLinkNest RX3 22 yX1_init RX8) (List.mem_of_getElem? (l := lw_tbl) (i := 408) (by decide +kernel))), List.forall_mem_cons.mpr ⟨va_Nw.of rfl (hts (.methodLinkNest RX4 22 yX7_init RX8) (List.mem_of_getElem? (l := lw_tbl) (i := 81) (by decide +kernel))), List.forall_mem_cons.mpr ⟨va_Nw.of rfl (hts (.methodLinkNest RX4 68 yX8_isWithin RX8) (List.mem_of_getElem? (l := lw_tbl) (i := 569) (by decide +kernel))), fun _ h => absurd h List.not_mem_nil⟩⟩⟩⟩⟩⟩⟩⟩⟩⟩
  · rw [kNestF]
    exact fun _ h => absurd h List.not_mem_nil
theorem law_kE {b : Nat} {s : State} (hts : ∀ w ∈ lw_tbl, w.before #[Value.ref b] s = true) : ∃ (D : va_G) (I C Q : ClassId), kE D (tyL I C Q) s ∧ va_AO RX1 s := by
  obtain ⟨D, hD⟩ := law_K hts
  obtain ⟨I, C, Q, h1, h2, h3, h4⟩ := law_A hts
  obtain ⟨n1, n2⟩ := law_N hts
  refine ⟨D, I, C, Q, ⟨⟨hD, fun k q hq => ?_⟩, n1, n2⟩, h4⟩
  match k, hq with
  | 0, hq => cases hq; exact h1
  | 1, hq => cases hq; exact h2
  | 2, hq => cases hq; exact h3
  | k + 3, hq => simp at hq
