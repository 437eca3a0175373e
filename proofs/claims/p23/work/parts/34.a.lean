/-! worlds side by side, contracts over a wider world: the law's level -/
def wD (A : Nat → Prop) (ws : va_W) : Prop := List.Pairwise (fun p q : Nat × va_E => p.1 ≠ q.1) ws ∧ ∀ q ∈ ws, A q.1
theorem wD_iff {A : Nat → Prop} {ws : va_W} : va_D A ws ↔ wD A ws := by
  constructor
  · intro ⟨h1, h2⟩
    refine ⟨List.pairwise_iff_getElem.mpr (fun i j hi hj hij e => ?_), fun q hq => ?_⟩
    · have := h1 i j _ _ (List.getElem?_eq_getElem hi) (List.getElem?_eq_getElem hj) e
      omega
    · obtain ⟨i, hi⟩ := List.getElem?_of_mem hq
      exact h2 i q hi
  · intro ⟨h1, h2⟩
    refine ⟨fun i j p q hp hq e => ?_, fun k q hk => h2 q (List.mem_of_getElem? hk)⟩
    obtain ⟨hi, ei⟩ := List.getElem?_eq_some_iff.mp hp
    obtain ⟨hj, ej⟩ := List.getElem?_eq_some_iff.mp hq
    have h3 := List.pairwise_iff_getElem.mp h1
    rcases Nat.lt_trichotomy i j with c | c | c
    · exact absurd (by rw [ei, ej]; exact e) (h3 i j hi hj c)
    · exact c
    · exact absurd (by rw [ei, ej]; exact e.symm) (h3 j i hj hi c)
theorem wP_at {D : va_G} {ws : va_W} {H : Heap} (h : va_P D vwCl ws H) {q : Nat × va_E} (hq : q ∈ ws) : va_at D vwCl q H := by
  obtain ⟨i, hi⟩ := List.getElem?_of_mem hq
  exact h i q hi
theorem wP_mem {D : va_G} {ws ws' : va_W} {H : Heap} (hP : va_P D vwCl ws H) (h : ∀ q ∈ ws', q ∈ ws) : va_P D vwCl ws' H := fun _ _ hk => wP_at hP (h _ (List.mem_of_getElem? hk))
theorem wP_perm {D : va_G} {ws ws' : va_W} {H : Heap} (p : ws.Perm ws') (h : va_P D vwCl ws H) : va_P D vwCl ws' H := wP_mem h (fun _ hq => p.mem_iff.mpr hq)
theorem wD_perm {A : Nat → Prop} {ws ws' : va_W} (p : ws.Perm ws') (h : va_D A ws) : va_D A ws' := by
  have h := wD_iff.mp h
  exact wD_iff.mpr ⟨(p.pairwise_iff (fun h => Ne.symm h)).mp h.1, fun q hq => h.2 q (p.mem_iff.mpr hq)⟩
theorem wP_l {D : va_G} {wc wr : va_W} {H : Heap} (h : va_P D vwCl (wc ++ wr) H) : va_P D vwCl wc H := wP_mem h (fun _ hq => List.mem_append_left _ hq)
theorem wD_l {A : Nat → Prop} {wc wr : va_W} (h : va_D A (wc ++ wr)) : va_D A wc := by
  have h := wD_iff.mp h
  exact wD_iff.mpr ⟨(List.pairwise_append.mp h.1).1, fun q hq => h.2 q (List.mem_append_left _ hq)⟩
theorem wA_mem {ws : va_W} {sz q : Nat} : va_A ws sz q ↔ (∃ x ∈ ws, x.1 = q) ∨ sz ≤ q := by
  constructor
  · rintro (⟨k, e, h⟩ | h)
    · exact Or.inl ⟨_, List.mem_of_getElem? h, rfl⟩
    · exact Or.inr h
  · rintro (⟨x, hx, rfl⟩ | h)
    · obtain ⟨i, hi⟩ := List.getElem?_of_mem hx
      exact Or.inl ⟨i, x.2, hi⟩
    · exact Or.inr h
theorem wA_l {wc wr : va_W} {sz q : Nat} (h : va_A wc sz q) : va_A (wc ++ wr) sz q := by
  rw [wA_mem] at *
  rcases h with ⟨x, hx, e⟩ | h
  · exact Or.inl ⟨x, List.mem_append_left _ hx, e⟩
  · exact Or.inr h
theorem wA_perm {ws ws' : va_W} (p : ws.Perm ws') {sz q : Nat} : va_A ws sz q ↔ va_A ws' sz q := by
  rw [wA_mem, wA_mem]
  constructor
  · rintro (⟨x, hx, e⟩ | h)
    · exact Or.inl ⟨x, p.mem_iff.mp hx, e⟩
    · exact Or.inr h
  · rintro (⟨x, hx, e⟩ | h)
    · exact Or.inl ⟨x, p.mem_iff.mpr hx, e⟩
    · exact Or.inr h
theorem w_join {A0 : Nat → Prop} {D : va_G} {wc wr w1 : va_W} {H H1 : Heap} (hP : va_P D vwCl (wc ++ wr) H) (hD : va_D A0 (wc ++ wr)) (hk : ∀ q : Nat, q < H.size → ¬ va_A wc H.size q → H1[q]? = H[q]?) (hF : ∀ q, va_A wc H.size q → A0 q) (hP1 : va_P D vwCl w1 H1) (hD1 : va_D (va_A wc H.size) w1) : va_P D vwCl (w1 ++ wr) H1 ∧ va_D A0 (w1 ++ wr) := by
  have hd := wD_iff.mp hD
  have hd1 := wD_iff.mp hD1
  obtain ⟨-, p2, p3⟩ := List.pairwise_append.mp hd.1
  have apart : ∀ q ∈ wr, q.1 < H.size ∧ ¬ va_A wc H.size q.1 := by
    intro q hq
    have hl := (wP_at hP (List.mem_append_right _ hq)).lt
    refine ⟨hl, fun h => ?_⟩
    rcases wA_mem.mp h with ⟨x, hx, e⟩ | h
    · exact p3 x hx q hq e
    · omega
  refine ⟨fun k q hk2 => ?_, wD_iff.mpr ⟨List.pairwise_append.mpr ⟨hd1.1, p2, fun a ha b hb e => (apart b hb).2 (by rw [← e]; exact hd1.2 a ha)⟩, fun q hq => ?_⟩⟩
  · rcases List.mem_append.mp (List.mem_of_getElem? hk2) with h | h
    · exact wP_at hP1 h
    · obtain ⟨g1, g2⟩ := apart q h
      exact (wP_at hP (List.mem_append_right _ h)).kept (hk q.1 g1 g2)
  · rcases List.mem_append.mp hq with h | h
    · exact hF _ (hd1.2 q h)
    · exact hd.2 q (List.mem_append_right _ h)
abbrev rmLe (a b : Room) : Prop := a.frames ≤ b.frames ∧ a.cells ≤ b.cells ∧ a.slots ≤ b.slots ∧ a.locals ≤ b.locals
theorem hasRoom_le {s : State} {pl : Platform} {a b : Room} (h : rmLe a b) (hb : s.hasRoom pl b = true) : s.hasRoom pl a = true := by
  obtain ⟨h1, h2, h3, h4⟩ := h
  unfold State.hasRoom at *
  simp only [Bool.and_eq_true, decide_eq_true_eq] at *
  obtain ⟨⟨⟨⟨b1, b2, b3, b4, b5, b6⟩, b7⟩, b8⟩, b9⟩ := hb
  exact ⟨⟨⟨⟨by omega, by omega, by omega, by omega, by omega, b6⟩, by omega⟩, by omega⟩, b9⟩
theorem appl_le {wm : List Cond} {a b : Room} (h : rmLe a b) {x : MethodName} {pl : Platform} {s : State} {m : MethodId} {args : Array Value} {below : List Frame} (hf : s.frames = .invoking m args :: below) (hb : (headSpec wm b).appliesLoose x pl s = true) : (headSpec wm a).appliesLoose x pl s = true := by
  obtain ⟨a1, a2, a3, a4, a5, a6, a7, a8⟩ := (Spec.appliesLoose_iff hf).mp hb
  exact (Spec.appliesLoose_iff hf).mpr ⟨a1, a2, a3, a4, a5, a6, hasRoom_le h a7, a8⟩
section KW
variable {l : Launch} {D : va_G} {ty : kTy} {y : MethodName} {wm : List Cond} {rm rm' : Room} {av : List Value} {wc wc' ws ws' : va_W} {mc ms mc' ms' : Nat} {Rp Rp' : Int32 → va_W → Prop} {r : Int32}
theorem KI.toE (h : KI l D ty y wm rm av wc wc' r) : KIe l D ty y wm rm av wc 0 0 (fun r9 w9 => r9 = r ∧ w9 = wc') := by
  intro sz p e ha hc hk s m args below hf happ hp ht
  obtain ⟨a0, a1, -⟩ := hp
  obtain ⟨n, o, h1, h2, h3, ⟨⟨q, u, e1, e2, hP1, hD1⟩, hF⟩, hL⟩ := h sz p e ha hc hk s m args below hf happ ⟨a0, a1⟩ ht
  exact ⟨n, o, h1, h2, h3, ⟨⟨q, wc', e1, ⟨e2, rfl⟩, hP1, hD1⟩, hF⟩, hL⟩
theorem KIe.fr (h : KIe l D ty y wm rm av wc mc ms Rp) (hr : rmLe rm rm') (h1 : mc ≤ mc') (h2 : ms ≤ ms') (wr : va_W) : KIe l D ty y wm rm' av (wc ++ wr) mc' ms' (fun r9 w9 => ∃ w1, Rp r9 w1 ∧ w9 = w1 ++ wr) := by
  intro sz p e ha hc2 hk s m args below hf happ hp ht
  obtain ⟨a0, ⟨hz, hP, hK, hD⟩, hX⟩ := hp
  obtain ⟨n, o, g1, g2, g3, ⟨⟨r, w1, e1, hR, hP1, hD1⟩, hF⟩, L, hL, hL2⟩ := h sz p e ha hc2 hk s m args below hf (appl_le hr hf happ) ⟨a0, ⟨hz, wP_l hP, hK, wD_l hD⟩, hX⟩ ht
  subst hz
  obtain ⟨q1, q2⟩ := w_join (A0 := va_A (wc ++ wr) s.heap.size) hP (hD.self) hF.2 (fun q hq => wA_l hq) hP1 hD1
  exact ⟨n, o, g1, g2, g3, ⟨⟨r, w1 ++ wr, e1, ⟨w1, hR, rfl⟩, q1, q2⟩, ⟨hF.1, fun q a b => hF.2 q a (fun c => b (wA_l c))⟩⟩, L, ⟨hL.1, hL.2.1, hL.2.2.mono h1 h2⟩, fun q hq => wA_l (hL2 q hq)⟩
theorem KIe.perm (h : KIe l D ty y wm rm av ws mc ms Rp) (p : ws.Perm ws') (hR : ∀ r9 w9, Rp r9 w9 → ∃ w2, w9.Perm w2 ∧ Rp' r9 w2) : KIe l D ty y wm rm av ws' mc ms Rp' := by
  intro sz pp e ha hc2 hk s m args below hf happ hp ht
  obtain ⟨a0, ⟨hz, hP, hK, hD⟩, hX⟩ := hp
  obtain ⟨n, o, g1, g2, g3, ⟨⟨r, w1, e1, hR1, hP1, hD1⟩, hF⟩, L, hL, hL2⟩ := h sz pp e ha hc2 hk s m args below hf happ ⟨a0, ⟨hz, wP_perm p.symm hP, hK, wD_perm p.symm hD⟩, hX⟩ ht
  obtain ⟨w2, p2, hR2⟩ := hR r w1 hR1
  have hA : ∀ q, va_A ws sz q → va_A ws' sz q := fun q hq => (wA_perm p).mp hq
  exact ⟨n, o, g1, g2, g3, ⟨⟨r, w2, e1, hR2, wP_perm p2 hP1, (wD_perm p2 hD1).weaken (fun _ q _ hq => hA _ hq)⟩, ⟨hF.1, fun q a b => hF.2 q a (fun c => b (hA q c))⟩⟩, L, hL, fun q hq => hA _ (hL2 q hq)⟩
theorem KI.re (h : KI l D ty y wm rm av wc wc' r) (hr : rmLe rm rm') (hP : ∀ H, va_P D vwCl wc' H → va_P D vwCl ws' H) (hD : ∀ A, va_D A wc' → va_D A ws') : KI l D ty y wm rm' av wc ws' r := by
  intro sz p e ha hc hk s m args below hf happ hp ht
  obtain ⟨n, o, h1, h2, h3, ⟨⟨q, u, e1, e2, hP1, hD1⟩, hF⟩, hL⟩ := h sz p e ha hc hk s m args below hf (appl_le hr hf happ) hp ht
  exact ⟨n, o, h1, h2, h3, ⟨⟨q, u, e1, e2, hP _ hP1, hD _ hD1⟩, hF⟩, hL⟩
theorem KI.wk (h : KI l D ty y wm rm av wc wc' r) (hr : rmLe rm rm') : KI l D ty y wm rm' av wc wc' r := h.re hr (fun _ h => h) (fun _ h => h)
end KW
section WCALL
variable {p : Program} {l : Launch} {e : Env} {R : Room} {s : State} {m : MethodId} {args : Array Value} {below : List Frame} {meth : Method} {c : Code} {H : Heap} {locs : List Loc} {cells slots mc ms : Nat} {Q : State → Prop}
variable {pc : Nat} {ls : Array Slot} {rest st0 : List Value} {a : Array Value} {A0 : Nat → Prop} {H0 : Heap} {D : va_G} {wc wc' wr : va_W}
theorem w_free (hD : va_D A0 (wc ++ wr)) (hS : va_S A0 H0 H locs) (hA : ∀ q, H0.size ≤ q → A0 q) : ∀ q, va_A wc H.size q → A0 q := by
  intro q h
  rcases wA_mem.mp h with ⟨x, hx, rfl⟩ | h
  · exact (wD_iff.mp hD).2 x (List.mem_append_left _ hx)
  · exact hA q (Nat.le_trans hS.1 h)
theorem w_i {r : Int32} (hr : va_Run p l e R s m args below meth c H locs cells slots 0 0 (F0 m pc ls st0) rest (kQi D H.size wc wc' r a) (va_A wc H.size)) (hP : va_P D vwCl (wc ++ wr) H) (hD : va_D A0 (wc ++ wr)) (hS : va_S A0 H0 H locs) (hA : ∀ q, H0.size ≤ q → A0 q)
    (kk : ∀ (H1 : Heap) (locs1 : List Loc), va_P D vwCl (wc' ++ wr) H1 → va_D A0 (wc' ++ wr) → va_S A0 H0 H1 locs1 → W p l e R s m args below meth c H1 locs1 cells slots Q (F0 m (pc + 3) ls (.int r :: rest))) : W p l e R s m args below meth c H locs cells slots Q (F0 m pc ls st0) := by
  have hF := w_free hD hS hA
  refine va_calli hr hS (fun q _ h => hF q h) hF (fun r' u t H1 locs1 ht hvm hw hB hz hk hS1 => ?_)
  obtain ⟨hP1, hD1⟩ := hB
  rw [ht] at hP1
  obtain ⟨g1, g2⟩ := w_join hP hD hk hF hP1 hD1
  rw [hw]
  exact kk H1 locs1 g1 g2 hS1
theorem w_ie {Rp : Int32 → va_W → Prop} (hr : va_Run p l e R s m args below meth c H locs cells slots mc ms (F0 m pc ls st0) rest (kQie D H.size wc Rp a) (va_A wc H.size)) (hP : va_P D vwCl (wc ++ wr) H) (hD : va_D A0 (wc ++ wr)) (hS : va_S A0 H0 H locs) (hA : ∀ q, H0.size ≤ q → A0 q)
    (kk : ∀ (H1 : Heap) (locs1 : List Loc) (r : Int32) (w1 : va_W), Rp r w1 → va_P D vwCl (w1 ++ wr) H1 → va_D A0 (w1 ++ wr) → va_S A0 H0 H1 locs1 → W p l e R s m args below meth c H1 locs1 (cells + mc) (slots + ms) Q (F0 m (pc + 3) ls (.int r :: rest))) : W p l e R s m args below meth c H locs cells slots Q (F0 m pc ls st0) := by
  have hF := w_free hD hS hA
  refine va_calli hr hS (fun q _ h => hF q h) hF (fun r u t H1 locs1 ht hvm hw hB hz hk hS1 => ?_)
  obtain ⟨hP1, hD1⟩ := hB
  rw [ht] at hP1
  obtain ⟨g1, g2⟩ := w_join hP hD hk hF hP1 hD1
  exact kk H1 locs1 r u hw g1 g2 hS1
end WCALL
