/-! the reference's methods as functions -/
theorem kn01 : ((0 : Int32) = 1) = False := by decide
theorem kn10 : ((1 : Int32) = 0) = False := by decide
theorem kn02 : ((0 : Int32) = 2) = False := by decide
theorem kn20 : ((2 : Int32) = 0) = False := by decide
theorem kn12 : ((1 : Int32) = 2) = False := by decide
theorem kn21 : ((2 : Int32) = 1) = False := by decide
def m_isIn (v lo hi : Int32) : Int32 := if v < lo then 0 else if hi < v then 0 else 1
def m_fkL (now : Nat → Int32) (q : Int32) : Nat → Nat → Nat
  | 0, k => k
  | n + 1, k => if now (396 + 8 * k + 0) = q then k else m_fkL now q n (k + 1)
def m_fk (now : Nat → Int32) (q : Int32) (np : Nat) : Nat := m_fkL now q np 0
def m_mode (now : Nat → Int32) (q : Int32) (np : Nat) : Int32 := if m_fk now q np < np then now (396 + 8 * m_fk now q np + 1) else 0
/-- a pane comes among the kept ones, at place np -/
def m_keep (now : Nat → Int32) (q : Int32) (np : Nat) : Nat → Int32 :=
  upd (upd (upd (upd (upd (upd (upd (upd (upd (upd now 10 (nI (np + 1))) (396 + 8 * np + 0) 0) (396 + 8 * np + 1) 0) (396 + 8 * np + 2) 0) (396 + 8 * np + 3) 0) (396 + 8 * np + 4) 0) (396 + 8 * np + 5) 0) (396 + 8 * np + 6) 0) (396 + 8 * np + 7) 0) (396 + 8 * np + 0) q
def m_shut (now : Nat → Int32) (pp np sz : Nat) : Int32 := if ¬ m_mode now (nI pp) np = 0 then 0 else if now 0 < nI ((pp + 1) * sz) then 0 else 1
def m_cts (now : Nat → Int32) (i : Nat) : Int32 := if ¬ now (12 + 6 * i + 0) = 1 then 0 else if m_isIn (now (12 + 6 * i + 5)) 0 1 = 0 then 0 else 1
/-- of the events before k that count in the pane q: how many, their sum, the set of their keys -/
noncomputable def m_acc (now : Nat → Int32) (sz : Nat) (q : Int32) : Nat → Int32 × Int32 × Int32
  | 0 => (0, 0, 0)
  | k + 1 => if m_cts now k = 0 then m_acc now sz q k else if now (12 + 6 * k + 1) / nI sz = q then ((m_acc now sz q k).1 + 1, (m_acc now sz q k).2.1 + now (12 + 6 * k + 3), (m_acc now sz q k).2.2 ||| ((1 : Int32) <<< (now (12 + 6 * k + 2) &&& 31))) else m_acc now sz q k
noncomputable def m_num (now : Nat → Int32) (sz : Nat) (q : Int32) : Int32 := (m_acc now sz q 64).1
noncomputable def m_sum (now : Nat → Int32) (sz : Nat) (q : Int32) : Int32 := (m_acc now sz q 64).2.1
noncomputable def m_key (now : Nat → Int32) (sz : Nat) (q : Int32) : Int32 := (m_acc now sz q 64).2.2
def m_shW (now : Nat → Int32) (k : Nat) : Nat → Int32 := fun i => if i = 9 then 39 else if 908 ≤ i ∧ i < 908 + k then now (i + 4) else now i
def m_says (now : Nat → Int32) (w : Nat) (so pa ma su : Int32) : Nat → Int32 :=
  if w < 40 then upd (upd (upd (upd (upd now (908 + 4 * w) so) (908 + 4 * w + 1) pa) (908 + 4 * w + 2) ma) (908 + 4 * w + 3) su) 9 (nI (w + 1))
  else upd (upd (upd (upd (upd (m_shW now 156) 1064 so) 1065 pa) 1066 ma) 1067 su) 9 40
theorem m_says_o {now : Nat → Int32} {w : Nat} {so pa ma su : Int32} {i : Nat} (hw : w ≤ 40) (h : i ≠ 9 ∧ (i < 908 ∨ 1068 ≤ i)) : m_says now w so pa ma su i = now i := by
  rw [m_says]
  split
  · simp only [upd]
    repeat' rw [if_neg (by omega)]
  · simp only [upd, m_shW]
    repeat' rw [if_neg (by omega)]
theorem m_says_9 {now : Nat → Int32} {w : Nat} {so pa ma su : Int32} : m_says now w so pa ma su 9 = if w < 40 then nI (w + 1) else 40 := by
  rw [m_says]
  split
  · exact pk_us
  · exact pk_us
def wN (now : Nat → Int32) : Nat := (now 9).toNatClampNeg
noncomputable def m_tells (now : Nat → Int32) (k sz : Nat) : Nat → Int32 :=
  if m_num now sz (now (396 + 8 * k + 0)) ≤ 0 then now
  else m_says (upd (upd (upd (upd (upd now (396 + 8 * k + 5) 1) (396 + 8 * k + 6) (m_num now sz (now (396 + 8 * k + 0)))) (396 + 8 * k + 7) (m_sum now sz (now (396 + 8 * k + 0)))) (396 + 8 * k + 3) (now (396 + 8 * k + 3) + 1)) 3 (now 3 + 1)) (wN now) 0 (now (396 + 8 * k + 0)) (m_num now sz (now (396 + 8 * k + 0))) (m_sum now sz (now (396 + 8 * k + 0)))
def m_takes (now : Nat → Int32) (k : Nat) : Nat → Int32 :=
  if ¬ now (396 + 8 * k + 5) = 1 then now
  else m_says (upd (upd (upd now (396 + 8 * k + 5) 0) (396 + 8 * k + 4) (now (396 + 8 * k + 4) + 1)) 4 (now 4 + 1)) (wN now) 1 (now (396 + 8 * k + 0)) (now (396 + 8 * k + 6)) (now (396 + 8 * k + 7))
theorem m_acc_cong {now now' : Nat → Int32} {sz : Nat} {q : Int32} (h : ∀ i, 12 ≤ i → i < 396 → now' i = now i) : ∀ k, k ≤ 64 → m_acc now' sz q k = m_acc now sz q k
  | 0, _ => rfl
  | k + 1, hk => by
    have hc : m_cts now' k = m_cts now k := by
      simp only [m_cts]
      rw [h _ (by omega) (by omega), h _ (by omega) (by omega)]
    rw [m_acc, m_acc, m_acc_cong h k (by omega), hc, h _ (by omega) (by omega), h _ (by omega) (by omega), h _ (by omega) (by omega)]
theorem m_sum_cong {now now' : Nat → Int32} {sz : Nat} {q : Int32} (h : ∀ i, 12 ≤ i → i < 396 → now' i = now i) : m_sum now' sz q = m_sum now sz q := by rw [m_sum, m_sum, m_acc_cong h 64 (Nat.le_refl _)]
theorem wN_le {now : Nat → Int32} {so pa ma su : Int32} {w : Nat} (hw : w ≤ 40) : m_says now w so pa ma su 9 = nI (wN (m_says now w so pa ma su)) ∧ wN (m_says now w so pa ma su) ≤ 40 := by
  rw [wN, m_says_9]
  split
  · rw [nI_clamp (by omega)]; exact ⟨rfl, by omega⟩
  · exact ⟨by decide, by decide⟩
/-- the words' number stays in its bounds -/
def wOk (now : Nat → Int32) : Prop := now 9 = nI (wN now) ∧ wN now ≤ 40
theorem wOk_upd {now : Nat → Int32} {i : Nat} {x : Int32} (h : wOk now) (hi : i ≠ 9) : wOk (upd now i x) := by
  have e : upd now i x 9 = now 9 := pk_un (Ne.symm hi)
  rw [wOk, wN, e]; exact h
theorem wOk_says {now : Nat → Int32} {so pa ma su : Int32} {w : Nat} (hw : w ≤ 40) : wOk (m_says now w so pa ma su) := wN_le hw
theorem wOk_tells {now : Nat → Int32} {k sz : Nat} (h : wOk now) : wOk (m_tells now k sz) := by
  rw [m_tells]; split
  · exact h
  · exact wOk_says h.2
theorem wOk_takes {now : Nat → Int32} {k : Nat} (h : wOk now) : wOk (m_takes now k) := by
  rw [m_takes]; split
  · exact h
  · exact wOk_says h.2
theorem m_tells_o {now : Nat → Int32} {k sz i : Nat} (h : wOk now) (hi : i < 908 ∨ 1068 ≤ i) (h9 : i ≠ 9) (h3 : i ≠ 3) (hb : i ≠ 396 + 8 * k + 3 ∧ i ≠ 396 + 8 * k + 5 ∧ i ≠ 396 + 8 * k + 6 ∧ i ≠ 396 + 8 * k + 7) : m_tells now k sz i = now i := by
  rw [m_tells]; split
  · rfl
  · rw [m_says_o h.2 ⟨h9, hi⟩, pk_un h3, pk_un hb.1, pk_un hb.2.2.2, pk_un hb.2.2.1, pk_un hb.2.1]
theorem m_takes_o {now : Nat → Int32} {k i : Nat} (h : wOk now) (hi : i < 908 ∨ 1068 ≤ i) (h9 : i ≠ 9) (h4 : i ≠ 4) (hb : i ≠ 396 + 8 * k + 4 ∧ i ≠ 396 + 8 * k + 5) : m_takes now k i = now i := by
  rw [m_takes]; split
  · rfl
  · rw [m_says_o h.2 ⟨h9, hi⟩, pk_un h4, pk_un hb.1, pk_un hb.2]
def m_nb (now : Nat → Int32) (ab : Int32) : Nat → Option Nat
  | 0 => none
  | k + 1 => if now (396 + 8 * k + 0) ≤ ab then m_nb now ab k else match m_nb now ab k with
    | none => some k
    | some b => if now (396 + 8 * b + 0) ≤ now (396 + 8 * k + 0) then some b else some k
theorem m_nb_none {now : Nat → Int32} {ab : Int32} : ∀ {k : Nat}, (∀ j, j < k → now (396 + 8 * j + 0) ≤ ab) → m_nb now ab k = none
  | 0, _ => rfl
  | k + 1, h => by rw [m_nb, if_pos (h k (by omega))]; exact m_nb_none (fun j hj => h j (by omega))
noncomputable def m_rstep (bef to : Int32) (sz : Nat) (now : Nat → Int32) (k : Nat) : Nat → Int32 :=
  if now (396 + 8 * k + 1) = 0 ∧ ¬ (now (396 + 8 * k + 0) + 1) * nI sz ≤ bef ∧ ¬ to < (now (396 + 8 * k + 0) + 1) * nI sz then m_tells now k sz
  else if now (396 + 8 * k + 1) = 1 ∧ ¬ to < now (396 + 8 * k + 2) then m_tells (upd now (396 + 8 * k + 1) 2) k sz
  else now
noncomputable def m_rL (bef to : Int32) (np sz : Nat) : Nat → (Nat → Int32) → Int32 → Nat → Int32
  | 0, now, _ => now
  | n + 1, now, ab => match m_nb now ab np with
    | none => now
    | some k => m_rL bef to np sz n (m_rstep bef to sz now k) (now (396 + 8 * k + 0))
noncomputable def m_rises (now : Nat → Int32) (to : Int32) (np sz : Nat) : Nat → Int32 := m_rL (now 0) to np sz 2000 (upd now 0 to) (-1)
/-- the numbers of the kept panes -/
def nOk (now : Nat → Int32) (np : Nat) : Prop := ∀ k, k < np → ∃ q : Nat, q < 2000 ∧ now (396 + 8 * k + 0) = nI q
theorem m_rstep_o {bef to : Int32} {sz k i : Nat} {now : Nat → Int32} (h : wOk now) (hi : i < 908 ∨ 1068 ≤ i) (h9 : i ≠ 9) (h3 : i ≠ 3) (hb : i ≠ 396 + 8 * k + 1 ∧ i ≠ 396 + 8 * k + 3 ∧ i ≠ 396 + 8 * k + 5 ∧ i ≠ 396 + 8 * k + 6 ∧ i ≠ 396 + 8 * k + 7) : m_rstep bef to sz now k i = now i := by
  rw [m_rstep]; split
  · exact m_tells_o h hi h9 h3 hb.2
  · split
    · rw [m_tells_o (wOk_upd h (by omega)) hi h9 h3 hb.2, pk_un hb.1]
    · rfl
theorem wOk_rstep {bef to : Int32} {sz k : Nat} {now : Nat → Int32} (h : wOk now) : wOk (m_rstep bef to sz now k) := by
  rw [m_rstep]; split
  · exact wOk_tells h
  · split
    · exact wOk_tells (wOk_upd h (by omega))
    · exact h
theorem nOk_rstep {bef to : Int32} {sz k np : Nat} {now : Nat → Int32} (h : wOk now) (hk : k < 64) (hn : np ≤ 64) (h2 : nOk now np) : nOk (m_rstep bef to sz now k) np := by
  intro j hj
  rw [m_rstep_o h (by omega) (by omega) (by omega) (by omega)]
  exact h2 j hj
/-- the walk over the kept panes ends -/
theorem m_fuel0 {now : Nat → Int32} {ab : Int32} {np : Nat} (h : nOk now np) (ha : 1999 ≤ ab.toInt) : m_nb now ab np = none := by
  refine m_nb_none (fun j hj => ?_)
  obtain ⟨q, h1, h2⟩ := h j hj
  rw [h2, Int32.le_iff_toInt_le, nI_toInt (by omega)]
  omega
def m_ill (now : Nat → Int32) (key : Int32) : Nat → Int32
  | 0 => 0
  | k + 1 => if ¬ m_ill now key k = 0 then 1 else if ¬ now (12 + 6 * k + 0) = 1 then 0 else if ¬ now (12 + 6 * k + 2) = key then 0 else if ¬ now (12 + 6 * k + 4) = 2 then 0 else if ¬ now (12 + 6 * k + 5) = 1 then 0 else 1
def m_exc (now : Nat → Int32) (t : Nat) (key x : Int32) (sz : Nat) : Int32 :=
  if x = 1 then (if 10 < now 0 - nI ((t / sz + 1) * sz) + 1 then 0 else 1)
  else if x = 2 then (if 40 < now 0 - nI ((t / sz + 1) * sz) + 1 then 0 else if ¬ m_ill now key 64 = 0 then 0 else 1)
  else if x = 3 then (if nI (t % 7) < 5 then 0 else 1) else 0
theorem m_exc_d {now : Nat → Int32} {t : Nat} {key x : Int32} {sz : Nat} (h : x < 1 ∨ 3 < x) : m_exc now t key x sz = 0 := by
  rw [m_exc, if_neg, if_neg, if_neg] <;> (intro e; subst e; revert h; decide)
theorem m_exc_0 (now : Nat → Int32) (t : Nat) (key : Int32) (sz : Nat) : m_exc now t key (nI 0) sz = 0 := m_exc_d (Or.inl (by decide))
def m_pinN (now : Nat → Int32) (cab : Nat) : Nat := if now (1068 + 4 * cab + 0) = 0 then 1068 + 4 * cab + 0 else if now (1068 + 4 * cab + 1) = 0 then 1068 + 4 * cab + 1 else if now (1068 + 4 * cab + 2) = 0 then 1068 + 4 * cab + 2 else if now (1068 + 4 * cab + 3) = 0 then 1068 + 4 * cab + 3 else 0
def m_pI (n : Nat) : Int32 := if n = 0 then -1 else nI n
theorem m_pinN_lt (now : Nat → Int32) {cab : Nat} (h : cab < 3) : m_pinN now cab = 0 ∨ (1068 ≤ m_pinN now cab ∧ m_pinN now cab < 1080) := by
  rw [m_pinN]
  repeat' split
  all_goals omega
def m_pfN (now : Nat → Int32) (x : Nat) : Nat := if x < 3 ∧ ¬ m_pinN now (x - 1) = 0 then m_pinN now (x - 1) else m_pinN now 2
theorem m_pfN_lt (now : Nat → Int32) {x : Nat} (h : 1 ≤ x) : m_pfN now x = 0 ∨ (1068 ≤ m_pfN now x ∧ m_pfN now x < 1080) := by
  rw [m_pfN]
  split
  · exact m_pinN_lt now (by omega)
  · exact m_pinN_lt now (by omega)
def m_judge (now : Nat → Int32) (t : Nat) (key : Int32) (x np sz : Nat) : Int32 :=
  if m_mode now (nI (t / sz)) np = 2 then 3 else if m_shut now (t / sz) np sz = 0 then 0 else if m_exc now t key (nI x) sz = 0 then 2 else if m_pI (m_pfN now x) < 0 then 2 else 1
/-- a pane is reopened by the event i, whose excuse comes to the place pf -/
def m_reop (now : Nat → Int32) (k i pf : Nat) (v : Int32) : Nat → Int32 := upd (upd (m_takes (upd now pf (nI (i + 1))) k) (396 + 8 * k + 1) 1) (396 + 8 * k + 2) v
def m_put (now : Nat → Int32) (i : Nat) (t key am x res : Int32) : Nat → Int32 := upd (upd (upd (upd (upd (upd now (12 + 6 * i + 0) 1) (12 + 6 * i + 1) t) (12 + 6 * i + 2) key) (12 + 6 * i + 3) am) (12 + 6 * i + 4) x) (12 + 6 * i + 5) res
noncomputable def m_late (now : Nat → Int32) (t np sz : Nat) : Nat → Int32 := if nI t ≤ now 1 then now else if nI t - now 7 ≤ now 0 then upd now 1 (nI t) else m_rises (upd now 1 (nI t)) (nI t - now 7) np sz
def m_k2 (now : Nat → Int32) (q : Int32) (np : Nat) : Nat := if m_fk now q np < np then m_fk now q np else np
def m_n2 (now : Nat → Int32) (q : Int32) (np : Nat) : Nat → Int32 := if m_fk now q np < np then now else m_keep now q np
def m_p2 (now : Nat → Int32) (q : Int32) (np : Nat) : Nat := if m_fk now q np < np then np else np + 1
def m_n3 (now : Nat → Int32) (i x t np sz : Nat) (res : Int32) : Nat → Int32 := if res = 1 then m_reop (m_n2 now (nI (t / sz)) np) (m_k2 now (nI (t / sz)) np) i (m_pfN (m_n2 now (nI (t / sz)) np) x) (now 0 + now 8 + 1) else m_n2 now (nI (t / sz)) np
noncomputable def m_come1 (now : Nat → Int32) (i t : Nat) (key am : Int32) (x np sz : Nat) : Int32 × (Nat → Int32) :=
  (m_judge now t key x np sz, m_late (m_put (m_n3 now i x t np sz (m_judge now t key x np sz)) i (nI t) key am (nI x) (m_judge now t key x np sz)) t (m_p2 now (nI (t / sz)) np) sz)
noncomputable def m_come (now : Nat → Int32) (i t : Nat) (key am : Int32) (x np sz : Nat) : Int32 × (Nat → Int32) :=
  if now (12 + 6 * i + 0) = 1 then (4, upd (upd now 11 1) 5 (now 5 + 1)) else m_come1 (upd now 11 1) i t key am x np sz
theorem m_keep_o {now : Nat → Int32} {q : Int32} {np i : Nat} (h : i ≠ 10) (hb : i < 396 + 8 * np ∨ 404 + 8 * np ≤ i) : m_keep now q np i = now i := by
  rw [m_keep]
  repeat rw [pk_un (by omega)]
theorem m_keep_10 (now : Nat → Int32) (q : Int32) (np : Nat) : m_keep now q np 10 = nI (np + 1) := by
  rw [m_keep]
  repeat rw [pk_un (by omega)]
  exact pk_us
theorem nOk_keep {now : Nat → Int32} {q : Nat} {np : Nat} (hq : q < 2000) (h : nOk now np) : nOk (m_keep now (nI q) np) (np + 1) := by
  intro j hj
  by_cases hj2 : j = np
  · subst hj2
    exact ⟨q, hq, by rw [m_keep]; exact pk_us⟩
  · rw [m_keep_o (by omega) (by omega)]
    exact h j (by omega)
theorem m_reop_o {now : Nat → Int32} {k i pf j : Nat} {v : Int32} (h : wOk now) (hp : 1068 ≤ pf) (hi : j < 908) (h9 : j ≠ 9) (h4 : j ≠ 4) (hb : j ≠ 396 + 8 * k + 1 ∧ j ≠ 396 + 8 * k + 2 ∧ j ≠ 396 + 8 * k + 4 ∧ j ≠ 396 + 8 * k + 5) : m_reop now k i pf v j = now j := by
  rw [m_reop, pk_un hb.2.1, pk_un hb.1, m_takes_o (wOk_upd h (by omega)) (Or.inl hi) h9 h4 ⟨hb.2.2.1, hb.2.2.2⟩, pk_un (by omega)]
theorem m_put_o {now : Nat → Int32} {i j : Nat} {t key am x res : Int32} (h : j < 12 + 6 * i ∨ 18 + 6 * i ≤ j) : m_put now i t key am x res j = now j := by
  rw [m_put]
  repeat rw [pk_un (by omega)]
theorem nOk_upd {now : Nat → Int32} {i np : Nat} {x : Int32} (hi : i < 396) (h2 : nOk now np) : nOk (upd now i x) np := by
  intro j hj
  rw [pk_un (by omega)]
  exact h2 j hj
theorem m_pinN_cong {now now' : Nat → Int32} (h : ∀ i, 1068 ≤ i → i < 1080 → now' i = now i) {cab : Nat} (hc : cab < 3) : m_pinN now' cab = m_pinN now cab := by
  rw [m_pinN, m_pinN, h _ (by omega) (by omega), h _ (by omega) (by omega), h _ (by omega) (by omega), h _ (by omega) (by omega)]
theorem m_pfN_cong {now now' : Nat → Int32} (h : ∀ i, 1068 ≤ i → i < 1080 → now' i = now i) {x : Nat} (hx : 1 ≤ x) : m_pfN now' x = m_pfN now x := by
  rw [m_pfN, m_pfN, m_pinN_cong h (cab := 2) (by omega)]
  by_cases h3 : x < 3
  · rw [m_pinN_cong h (cab := x - 1) (by omega)]
  · rw [if_neg (fun q => h3 q.1), if_neg (fun q => h3 q.1)]
theorem m_judge_one {now : Nat → Int32} {t : Nat} {key : Int32} {x np sz : Nat} (h : m_judge now t key x np sz = 1) : 1 ≤ x ∧ ¬ m_pfN now x = 0 := by
  rw [m_judge] at h
  split at h
  · exact absurd h (by decide)
  · split at h
    · exact absurd h (by decide)
    · split at h
      · exact absurd h (by decide)
      · rename_i h3
        split at h
        · exact absurd h (by decide)
        · rename_i h4
          refine ⟨Nat.pos_of_ne_zero (fun e => h3 (by rw [e]; exact m_exc_0 _ _ _ _)), fun e => h4 ?_⟩
          rw [e]; decide
theorem m_judge_x1 {now : Nat → Int32} {t : Nat} {key : Int32} {x np sz : Nat} (h : m_judge now t key x np sz = 1) : 1 ≤ x := (m_judge_one h).1
theorem m_judge_pf {now : Nat → Int32} {t : Nat} {key : Int32} {x np sz : Nat} (h : m_judge now t key x np sz = 1) : ¬ m_pfN now x = 0 := (m_judge_one h).2
