/-! panes by their numbers: the class -/
theorem p_rkL_spec (pn : Nat → Int32) (q : Int32) : ∀ n k, k ≤ p_rkL pn q n k ∧ p_rkL pn q n k ≤ k + n ∧ (∀ j, k ≤ j → j < p_rkL pn q n k → ¬ pn (j * 8 + 7) = q) ∧ (p_rkL pn q n k < k + n → pn (p_rkL pn q n k * 8 + 7) = q)
  | 0, k => by
    rw [p_rkL]
    exact ⟨Nat.le_refl _, Nat.le_refl _, fun j h1 h2 => absurd h2 (by omega), fun h => absurd h (by omega)⟩
  | n + 1, k => by
    rw [p_rkL]
    split
    · rename_i h
      exact ⟨Nat.le_refl _, by omega, fun j h1 h2 => absurd h2 (by omega), fun _ => h⟩
    · rename_i h
      obtain ⟨a, b, c, d⟩ := p_rkL_spec pn q n (k + 1)
      refine ⟨by omega, by omega, fun j h1 h2 => ?_, fun h2 => d (by omega)⟩
      by_cases hj : j = k
      · rw [hj]; exact h
      · exact c j (by omega) h2
theorem p_rk_no {pn : Nat → Int32} {q : Int32} {u j : Nat} (h : j < p_rk pn q u) : ¬ pn (j * 8 + 7) = q := (p_rkL_spec pn q u 0).2.2.1 j (by omega) h
theorem p_rk_at {pn : Nat → Int32} {q : Int32} {u : Nat} (h : p_rk pn q u < u) : pn (p_rk pn q u * 8 + 7) = q := (p_rkL_spec pn q u 0).2.2.2 (by rw [p_rk] at h; omega)
theorem p_rk_ex {pn : Nat → Int32} {q : Int32} {u k : Nat} (hk : k < u) (h : pn (k * 8 + 7) = q) : p_rk pn q u ≤ k := Nat.le_of_not_lt (fun h2 => p_rk_no h2 h)
theorem p_rkL_cong {pn pn' : Nat → Int32} {q : Int32} : ∀ {n k : Nat}, (∀ j, k ≤ j → j < k + n → pn' (j * 8 + 7) = pn (j * 8 + 7)) → p_rkL pn' q n k = p_rkL pn q n k
  | 0, k, _ => rfl
  | n + 1, k, h => by
    rw [p_rkL, p_rkL, h k (Nat.le_refl _) (by omega), p_rkL_cong (fun j h1 h2 => h j (by omega) (by omega))]
theorem p_rk_cong {pn pn' : Nat → Int32} {q : Int32} {u : Nat} (h : ∀ j, j < u → pn' (j * 8 + 7) = pn (j * 8 + 7)) : p_rk pn' q u = p_rk pn q u := p_rkL_cong (fun j _ h2 => h j (by omega))
/-- the rows go up by their numbers -/
def sOk (pn : Nat → Int32) (u : Nat) : Prop := (∀ r, r < u → ∃ q : Nat, q < 2000 ∧ pn (r * 8 + 7) = nI q) ∧ ∀ r s, r < s → s < u → pn (r * 8 + 7) < pn (s * 8 + 7)
theorem i_lt_irrefl {a : Int32} (h : a < a) : False := by rw [Int32.lt_iff_toInt_lt] at h; omega
theorem i_lt_trans {a b c : Int32} (h : a < b) (h2 : b < c) : a < c := by rw [Int32.lt_iff_toInt_lt] at *; omega
theorem i_lt_or {a b : Int32} : a < b ∨ a = b ∨ b < a := by
  rw [Int32.lt_iff_toInt_lt, Int32.lt_iff_toInt_lt, ← Int32.toInt_inj]; omega
theorem sOk_inj {pn : Nat → Int32} {u r s : Nat} (h : sOk pn u) (hr : r < u) (hs : s < u) (e : pn (r * 8 + 7) = pn (s * 8 + 7)) : r = s := by
  rcases Nat.lt_trichotomy r s with h1 | h1 | h1
  · exact (i_lt_irrefl (e ▸ h.2 r s h1 hs)).elim
  · exact h1
  · exact (i_lt_irrefl (e ▸ h.2 s r h1 hr)).elim
theorem p_rk_eq {pn : Nat → Int32} {q : Int32} {u r : Nat} (h : sOk pn u) (hr : r < u) (e : pn (r * 8 + 7) = q) : p_rk pn q u = r := by
  have h1 := p_rk_ex hr e
  exact sOk_inj h (by omega) hr ((p_rk_at (by omega)).trans e.symm)
def v_c (pn : Nat → Int32) (u q c : Nat) : Int32 := if p_rk pn (nI q) u < u then pn (p_rk pn (nI q) u * 8 + c) else 0
def v_ce (pn : Nat → Int32) (u q : Nat) : Prop := p_rk pn (nI q) u < u
theorem v_c_rd (pn : Nat → Int32) (u q c : Nat) : p_rd pn (nI q) u c = v_c pn u q c := rfl
theorem v_c_in {pn : Nat → Int32} {u q c : Nat} (h : v_ce pn u q) : v_c pn u q c = pn (p_rk pn (nI q) u * 8 + c) := if_pos h
theorem v_c_out {pn : Nat → Int32} {u q c : Nat} (h : ¬ v_ce pn u q) : v_c pn u q c = 0 := if_neg h
theorem v_c_upd {pn : Nat → Int32} {u q c : Nat} {x : Int32} (he : v_ce pn u q) (hq : q < 2000) (hc : c < 7) {q' c' : Nat} (hq' : q' < 2000) (hc' : c' < 8) :
    v_c (upd pn (p_rk pn (nI q) u * 8 + c) x) u q' c' = if q' = q ∧ c' = c then x else v_c pn u q' c' := by
  have e : p_rk (upd pn (p_rk pn (nI q) u * 8 + c) x) (nI q') u = p_rk pn (nI q') u := p_rk_cong (fun j hj => pk_un (by omega))
  rw [v_c, v_c, e]
  by_cases h1 : p_rk pn (nI q') u < u
  · rw [if_pos h1, if_pos h1]
    by_cases h2 : q' = q ∧ c' = c
    · rw [if_pos h2, h2.1, h2.2]; exact pk_us
    · rw [if_neg h2]
      refine pk_un (fun h3 => h2 ?_)
      have h4 : p_rk pn (nI q') u = p_rk pn (nI q) u := by omega
      refine ⟨k_nIinj hq' hq ?_, by omega⟩
      rw [← p_rk_at h1, ← p_rk_at he, h4]
  · rw [if_neg h1, if_neg h1, if_neg]
    intro h2
    rw [h2.1] at h1
    exact h1 he
theorem p_rk_upd {pn : Nat → Int32} {u r c : Nat} {x : Int32} (hc : c < 7) (q : Int32) : p_rk (upd pn (r * 8 + c) x) q u = p_rk pn q u := p_rk_cong (fun j hj => pk_un (by omega))
theorem v_ce_upd {pn : Nat → Int32} {u r c : Nat} {x : Int32} (hc : c < 7) (q : Nat) : v_ce (upd pn (r * 8 + c) x) u q ↔ v_ce pn u q := by rw [v_ce, v_ce, p_rk_upd hc]
theorem sOk_upd {pn : Nat → Int32} {u r c : Nat} {x : Int32} (hc : c < 7) (h : sOk pn u) : sOk (upd pn (r * 8 + c) x) u := by
  refine ⟨fun s hs => ?_, fun s t h1 h2 => ?_⟩
  · rw [pk_un (by omega)]; exact h.1 s hs
  · rw [pk_un (by omega), pk_un (by omega)]; exact h.2 s t h1 h2
/-! a row comes among the rows -/
theorem p_rbL_spec (pn : Nat → Int32) (q : Int32) : ∀ n k, k ≤ p_rbL pn q n k ∧ p_rbL pn q n k ≤ k + n ∧ (∀ j, k ≤ j → j < p_rbL pn q n k → ¬ q < pn (j * 8 + 7)) ∧ (p_rbL pn q n k < k + n → q < pn (p_rbL pn q n k * 8 + 7))
  | 0, k => by
    rw [p_rbL]
    exact ⟨Nat.le_refl _, Nat.le_refl _, fun j h1 h2 => absurd h2 (by omega), fun h => absurd h (by omega)⟩
  | n + 1, k => by
    rw [p_rbL]
    split
    · rename_i h
      exact ⟨Nat.le_refl _, by omega, fun j h1 h2 => absurd h2 (by omega), fun _ => h⟩
    · rename_i h
      obtain ⟨a, b, c, d⟩ := p_rbL_spec pn q n (k + 1)
      refine ⟨by omega, by omega, fun j h1 h2 => ?_, fun h2 => d (by omega)⟩
      by_cases hj : j = k
      · rw [hj]; exact h
      · exact c j (by omega) h2
theorem p_rb_lo {pn : Nat → Int32} {q : Int32} {u j : Nat} (h : j < p_rb pn q u) : ¬ q < pn (j * 8 + 7) := (p_rbL_spec pn q u 0).2.2.1 j (by omega) h
theorem p_rb_at {pn : Nat → Int32} {q : Int32} {u : Nat} (h : p_rb pn q u < u) : q < pn (p_rb pn q u * 8 + 7) := (p_rbL_spec pn q u 0).2.2.2 (by rw [p_rb] at h; omega)
theorem p_rb_hi {pn : Nat → Int32} {q : Int32} {u j : Nat} (hs : sOk pn u) (h : p_rb pn q u ≤ j) (hj : j < u) : q < pn (j * 8 + 7) := by
  have h1 := p_rb_at (pn := pn) (q := q) (u := u) (by omega)
  by_cases e : p_rb pn q u = j
  · rw [← e]; exact h1
  · exact i_lt_trans h1 (hs.2 _ j (by omega) hj)
theorem p_open_at {pn : Nat → Int32} {r k c : Nat} (hr : r < 64) (hk : k < 64) (hc : c < 8) : p_open pn r (k * 8 + c) = if k < r then pn (k * 8 + c) else if k = r then 0 else pn ((k - 1) * 8 + c) := by
  rw [p_open]
  by_cases h1 : k = r
  · subst h1
    rw [if_neg (by omega), if_pos rfl]
    rcases (show c = 0 ∨ c = 1 ∨ c = 2 ∨ c = 3 ∨ c = 4 ∨ c = 5 ∨ c = 6 ∨ c = 7 by omega) with rfl | rfl | rfl | rfl | rfl | rfl | rfl | rfl <;>
      simp [upd]
  · rw [pk_un (by omega), pk_un (by omega), pk_un (by omega), pk_un (by omega), pk_un (by omega), pk_un (by omega), pk_un (by omega), pk_un (by omega), va_cpy]
    by_cases h2 : k < r
    · rw [if_neg (by omega), if_pos h2]
    · rw [if_pos (by omega), if_neg h2, if_neg h1, show r * 8 + (k * 8 + c - (r * 8 + 8)) = (k - 1) * 8 + c by omega]
theorem p_mp_new {pn : Nat → Int32} {q : Int32} {u k c : Nat} (hn : ¬ p_rk pn q u < u) (hu : u < 64) (hk : k < 64) (hc : c < 8) :
    p_mp pn q u (k * 8 + c) = if k < p_rb pn q u then pn (k * 8 + c) else if k = p_rb pn q u then (if c = 7 then q else 0) else pn ((k - 1) * 8 + c) := by
  have hb := p_rb_le pn q u
  rw [p_mp, if_neg hn]
  by_cases h1 : k = p_rb pn q u
  · rw [h1, if_neg (Nat.lt_irrefl _), if_pos rfl]
    by_cases h2 : c = 7
    · rw [if_pos h2, h2]; exact pk_us
    · rw [if_neg h2, pk_un (by omega), p_open_at (by omega) (by omega) hc, if_neg (Nat.lt_irrefl _), if_pos rfl]
  · rw [pk_un (by omega), p_open_at (by omega) hk hc]
    by_cases h3 : k < p_rb pn q u
    · rw [if_pos h3, if_pos h3]
    · rw [if_neg h3, if_neg h3, if_neg h1, if_neg h1]
/-- where a row is behind -/
def p_sh (pn : Nat → Int32) (q : Int32) (u r : Nat) : Nat := if r < p_rb pn q u then r else r + 1
theorem p_sh_at {pn : Nat → Int32} {q : Int32} {u r c : Nat} (hn : ¬ p_rk pn q u < u) (hu : u < 64) (hr : r < u) (hc : c < 8) : p_mp pn q u (p_sh pn q u r * 8 + c) = pn (r * 8 + c) := by
  rw [p_sh]
  split
  · rename_i h
    rw [p_mp_new hn hu (by omega) hc, if_pos h]
  · rename_i h
    rw [p_mp_new hn hu (by omega) hc, if_neg (by omega), if_neg (by omega), Nat.add_sub_cancel]
theorem sOk_mp {pn : Nat → Int32} {q : Nat} {u : Nat} (hn : ¬ p_rk pn (nI q) u < u) (hu : u < 64) (hq : q < 2000) (hs : sOk pn u) : sOk (p_mp pn (nI q) u) (u + 1) := by
  have hb := p_rb_le pn (nI q) u
  have hne : ∀ r, r < u → ¬ pn (r * 8 + 7) = nI q := fun r hr e => hn (Nat.lt_of_le_of_lt (p_rk_ex hr e) hr)
  have cell : ∀ k, k < u + 1 → p_mp pn (nI q) u (k * 8 + 7) = if k < p_rb pn (nI q) u then pn (k * 8 + 7) else if k = p_rb pn (nI q) u then nI q else pn ((k - 1) * 8 + 7) := fun k hk => by
    rw [p_mp_new hn hu (by omega) (by omega)]; rfl
  refine ⟨fun r hr => ?_, fun r s h1 h2 => ?_⟩
  · rw [cell r hr]
    split
    · exact hs.1 r (by omega)
    · split
      · exact ⟨q, hq, rfl⟩
      · exact hs.1 (r - 1) (by omega)
  · rw [cell r (by omega), cell s h2]
    by_cases a1 : s < p_rb pn (nI q) u
    · rw [if_pos a1, if_pos (by omega)]; exact hs.2 r s h1 (by omega)
    · rw [if_neg a1]
      by_cases a2 : s = p_rb pn (nI q) u
      · rw [if_pos a2, if_pos (by omega)]
        have h3 := p_rb_lo (pn := pn) (q := nI q) (u := u) (j := r) (by omega)
        rcases i_lt_or (a := pn (r * 8 + 7)) (b := nI q) with h | h | h
        · exact h
        · exact absurd h (hne r (by omega))
        · exact absurd h h3
      · rw [if_neg a2]
        by_cases a3 : r < p_rb pn (nI q) u
        · rw [if_pos a3]; exact hs.2 r (s - 1) (by omega) (by omega)
        · rw [if_neg a3]
          by_cases a4 : r = p_rb pn (nI q) u
          · rw [if_pos a4]; exact p_rb_hi hs (by omega) (by omega)
          · rw [if_neg a4]; exact hs.2 (r - 1) (s - 1) (by omega) (by omega)
theorem v_ce_mp {pn : Nat → Int32} {q u : Nat} (hs : sOk pn u) (hc : ¬ v_ce pn u q → u < 64) (hq : q < 2000) {q' : Nat} (hq' : q' < 2000) : v_ce (p_mp pn (nI q) u) (p_mu pn (nI q) u) q' ↔ (v_ce pn u q' ∨ q' = q) := by
  by_cases hn : p_rk pn (nI q) u < u
  · rw [p_mp, p_mu, if_pos hn, if_pos hn]
    exact ⟨Or.inl, fun h => h.elim id (fun e => e ▸ hn)⟩
  · have hu := hc hn
    have hs' := sOk_mp hn hu hq hs
    rw [p_mu, if_neg hn]
    have hb := p_rb_le pn (nI q) u
    constructor
    · intro h
      have h1 := p_rk_at h
      have h0 : p_rk (p_mp pn (nI q) u) (nI q') (u + 1) < u + 1 := h
      generalize p_rk (p_mp pn (nI q) u) (nI q') (u + 1) = k at h1 h0
      rw [p_mp_new hn hu (by omega) (by omega)] at h1
      by_cases a1 : k < p_rb pn (nI q) u
      · rw [if_pos a1] at h1
        exact Or.inl (Nat.lt_of_le_of_lt (p_rk_ex (by omega) h1) (by omega))
      · rw [if_neg a1] at h1
        by_cases a2 : k = p_rb pn (nI q) u
        · rw [if_pos a2, if_pos rfl] at h1
          exact Or.inr (k_nIinj hq' hq h1.symm)
        · rw [if_neg a2] at h1
          exact Or.inl (Nat.lt_of_le_of_lt (p_rk_ex (k := k - 1) (by omega) h1) (by omega))
    · rintro (h | h)
      · have h1 := p_rk_at h
        have h2 := p_sh_at (c := 7) hn hu h (by omega)
        have h3 : p_sh pn (nI q) u (p_rk pn (nI q') u) < u + 1 := by
          have h0 : p_rk pn (nI q') u < u := h
          rw [p_sh]; split <;> omega
        exact Nat.lt_of_le_of_lt (p_rk_ex h3 (h2.trans h1)) h3
      · have h2 : p_mp pn (nI q) u (p_rb pn (nI q) u * 8 + 7) = nI q' := by
          rw [p_mp_new hn hu (by omega) (by omega), if_neg (Nat.lt_irrefl _), if_pos rfl, if_pos rfl, h]
        exact Nat.lt_of_le_of_lt (p_rk_ex (k := p_rb pn (nI q) u) (by omega) h2) (by omega)
theorem v_c_mp {pn : Nat → Int32} {q u : Nat} (hs : sOk pn u) (hc : ¬ v_ce pn u q → u < 64) (hq : q < 2000) {q' c : Nat} (hq' : q' < 2000) (hc7 : c < 7) : v_c (p_mp pn (nI q) u) (p_mu pn (nI q) u) q' c = v_c pn u q' c := by
  by_cases hn : p_rk pn (nI q) u < u
  · rw [p_mp, p_mu, if_pos hn, if_pos hn]
  · have hu := hc hn
    have hs' := sOk_mp hn hu hq hs
    have hb := p_rb_le pn (nI q) u
    by_cases h : v_ce pn u q'
    · have h' := (v_ce_mp hs hc hq hq').mpr (Or.inl h)
      rw [v_c_in h, v_c_in h']
      rw [p_mu, if_neg hn]
      have h0 : p_rk pn (nI q') u < u := h
      have h3 : p_sh pn (nI q) u (p_rk pn (nI q') u) < u + 1 := by rw [p_sh]; split <;> omega
      rw [p_rk_eq hs' h3 ((p_sh_at hn hu h0 (by omega)).trans (p_rk_at h0))]
      exact p_sh_at hn hu h0 (by omega)
    · rw [v_c_out h]
      by_cases e : q' = q
      · have h' := (v_ce_mp hs hc hq hq').mpr (Or.inr e)
        rw [v_c_in h', p_mu, if_neg hn]
        have h2 : p_mp pn (nI q) u (p_rb pn (nI q) u * 8 + 7) = nI q' := by
          rw [p_mp_new hn hu (by omega) (by omega), if_neg (Nat.lt_irrefl _), if_pos rfl, if_pos rfl, e]
        rw [p_rk_eq hs' (r := p_rb pn (nI q) u) (by omega) h2, p_mp_new hn hu (by omega) (by omega), if_neg (Nat.lt_irrefl _), if_pos rfl, if_neg (by omega)]
      · exact v_c_out (fun h' => ((v_ce_mp hs hc hq hq').mp h').elim h e)
theorem sOk_mp2 {pn : Nat → Int32} {q u : Nat} (hs : sOk pn u) (hc : ¬ v_ce pn u q → u < 64) (hq : q < 2000) : sOk (p_mp pn (nI q) u) (p_mu pn (nI q) u) := by
  by_cases hn : p_rk pn (nI q) u < u
  · rw [p_mp, p_mu, if_pos hn, if_pos hn]; exact hs
  · rw [p_mu, if_neg hn]; exact sOk_mp hn (hc hn) hq hs
/-- the row that is made for a pane is where it is found then -/
theorem p_mr_rk {pn : Nat → Int32} {q u : Nat} (hs : sOk pn u) (hc : ¬ v_ce pn u q → u < 64) (hq : q < 2000) : p_rk (p_mp pn (nI q) u) (nI q) (p_mu pn (nI q) u) = p_mr pn (nI q) u := by
  by_cases hn : p_rk pn (nI q) u < u
  · rw [p_mp, p_mu, p_mr, if_pos hn, if_pos hn, if_pos hn]
  · have hu := hc hn
    have hb := p_rb_le pn (nI q) u
    have hs' := sOk_mp hn hu hq hs
    rw [p_mu, p_mr, if_neg hn, if_neg hn]
    refine p_rk_eq hs' (by omega) ?_
    rw [p_mp_new hn hu (by omega) (by omega), if_neg (Nat.lt_irrefl _), if_pos rfl, if_pos rfl]
