/-! faults and playing, on both sides -/
theorem X_nat (sg : Nat → Int32) (L a : Nat) : ∃ x : Nat, x ≤ 3 ∧ x_X sg L a = nI x := by
  rw [x_X_eq]
  repeat' split
  · exact ⟨1, by omega, rfl⟩
  · exact ⟨2, by omega, rfl⟩
  · exact ⟨3, by omega, rfl⟩
  · exact ⟨0, by omega, rfl⟩
theorem ex_nat (sg : Nat → Int32) (L a : Nat) : ∃ x : Nat, x ≤ 3 ∧ x_ex sg L a = nI x := by rw [x_ex_eq]; exact X_nat _ _ _
theorem isEv_rel {i t k a x : Int32} {n : Nat} (hn : n ≤ 3) (hx : x = nI n) : m_isEv i t k a x = x_isE i t k a := by
  have h3 : ¬ m_isIn x 0 3 = 0 := by
    rw [hx]
    rcases (show n = 0 ∨ n = 1 ∨ n = 2 ∨ n = 3 by omega) with rfl | rfl | rfl | rfl <;> decide
  rw [m_isEv, x_isE]
  by_cases c1 : m_isIn i 0 63 = 0
  · rw [if_pos c1, if_pos c1]
  · rw [if_neg c1, if_neg c1]
    by_cases c2 : m_isIn t 0 1999 = 0
    · rw [if_pos c2, if_pos c2]
    · rw [if_neg c2, if_neg c2]
      by_cases c3 : m_isIn k 0 5 = 0
      · rw [if_pos c3, if_pos c3]
      · rw [if_neg c3, if_neg c3]
        by_cases c4 : m_isIn a (-100) 100 = 0
        · rw [if_pos c4, if_pos c4]
        · rw [if_neg c4, if_neg c4, if_neg h3]
theorem x_isE_in {i t k a : Int32} (h : ¬ x_isE i t k a = 0) : ¬ m_isIn i 0 63 = 0 ∧ ¬ m_isIn t 0 1999 = 0 ∧ ¬ m_isIn k 0 5 = 0 ∧ ¬ m_isIn a (-100) 100 = 0 := by
  rw [x_isE] at h
  refine ⟨fun e => h (by rw [if_pos e]), fun e => h ?_, fun e => h ?_, fun e => h ?_⟩
  · rw [if_pos e]; exact ite_self _
  · rw [if_pos e, ite_self]; exact ite_self _
  · rw [if_pos e, ite_self, ite_self]; exact ite_self _
theorem isE_am {a : Int32} (h : ¬ m_isIn a (-100) 100 = 0) : a.toInt.natAbs ≤ 100 := by
  have h1 := isIn1 h
  rw [show (-100 : Int32).toInt = -100 by decide, show (100 : Int32).toInt = 100 by decide] at h1
  omega
/-- an event of the form, on both sides: what it is -/
theorem ok_rel {text sg : Nat → Int32} {L b : Nat} (hr : rT text sg L) (rd : Nat → Int32) (h : ¬ x_eo sg L b = 0) : ¬ (t_ev text L b rd).1 = 0 ∧ (t_ev text L b rd).2.1 = x_en sg L b ∧ m_pR text L b rd 0 = (x_T1 sg L b).2.2 ∧ m_pR text L b rd 1 = (x_T2 sg L b).2.2 ∧ m_pR text L b rd 2 = (x_T3 sg L b).2.2 ∧ m_pR text L b rd 3 = x_am sg L b ∧ m_pR text L b rd 4 = x_ex sg L b := by
  rcases ev_rel (b := b) hr rd with ⟨-, e⟩ | ⟨a1, -, a2⟩
  · exact absurd e h
  · exact ⟨a1, a2⟩
theorem no_rel {text sg : Nat → Int32} {L b : Nat} (hr : rT text sg L) (rd : Nat → Int32) (h : x_eo sg L b = 0) : (t_ev text L b rd).1 = 0 := by
  rcases ev_rel (b := b) hr rd with ⟨e, -⟩ | ⟨-, a1, -⟩
  · exact e
  · exact absurd h a1
theorem fault_L {text sg : Nat → Int32} {L : Nat} (hr : rT text sg L) : ∀ (n b : Nat) (z : Int32) (rd : Nat → Int32) (J : XJ) (fp fr : Int32), b ≤ 200 →
    ((t_flL text L n b z rd).1 = -1 ∧ (x_hfL sg L n b J fp fr).1 = 0) ∨ ∃ p r : Nat, p < L ∧ (r = 1 ∨ r = 2) ∧ (t_flL text L n b z rd).1 = nI (1000 * r + p) ∧ (x_hfL sg L n b J fp fr).1 = 1 ∧ (x_hfL sg L n b J fp fr).2.2.1 = nI p ∧ (x_hfL sg L n b J fp fr).2.2.2 = nI r
  | 0, b, z, rd, J, fp, fr, _ => Or.inl ⟨rfl, rfl⟩
  | n + 1, b, z, rd, J, fp, fr, hb => by
    rw [t_flL, x_hfL]
    by_cases c : L ≤ b
    · rw [if_pos c, if_pos c]; exact Or.inl ⟨rfl, rfl⟩
    · rw [if_neg c, if_neg c]
      by_cases e : x_eo sg L b = 0
      · rw [if_pos (no_rel hr rd e), if_pos e]
        exact Or.inr ⟨b, 1, by omega, Or.inl rfl, rfl, rfl, rfl, rfl⟩
      · obtain ⟨a1, a2, a3, a4, a5, a6, a7⟩ := ok_rel hr rd e
        rw [if_neg a1, if_neg e]
        have a3' : (t_ev text L b rd).2.2.2 0 = (x_T1 sg L b).2.2 := a3
        have a4' : (t_ev text L b rd).2.2.2 1 = (x_T2 sg L b).2.2 := a4
        have a5' : (t_ev text L b rd).2.2.2 2 = (x_T3 sg L b).2.2 := a5
        have a6' : (t_ev text L b rd).2.2.2 3 = x_am sg L b := a6
        have a7' : (t_ev text L b rd).2.2.2 4 = x_ex sg L b := a7
        obtain ⟨n9, h3, hx⟩ := ex_nat sg L b
        have hv : m_isEv ((t_ev text L b rd).2.2.2 0) ((t_ev text L b rd).2.2.2 1) ((t_ev text L b rd).2.2.2 2) ((t_ev text L b rd).2.2.2 3) ((t_ev text L b rd).2.2.2 4) = x_ok sg L b := by
          rw [a3', a4', a5', a6', a7', x_ok]; exact isEv_rel h3 hx
        rw [hv]
        by_cases e2 : x_ok sg L b = 0
        · rw [if_pos e2, if_pos e2]
          exact Or.inr ⟨b, 2, by omega, Or.inr rfl, rfl, rfl, rfl, rfl⟩
        · rw [if_neg e2, if_neg e2, a2]
          exact fault_L hr n (x_en sg L b) _ _ _ fp fr (k_fwd (x_enb sg L b) c hr.1)
theorem fault_rel {text sg : Nat → Int32} {L : Nat} {num : Int32} {rd : Nat → Int32} {J : XJ} {fp fr x : Int32} (hr : rT text sg L) (hx : ¬ m_isIn x 0 1 = 0) : t_fl text L num rd x = (if (x_hfL sg L 80 0 J fp fr).1 = 0 then -1000004 else if x = 0 then (x_hfL sg L 80 0 J fp fr).2.2.1 else (x_hfL sg L 80 0 J fp fr).2.2.2) := by
  have h80 := hr.1
  rw [t_fl, t_fo]
  rcases fault_L hr 80 0 num rd J fp fr (by omega) with ⟨a, b⟩ | ⟨p, r, p1, r1, a, b, c, d⟩
  · rw [a, b, if_pos (show ¬ (0 : Int32) ≤ -1 by decide), if_pos rfl]
  · have hv : 1000 * r + p < 3000 := by rcases r1 with e | e <;> omega
    have hpos : ¬ ¬ (0 : Int32) ≤ nI (1000 * r + p) := fun e => e (by rw [Int32.le_iff_toInt_le, nI_toInt (by omega), show (0 : Int32).toInt = 0 by decide]; omega)
    have hd : nI (1000 * r + p) / 1000 = nI r := by
      have h1 := pk_div (a := 1000 * r + p) (d := 1000) (by omega) (by omega) (by omega)
      have h2 : (1000 * r + p) / 1000 = r := by omega
      rw [h2] at h1
      exact h1
    rw [a, b, c, d, if_neg hpos, if_neg (show ¬ (1 : Int32) = 0 by decide), hd]
    by_cases e : x = 0
    · rw [if_pos e, if_pos e]
      have h1 : nI r * 1000 = nI (r * 1000) := k_mul r 1000
      rw [h1]
      have h2 := pk_sub (a := 1000 * r + p) (b := r * 1000) (by omega)
      rw [h2]
      congr 1
      omega
    · rw [if_neg e, if_neg e]
/-- the events of a text without a fault -/
def x_val (sg : Nat → Int32) (L : Nat) : Nat → Nat → Prop
  | 0, b => L ≤ b
  | n + 1, b => L ≤ b ∨ (¬ x_eo sg L b = 0 ∧ ¬ x_ok sg L b = 0 ∧ x_val sg L n (x_en sg L b))
theorem x_val_of {text sg : Nat → Int32} {L : Nat} (hr : rT text sg L) : ∀ (n b : Nat) (J : XJ) (fp fr : Int32), L ≤ b + n → (x_hfL sg L n b J fp fr).1 = 0 → x_val sg L n b
  | 0, b, J, fp, fr, hb, _ => by show L ≤ b; omega
  | n + 1, b, J, fp, fr, hb, h => by
    rw [x_hfL] at h
    by_cases c : L ≤ b
    · exact Or.inl c
    · rw [if_neg c] at h
      by_cases e : x_eo sg L b = 0
      · rw [if_pos e] at h; exact absurd (show (1 : Int32) = 0 from h) (by decide)
      · rw [if_neg e] at h
        by_cases e2 : x_ok sg L b = 0
        · rw [if_pos e2] at h; exact absurd (show (1 : Int32) = 0 from h) (by decide)
        · rw [if_neg e2] at h
          obtain ⟨a1, a2, -⟩ := ok_rel hr (fun _ => 0) e
          have hp := t_ev_prog a1
          rw [a2] at hp
          exact Or.inr ⟨e, e2, x_val_of hr n _ _ fp fr (by omega) h⟩
theorem rA_good {now : Nat → Int32} {np sz i t x : Nat} {S : AV} {lg gr mv : Int32} (h : rA now np sz S lg gr mv) (hi : i < 64) (ht : t < 2000) (hx : x ≤ 3) : m_good now np sz i ∧ x_good S sz gr i t (nI x) := by
  have hB := rA_B h
  have hw := rW_wN hB.2.2.2.2.2.1
  have hq : t / sz < 2000 := Nat.lt_of_le_of_lt (Nat.div_le_self _ _) ht
  obtain ⟨-, -, -, -, -, -, -, ⟨-, -, hnp, hu⟩, -⟩ := id h
  have hcn : ¬ now (12 + 6 * i + 0) = 1 → m_cn now 64 < 64 := fun e => m_cn_lt e hi
  refine ⟨⟨h.2.1.2.1, hB.2.2.1, h.2.1.1, hw.2, hB.2.1, fun e => by have := hcn e; omega⟩, hB.2.2.2.2.1, hB.2.2.2.2.2.1.2.1, fun e => ?_, rA_zf h⟩
  have hnew : ¬ now (12 + 6 * i + 0) = 1 := by
    rcases rA_has h hi with ⟨-, e2⟩ | ⟨e1, -⟩
    · rw [e2] at e; exact absurd e (by decide)
    · exact e1
  have hlt := hcn hnew
  refine ⟨fun _ => by omega, fun hno => ?_⟩
  have hcap : ¬ v_ce (aPn S) (aU S) (t / sz) → aU S < 64 := fun _ => by omega
  have hs := hB.2.2.2.1
  have hin := (v_ce_mp hs hcap hq hq).mpr (Or.inr rfl)
  have hrk : p_rk (x_re S sz gr t).1 (nI (t / sz)) (p_mu (aPn S) (nI (t / sz)) (aU S)) = p_rk (p_mp (aPn S) (nI (t / sz)) (aU S)) (nI (t / sz)) (p_mu (aPn S) (nI (t / sz)) (aU S)) := by
    show p_rk (upd (upd (p_take (p_mp (aPn S) (nI (t / sz)) (aU S), aWd S, aW S, aTk S) (p_mr (aPn S) (nI (t / sz)) (aU S))).1 (p_mr (aPn S) (nI (t / sz)) (aU S) * 8 + 0) 2) (p_mr (aPn S) (nI (t / sz)) (aU S) * 8 + 4) (aWt S + gr + 1)) _ _ = _
    rw [p_rk_upd (by omega), p_rk_upd (by omega), p_take]
    split
    · rfl
    · exact p_rk_upd (by omega) _
  rw [hrk] at hno
  exact absurd hin hno
set_option maxHeartbeats 1000000 in
theorem play_L {text sg : Nat → Int32} {L sz : Nat} {lg gr mv : Int32} (hr : rT text sg L) : ∀ (n b : Nat) (z : Int32) (rd : Nat → Int32) (J : XJ) (now : Nat → Int32) (np : Nat) (S : AV) (cn : Nat), rA now np sz S lg gr mv → x_val sg L n b →
    m_pgL text L sz n b rd now np ∧ x_pgL sg L sz lg gr n b S ∧ (m_plL text L sz n b z rd now np cn).1 = (x_plL sg L sz lg gr n b J S cn).1 ∧ ∃ np', rA (m_plL text L sz n b z rd now np cn).2.2.2.2 np' sz (x_plL sg L sz lg gr n b J S cn).2.2 lg gr mv
  | 0, b, z, rd, J, now, np, S, cn, h, hv => ⟨hv, trivial, rfl, np, h⟩
  | n + 1, b, z, rd, J, now, np, S, cn, h, hv => by
    rw [m_plL, x_plL]
    rcases hv with c | ⟨e1, e2, hv⟩
    · rw [if_pos c, if_pos c]
      exact ⟨Or.inl c, Or.inl c, rfl, np, h⟩
    · by_cases c : L ≤ b
      · rw [if_pos c, if_pos c]
        exact ⟨Or.inl c, Or.inl c, rfl, np, h⟩
      · rw [if_neg c, if_neg c]
        obtain ⟨a1, a2, a3, a4, a5, a6, a7⟩ := ok_rel hr rd e1
        obtain ⟨v1, v2, v3, v4⟩ := x_isE_in (show ¬ x_isE (x_T1 sg L b).2.2 (x_T2 sg L b).2.2 (x_T3 sg L b).2.2 (x_am sg L b) = 0 from e2)
        obtain ⟨i, i1, i2⟩ := isIn_nat (b := 63) v1 (by decide)
        obtain ⟨t, t1, t2⟩ := isIn_nat (b := 1999) v2 (by decide)
        obtain ⟨x, x1, x2⟩ := ex_nat sg L b
        have hpi : x_pi sg L b = i := by rw [x_pi, i2, nI_clamp (by omega)]
        have hpt : x_pt sg L b = t := by rw [x_pt, t2, nI_clamp (by omega)]
        have hmi : m_pi text L b rd = i := by rw [m_pi, a3, i2, nI_clamp (by omega)]
        have hmt : m_pt text L b rd = t := by rw [m_pt, a4, t2, nI_clamp (by omega)]
        have hmx : m_px text L b rd = x := by rw [m_px, a7, x2, nI_clamp (by omega)]
        obtain ⟨g1, g2⟩ := rA_good (i := i) (t := t) (x := x) h (by omega) (by omega) x1
        have hco := come_rel (key := (x_T3 sg L b).2.2) (am := x_am sg L b) h (show i < 64 by omega) (show t < 2000 by omega) x1 (isE_am v4)
        have hmco : m_pco text L sz b rd now np = m_come now i t (x_T3 sg L b).2.2 (x_am sg L b) x np sz := by rw [m_pco, hmi, hmt, hmx, a5, a6]
        have hxad : x_pad sg L sz lg gr b S = x_adm sz lg gr S i t (x_T3 sg L b).2.2 (x_am sg L b) (nI x) := by rw [x_pad, hpi, hpt, x2]
        have hcnt : (if 2 ≤ (m_come now i t (x_T3 sg L b).2.2 (x_am sg L b) x np sz).1 then cn else cn + 1) = (if 1 < (x_adm sz lg gr S i t (x_T3 sg L b).2.2 (x_am sg L b) (nI x)).1 then cn else cn + 1) := by
          rw [hco.1]
          by_cases c9 : (2 : Int32) ≤ (x_adm sz lg gr S i t (x_T3 sg L b).2.2 (x_am sg L b) (nI x)).1
          · rw [if_pos c9, if_pos]
            rw [Int32.le_iff_toInt_le, show (2 : Int32).toInt = 2 by decide] at c9
            rw [Int32.lt_iff_toInt_lt, show (1 : Int32).toInt = 1 by decide]
            omega
          · rw [if_neg c9, if_neg]
            rw [Int32.le_iff_toInt_le, show (2 : Int32).toInt = 2 by decide] at c9
            rw [Int32.lt_iff_toInt_lt, show (1 : Int32).toInt = 1 by decide]
            omega
        rw [hmco, hxad, hcnt, a2, hmi, hmt]
        obtain ⟨r1, r2, r3, r4⟩ := play_L hr n (x_en sg L b) (t_ev text L b rd).2.2.1 (m_pR text L b rd) (x_J sg L b) _ _ _ (if 1 < (x_adm sz lg gr S i t (x_T3 sg L b).2.2 (x_am sg L b) (nI x)).1 then cn else cn + 1) hco.2 hv
        refine ⟨Or.inr ⟨a1, ⟨by rw [hmi, a3, i2], by omega⟩, ⟨by rw [hmt, a4, t2], by omega⟩, ⟨by rw [hmx, a7, x2], by omega⟩, by rw [hmi]; exact g1, ?_⟩, Or.inr ⟨e1, ⟨by rw [hpi, i2], by omega⟩, ⟨by rw [hpt, t2], by omega⟩, by rw [hpi, hpt, x2]; exact g2, ?_⟩, r3, r4⟩
        · rw [hmco, a2, hmi, hmt]; exact r1
        · rw [hxad]; exact r2
