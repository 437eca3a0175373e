/-! the undo behind a change; an event told ahead -/
abbrev rmU : Room := { frames := 11, cells := 13, slots := 1166, locals := 310 }
abbrev rmJ : Room := { frames := 9, cells := 13, slots := 1166, locals := 250 }
/-- what a state and the one before it have to do with each other -/
def u_ch (x0 x1 : LV) (v' : CV) : Prop := u_st x0 (some v') x1
theorem u_st_some {x0 x1 : LV} {v' : CV} (h : u_st x0 (some v') x1) : x1.2.1 = v' ∧ ∃ pa : Nat → Nat, x1 = (x0.1, v', x0.2.2.1, h_ol x0.2.2.2.1 x0.2.2.2.2.1, m_rns x0.2.2.2.2.1, u_up x0.2.2.2.2.2 (h_pl x0.2.2.2.1 x0.2.2.2.2.1) (pa, x0.2.1)) := by
  rcases h with ⟨e, -⟩ | ⟨v2, e, pa, e2⟩
  · cases e
  · obtain rfl : v' = v2 := Option.some.inj e
    exact ⟨by rw [e2], pa, e2⟩
theorem h_last (o n : Nat) (ho : o < 4) (hn : n ≤ 4) : 0 < m_rns n ∧ (h_ol o n + m_rns n - 1) % 4 = h_pl o n ∧ m_rns (m_rns n - 1) = m_rns n := by
  rw [m_rns, h_ol, h_pl]
  by_cases c : n < 4
  · rw [if_pos c, if_pos c, if_pos c]
    refine ⟨by omega, by rw [show o + (n + 1) - 1 = o + n by omega], ?_⟩
    rw [show n + 1 - 1 = n by omega, m_rns, if_pos c]
  · rw [if_neg c, if_neg c, if_neg c]
    refine ⟨by omega, by rw [show (o + 1) % 4 + 4 - 1 = (o + 1) % 4 + 3 by omega], ?_⟩
    rw [m_rns]; decide
/-- undo right behind a change: the court is what it was -/
theorem uY_back (l : Launch) (D : va_G) (I C Q : ClassId) (y0 : Nat) {x0 x1 : LV} {v' : CV} (h0 : uG x0) (h1 : uG x1) (hs : u_st x0 (some v') x1) : ∃ x2 : LV, x2.2.1 = x0.2.1 ∧ uG x2 ∧ x2.2.2.2.2.1 = x1.2.2.2.2.1 - 1 ∧ m_rns x2.2.2.2.2.1 = x1.2.2.2.2.1 ∧ 0 < x1.2.2.2.2.1 ∧ x1.2.2.2.2.1 ≤ 4 ∧ KIe l D (tyL I C Q) yX8_undo wsX8_undo rm9 [.ref y0] (uX I C Q y0 x1) 0 0 (fun r9 w9 => r9 = nI (x1.2.2.2.2.1 - 1) ∧ w9 = uX I C Q y0 x2) := by
  obtain ⟨-, pa, rfl⟩ := u_st_some hs
  obtain ⟨-, hn, ho, -⟩ := h0
  obtain ⟨g1, g2, g3⟩ := h_last _ _ ho hn
  obtain ⟨pb, w, k1, k2, k3⟩ := uY_undo l D I C Q y0 h1 g1
  rw [g2, u_up_at] at k1
  obtain ⟨rfl, rfl⟩ := Prod.mk.inj (Option.some.inj k1)
  exact ⟨(x0.1, x0.2.1, x0.2.2.1, h_ol x0.2.2.2.1 x0.2.2.2.2.1, m_rns x0.2.2.2.2.1 - 1, u_up x0.2.2.2.2.2 (h_pl x0.2.2.2.1 x0.2.2.2.2.1) (pa, x0.2.1)), rfl, k2, rfl, g3, g1, m_rns4 hn, k3⟩
theorem lg_cmp_0 (x : Int64) : lg_cmp x x = nI 0 := by
  have h : ¬ x > x := fun h => by
    have h : x < x := h
    rw [Int64.lt_iff_toInt_lt] at h; omega
  rw [lg_cmp, if_neg h, if_pos rfl]; rfl
set_option maxHeartbeats 4000000 in
set_option maxRecDepth 100000 in
theorem c_L_isUndone (l : Launch) (D : va_G) (I C Q : ClassId) (y0 : Nat) (w a b : Int32) {x0 x1 : LV} {v' : CV} (hG0 : uG x0) (hG1 : uG x1) (hv : (f_turn x0.2.1 w a b).2 = some v') (hs : u_st x0 (some v') x1) : KIe l D (tyL I C Q) yL_isUndone wsL_isUndone rmU [.ref y0, .int w, .int a, .int b, .int (f_turn x0.2.1 w a b).1, .long (q_view x0.2.1)] (uX I C Q y0 x1) 13 1166 (fun r9 w9 => r9 = nI 1 ∧ ∃ x3, w9 = uX I C Q y0 x3 ∧ uG x3 ∧ x3.2.1 = x1.2.1 ∧ x3.2.2.2.2.1 = x1.2.2.2.2.1) := by
  obtain ⟨x2, e2, hG2, n2, n2r, n0, n4, hU⟩ := uY_back l D I C Q y0 hG0 hG1 hs
  refine KIe.of (cc := cL_isUndone) (maxL := 10) (rt := .boolean) (own := RL) (by decide) rfl rfl (Nat.le_of_ble_eq_true rfl) ?_
  intro p e s m below meth c A Q0 ls hx hb hml hown hts hE hA hP hD hS hl hend
  have hF : CallFix p m c cL_isUndone 10 s ([.ref y0, .int w, .int a, .int b, .int (f_turn x0.2.1 w a b).1, .long (q_view x0.2.1)] : List Value).toArray wsL_isUndone RL := ⟨hx, hb, hml, hown, hts⟩
  have hcs : 0 ≤ rmU.cells ∧ 0 ≤ rmU.slots := ⟨Nat.zero_le _, Nat.zero_le _⟩
  have hcs13 : 0 + 13 ≤ rmU.cells ∧ 0 + 1166 ≤ rmU.slots := ⟨Nat.le_of_ble_eq_true rfl, Nat.le_of_ble_eq_true rfl⟩
  have hl : lv_has ls 10 [(0, .ref y0), (1, .int w), (2, .int a), (3, .int b), (4, .int (f_turn x0.2.1 w a b).1), (5, .long (q_view x0.2.1))] := hl
  refine lv_aload_n hx hb dL_isUndone_0 rfl (lv_at hl 0 rfl) ?_
  refine L_sl (as := [.ref y0]) (rest := []) hF hE hA hP hD hS hl.1 (c_L_view l D I C Q y0 hG1) (va_cwS 1 hts gL_isUndone_L_view rfl rfl rfl (by decide +kernel) ⟨Nat.le_of_ble_eq_true rfl, Nat.le_of_ble_eq_true rfl⟩) rfl rfl (Nat.le_of_ble_eq_true rfl) dL_isUndone_1 (by exact hcs) (fun H locs hP hD hS => ?_)
  refine lv_lstore (lv' := [(7, .long (q_view x1.2.1)), (0, .ref y0), (1, .int w), (2, .int a), (3, .int b), (4, .int (f_turn x0.2.1 w a b).1), (5, .long (q_view x0.2.1))]) hx hb dL_isUndone_4 hl (by decide) rfl (fun ls hl => ?_)
  refine lv_aload_n hx hb dL_isUndone_6 rfl (lv_at hl 1 rfl) ?_
  refine lv_bipush (v := nI 12) hx hb dL_isUndone_7 (by decide) ?_
  refine L_rd (as := [.int (nI 12)]) (rest := []) hF hE hA hP hD hS (uX_0 I C Q y0 x1).choose_spec hl.1 (rd_states l D I C Q y0 hG1) (cwV 1 hts gL_isUndone_X8_count rfl rfl rfl (by decide +kernel) ⟨Nat.le_of_ble_eq_true rfl, Nat.le_of_ble_eq_true rfl⟩) rfl rfl (Nat.le_of_ble_eq_true rfl) dL_isUndone_9 (by exact hcs) (fun H locs hP hD hS => ?_)
  refine lv_istore (lv' := [(9, .int (nI x1.2.2.2.2.1)), (7, .long (q_view x1.2.1)), (0, .ref y0), (1, .int w), (2, .int a), (3, .int b), (4, .int (f_turn x0.2.1 w a b).1), (5, .long (q_view x0.2.1))]) hx hb dL_isUndone_12 hl (by decide) rfl (fun ls hl => ?_)
  refine lv_aload_n hx hb dL_isUndone_14 rfl (lv_at hl 2 rfl) ?_
  refine L_ch (as := []) (rest := []) hF hE hA hP hD hS (uX_0 I C Q y0 x1).choose_spec hl.1 hU (cwV 0 hts gL_isUndone_X8_undo rfl rfl rfl (by decide +kernel) ⟨Nat.le_of_ble_eq_true rfl, Nat.le_of_ble_eq_true rfl⟩) rfl rfl (Nat.le_of_ble_eq_true rfl) dL_isUndone_15 (by exact hcs) (fun H locs r w1 hr hP hD hS => ?_)
  obtain ⟨rfl, rfl⟩ := hr
  refine lv_iload hx hb dL_isUndone_18 (lv_at hl 0 rfl) ?_
  refine lv_iconst (v := nI 1) hx hb dL_isUndone_20 (by decide) ?_
  refine lv_isub hx hb dL_isUndone_21 ?_
  refine k_top (y := nI (x1.2.2.2.2.1 - 1)) (pk_sub (a := x1.2.2.2.2.1) (b := 1) (by omega)) ?_
  refine lv_icmp_ne (tgt := 72) hx hb dL_isUndone_22 (by decide) (fun c_22 => ?_) (fun c_22 => ?_)
  · exact absurd rfl c_22
  · refine lv_aload_n hx hb dL_isUndone_25 rfl (lv_at hl 2 rfl) ?_
    refine L_sl (as := [.ref y0]) (rest := []) hF hE hA hP hD hS hl.1 (c_L_view l D I C Q y0 hG2) (va_cwS 1 hts gL_isUndone_L_view rfl rfl rfl (by decide +kernel) ⟨Nat.le_of_ble_eq_true rfl, Nat.le_of_ble_eq_true rfl⟩) rfl rfl (Nat.le_of_ble_eq_true rfl) dL_isUndone_26 (by exact hcs) (fun H locs hP hD hS => ?_)
    refine lv_lload hx hb dL_isUndone_29 (lv_at hl 7 rfl) ?_
    refine W.lcmp hx hb dL_isUndone_31 ?_
    refine k_top (y := nI 0) (by rw [e2]; exact lg_cmp_0 _) ?_
    refine lv_if_ne (tgt := 72) hx hb dL_isUndone_32 (by decide) (fun c_32 => ?_) (fun c_32 => ?_)
    · exact absurd rfl c_32
    · refine lv_aload_n hx hb dL_isUndone_35 rfl (lv_at hl 2 rfl) ?_
      refine lv_iload_n hx hb dL_isUndone_36 rfl (lv_at hl 3 rfl) ?_
      refine lv_iload_n hx hb dL_isUndone_37 rfl (lv_at hl 4 rfl) ?_
      refine lv_iload_n hx hb dL_isUndone_38 rfl (lv_at hl 5 rfl) ?_
      refine L_sc (as := [.ref y0, .int w, .int a, .int b]) (rest := []) hF hE hA hP hD hS hl.1 (c_L_turn l D I C Q y0 w a b hG2) (va_cwS 4 hts gL_isUndone_L_turn rfl rfl rfl (by decide +kernel) ⟨Nat.le_of_ble_eq_true rfl, Nat.le_of_ble_eq_true rfl⟩) rfl rfl (Nat.le_of_ble_eq_true rfl) dL_isUndone_39 (by exact hcs13) (fun H locs r w1 hr hP hD hS => ?_)
      obtain ⟨hr1, x3, rfl, hst3⟩ := hr
      rw [e2] at hr1 hst3
      rw [hv] at hst3
      have hG3 : uG x3 := uG_st (R := f_turn x2.2.1 w a b) hG2 (f_turn_good hG2.1 w a b) (by rw [e2, hv]; exact hst3)
      obtain ⟨e3, pa3, e3n⟩ := u_st_some hst3
      have n3 : x3.2.2.2.2.1 = x1.2.2.2.2.1 := by rw [e3n]; exact n2r
      have e31 : x3.2.1 = x1.2.1 := e3.trans (u_st_some hs).1.symm
      rw [hr1]
      have hcsB : 0 + 13 ≤ rmU.cells ∧ 0 + 1166 ≤ rmU.slots := hcs13
      refine lv_iload hx hb dL_isUndone_42 (lv_at hl 6 rfl) ?_
      refine lv_icmp_ne (tgt := 72) hx hb dL_isUndone_44 (by decide) (fun c_44 => ?_) (fun c_44 => ?_)
      · exact absurd rfl c_44
      · refine lv_aload_n hx hb dL_isUndone_47 rfl (lv_at hl 2 rfl) ?_
        refine L_sl (as := [.ref y0]) (rest := []) hF hE hA hP hD hS hl.1 (c_L_view l D I C Q y0 hG3) (va_cwS 1 hts gL_isUndone_L_view rfl rfl rfl (by decide +kernel) ⟨Nat.le_of_ble_eq_true rfl, Nat.le_of_ble_eq_true rfl⟩) rfl rfl (Nat.le_of_ble_eq_true rfl) dL_isUndone_48 (by exact hcsB) (fun H locs hP hD hS => ?_)
        refine lv_lload hx hb dL_isUndone_51 (lv_at hl 1 rfl) ?_
        refine W.lcmp hx hb dL_isUndone_53 ?_
        refine k_top (y := nI 0) (by rw [e31]; exact lg_cmp_0 _) ?_
        refine lv_if_ne (tgt := 72) hx hb dL_isUndone_54 (by decide) (fun c_54 => ?_) (fun c_54 => ?_)
        · exact absurd rfl c_54
        · refine lv_aload_n hx hb dL_isUndone_57 rfl (lv_at hl 2 rfl) ?_
          refine lv_bipush (v := nI 12) hx hb dL_isUndone_58 (by decide) ?_
          refine L_rd (as := [.int (nI 12)]) (rest := []) hF hE hA hP hD hS (uX_0 I C Q y0 x3).choose_spec hl.1 (rd_states l D I C Q y0 hG3) (cwV 1 hts gL_isUndone_X8_count rfl rfl rfl (by decide +kernel) ⟨Nat.le_of_ble_eq_true rfl, Nat.le_of_ble_eq_true rfl⟩) rfl rfl (Nat.le_of_ble_eq_true rfl) dL_isUndone_60 (by exact hcsB) (fun H locs hP hD hS => ?_)
          refine k_top (y := nI x1.2.2.2.2.1) (by rw [n3]) ?_
          refine lv_iload hx hb dL_isUndone_63 (lv_at hl 0 rfl) ?_
          refine lv_icmp_ne (tgt := 72) hx hb dL_isUndone_65 (by decide) (fun c_65 => ?_) (fun c_65 => ?_)
          · exact absurd rfl c_65
          · refine lv_iconst (v := nI 1) hx hb dL_isUndone_68 (by decide) ?_
            refine lv_goto (tgt := 73) hx hb dL_isUndone_69 (by decide) ?_
            exact hend _ _ _ _ _ _ hP hD hS dL_isUndone_73 rfl ⟨rfl, x3, rfl, hG3, e31, n3⟩
theorem q_evo_0 {v : CV} (h : g_ok v) {i : Nat} (hi : i < 64) (hq : q_evo v i 0 = -1000004) : e_has (aEv (cS v)) i = 0 := by
  obtain ⟨⟨now, np, hA⟩, -⟩ := h
  rcases hA.2.2.2.2.2.2.2.2.1 i hi with ⟨-, b⟩ | ⟨a, b, ⟨t, t1, -, t3, -⟩, -⟩
  · rw [e_has, b, if_pos (by decide)]
  · exfalso
    rw [q_evo, e_rd, e_has, b, if_neg (by decide), t3] at hq
    exact nI_nf (by omega) hq
theorem f_new {v : CV} (h : g_ok v) {i t x : Nat} {key : Int32} (hi : i < 64) (ht : t < 2000) (hk : ¬ m_isIn key 0 5 = 0) (hx : x ≤ 3) (hn : e_has (aEv (cS v)) i = 0) : ∃ v', f_evt v (nI i) (nI t) key (nI 3) (nI x) = (q_jdg v t key (nI x), some v') ∧ q_evo v' i 4 = q_jdg v t key (nI x) := by
  have hb : ¬ (x_isE (nI i) (nI t) key (nI 3) = 0 ∨ m_isIn (nI x) 0 3 = 0) := by
    rintro (e | e)
    · have e1 : ¬ m_isIn (nI i) 0 63 = 0 := isIn_ok (n := i) (a := 0) (b := 63) (by omega) (by omega) (by omega)
      have e2 : ¬ m_isIn (nI t) 0 1999 = 0 := isIn_ok (n := t) (a := 0) (b := 1999) (by omega) (by omega) (by omega)
      rw [x_isE, if_neg e1, if_neg e2, if_neg hk, if_neg (by decide)] at e
      exact absurd e (by decide)
    · exact isIn_ok (n := x) (a := 0) (b := 3) (by omega) (by omega) (by omega) e
  rw [f_evt_O hi ht hb]
  have ho : x_o (cS v) (cZ v) t key (nI x) = q_jdg v t key (nI x) := rfl
  have hnn : ¬ ¬ e_has (aEv (cS v)) i = 0 := fun h => h hn
  have hev : ∀ (pn wd cb : Nat → Int32) (u w : Nat) (tk : Int32), q_evo (x_mk (cS v) (cZ v) (cLg v) i t key (nI 3) (nI x) (x_o (cS v) (cZ v) t key (nI x)) pn u wd w tk cb, cZ v, cLg v, cGr v, cMv v) i 4 = q_jdg v t key (nI x) := fun pn wd cb u w tk => by
    show e_rd (e_con (e_ent (aEv (cS v)) i (nI t) key (nI 3) (nI x)) i (x_o (cS v) (cZ v) t key (nI x)) (nI (t / cZ v))) i 4 = _
    rw [e_rd, e_has, e_ec_6, if_neg (by decide), e_ec_4, ho]
  rw [x_adm, if_neg hnn]
  by_cases h1 : 1 < x_o (cS v) (cZ v) t key (nI x)
  · rw [if_pos h1]; exact ⟨_, by rw [ho], hev _ _ _ _ _ _⟩
  · rw [if_neg h1]
    by_cases h2 : x_o (cS v) (cZ v) t key (nI x) = 0
    · rw [if_pos h2]; exact ⟨_, by rw [ho], hev _ _ _ _ _ _⟩
    · rw [if_neg h2]; exact ⟨_, by rw [ho], hev _ _ _ _ _ _⟩
set_option maxHeartbeats 4000000 in
set_option maxRecDepth 100000 in
theorem c_L_isJudged (l : Launch) (D : va_G) (I C Q : ClassId) (y0 : Nat) (a b : Int32) {x0 : LV} (hG0 : uG x0) : KIe l D (tyL I C Q) yL_isJudged wsL_isJudged rmJ [.ref y0, .int a, .int b] (uX I C Q y0 x0) 13 1166 (fun r9 w9 => r9 = nI 1 ∧ ∃ x3, w9 = uX I C Q y0 x3 ∧ uG x3 ∧ x3.2.1 = x0.2.1) := by
  refine KIe.of (cc := cL_isJudged) (maxL := 7) (rt := .boolean) (own := RL) (by decide) rfl rfl (Nat.le_of_ble_eq_true rfl) ?_
  intro p e s m below meth c A Q0 ls hx hb hml hown hts hE hA hP hD hS hl hend
  have hF : CallFix p m c cL_isJudged 7 s ([.ref y0, .int a, .int b] : List Value).toArray wsL_isJudged RL := ⟨hx, hb, hml, hown, hts⟩
  have hcs : 0 ≤ rmJ.cells ∧ 0 ≤ rmJ.slots := ⟨Nat.zero_le _, Nat.zero_le _⟩
  have hcs13 : 0 + 13 ≤ rmJ.cells ∧ 0 + 1166 ≤ rmJ.slots := ⟨Nat.le_of_ble_eq_true rfl, Nat.le_of_ble_eq_true rfl⟩
  have hl : lv_has ls 7 [(0, .ref y0), (1, .int a), (2, .int b)] := hl
  have L2 : ∀ (n i : Nat), i + n = 64 → ∀ (H : Heap) (locs : List Loc) (ls : Array Slot), va_P D vwCl (uX I C Q y0 x0) H → va_D A (uX I C Q y0 x0) → va_S A s.heap H locs → lv_has ls 7 [(3, .int (nI i)), (0, .ref y0), (1, .int a), (2, .int b)] → (∀ (i : Nat) (H : Heap) (locs : List Loc) (ls : Array Slot), (i = 64 ∨ (i < 64 ∧ q_evo x0.2.1 i 0 = -1000004)) → va_P D vwCl (uX I C Q y0 x0) H → va_D A (uX I C Q y0 x0) → va_S A s.heap H locs → lv_has ls 7 [(3, .int (nI i)), (0, .ref y0), (1, .int a), (2, .int b)] → W p l e rmJ s m ([.ref y0, .int a, .int b] : List Value).toArray below meth c H locs 0 0 Q0 (F0 m 25 ls [])) → W p l e rmJ s m ([.ref y0, .int a, .int b] : List Value).toArray below meth c H locs 0 0 Q0 (F0 m 2 ls []) := by
    intro n
    induction n with
    | zero =>
      intro i hi H locs ls hP hD hS hl kx
      refine lv_iload_n hx hb dL_isJudged_2 rfl (lv_at hl 0 rfl) ?_
      refine lv_bipush (v := nI 64) hx hb dL_isJudged_3 (by decide) ?_
      refine lv_icmp_ge (tgt := 25) hx hb dL_isJudged_5 (by decide) (fun c_5 => ?_) (fun c_5 => ?_)
      · exact kx i H locs ls (Or.inl (by omega)) hP hD hS hl
      · exact absurd ((nI_leI (a := 64) (b := i) (by omega) (by omega)).mpr (by omega)) c_5
    | succ n ih =>
      intro i hi H locs ls hP hD hS hl kx
      refine lv_iload_n hx hb dL_isJudged_2 rfl (lv_at hl 0 rfl) ?_
      refine lv_bipush (v := nI 64) hx hb dL_isJudged_3 (by decide) ?_
      refine lv_icmp_ge (tgt := 25) hx hb dL_isJudged_5 (by decide) (fun c_5 => ?_) (fun c_5 => ?_)
      · exact absurd ((nI_leI (a := 64) (b := i) (by omega) (by omega)).mp c_5) (by omega)
      · refine lv_aload_n hx hb dL_isJudged_8 rfl (lv_at hl 1 rfl) ?_
        refine lv_iload_n hx hb dL_isJudged_9 rfl (lv_at hl 0 rfl) ?_
        refine lv_iconst (v := nI 0) hx hb dL_isJudged_10 (by decide) ?_
        refine L_rd (as := [.int (nI i), .int (nI 0)]) (rest := []) hF hE hA hP hD hS (uX_0 I C Q y0 x0).choose_spec hl.1 (rd_eventOf l D I C Q y0 i 0 hG0 (by omega) (by omega)) (cwV 2 hts gL_isJudged_X8_eventOf rfl rfl rfl (by decide +kernel) ⟨Nat.le_of_ble_eq_true rfl, Nat.le_of_ble_eq_true rfl⟩) rfl rfl (Nat.le_of_ble_eq_true rfl) dL_isJudged_11 (by exact hcs) (fun H locs hP hD hS => ?_)
        refine lv_ldc hx hb hown (hts (.constant RL 62 (-1000004)) (List.mem_of_getElem? (i := 1) rfl)) dL_isJudged_14 ?_
        refine lv_icmp_eq (tgt := 25) hx hb dL_isJudged_16 (by decide) (fun c_16 => ?_) (fun c_16 => ?_)
        · exact kx i H locs ls (Or.inr ⟨by omega, c_16⟩) hP hD hS hl
        · refine lv_iinc (v := nI (i + 1)) (lv' := [(3, .int (nI (i + 1))), (0, .ref y0), (1, .int a), (2, .int b)]) hx hb dL_isJudged_19 hl (k := 0) rfl (nI_inc i) (by decide) rfl (fun ls hl => ?_)
          refine lv_goto (tgt := 2) hx hb dL_isJudged_22 (by decide) ?_
          exact ih (i + 1) (by omega) H locs ls hP hD hS (lv_sub hl [0, 1, 2, 3] rfl) kx
  refine lv_iconst (v := nI 0) hx hb dL_isJudged_0 (by decide) ?_
  refine lv_istore_n (lv' := [(3, .int (nI 0)), (0, .ref y0), (1, .int a), (2, .int b)]) hx hb dL_isJudged_1 rfl hl (by decide) rfl (fun ls hl => ?_)
  refine L2 64 0 (by omega) _ _ ls hP hD hS (lv_sub hl [0, 1, 2, 3] rfl) (fun i H locs ls hi hP hD hS hl => ?_)
  rcases hi with h64 | ⟨hi, hq⟩
  · subst h64
    refine lv_iload_n hx hb dL_isJudged_25 rfl (lv_at hl 0 rfl) ?_
    refine lv_bipush (v := nI 64) hx hb dL_isJudged_26 (by decide) ?_
    refine lv_icmp_ne (tgt := 33) hx hb dL_isJudged_28 (by decide) (fun c_28 => ?_) (fun c_28 => ?_)
    · exact absurd rfl c_28
    · refine lv_iconst (v := nI 1) hx hb dL_isJudged_31 (by decide) ?_
      exact W.widen (k := 13) (n := 1166) (Nat.zero_le _) (Nat.zero_le _) (hend _ _ _ _ _ _ hP hD hS dL_isJudged_32 rfl ⟨rfl, x0, rfl, hG0, rfl⟩)
  · have hn := q_evo_0 hG0.1 hi hq
    have ht : (u_p b 300) < 2000 := Nat.lt_trans (u_p_lt b (m := 300) (by decide)) (by decide)
    have hk6 : u_p a 6 < 6 := u_p_lt a (by decide)
    have hx4 : (u_p (a >>> (nI 3 &&& 31)) 4) < 4 := u_p_lt _ (by decide)
    have hkey : ¬ m_isIn (nI (u_p a 6)) 0 5 = 0 := isIn_ok (a := 0) (b := 5) (by omega) (by omega) (by omega)
    have hx3 : ¬ m_isIn (nI (u_p (a >>> (nI 3 &&& 31)) 4)) 0 3 = 0 := isIn_ok (a := 0) (b := 3) (by omega) (by omega) (by omega)
    obtain ⟨v', hf, hev4⟩ := f_new hG0.1 hi ht hkey (x := (u_p (a >>> (nI 3 &&& 31)) 4)) (by omega) hn
    obtain ⟨J, hJ⟩ : ∃ J, J = q_jdg x0.2.1 (u_p b 300) (nI (u_p a 6)) (nI (u_p (a >>> (nI 3 &&& 31)) 4)) := ⟨_, rfl⟩
    rw [← hJ] at hf hev4
    refine lv_iload_n hx hb dL_isJudged_25 rfl (lv_at hl 0 rfl) ?_
    refine lv_bipush (v := nI 64) hx hb dL_isJudged_26 (by decide) ?_
    refine lv_icmp_ne (tgt := 33) hx hb dL_isJudged_28 (by decide) (fun c_28 => ?_) (fun c_28 => ?_)
    · refine lv_iload_n hx hb dL_isJudged_33 rfl (lv_at hl 3 rfl) ?_
      refine lv_sipush (v := nI 300) hx hb dL_isJudged_34 (by decide) ?_
      refine L_s0 (as := [.int b, .int (nI 300)]) (rest := []) hF hE hA hP hS hl.1 (c_L_up l D (tyL I C Q) b 300 (by decide) (by decide)) (va_cwS 2 hts gL_isJudged_L_up rfl rfl rfl (by decide +kernel) ⟨Nat.le_of_ble_eq_true rfl, Nat.le_of_ble_eq_true rfl⟩) rfl rfl (Nat.le_of_ble_eq_true rfl) dL_isJudged_37 (by exact hcs) (fun H locs hP hS => ?_)
      refine lv_istore (lv' := [(4, .int (nI (u_p b 300))), (3, .int (nI i)), (0, .ref y0), (1, .int a), (2, .int b)]) hx hb dL_isJudged_40 hl (by decide) rfl (fun ls hl => ?_)
      refine lv_aload_n hx hb dL_isJudged_42 rfl (lv_at hl 2 rfl) ?_
      refine lv_iload hx hb dL_isJudged_43 (lv_at hl 0 rfl) ?_
      refine lv_iload_n hx hb dL_isJudged_45 rfl (lv_at hl 3 rfl) ?_
      refine lv_bipush (v := nI 6) hx hb dL_isJudged_46 (by decide) ?_
      refine L_s0 (as := [.int a, .int (nI 6)]) (rest := [.int (nI (u_p b 300)), .ref y0]) hF hE hA hP hS hl.1 (c_L_up l D (tyL I C Q) a 6 (by decide) (by decide)) (va_cwS 2 hts gL_isJudged_L_up rfl rfl rfl (by decide +kernel) ⟨Nat.le_of_ble_eq_true rfl, Nat.le_of_ble_eq_true rfl⟩) rfl rfl (Nat.le_of_ble_eq_true rfl) dL_isJudged_48 (by exact hcs) (fun H locs hP hS => ?_)
      refine lv_iload_n hx hb dL_isJudged_51 rfl (lv_at hl 3 rfl) ?_
      refine lv_iconst (v := nI 3) hx hb dL_isJudged_52 (by decide) ?_
      refine lv_ishr hx hb dL_isJudged_53 ?_
      refine lv_iconst (v := nI 4) hx hb dL_isJudged_54 (by decide) ?_
      refine L_s0 (as := [.int (a >>> ((nI 3) &&& 31)), .int (nI 4)]) (rest := [.int (nI (u_p a 6)), .int (nI (u_p b 300)), .ref y0]) hF hE hA hP hS hl.1 (c_L_up l D (tyL I C Q) (a >>> ((nI 3) &&& 31)) 4 (by decide) (by decide)) (va_cwS 2 hts gL_isJudged_L_up rfl rfl rfl (by decide +kernel) ⟨Nat.le_of_ble_eq_true rfl, Nat.le_of_ble_eq_true rfl⟩) rfl rfl (Nat.le_of_ble_eq_true rfl) dL_isJudged_55 (by exact hcs) (fun H locs hP hS => ?_)
      refine L_rd (as := [.int (nI (u_p b 300)), .int (nI (u_p a 6)), .int (nI (u_p (a >>> ((nI 3) &&& 31)) 4))]) (rest := []) hF hE hA hP hD hS (uX_0 I C Q y0 x0).choose_spec hl.1 (rd_judge l D I C Q y0 (u_p b 300) (nI (u_p a 6)) (nI (u_p (a >>> (nI 3 &&& 31)) 4)) hG0 ht hkey hx3) (cwV 3 hts gL_isJudged_X8_judge rfl rfl rfl (by decide +kernel) ⟨Nat.le_of_ble_eq_true rfl, Nat.le_of_ble_eq_true rfl⟩) rfl rfl (Nat.le_of_ble_eq_true rfl) dL_isJudged_58 (by exact hcs) (fun H locs hP hD hS => ?_)
      rw [← hJ]
      refine lv_istore (lv' := [(5, .int J), (4, .int (nI (u_p b 300))), (3, .int (nI i)), (0, .ref y0), (1, .int a), (2, .int b)]) hx hb dL_isJudged_61 hl (by decide) rfl (fun ls hl => ?_)
      refine lv_aload_n hx hb dL_isJudged_63 rfl (lv_at hl 3 rfl) ?_
      refine lv_iload_n hx hb dL_isJudged_64 rfl (lv_at hl 2 rfl) ?_
      refine lv_iload hx hb dL_isJudged_65 (lv_at hl 1 rfl) ?_
      refine lv_iload_n hx hb dL_isJudged_67 rfl (lv_at hl 4 rfl) ?_
      refine lv_bipush (v := nI 6) hx hb dL_isJudged_68 (by decide) ?_
      refine L_s0 (as := [.int a, .int (nI 6)]) (rest := [.int (nI (u_p b 300)), .int (nI i), .ref y0]) hF hE hA hP hS hl.1 (c_L_up l D (tyL I C Q) a 6 (by decide) (by decide)) (va_cwS 2 hts gL_isJudged_L_up rfl rfl rfl (by decide +kernel) ⟨Nat.le_of_ble_eq_true rfl, Nat.le_of_ble_eq_true rfl⟩) rfl rfl (Nat.le_of_ble_eq_true rfl) dL_isJudged_70 (by exact hcs) (fun H locs hP hS => ?_)
      refine lv_iconst (v := nI 3) hx hb dL_isJudged_73 (by decide) ?_
      refine lv_iload_n hx hb dL_isJudged_74 rfl (lv_at hl 4 rfl) ?_
      refine lv_iconst (v := nI 3) hx hb dL_isJudged_75 (by decide) ?_
      refine lv_ishr hx hb dL_isJudged_76 ?_
      refine lv_iconst (v := nI 4) hx hb dL_isJudged_77 (by decide) ?_
      refine L_s0 (as := [.int (a >>> ((nI 3) &&& 31)), .int (nI 4)]) (rest := [.int (nI 3), .int (nI (u_p a 6)), .int (nI (u_p b 300)), .int (nI i), .ref y0]) hF hE hA hP hS hl.1 (c_L_up l D (tyL I C Q) (a >>> ((nI 3) &&& 31)) 4 (by decide) (by decide)) (va_cwS 2 hts gL_isJudged_L_up rfl rfl rfl (by decide +kernel) ⟨Nat.le_of_ble_eq_true rfl, Nat.le_of_ble_eq_true rfl⟩) rfl rfl (Nat.le_of_ble_eq_true rfl) dL_isJudged_78 (by exact hcs) (fun H locs hP hS => ?_)
      refine L_ch (as := [.int (nI i), .int (nI (u_p b 300)), .int (nI (u_p a 6)), .int (nI 3), .int (nI (u_p (a >>> ((nI 3) &&& 31)) 4))]) (rest := []) hF hE hA hP hD hS (uX_0 I C Q y0 x0).choose_spec hl.1 (uY_event l D I C Q y0 (nI i) (nI (u_p b 300)) (nI (u_p a 6)) (nI 3) (nI (u_p (a >>> (nI 3 &&& 31)) 4)) hG0) (cwV 5 hts gL_isJudged_X8_event rfl rfl rfl (by decide +kernel) ⟨Nat.le_of_ble_eq_true rfl, Nat.le_of_ble_eq_true rfl⟩) rfl rfl (Nat.le_of_ble_eq_true rfl) dL_isJudged_81 (by exact hcs13) (fun H locs r w1 hr hP hD hS => ?_)
      obtain ⟨hr1, x1, rfl, hst⟩ := hr
      rw [hf] at hr1 hst
      have hr1 : r = J := hr1
      have hst : u_st x0 (some v') x1 := hst
      have hG1 : uG x1 := uG_st (R := f_evt x0.2.1 (nI i) (nI (u_p b 300)) (nI (u_p a 6)) (nI 3) (nI (u_p (a >>> (nI 3 &&& 31)) 4))) hG0 (f_evt_good hG0.1 _ _ _ _ _) (by rw [hf]; exact hst)
      have e1 : x1.2.1 = v' := (u_st_some hst).1
      obtain ⟨x2, e2, hG2, n2, n2r, n0, n4, hU⟩ := uY_back l D I C Q y0 hG0 hG1 hst
      have hcsB : 0 + 13 ≤ rmJ.cells ∧ 0 + 1166 ≤ rmJ.slots := hcs13
      have hcsC : 0 + 13 + 0 ≤ rmJ.cells ∧ 0 + 1166 + 0 ≤ rmJ.slots := hcs13
      rw [hr1]
      refine lv_iload hx hb dL_isJudged_84 (lv_at hl 0 rfl) ?_
      refine lv_icmp_ne (tgt := 104) hx hb dL_isJudged_86 (by decide) (fun c_86 => ?_) (fun c_86 => ?_)
      · exact absurd rfl c_86
      · refine lv_aload_n hx hb dL_isJudged_89 rfl (lv_at hl 3 rfl) ?_
        refine lv_iload_n hx hb dL_isJudged_90 rfl (lv_at hl 2 rfl) ?_
        refine lv_iconst (v := nI 4) hx hb dL_isJudged_91 (by decide) ?_
        refine L_rd (as := [.int (nI i), .int (nI 4)]) (rest := []) hF hE hA hP hD hS (uX_0 I C Q y0 x1).choose_spec hl.1 (rd_eventOf l D I C Q y0 i 4 hG1 (by omega) (by omega)) (cwV 2 hts gL_isJudged_X8_eventOf rfl rfl rfl (by decide +kernel) ⟨Nat.le_of_ble_eq_true rfl, Nat.le_of_ble_eq_true rfl⟩) rfl rfl (Nat.le_of_ble_eq_true rfl) dL_isJudged_92 (by exact hcsB) (fun H locs hP hD hS => ?_)
        refine k_top (y := J) (by rw [e1]; exact hev4) ?_
        refine lv_iload hx hb dL_isJudged_95 (lv_at hl 0 rfl) ?_
        refine lv_icmp_ne (tgt := 104) hx hb dL_isJudged_97 (by decide) (fun c_97 => ?_) (fun c_97 => ?_)
        · exact absurd rfl c_97
        · refine lv_iconst (v := nI 1) hx hb dL_isJudged_100 (by decide) ?_
          refine lv_goto (tgt := 105) hx hb dL_isJudged_101 (by decide) ?_
          refine lv_istore (lv' := [(6, .int (nI 1)), (5, .int J), (4, .int (nI (u_p b 300))), (3, .int (nI i)), (0, .ref y0), (1, .int a), (2, .int b)]) hx hb dL_isJudged_105 hl (by decide) rfl (fun ls hl => ?_)
          refine lv_aload_n hx hb dL_isJudged_107 rfl (lv_at hl 4 rfl) ?_
          refine L_ch (as := []) (rest := []) hF hE hA hP hD hS (uX_0 I C Q y0 x1).choose_spec hl.1 hU (cwV 0 hts gL_isJudged_X8_undo rfl rfl rfl (by decide +kernel) ⟨Nat.le_of_ble_eq_true rfl, Nat.le_of_ble_eq_true rfl⟩) rfl rfl (Nat.le_of_ble_eq_true rfl) dL_isJudged_108 (by exact hcsB) (fun H locs r w1 hr hP hD hS => ?_)
          obtain ⟨rfl, rfl⟩ := hr
          refine lv_pop hx hb dL_isJudged_111 rfl ?_
          refine lv_iload hx hb dL_isJudged_112 (lv_at hl 0 rfl) ?_
          refine lv_if_eq (tgt := 132) hx hb dL_isJudged_114 (by decide) (fun c_114 => ?_) (fun c_114 => ?_)
          · exact absurd c_114 (by decide)
          · refine lv_aload_n hx hb dL_isJudged_117 rfl (lv_at hl 4 rfl) ?_
            refine lv_iload_n hx hb dL_isJudged_118 rfl (lv_at hl 3 rfl) ?_
            refine lv_iconst (v := nI 4) hx hb dL_isJudged_119 (by decide) ?_
            refine L_rd (as := [.int (nI i), .int (nI 4)]) (rest := []) hF hE hA hP hD hS (uX_0 I C Q y0 x2).choose_spec hl.1 (rd_eventOf l D I C Q y0 i 4 hG2 (by omega) (by omega)) (cwV 2 hts gL_isJudged_X8_eventOf rfl rfl rfl (by decide +kernel) ⟨Nat.le_of_ble_eq_true rfl, Nat.le_of_ble_eq_true rfl⟩) rfl rfl (Nat.le_of_ble_eq_true rfl) dL_isJudged_120 (by exact hcsC) (fun H locs hP hD hS => ?_)
            refine k_top (y := (-1000004)) (by rw [e2, q_evo, e_rd, hn, if_pos rfl]) ?_
            refine lv_ldc hx hb hown (hts (.constant RL 62 (-1000004)) (List.mem_of_getElem? (i := 1) rfl)) dL_isJudged_123 ?_
            refine lv_icmp_ne (tgt := 132) hx hb dL_isJudged_125 (by decide) (fun c_125 => ?_) (fun c_125 => ?_)
            · exact absurd rfl c_125
            · refine lv_iconst (v := nI 1) hx hb dL_isJudged_128 (by decide) ?_
              refine lv_goto (tgt := 133) hx hb dL_isJudged_129 (by decide) ?_
              exact hend _ _ _ _ _ _ hP hD hS dL_isJudged_133 rfl ⟨rfl, x2, rfl, hG2, e2⟩
    · exact absurd ((nI_eq (a := i) (b := 64) (by omega) (by omega)).mp c_28) (by omega)
