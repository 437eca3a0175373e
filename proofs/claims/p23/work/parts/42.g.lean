/-! closed cases, as a sum: by rows, by panes -/
def q_cr (v : CV) : Nat → Nat → Int64 → Int64
  | 0, _, a => a
  | n + 1, r, a => q_cr v n (r + 1) (if q_pof v r 0 = 3 then 31 * (31 * a + (q_pn v r).toInt64) + (q_pof v r 2).toInt64 else a)
def q_cp (pn : Nat → Int32) (u : Nat) : Nat → Nat → Int64 → Int64
  | 0, _, a => a
  | n + 1, q, a => q_cp pn u n (q + 1) (if v_c pn u q 0 = 3 then 31 * (31 * a + (nI q).toInt64) + (v_c pn u q 2).toInt64 else a)
def q_case (v : CV) : Int64 := q_cr v (q_u v) 0 7
theorem q_pof03 {v : CV} {r : Nat} (hs : sOk (aPn (cS v)) (q_u v)) (hr : r < q_u v) : q_pof v r 0 = 3 ↔ v_c (aPn (cS v)) (q_u v) (r_p (aPn (cS v)) r) 0 = 3 := by
  rw [q_pof_v hs hr, if_pos rfl, c_state_v]
  by_cases h : v_c (aPn (cS v)) (q_u v) (r_p (aPn (cS v)) r) 0 = 0
  · rw [if_pos h, h]
    constructor
    · intro h2
      split at h2
      · exact absurd h2 (by decide)
      · exact absurd h2 (by decide)
    · intro h2; exact absurd h2 (by decide)
  · rw [if_neg h]
theorem q_cr_cp {v : CV} (hs : sOk (aPn (cS v)) (q_u v)) : ∀ (n q r m : Nat) (a : Int64), q + n = 2000 → r + m = q_u v → (∀ j, j < r → r_p (aPn (cS v)) j < q) → (∀ j, r ≤ j → j < q_u v → q ≤ r_p (aPn (cS v)) j) → q_cr v m r a = q_cp (aPn (cS v)) (q_u v) n q a
  | 0, q, r, m, a, hq, hm, h1, h2 => by
    have hm0 : m = 0 := by
      rcases Nat.eq_zero_or_pos m with e | e
      · exact e
      · have := h2 r (Nat.le_refl _) (by omega)
        have h3 := (r_p_at hs (show r < q_u v by omega)).1
        omega
    rw [hm0]; rfl
  | n + 1, q, r, m, a, hq, hm, h1, h2 => by
    by_cases c : r < q_u v ∧ r_p (aPn (cS v)) r = q
    · obtain ⟨hr, e⟩ := c
      obtain ⟨m', rfl⟩ : ∃ m', m = m' + 1 := ⟨m - 1, by omega⟩
      obtain ⟨q1, q2, q3, q4⟩ := r_p_at hs hr
      rw [q_cr, q_cp]
      have e3 := q_pof03 hs hr
      have e2 : q_pof v r 2 = v_c (aPn (cS v)) (q_u v) q 2 := by rw [q_pof_v hs hr, if_neg (by omega), if_neg (fun h => by omega), e]
      have en : q_pn v r = nI q := by rw [q_pn, q2, e]
      rw [e] at e3
      have ih := fun a' => q_cr_cp hs n (q + 1) (r + 1) m' a' (by omega) (by omega) (fun j hj => by
        by_cases hjr : j = r
        · rw [hjr, e]; omega
        · have := h1 j (by omega); omega) (fun j hj hju => by
        have := r_p_lt hs (show r < j by omega) hju
        omega)
      by_cases c3 : v_c (aPn (cS v)) (q_u v) q 0 = 3
      · rw [if_pos c3, if_pos (e3.mpr c3), e2, en]; exact ih _
      · rw [if_neg c3, if_neg (fun h => c3 (e3.mp h))]; exact ih _
    · have hne : ∀ j, j < q_u v → r_p (aPn (cS v)) j ≠ q := fun j hj e => by
        by_cases hjr : j < r
        · have := h1 j hjr; omega
        · by_cases hjr2 : j = r
          · exact c ⟨by omega, by rw [← hjr2]; exact e⟩
          · have h3 := r_p_lt hs (show r < j by omega) hj
            have := h2 r (Nat.le_refl _) (by omega)
            omega
      have hn : ¬ v_ce (aPn (cS v)) (q_u v) q := fun h => by
        obtain ⟨j, j1, j2⟩ := (v_ce_r hs (by omega)).mp h
        exact hne j j1 j2
      have h0 : ¬ v_c (aPn (cS v)) (q_u v) q 0 = 3 := by rw [v_c_out hn]; decide
      rw [q_cp, if_neg h0]
      exact q_cr_cp hs n (q + 1) r m a (by omega) hm (fun j hj => by have := h1 j hj; omega) (fun j hj hju => by
        have h3 := h2 j hj hju
        have := hne j hju
        omega)
theorem q_cp_cong {pn pn' : Nat → Int32} {u u' : Nat} (h : ∀ q, q < 2000 → (v_c pn' u' q 0 = 3 ↔ v_c pn u q 0 = 3) ∧ (v_c pn u q 0 = 3 → v_c pn' u' q 2 = v_c pn u q 2)) : ∀ (n q : Nat) (a : Int64), q + n ≤ 2000 → q_cp pn' u' n q a = q_cp pn u n q a
  | 0, _, _, _ => rfl
  | n + 1, q, a, hq => by
    rw [q_cp, q_cp]
    obtain ⟨h1, h2⟩ := h q (by omega)
    by_cases c : v_c pn u q 0 = 3
    · rw [if_pos c, if_pos (h1.mpr c), h2 c]; exact q_cp_cong h n (q + 1) _ (by omega)
    · rw [if_neg c, if_neg (fun h => c (h1.mp h))]; exact q_cp_cong h n (q + 1) _ (by omega)
/-- as long as no case is closed, the sum over the closed ones stays -/
theorem q_case_same {v v' : CV} (h : g_ok v) (h' : g_ok v') (hc : x_cl (aPn (cS v)) (q_u v) (aPn (cS v')) (q_u v')) (he : p_cc (aPn (cS v)) (q_u v) = p_cc (aPn (cS v')) (q_u v')) : q_case v' = q_case v := by
  have hs := h.2.1.1
  have hs' := h'.2.1.1
  have hq := (x_cl_cc hs hs' hc).2 he
  rw [q_case, q_case, q_cr_cp hs 2000 0 0 (q_u v) 7 (by omega) (by omega) (fun j hj => absurd hj (Nat.not_lt_zero j)) (fun j _ _ => Nat.zero_le _), q_cr_cp hs' 2000 0 0 (q_u v') 7 (by omega) (by omega) (fun j hj => absurd hj (Nat.not_lt_zero j)) (fun j _ _ => Nat.zero_le _)]
  exact q_cp_cong (fun q hq9 => ⟨hq q hq9, fun h3 => (hc q hq9 h3).2⟩) 2000 0 7 (by omega)
set_option maxHeartbeats 4000000 in
set_option maxRecDepth 100000 in
theorem c_L_cases (l : Launch) (D : va_G) (I C Q : ClassId) (y0 : Nat) {xx : LV} (hG : uG xx) : KL l D (tyL I C Q) yL_cases wsL_cases rmV [.ref y0, .int (nI 1999)] (uX I C Q y0 xx) (uX I C Q y0 xx) (q_case xx.2.1) := by
  refine KL.of (cc := cL_cases) (maxL := 5) (own := RL) (by decide) rfl rfl (Nat.le_of_ble_eq_true rfl) ?_
  intro p e s m below meth c A Q0 ls hx hb hml hown hts hE hA hP hD hS hl hend
  have hF : CallFix p m c cL_cases 5 s ([.ref y0, .int (nI 1999)] : List Value).toArray wsL_cases RL := ⟨hx, hb, hml, hown, hts⟩
  obtain ⟨fs, h0⟩ := uX_0 I C Q y0 xx
  have hcs : 0 ≤ (rmV).cells ∧ 0 ≤ (rmV).slots := ⟨Nat.zero_le _, Nat.zero_le _⟩
  obtain ⟨hs, hu64, hw40⟩ := uG_rows hG
  have hl : lv_has ls 5 [(0, .ref y0), (1, .int (nI 1999))] := hl
  have L11 : ∀ (n r : Nat) (a : Int64) (H : Heap) (locs : List Loc) (ls : Array Slot), r + n = q_u xx.2.1 → va_P D vwCl (uX I C Q y0 xx) H → va_D A (uX I C Q y0 xx) → va_S A s.heap H locs → lv_has ls 5 [(4, .int (q_nx (aPn (cS xx.2.1)) (q_u xx.2.1) r)), (2, .long a), (0, .ref y0), (1, .int (nI 1999))] → (∀ (H : Heap) (locs : List Loc) (ls : Array Slot), va_P D vwCl (uX I C Q y0 xx) H → va_D A (uX I C Q y0 xx) → va_S A s.heap H locs → lv_has ls 5 [(2, .long (q_cr xx.2.1 n r a)), (0, .ref y0)] → W p l e rmV s m ([.ref y0, .int (nI 1999)] : List Value).toArray below meth c H locs 0 0 Q0 (F0 m 71 ls [])) → W p l e rmV s m ([.ref y0, .int (nI 1999)] : List Value).toArray below meth c H locs 0 0 Q0 (F0 m 11 ls []) := by
    intro n
    induction n with
    | zero =>
      intro r a H locs ls hk hP hD hS hl kx
      have hnx := nx_neg (r := r) hs
      refine lv_iload hx hb dL_cases_11 (lv_at hl 0 rfl) ?_
      refine lv_if_lt (tgt := 71) hx hb dL_cases_13 (by decide) (fun c_13 => ?_) (fun c_13 => ?_)
      · exact kx H locs ls hP hD hS (lv_sub hl [1, 2] rfl)
      · exact absurd (hnx.resolve_left (fun h => c_13 h.1)).2.1 (by omega)
    | succ n ih =>
      intro r a H locs ls hk hP hD hS hl kx
      have hnx := nx_neg (r := r) hs
      refine lv_iload hx hb dL_cases_11 (lv_at hl 0 rfl) ?_
      refine lv_if_lt (tgt := 71) hx hb dL_cases_13 (by decide) (fun c_13 => ?_) (fun c_13 => ?_)
      · exact absurd (hnx.resolve_right (fun h => h.1 c_13)).2 (by omega)
      · obtain ⟨-, hru, hq9⟩ := hnx.resolve_left (fun h => c_13 h.1)
        rw [hq9] at hl
        obtain ⟨q1, q2, q3, q4⟩ := r_p_at hs hru
        refine lv_iload hx hb dL_cases_16 (lv_at hl 0 rfl) ?_
        refine lv_iload_n hx hb dL_cases_18 rfl (lv_at hl 3 rfl) ?_
        refine lv_icmp_gt (tgt := 71) hx hb dL_cases_19 (by decide) (fun c_19 => ?_) (fun c_19 => ?_)
        · rw [q2] at c_19
          exact absurd ((nI_ltI (a := 1999) (b := r_p (aPn (cS xx.2.1)) r) (by omega) (by omega)).mp c_19) (by omega)
        · refine lv_aload_n hx hb dL_cases_22 rfl (lv_at hl 2 rfl) ?_
          refine lv_iload hx hb dL_cases_23 (lv_at hl 0 rfl) ?_
          refine lv_iconst (v := nI 0) hx hb dL_cases_25 (by decide) ?_
          refine L_rd (as := [.int (q_pn xx.2.1 r), .int (nI 0)]) (rest := []) hF hE hA hP hD hS h0 hl.1 (rd_paneOf l D I C Q y0 r 0 hG hru (by omega)) (cwV 2 hts gL_cases_X8_paneOf rfl rfl rfl (by decide +kernel) ⟨Nat.le_of_ble_eq_true rfl, Nat.le_of_ble_eq_true rfl⟩) rfl rfl (Nat.le_of_ble_eq_true rfl) dL_cases_26 hcs (fun H locs hP hD hS => ?_)
          refine lv_iconst (v := nI 3) hx hb dL_cases_29 (by decide) ?_
          refine lv_icmp_eq (tgt := 37) hx hb dL_cases_30 (by decide) (fun c_30 => ?_) (fun c_30 => ?_)
          · refine lv_ldc2 hx hb hown (hts (.constantLong RL 11 (31)) (List.mem_of_getElem? (i := 2) rfl)) dL_cases_37 ?_
            refine lv_ldc2 hx hb hown (hts (.constantLong RL 11 (31)) (List.mem_of_getElem? (i := 2) rfl)) dL_cases_40 ?_
            refine lv_lload_n hx hb dL_cases_43 rfl (lv_at hl 1 rfl) ?_
            refine lv_lmul hx hb dL_cases_44 ?_
            refine lv_iload hx hb dL_cases_45 (lv_at hl 0 rfl) ?_
            refine lv_i2l (v := (q_pn xx.2.1 r).toInt64) hx hb dL_cases_47 rfl ?_
            refine lv_ladd hx hb dL_cases_48 ?_
            refine lv_lmul hx hb dL_cases_49 ?_
            refine lv_aload_n hx hb dL_cases_50 rfl (lv_at hl 2 rfl) ?_
            refine lv_iload hx hb dL_cases_51 (lv_at hl 0 rfl) ?_
            refine lv_iconst (v := nI 2) hx hb dL_cases_53 (by decide) ?_
            refine L_rd (as := [.int (q_pn xx.2.1 r), .int (nI 2)]) (rest := [.long (31 * ((31 * a) + ((q_pn xx.2.1 r).toInt64)))]) hF hE hA hP hD hS h0 hl.1 (rd_paneOf l D I C Q y0 r 2 hG hru (by omega)) (cwV 2 hts gL_cases_X8_paneOf rfl rfl rfl (by decide +kernel) ⟨Nat.le_of_ble_eq_true rfl, Nat.le_of_ble_eq_true rfl⟩) rfl rfl (Nat.le_of_ble_eq_true rfl) dL_cases_54 hcs (fun H locs hP hD hS => ?_)
            refine lv_i2l (v := (q_pof xx.2.1 r 2).toInt64) hx hb dL_cases_57 rfl ?_
            refine lv_ladd hx hb dL_cases_58 ?_
            refine lv_lstore_n (lv' := [(2, .long ((31 * ((31 * a) + ((q_pn xx.2.1 r).toInt64))) + ((q_pof xx.2.1 r 2).toInt64))), (4, .int (q_pn xx.2.1 r)), (0, .ref y0), (1, .int (nI 1999))]) hx hb dL_cases_59 rfl hl (by decide) rfl (fun ls hl => ?_)
            refine lv_aload_n hx hb dL_cases_60 rfl (lv_at hl 2 rfl) ?_
            refine lv_iload hx hb dL_cases_61 (lv_at hl 1 rfl) ?_
            refine L_rd (as := [.int (q_pn xx.2.1 r)]) (rest := []) hF hE hA hP hD hS h0 hl.1 (rd_nextP l D I C Q y0 r hG hru) (cwV 1 hts gL_cases_X8_nextPane rfl rfl rfl (by decide +kernel) ⟨Nat.le_of_ble_eq_true rfl, Nat.le_of_ble_eq_true rfl⟩) rfl rfl (Nat.le_of_ble_eq_true rfl) dL_cases_63 hcs (fun H locs hP hD hS => ?_)
            refine lv_istore (lv' := [(4, .int (q_nx (aPn (cS xx.2.1)) (q_u xx.2.1) (r + 1))), (2, .long ((31 * ((31 * a) + ((q_pn xx.2.1 r).toInt64))) + ((q_pof xx.2.1 r 2).toInt64))), (0, .ref y0), (1, .int (nI 1999))]) hx hb dL_cases_66 hl (by decide) rfl (fun ls hl => ?_)
            refine lv_goto (tgt := 11) hx hb dL_cases_68 (by decide) ?_
            have c_30 : q_pof xx.2.1 r 0 = 3 := c_30
            refine ih (r + 1) _ H locs ls (by omega) hP hD hS (lv_sub hl [0, 1, 2, 3] rfl) (fun H locs ls hP hD hS hl => kx H locs ls hP hD hS (by rw [q_cr, if_pos c_30]; exact hl))
          · refine lv_lload_n hx hb dL_cases_33 rfl (lv_at hl 1 rfl) ?_
            refine lv_goto (tgt := 59) hx hb dL_cases_34 (by decide) ?_
            refine lv_lstore_n (lv' := [(2, .long a), (4, .int (q_pn xx.2.1 r)), (0, .ref y0), (1, .int (nI 1999))]) hx hb dL_cases_59 rfl hl (by decide) rfl (fun ls hl => ?_)
            refine lv_aload_n hx hb dL_cases_60 rfl (lv_at hl 2 rfl) ?_
            refine lv_iload hx hb dL_cases_61 (lv_at hl 1 rfl) ?_
            refine L_rd (as := [.int (q_pn xx.2.1 r)]) (rest := []) hF hE hA hP hD hS h0 hl.1 (rd_nextP l D I C Q y0 r hG hru) (cwV 1 hts gL_cases_X8_nextPane rfl rfl rfl (by decide +kernel) ⟨Nat.le_of_ble_eq_true rfl, Nat.le_of_ble_eq_true rfl⟩) rfl rfl (Nat.le_of_ble_eq_true rfl) dL_cases_63 hcs (fun H locs hP hD hS => ?_)
            refine lv_istore (lv' := [(4, .int (q_nx (aPn (cS xx.2.1)) (q_u xx.2.1) (r + 1))), (2, .long a), (0, .ref y0), (1, .int (nI 1999))]) hx hb dL_cases_66 hl (by decide) rfl (fun ls hl => ?_)
            refine lv_goto (tgt := 11) hx hb dL_cases_68 (by decide) ?_
            have c_30 : ¬ q_pof xx.2.1 r 0 = 3 := c_30
            refine ih (r + 1) _ H locs ls (by omega) hP hD hS (lv_sub hl [0, 1, 2, 3] rfl) (fun H locs ls hP hD hS hl => kx H locs ls hP hD hS (by rw [q_cr, if_neg c_30]; exact hl))
  refine lv_ldc2 hx hb hown (hts (.constantLong RL 9 (7)) (List.mem_of_getElem? (i := 1) rfl)) dL_cases_0 ?_
  refine lv_lstore_n (lv' := [(2, .long 7), (0, .ref y0), (1, .int (nI 1999))]) hx hb dL_cases_3 rfl hl (by decide) rfl (fun ls hl => ?_)
  refine lv_aload_n hx hb dL_cases_4 rfl (lv_at hl 1 rfl) ?_
  refine lv_iconst (v := (-1 : Int32)) hx hb dL_cases_5 (by decide) ?_
  refine L_rd (as := [.int (-1)]) (rest := []) hF hE hA hP hD hS h0 hl.1 (rd_next0 l D I C Q y0 hG) (cwV 1 hts gL_cases_X8_nextPane rfl rfl rfl (by decide +kernel) ⟨Nat.le_of_ble_eq_true rfl, Nat.le_of_ble_eq_true rfl⟩) rfl rfl (Nat.le_of_ble_eq_true rfl) dL_cases_6 hcs (fun H locs hP hD hS => ?_)
  refine lv_istore (lv' := [(4, .int (q_nx (aPn (cS xx.2.1)) (q_u xx.2.1) 0)), (2, .long 7), (0, .ref y0), (1, .int (nI 1999))]) hx hb dL_cases_9 hl (by decide) rfl (fun ls hl => ?_)
  refine L11 (q_u xx.2.1) 0 _ _ _ ls (by omega) hP hD hS (lv_sub hl [0, 1, 2, 3] rfl) (fun H locs ls hP hD hS hl => ?_)
  refine lv_lload_n hx hb dL_cases_71 rfl (lv_at hl 0 rfl) ?_
  exact hend _ _ _ _ _ _ hP hD hS dL_cases_72 rfl rfl
