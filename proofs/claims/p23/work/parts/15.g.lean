set_option maxHeartbeats 400000 in
set_option maxRecDepth 100000 in
theorem c_X4_words (l : Launch) (D : va_G) (I C Q : ClassId) (p0 p1 p2 w0 w1 w2 : Nat) (pn : Nat → Int32) (us : Int32) (wd : Nat → Int32) (kp : Int32) (tl : Int32) (tk : Int32) : KR l D (tyL I C Q) yX4_words wsX4_words { frames := 0, cells := 0, slots := 0, locals := 0 } [.ref p0] (wPn I p0 p1 p2 w0 w1 w2 pn us wd kp tl tk) (wPn I p0 p1 p2 w0 w1 w2 pn us wd kp tl tk) w0 := by
  refine KR.of (cc := cX4_words) (maxL := 1) (rt := (.object "LateExcuses$Words")) (own := RX4) (by decide) rfl rfl (Nat.le_of_ble_eq_true rfl) (Or.inl ⟨_, rfl⟩) ?_
  intro p e s m below meth c A Q0 ls hx hb hml hown hts hE hA hP hD hS hl hend
  have hK := hE.1
  have hF : CallFix p m c cX4_words 1 s [.ref p0].toArray wsX4_words RX4 := ⟨hx, hb, hml, hown, hts⟩
  have k0 := hts (.fieldLink RX4 23 "LateExcuses$Panes" "words" "LLateExcuses$Words;") (List.mem_of_getElem? (i := 1) rfl)
  have u4 : ∀ w ∈ u_ws RX4 TX4 3, w ∈ wsX4_words := by decide +kernel
  have hl : lv_has ls 1 [(0, .ref p0)] := hl
  refine lv_aload_n hx hb dX4_words_0 rfl (lv_at hl 0 rfl) ?_
  refine va_get (D := D) (ci := 4) (v := .ref w0) (C := RX4) (T := TX4) (N := 3) hx hb hts u4 hown hK hP 0 rfl rfl 1 (by decide) k0 (fun _ h9 => h9) rfl dX4_words_1 ?_
  exact hend _ _ _ _ _ _ hP hD hS dX4_words_4 rfl rfl
set_option maxHeartbeats 400000 in
set_option maxRecDepth 100000 in
theorem c_X4_rowOf (l : Launch) (D : va_G) (I C Q : ClassId) (p0 p1 p2 w0 w1 w2 : Nat) (pn : Nat → Int32) (u : Nat) (wd : Nat → Int32) (kp : Int32) (tl : Int32) (tk : Int32) (q : Int32) (hu64 : u ≤ 64) : KI l D (tyL I C Q) yX4_rowOf wsX4_rowOf { frames := 1, cells := 0, slots := 0, locals := 23 } [.ref p0, .int q] (wPn I p0 p1 p2 w0 w1 w2 pn (nI u) wd kp tl tk) (wPn I p0 p1 p2 w0 w1 w2 pn (nI u) wd kp tl tk) (p_row pn q u) := by
  refine KI.of (cc := cX4_rowOf) (maxL := 3) (rt := .int) (own := RX4) (by decide) rfl rfl (Nat.le_of_ble_eq_true rfl) ?_
  intro p e s m below meth c A Q0 ls hx hb hml hown hts hE hA hP hD hS hl hend
  have hK := hE.1
  have hF : CallFix p m c cX4_rowOf 3 s [.ref p0, .int q].toArray wsX4_rowOf RX4 := ⟨hx, hb, hml, hown, hts⟩
  have k0 := hts (.fieldLink RX4 34 "LateExcuses$Panes" "used" "I") (List.mem_of_getElem? (i := 1) rfl)
  have k1 := hts (.fieldLink RX4 16 "LateExcuses$Panes" "rows" "LLateExcuses$Table;") (List.mem_of_getElem? (i := 2) rfl)
  have u4 : ∀ w ∈ u_ws RX4 TX4 3, w ∈ wsX4_rowOf := by decide +kernel
  have hl : lv_has ls 3 [(0, .ref p0), (1, .int q)] := hl
  refine lv_iconst (v := 0) hx hb dX4_rowOf_0 (by decide) ?_
  refine lv_istore_n (lv' := [(2, .int 0), (0, .ref p0), (1, .int q)]) hx hb dX4_rowOf_1 rfl hl (by decide) rfl (fun ls hl => ?_)
  have loop2 : ∀ (n : Nat) (k : Nat), (k + n = u) → ∀ (H : Heap) (locs : List Loc) (ls : Array Slot), va_P D vwCl (wPn I p0 p1 p2 w0 w1 w2 pn (nI u) wd kp tl tk) H → va_D A (wPn I p0 p1 p2 w0 w1 w2 pn (nI u) wd kp tl tk) → va_S A s.heap H locs → lv_has ls 3 [(0, .ref p0), (1, .int q), (2, .int (nI k))] → (p_rkL pn q n k = p_rk pn q u) → W p l e ({ frames := 1, cells := 0, slots := 0, locals := 23 } : Room) s m [.ref p0, .int q].toArray below meth c H locs 0 0 Q0 (F0 m 2 ls []) := by
    intro n
    induction n with
    | zero =>
      intro k hk H locs ls hP hD hS hl hr
      refine lv_iload_n hx hb dX4_rowOf_2 rfl (lv_at hl 2 rfl) ?_
      refine lv_aload_n hx hb dX4_rowOf_3 rfl (lv_at hl 0 rfl) ?_
      refine va_get (D := D) (ci := 4) (v := .int (nI u)) (C := RX4) (T := TX4) (N := 3) hx hb hts u4 hown hK hP 0 rfl rfl 2 (by decide) k0 (fun _ h9 => h9) rfl dX4_rowOf_4 ?_
      refine lv_icmp_ge (tgt := 32) hx hb dX4_rowOf_7 (by decide) (fun c_7 => ?_) (fun c_7 => ?_)
      · refine lv_iconst (v := (-1)) hx hb dX4_rowOf_32 (by decide) ?_
        exact hend _ _ _ _ _ _ hP hD hS dX4_rowOf_33 rfl rfl (by rw [p_rkL] at hr; simp  [p_row, ← hr]; omega)
      · exact absurd ((nI_leI (a := u) (b := k) (by omega) (by omega)).mpr (by omega)) c_7
    | succ n ih =>
      intro k hk H locs ls hP hD hS hl hr
      refine lv_iload_n hx hb dX4_rowOf_2 rfl (lv_at hl 2 rfl) ?_
      refine lv_aload_n hx hb dX4_rowOf_3 rfl (lv_at hl 0 rfl) ?_
      refine va_get (D := D) (ci := 4) (v := .int (nI u)) (C := RX4) (T := TX4) (N := 3) hx hb hts u4 hown hK hP 0 rfl rfl 2 (by decide) k0 (fun _ h9 => h9) rfl dX4_rowOf_4 ?_
      refine lv_icmp_ge (tgt := 32) hx hb dX4_rowOf_7 (by decide) (fun c_7 => ?_) (fun c_7 => ?_)
      · exact absurd ((nI_leI (a := u) (b := k) (by omega) (by omega)).mp c_7) (by omega)
      · refine lv_aload_n hx hb dX4_rowOf_10 rfl (lv_at hl 0 rfl) ?_
        refine va_get (D := D) (ci := 4) (v := .ref p1) (C := RX4) (T := TX4) (N := 3) hx hb hts u4 hown hK hP 0 rfl rfl 0 (by decide) k1 (fun _ h9 => h9) rfl dX4_rowOf_11 ?_
        refine lv_iload_n hx hb dX4_rowOf_14 rfl (lv_at hl 2 rfl) ?_
        refine lv_bipush (v := 7) hx hb dX4_rowOf_15 (by decide) ?_
        have hPc := hP.sub (ws' := (wT I p1 p2 64 8 pn)) [1, 2] rfl
        have hDc := hD.sub (ws' := (wT I p1 p2 64 8 pn)) [1, 2] (by decide) rfl
        refine k_i (wr := [(p0, .inr (4, [.ref p1, .ref w0, .int (nI u)])), (w0, .inr (7, [.ref w1, .int kp, .int tl, .int tk])), (w1, .inr (5, [.int (nI 40), .int (nI 4), .ref w2])), (w2, .inl (I, 40 * 4, .inl wd))]) (ws' := (wPn I p0 p1 p2 w0 w1 w2 pn (nI u) wd kp tl tk)) (va_runV (As := [.int (nI k), .int 7]) (rest := []) hF (c_X5_get l D I C Q p1 p2 64 8 pn k 7 (by omega) (by omega) (by omega) (by omega) (by omega) _) (cwV 2 hts gX4_rowOf_X5_get rfl rfl rfl (by decide +kernel) ⟨Nat.le_of_ble_eq_true rfl, Nat.le_of_ble_eq_true rfl⟩) (kPreV hE hPc hDc (ci := 5) (q0 := 0) rfl rfl) rfl rfl hl.1 rfl (lv_room (Nat.le_of_ble_eq_true rfl)) dX4_rowOf_17 ⟨Nat.zero_le _, Nat.zero_le _⟩) hP hD hS hA [1, 2] [0, 3, 4, 5] [0, 4, 5, 1, 2, 3] rfl rfl (by decide) (by decide) rfl (by decide) (fun H locs hP hD hS => ?_)
        refine lv_iload_n hx hb dX4_rowOf_20 rfl (lv_at hl 1 rfl) ?_
        refine lv_icmp_ne (tgt := 26) hx hb dX4_rowOf_21 (by decide) (fun c_21 => ?_) (fun c_21 => ?_)
        · refine lv_iinc (v := nI (k + 1)) (lv' := [(2, .int (nI (k + 1))), (0, .ref p0), (1, .int q)]) hx hb dX4_rowOf_26 hl (k := 2) rfl (nI_inc k) (by decide) rfl (fun ls hl => ?_)
          refine lv_goto (tgt := 2) hx hb dX4_rowOf_29 (by decide) ?_
          exact ih (k + 1) (by omega) _ _ _ hP hD hS (lv_sub hl [1, 2, 0] rfl) (by rw [← hr]; simp +decide only [p_rkL, c_7, c_21, if_true, if_false, not_true_eq_false, not_false_eq_true, and_self, and_true, true_and, and_false, false_and, kn01, kn10, kn02, kn20, kn12, kn21, eq_self])
        · refine lv_iload_n hx hb dX4_rowOf_24 rfl (lv_at hl 2 rfl) ?_
          exact hend _ _ _ _ _ _ hP hD hS dX4_rowOf_25 rfl rfl (by rw [p_rkL, if_pos c_21] at hr; simp  [p_row, ← hr]; omega)
  exact loop2 u 0 (by omega) _ _ _ hP hD hS (lv_sub hl [1, 2, 0] rfl) rfl
set_option maxHeartbeats 400000 in
set_option maxRecDepth 100000 in
theorem c_X4_rowBehind (l : Launch) (D : va_G) (I C Q : ClassId) (p0 p1 p2 w0 w1 w2 : Nat) (pn : Nat → Int32) (u : Nat) (wd : Nat → Int32) (kp : Int32) (tl : Int32) (tk : Int32) (q : Int32) (hu64 : u ≤ 64) : KI l D (tyL I C Q) yX4_rowBehind wsX4_rowBehind { frames := 1, cells := 0, slots := 0, locals := 23 } [.ref p0, .int q] (wPn I p0 p1 p2 w0 w1 w2 pn (nI u) wd kp tl tk) (wPn I p0 p1 p2 w0 w1 w2 pn (nI u) wd kp tl tk) (nI (p_rb pn q u)) := by
  refine KI.of (cc := cX4_rowBehind) (maxL := 3) (rt := .int) (own := RX4) (by decide) rfl rfl (Nat.le_of_ble_eq_true rfl) ?_
  intro p e s m below meth c A Q0 ls hx hb hml hown hts hE hA hP hD hS hl hend
  have hK := hE.1
  have hF : CallFix p m c cX4_rowBehind 3 s [.ref p0, .int q].toArray wsX4_rowBehind RX4 := ⟨hx, hb, hml, hown, hts⟩
  have k0 := hts (.fieldLink RX4 34 "LateExcuses$Panes" "used" "I") (List.mem_of_getElem? (i := 1) rfl)
  have k1 := hts (.fieldLink RX4 16 "LateExcuses$Panes" "rows" "LLateExcuses$Table;") (List.mem_of_getElem? (i := 2) rfl)
  have u4 : ∀ w ∈ u_ws RX4 TX4 3, w ∈ wsX4_rowBehind := by decide +kernel
  have hl : lv_has ls 3 [(0, .ref p0), (1, .int q)] := hl
  refine lv_iconst (v := 0) hx hb dX4_rowBehind_0 (by decide) ?_
  refine lv_istore_n (lv' := [(2, .int 0), (0, .ref p0), (1, .int q)]) hx hb dX4_rowBehind_1 rfl hl (by decide) rfl (fun ls hl => ?_)
  have loop2 : ∀ (n : Nat) (k : Nat), (k + n = u) → ∀ (H : Heap) (locs : List Loc) (ls : Array Slot), va_P D vwCl (wPn I p0 p1 p2 w0 w1 w2 pn (nI u) wd kp tl tk) H → va_D A (wPn I p0 p1 p2 w0 w1 w2 pn (nI u) wd kp tl tk) → va_S A s.heap H locs → lv_has ls 3 [(0, .ref p0), (1, .int q), (2, .int (nI k))] → (p_rbL pn q n k = p_rb pn q u) → W p l e ({ frames := 1, cells := 0, slots := 0, locals := 23 } : Room) s m [.ref p0, .int q].toArray below meth c H locs 0 0 Q0 (F0 m 2 ls []) := by
    intro n
    induction n with
    | zero =>
      intro k hk H locs ls hP hD hS hl hr
      refine lv_iload_n hx hb dX4_rowBehind_2 rfl (lv_at hl 2 rfl) ?_
      refine lv_aload_n hx hb dX4_rowBehind_3 rfl (lv_at hl 0 rfl) ?_
      refine va_get (D := D) (ci := 4) (v := .int (nI u)) (C := RX4) (T := TX4) (N := 3) hx hb hts u4 hown hK hP 0 rfl rfl 2 (by decide) k0 (fun _ h9 => h9) rfl dX4_rowBehind_4 ?_
      refine lv_icmp_ge (tgt := 30) hx hb dX4_rowBehind_7 (by decide) (fun c_7 => ?_) (fun c_7 => ?_)
      · refine lv_iload_n hx hb dX4_rowBehind_30 rfl (lv_at hl 2 rfl) ?_
        exact hend _ _ _ _ _ _ hP hD hS dX4_rowBehind_31 rfl rfl (by rw [← hr]; rfl)
      · exact absurd ((nI_leI (a := u) (b := k) (by omega) (by omega)).mpr (by omega)) c_7
    | succ n ih =>
      intro k hk H locs ls hP hD hS hl hr
      refine lv_iload_n hx hb dX4_rowBehind_2 rfl (lv_at hl 2 rfl) ?_
      refine lv_aload_n hx hb dX4_rowBehind_3 rfl (lv_at hl 0 rfl) ?_
      refine va_get (D := D) (ci := 4) (v := .int (nI u)) (C := RX4) (T := TX4) (N := 3) hx hb hts u4 hown hK hP 0 rfl rfl 2 (by decide) k0 (fun _ h9 => h9) rfl dX4_rowBehind_4 ?_
      refine lv_icmp_ge (tgt := 30) hx hb dX4_rowBehind_7 (by decide) (fun c_7 => ?_) (fun c_7 => ?_)
      · exact absurd ((nI_leI (a := u) (b := k) (by omega) (by omega)).mp c_7) (by omega)
      · refine lv_aload_n hx hb dX4_rowBehind_10 rfl (lv_at hl 0 rfl) ?_
        refine va_get (D := D) (ci := 4) (v := .ref p1) (C := RX4) (T := TX4) (N := 3) hx hb hts u4 hown hK hP 0 rfl rfl 0 (by decide) k1 (fun _ h9 => h9) rfl dX4_rowBehind_11 ?_
        refine lv_iload_n hx hb dX4_rowBehind_14 rfl (lv_at hl 2 rfl) ?_
        refine lv_bipush (v := 7) hx hb dX4_rowBehind_15 (by decide) ?_
        have hPc := hP.sub (ws' := (wT I p1 p2 64 8 pn)) [1, 2] rfl
        have hDc := hD.sub (ws' := (wT I p1 p2 64 8 pn)) [1, 2] (by decide) rfl
        refine k_i (wr := [(p0, .inr (4, [.ref p1, .ref w0, .int (nI u)])), (w0, .inr (7, [.ref w1, .int kp, .int tl, .int tk])), (w1, .inr (5, [.int (nI 40), .int (nI 4), .ref w2])), (w2, .inl (I, 40 * 4, .inl wd))]) (ws' := (wPn I p0 p1 p2 w0 w1 w2 pn (nI u) wd kp tl tk)) (va_runV (As := [.int (nI k), .int 7]) (rest := []) hF (c_X5_get l D I C Q p1 p2 64 8 pn k 7 (by omega) (by omega) (by omega) (by omega) (by omega) _) (cwV 2 hts gX4_rowBehind_X5_get rfl rfl rfl (by decide +kernel) ⟨Nat.le_of_ble_eq_true rfl, Nat.le_of_ble_eq_true rfl⟩) (kPreV hE hPc hDc (ci := 5) (q0 := 0) rfl rfl) rfl rfl hl.1 rfl (lv_room (Nat.le_of_ble_eq_true rfl)) dX4_rowBehind_17 ⟨Nat.zero_le _, Nat.zero_le _⟩) hP hD hS hA [1, 2] [0, 3, 4, 5] [0, 4, 5, 1, 2, 3] rfl rfl (by decide) (by decide) rfl (by decide) (fun H locs hP hD hS => ?_)
        refine lv_iload_n hx hb dX4_rowBehind_20 rfl (lv_at hl 1 rfl) ?_
        refine lv_icmp_gt (tgt := 30) hx hb dX4_rowBehind_21 (by decide) (fun c_21 => ?_) (fun c_21 => ?_)
        · refine lv_iload_n hx hb dX4_rowBehind_30 rfl (lv_at hl 2 rfl) ?_
          exact hend _ _ _ _ _ _ hP hD hS dX4_rowBehind_31 rfl rfl (by rw [← hr]; simp +decide only [p_rbL, c_21, if_true, if_false, not_true_eq_false, not_false_eq_true, and_self, and_true, true_and, and_false, false_and, kn01, kn10, kn02, kn20, kn12, kn21, eq_self])
        · refine lv_iinc (v := nI (k + 1)) (lv' := [(2, .int (nI (k + 1))), (0, .ref p0), (1, .int q)]) hx hb dX4_rowBehind_24 hl (k := 2) rfl (nI_inc k) (by decide) rfl (fun ls hl => ?_)
          refine lv_goto (tgt := 2) hx hb dX4_rowBehind_27 (by decide) ?_
          exact ih (k + 1) (by omega) _ _ _ hP hD hS (lv_sub hl [1, 2, 0] rfl) (by rw [← hr]; simp +decide only [p_rbL, c_7, c_21, if_true, if_false, not_true_eq_false, not_false_eq_true, and_self, and_true, true_and, and_false, false_and, kn01, kn10, kn02, kn20, kn12, kn21, eq_self])
  exact loop2 u 0 (by omega) _ _ _ hP hD hS (lv_sub hl [1, 2, 0] rfl) rfl
set_option maxHeartbeats 400000 in
set_option maxRecDepth 100000 in
theorem c_X4_rowMadeFor (l : Launch) (D : va_G) (I C Q : ClassId) (p0 p1 p2 w0 w1 w2 : Nat) (pn : Nat → Int32) (u : Nat) (wd : Nat → Int32) (kp : Int32) (tl : Int32) (tk : Int32) (q : Int32) (hu64 : u ≤ 64) (hcap : ¬ p_rk pn q u < u → u < 64) : KI l D (tyL I C Q) yX4_rowMadeFor wsX4_rowMadeFor { frames := 2, cells := 0, slots := 0, locals := 64 } [.ref p0, .int q] (wPn I p0 p1 p2 w0 w1 w2 pn (nI u) wd kp tl tk) (wPn I p0 p1 p2 w0 w1 w2 (p_mp pn q u) (nI (p_mu pn q u)) wd kp tl tk) (nI (p_mr pn q u)) := by
  refine KI.of (cc := cX4_rowMadeFor) (maxL := 3) (rt := .int) (own := RX4) (by decide) rfl rfl (Nat.le_of_ble_eq_true rfl) ?_
  intro p e s m below meth c A Q0 ls hx hb hml hown hts hE hA hP hD hS hl hend
  have hK := hE.1
  have hF : CallFix p m c cX4_rowMadeFor 3 s [.ref p0, .int q].toArray wsX4_rowMadeFor RX4 := ⟨hx, hb, hml, hown, hts⟩
  have k0 := hts (.fieldLink RX4 34 "LateExcuses$Panes" "used" "I") (List.mem_of_getElem? (i := 1) rfl)
  have k1 := hts (.fieldLink RX4 16 "LateExcuses$Panes" "rows" "LLateExcuses$Table;") (List.mem_of_getElem? (i := 2) rfl)
  have u4 : ∀ w ∈ u_ws RX4 TX4 3, w ∈ wsX4_rowMadeFor := by decide +kernel
  have hl : lv_has ls 3 [(0, .ref p0), (1, .int q)] := hl
  refine lv_aload_n hx hb dX4_rowMadeFor_0 rfl (lv_at hl 0 rfl) ?_
  refine lv_iload_n hx hb dX4_rowMadeFor_1 rfl (lv_at hl 1 rfl) ?_
  refine k_iF (va_runV (As := [.int q]) (rest := []) hF (c_X4_rowOf l D I C Q p0 p1 p2 w0 w1 w2 pn u wd kp tl tk q hu64 _) (cwV 1 hts gX4_rowMadeFor_X4_rowOf rfl rfl rfl (by decide +kernel) ⟨Nat.le_of_ble_eq_true rfl, Nat.le_of_ble_eq_true rfl⟩) (kPreV hE hP hD (ci := 4) (q0 := 0) rfl rfl) rfl rfl hl.1 rfl (lv_room (Nat.le_of_ble_eq_true rfl)) dX4_rowMadeFor_2 ⟨Nat.zero_le _, Nat.zero_le _⟩) hD hS hA (fun H locs hP hD hS => ?_)
  rcases p_row_or pn q u with ⟨hlt, hq⟩ | ⟨hlt, hq⟩
  · refine k_top hq ?_
    refine lv_istore_n (lv' := [(2, .int (nI (p_rk pn q u))), (0, .ref p0), (1, .int q)]) hx hb dX4_rowMadeFor_5 rfl hl (by decide) rfl (fun ls hl => ?_)
    refine lv_iload_n hx hb dX4_rowMadeFor_6 rfl (lv_at hl 0 rfl) ?_
    refine lv_if_ge (tgt := 54) hx hb dX4_rowMadeFor_7 (by decide) (fun c_7 => ?_) (fun c_7 => ?_)
    · refine lv_iload_n hx hb dX4_rowMadeFor_54 rfl (lv_at hl 0 rfl) ?_
      exact hend _ _ _ _ _ _ hP hD hS dX4_rowMadeFor_55 rfl (by simp +decide only [p_mp, p_mu, hlt, if_true, if_false, not_true_eq_false, not_false_eq_true, and_self, and_true, true_and, and_false, false_and, kn01, kn10, kn02, kn20, kn12, kn21, eq_self]) (by simp +decide only [p_mr, hlt, if_true, if_false, not_true_eq_false, not_false_eq_true, and_self, and_true, true_and, and_false, false_and, kn01, kn10, kn02, kn20, kn12, kn21, eq_self])
    · exact absurd (nI_pos' (by omega)) c_7
  · refine k_top hq ?_
    refine lv_istore_n (lv' := [(2, .int (-1)), (0, .ref p0), (1, .int q)]) hx hb dX4_rowMadeFor_5 rfl hl (by decide) rfl (fun ls hl => ?_)
    refine lv_iload_n hx hb dX4_rowMadeFor_6 rfl (lv_at hl 0 rfl) ?_
    refine lv_if_ge (tgt := 54) hx hb dX4_rowMadeFor_7 (by decide) (fun c_7 => ?_) (fun c_7 => ?_)
    · exact absurd c_7 (by decide)
    · have hu63 := hcap hlt
      have hrb := p_rb_le pn q u
      refine lv_aload_n hx hb dX4_rowMadeFor_10 rfl (lv_at hl 1 rfl) ?_
      refine va_get (D := D) (ci := 4) (v := .int (nI u)) (C := RX4) (T := TX4) (N := 3) hx hb hts u4 hown hK hP 0 rfl rfl 2 (by decide) k0 (fun _ h9 => h9) rfl dX4_rowMadeFor_11 ?_
      refine lv_bipush (v := 64) hx hb dX4_rowMadeFor_14 (by decide) ?_
      refine lv_icmp_ge (tgt := 54) hx hb dX4_rowMadeFor_16 (by decide) (fun c_16 => ?_) (fun c_16 => ?_)
      · exact absurd ((nI_leI (a := 64) (b := u) (by omega) (by omega)).mp c_16) (by omega)
      · refine lv_aload_n hx hb dX4_rowMadeFor_19 rfl (lv_at hl 1 rfl) ?_
        refine lv_iload_n hx hb dX4_rowMadeFor_20 rfl (lv_at hl 2 rfl) ?_
        refine k_iF (va_runV (As := [.int q]) (rest := []) hF (c_X4_rowBehind l D I C Q p0 p1 p2 w0 w1 w2 pn u wd kp tl tk q hu64 _) (cwV 1 hts gX4_rowMadeFor_X4_rowBehind rfl rfl rfl (by decide +kernel) ⟨Nat.le_of_ble_eq_true rfl, Nat.le_of_ble_eq_true rfl⟩) (kPreV hE hP hD (ci := 4) (q0 := 0) rfl rfl) rfl rfl hl.1 rfl (lv_room (Nat.le_of_ble_eq_true rfl)) dX4_rowMadeFor_21 ⟨Nat.zero_le _, Nat.zero_le _⟩) hD hS hA (fun H locs hP hD hS => ?_)
        refine lv_istore_n (lv' := [(2, .int (nI (p_rb pn q u))), (0, .ref p0), (1, .int q)]) hx hb dX4_rowMadeFor_24 rfl hl (by decide) rfl (fun ls hl => ?_)
        refine lv_aload_n hx hb dX4_rowMadeFor_25 rfl (lv_at hl 1 rfl) ?_
        refine va_get (D := D) (ci := 4) (v := .ref p1) (C := RX4) (T := TX4) (N := 3) hx hb hts u4 hown hK hP 0 rfl rfl 0 (by decide) k1 (fun _ h9 => h9) rfl dX4_rowMadeFor_26 ?_
        refine lv_iload_n hx hb dX4_rowMadeFor_29 rfl (lv_at hl 0 rfl) ?_
        have hPc := hP.sub (ws' := (wT I p1 p2 64 8 pn)) [1, 2] rfl
        have hDc := hD.sub (ws' := (wT I p1 p2 64 8 pn)) [1, 2] (by decide) rfl
        refine k_v (wr := [(p0, .inr (4, [.ref p1, .ref w0, .int (nI u)])), (w0, .inr (7, [.ref w1, .int kp, .int tl, .int tk])), (w1, .inr (5, [.int (nI 40), .int (nI 4), .ref w2])), (w2, .inl (I, 40 * 4, .inl wd))]) (ws' := (wPn I p0 p1 p2 w0 w1 w2 (p_open pn (p_rb pn q u)) (nI u) wd kp tl tk)) (va_runV (As := [.int (nI (p_rb pn q u))]) (rest := []) hF (c_X5_openRow l D I C Q p1 p2 pn (p_rb pn q u) (by omega) _) (cwV 1 hts gX4_rowMadeFor_X5_openRow rfl rfl rfl (by decide +kernel) ⟨Nat.le_of_ble_eq_true rfl, Nat.le_of_ble_eq_true rfl⟩) (kPreV hE hPc hDc (ci := 5) (q0 := 0) rfl rfl) rfl rfl hl.1 rfl (lv_room (Nat.le_of_ble_eq_true rfl)) dX4_rowMadeFor_30 ⟨Nat.zero_le _, Nat.zero_le _⟩) hP hD hS hA [1, 2] [0, 3, 4, 5] [0, 4, 5, 1, 2, 3] rfl rfl (by decide) (by decide) rfl (by decide) (fun H locs hP hD hS => ?_)
        refine lv_aload_n hx hb dX4_rowMadeFor_33 rfl (lv_at hl 1 rfl) ?_
        refine va_get (D := D) (ci := 4) (v := .ref p1) (C := RX4) (T := TX4) (N := 3) hx hb hts u4 hown hK hP 0 rfl rfl 0 (by decide) k1 (fun _ h9 => h9) rfl dX4_rowMadeFor_34 ?_
        refine lv_iload_n hx hb dX4_rowMadeFor_37 rfl (lv_at hl 0 rfl) ?_
        refine lv_bipush (v := 7) hx hb dX4_rowMadeFor_38 (by decide) ?_
        refine lv_iload_n hx hb dX4_rowMadeFor_40 rfl (lv_at hl 2 rfl) ?_
        have hPc := hP.sub (ws' := (wT I p1 p2 64 8 (p_open pn (p_rb pn q u)))) [1, 2] rfl
        have hDc := hD.sub (ws' := (wT I p1 p2 64 8 (p_open pn (p_rb pn q u)))) [1, 2] (by decide) rfl
        refine k_v (wr := [(p0, .inr (4, [.ref p1, .ref w0, .int (nI u)])), (w0, .inr (7, [.ref w1, .int kp, .int tl, .int tk])), (w1, .inr (5, [.int (nI 40), .int (nI 4), .ref w2])), (w2, .inl (I, 40 * 4, .inl wd))]) (ws' := (wPn I p0 p1 p2 w0 w1 w2 (upd (p_open pn (p_rb pn q u)) ((p_rb pn q u) * 8 + 7) q) (nI u) wd kp tl tk)) (va_runV (As := [.int (nI (p_rb pn q u)), .int 7, .int q]) (rest := []) hF (c_X5_put l D I C Q p1 p2 64 8 (p_open pn (p_rb pn q u)) (p_rb pn q u) 7 q (by omega) (by omega) (by omega) (by omega) (by omega) _) (cwV 3 hts gX4_rowMadeFor_X5_put rfl rfl rfl (by decide +kernel) ⟨Nat.le_of_ble_eq_true rfl, Nat.le_of_ble_eq_true rfl⟩) (kPreV hE hPc hDc (ci := 5) (q0 := 0) rfl rfl) rfl rfl hl.1 rfl (lv_room (Nat.le_of_ble_eq_true rfl)) dX4_rowMadeFor_41 ⟨Nat.zero_le _, Nat.zero_le _⟩) hP hD hS hA [1, 2] [0, 3, 4, 5] [0, 4, 5, 1, 2, 3] rfl rfl (by decide) (by decide) rfl (by decide) (fun H locs hP hD hS => ?_)
        refine lv_aload_n hx hb dX4_rowMadeFor_44 rfl (lv_at hl 1 rfl) ?_
        refine lv_dup hx hb dX4_rowMadeFor_45 rfl ?_
        refine va_get (D := D) (ci := 4) (v := .int (nI u)) (C := RX4) (T := TX4) (N := 3) hx hb hts u4 hown hK hP 0 rfl rfl 2 (by decide) k0 (fun _ h9 => h9) rfl dX4_rowMadeFor_46 ?_
        refine lv_iconst (v := 1) hx hb dX4_rowMadeFor_49 (by decide) ?_
        refine k_iadd (v := nI (u + 1)) hx hb dX4_rowMadeFor_50 (nI_add u 1) ?_
        refine va_put (D := D) (ci := 4) (v := .int (nI (u + 1))) (ty := .int) (C := RX4) (T := TX4) (N := 3) hx hb hts u4 tyX4 tyX4_ok nmX4 hown hK hP hD hS 0 rfl rfl 2 (by decide) k0 (fun _ h9 => h9) rfl (by decide +kernel) rfl rfl (Nat.le_of_ble_eq_true rfl) dX4_rowMadeFor_51 (fun H locs hP hD hS => ?_)
        have hP : va_P D vwCl (wPn I p0 p1 p2 w0 w1 w2 (upd (p_open pn (p_rb pn q u)) ((p_rb pn q u) * 8 + 7) q) (nI (u + 1)) wd kp tl tk) H := hP
        have hD : va_D A (wPn I p0 p1 p2 w0 w1 w2 (upd (p_open pn (p_rb pn q u)) ((p_rb pn q u) * 8 + 7) q) (nI (u + 1)) wd kp tl tk) := hD
        refine lv_iload_n hx hb dX4_rowMadeFor_54 rfl (lv_at hl 0 rfl) ?_
        exact hend _ _ _ _ _ _ hP hD hS dX4_rowMadeFor_55 rfl (by simp +decide only [p_mp, p_mu, hlt, if_true, if_false, not_true_eq_false, not_false_eq_true, and_self, and_true, true_and, and_false, false_and, kn01, kn10, kn02, kn20, kn12, kn21, eq_self]) (by simp +decide only [p_mr, hlt, if_true, if_false, not_true_eq_false, not_false_eq_true, and_self, and_true, true_and, and_false, false_and, kn01, kn10, kn02, kn20, kn12, kn21, eq_self])
set_option maxHeartbeats 400000 in
set_option maxRecDepth 100000 in
theorem c_X4_read (l : Launch) (D : va_G) (I C Q : ClassId) (p0 p1 p2 w0 w1 w2 : Nat) (pn : Nat → Int32) (u : Nat) (wd : Nat → Int32) (kp : Int32) (tl : Int32) (tk : Int32) (q : Int32) (c1 : Nat) (hu64 : u ≤ 64) (hc8 : c1 < 8) : KI l D (tyL I C Q) yX4_read wsX4_read { frames := 2, cells := 0, slots := 0, locals := 45 } [.ref p0, .int q, .int (nI c1)] (wPn I p0 p1 p2 w0 w1 w2 pn (nI u) wd kp tl tk) (wPn I p0 p1 p2 w0 w1 w2 pn (nI u) wd kp tl tk) (p_rd pn q u c1) := by
  refine KI.of (cc := cX4_read) (maxL := 3) (rt := .int) (own := RX4) (by decide) rfl rfl (Nat.le_of_ble_eq_true rfl) ?_
  intro p e s m below meth c A Q0 ls hx hb hml hown hts hE hA hP hD hS hl hend
  have hK := hE.1
  have hF : CallFix p m c cX4_read 3 s [.ref p0, .int q, .int (nI c1)].toArray wsX4_read RX4 := ⟨hx, hb, hml, hown, hts⟩
  have k0 := hts (.fieldLink RX4 16 "LateExcuses$Panes" "rows" "LLateExcuses$Table;") (List.mem_of_getElem? (i := 1) rfl)
  have u4 : ∀ w ∈ u_ws RX4 TX4 3, w ∈ wsX4_read := by decide +kernel
  have hl : lv_has ls 3 [(0, .ref p0), (1, .int q), (2, .int (nI c1))] := hl
  refine lv_aload_n hx hb dX4_read_0 rfl (lv_at hl 0 rfl) ?_
  refine va_get (D := D) (ci := 4) (v := .ref p1) (C := RX4) (T := TX4) (N := 3) hx hb hts u4 hown hK hP 0 rfl rfl 0 (by decide) k0 (fun _ h9 => h9) rfl dX4_read_1 ?_
  refine lv_aload_n hx hb dX4_read_4 rfl (lv_at hl 0 rfl) ?_
  refine lv_iload_n hx hb dX4_read_5 rfl (lv_at hl 1 rfl) ?_
  refine k_iF (va_runV (As := [.int q]) (rest := [.ref p1]) hF (c_X4_rowOf l D I C Q p0 p1 p2 w0 w1 w2 pn u wd kp tl tk q hu64 _) (cwV 1 hts gX4_read_X4_rowOf rfl rfl rfl (by decide +kernel) ⟨Nat.le_of_ble_eq_true rfl, Nat.le_of_ble_eq_true rfl⟩) (kPreV hE hP hD (ci := 4) (q0 := 0) rfl rfl) rfl rfl hl.1 rfl (lv_room (Nat.le_of_ble_eq_true rfl)) dX4_read_6 ⟨Nat.zero_le _, Nat.zero_le _⟩) hD hS hA (fun H locs hP hD hS => ?_)
  rcases p_row_or pn q u with ⟨hlt, hq⟩ | ⟨hlt, hq⟩
  · refine k_top hq ?_
    refine lv_iload_n hx hb dX4_read_9 rfl (lv_at hl 2 rfl) ?_
    have hPc := hP.sub (ws' := (wT I p1 p2 64 8 pn)) [1, 2] rfl
    have hDc := hD.sub (ws' := (wT I p1 p2 64 8 pn)) [1, 2] (by decide) rfl
    refine k_i (wr := [(p0, .inr (4, [.ref p1, .ref w0, .int (nI u)])), (w0, .inr (7, [.ref w1, .int kp, .int tl, .int tk])), (w1, .inr (5, [.int (nI 40), .int (nI 4), .ref w2])), (w2, .inl (I, 40 * 4, .inl wd))]) (ws' := (wPn I p0 p1 p2 w0 w1 w2 pn (nI u) wd kp tl tk)) (va_runV (As := [.int (nI (p_rk pn q u)), .int (nI c1)]) (rest := []) hF (c_X5_get l D I C Q p1 p2 64 8 pn (p_rk pn q u) c1 (by omega) hc8 (by omega) (by omega) (by omega) _) (cwV 2 hts gX4_read_X5_get rfl rfl rfl (by decide +kernel) ⟨Nat.le_of_ble_eq_true rfl, Nat.le_of_ble_eq_true rfl⟩) (kPreV hE hPc hDc (ci := 5) (q0 := 0) rfl rfl) rfl rfl hl.1 rfl (lv_room (Nat.le_of_ble_eq_true rfl)) dX4_read_10 ⟨Nat.zero_le _, Nat.zero_le _⟩) hP hD hS hA [1, 2] [0, 3, 4, 5] [0, 4, 5, 1, 2, 3] rfl rfl (by decide) (by decide) rfl (by decide) (fun H locs hP hD hS => ?_)
    exact hend _ _ _ _ _ _ hP hD hS dX4_read_13 rfl rfl (by simp +decide only [p_rd, hlt, if_true, if_false, not_true_eq_false, not_false_eq_true, and_self, and_true, true_and, and_false, false_and, kn01, kn10, kn02, kn20, kn12, kn21, eq_self])
  · refine k_top hq ?_
    refine lv_iload_n hx hb dX4_read_9 rfl (lv_at hl 2 rfl) ?_
    have hPc := hP.sub (ws' := (wT I p1 p2 64 8 pn)) [1, 2] rfl
    have hDc := hD.sub (ws' := (wT I p1 p2 64 8 pn)) [1, 2] (by decide) rfl
    refine k_i (wr := [(p0, .inr (4, [.ref p1, .ref w0, .int (nI u)])), (w0, .inr (7, [.ref w1, .int kp, .int tl, .int tk])), (w1, .inr (5, [.int (nI 40), .int (nI 4), .ref w2])), (w2, .inl (I, 40 * 4, .inl wd))]) (ws' := (wPn I p0 p1 p2 w0 w1 w2 pn (nI u) wd kp tl tk)) (va_runV (As := [.int (-1), .int (nI c1)]) (rest := []) hF (c_X5_getN l D I C Q p1 p2 64 8 pn (-1) (nI c1) (by decide) _) (cwV 2 hts gX4_read_X5_get rfl rfl rfl (by decide +kernel) ⟨Nat.le_of_ble_eq_true rfl, Nat.le_of_ble_eq_true rfl⟩) (kPreV hE hPc hDc (ci := 5) (q0 := 0) rfl rfl) rfl rfl hl.1 rfl (lv_room (Nat.le_of_ble_eq_true rfl)) dX4_read_10 ⟨Nat.zero_le _, Nat.zero_le _⟩) hP hD hS hA [1, 2] [0, 3, 4, 5] [0, 4, 5, 1, 2, 3] rfl rfl (by decide) (by decide) rfl (by decide) (fun H locs hP hD hS => ?_)
    exact hend _ _ _ _ _ _ hP hD hS dX4_read_13 rfl rfl (by simp +decide only [p_rd, hlt, if_true, if_false, not_true_eq_false, not_false_eq_true, and_self, and_true, true_and, and_false, false_and, kn01, kn10, kn02, kn20, kn12, kn21, eq_self])
