set_option maxHeartbeats 400000 in
set_option maxRecDepth 100000 in
theorem c_X2_hasOutcome (l : Launch) (D : va_G) (I C Q : ClassId) (e0 e1 e2 : Nat) (ev : Nat → Int32) (dbl : Int32) (i : Nat) (lo : Int32) (hi : Int32) (hi6 : i < 64) : KI l D (tyL I C Q) yX2_hasOutcome wsX2_hasOutcome { frames := 1, cells := 0, slots := 0, locals := 23 } [.ref e0, .int (nI i), .int lo, .int hi] (wEv I e0 e1 e2 ev dbl) (wEv I e0 e1 e2 ev dbl) (e_out ev i lo hi) := by
  refine KI.of (cc := cX2_hasOutcome) (maxL := 5) (rt := .boolean) (own := RX2) (by decide) rfl rfl (Nat.le_of_ble_eq_true rfl) ?_
  intro p e s m below meth c A Q0 ls hx hb hml hown hts hE hA hP hD hS hl hend
  have hK := hE.1
  have hF : CallFix p m c cX2_hasOutcome 5 s [.ref e0, .int (nI i), .int lo, .int hi].toArray wsX2_hasOutcome RX2 := ⟨hx, hb, hml, hown, hts⟩
  have k0 := hts (.fieldLink RX2 14 "LateExcuses$Events" "rows" "LLateExcuses$Table;") (List.mem_of_getElem? (i := 1) rfl)
  have u2 : ∀ w ∈ u_ws RX2 TX2 2, w ∈ wsX2_hasOutcome := by decide +kernel
  have hl : lv_has ls 5 [(0, .ref e0), (1, .int (nI i)), (2, .int lo), (3, .int hi)] := hl
  refine lv_aload_n hx hb dX2_hasOutcome_0 rfl (lv_at hl 0 rfl) ?_
  refine va_get (D := D) (ci := 2) (v := .ref e1) (C := RX2) (T := TX2) (N := 2) hx hb hts u2 hown hK hP 0 rfl rfl 0 (by decide) k0 (fun _ h9 => h9) rfl dX2_hasOutcome_1 ?_
  refine lv_iload_n hx hb dX2_hasOutcome_4 rfl (lv_at hl 1 rfl) ?_
  refine lv_iconst (v := 4) hx hb dX2_hasOutcome_5 (by decide) ?_
  have hPc := hP.sub (ws' := (wT I e1 e2 64 7 ev)) [1, 2] rfl
  have hDc := hD.sub (ws' := (wT I e1 e2 64 7 ev)) [1, 2] (by decide) rfl
  refine k_i (wr := [(e0, .inr (2, [.ref e1, .int dbl]))]) (ws' := (wEv I e0 e1 e2 ev dbl)) (va_runV (As := [.int (nI i), .int 4]) (rest := []) hF (c_X5_get l D I C Q e1 e2 64 7 ev i 4 hi6 (by omega) (by omega) (by omega) (by omega) _) (cwV 2 hts gX2_hasOutcome_X5_get rfl rfl rfl (by decide +kernel) ⟨Nat.le_of_ble_eq_true rfl, Nat.le_of_ble_eq_true rfl⟩) (kPreV hE hPc hDc (ci := 5) (q0 := 0) rfl rfl) rfl rfl hl.1 rfl (lv_room (Nat.le_of_ble_eq_true rfl)) dX2_hasOutcome_6 ⟨Nat.zero_le _, Nat.zero_le _⟩) hP hD hS hA [1, 2] [0] [0, 1, 2] rfl rfl (by decide) (by decide) rfl (by decide) (fun H locs hP hD hS => ?_)
  refine lv_istore (lv' := [(4, .int (ev (i * 7 + 4))), (0, .ref e0), (1, .int (nI i)), (2, .int lo), (3, .int hi)]) hx hb dX2_hasOutcome_9 hl (by decide) rfl (fun ls hl => ?_)
  refine lv_aload_n hx hb dX2_hasOutcome_11 rfl (lv_at hl 1 rfl) ?_
  refine va_get (D := D) (ci := 2) (v := .ref e1) (C := RX2) (T := TX2) (N := 2) hx hb hts u2 hown hK hP 0 rfl rfl 0 (by decide) k0 (fun _ h9 => h9) rfl dX2_hasOutcome_12 ?_
  refine lv_iload_n hx hb dX2_hasOutcome_15 rfl (lv_at hl 2 rfl) ?_
  refine lv_bipush (v := 6) hx hb dX2_hasOutcome_16 (by decide) ?_
  have hPc := hP.sub (ws' := (wT I e1 e2 64 7 ev)) [1, 2] rfl
  have hDc := hD.sub (ws' := (wT I e1 e2 64 7 ev)) [1, 2] (by decide) rfl
  refine k_i (wr := [(e0, .inr (2, [.ref e1, .int dbl]))]) (ws' := (wEv I e0 e1 e2 ev dbl)) (va_runV (As := [.int (nI i), .int 6]) (rest := []) hF (c_X5_get l D I C Q e1 e2 64 7 ev i 6 hi6 (by omega) (by omega) (by omega) (by omega) _) (cwV 2 hts gX2_hasOutcome_X5_get rfl rfl rfl (by decide +kernel) ⟨Nat.le_of_ble_eq_true rfl, Nat.le_of_ble_eq_true rfl⟩) (kPreV hE hPc hDc (ci := 5) (q0 := 0) rfl rfl) rfl rfl hl.1 rfl (lv_room (Nat.le_of_ble_eq_true rfl)) dX2_hasOutcome_18 ⟨Nat.zero_le _, Nat.zero_le _⟩) hP hD hS hA [1, 2] [0] [0, 1, 2] rfl rfl (by decide) (by decide) rfl (by decide) (fun H locs hP hD hS => ?_)
  refine lv_iconst (v := 1) hx hb dX2_hasOutcome_21 (by decide) ?_
  refine lv_icmp_ne (tgt := 41) hx hb dX2_hasOutcome_22 (by decide) (fun c_22 => ?_) (fun c_22 => ?_)
  · refine lv_iconst (v := 0) hx hb dX2_hasOutcome_41 (by decide) ?_
    exact hend _ _ _ _ _ _ hP hD hS dX2_hasOutcome_42 (by decide) rfl (by simp +decide only [e_out, c_22, if_true, if_false, not_true_eq_false, not_false_eq_true, and_self, and_true, true_and, and_false, false_and, kn01, kn10, kn02, kn20, kn12, kn21, eq_self])
  · refine lv_iload hx hb dX2_hasOutcome_25 (lv_at hl 0 rfl) ?_
    refine lv_iload_n hx hb dX2_hasOutcome_27 rfl (lv_at hl 3 rfl) ?_
    refine lv_icmp_lt (tgt := 41) hx hb dX2_hasOutcome_28 (by decide) (fun c_28 => ?_) (fun c_28 => ?_)
    · refine lv_iconst (v := 0) hx hb dX2_hasOutcome_41 (by decide) ?_
      exact hend _ _ _ _ _ _ hP hD hS dX2_hasOutcome_42 (by decide) rfl (by simp +decide only [e_out, c_22, c_28, if_true, if_false, not_true_eq_false, not_false_eq_true, and_self, and_true, true_and, and_false, false_and, kn01, kn10, kn02, kn20, kn12, kn21, eq_self])
    · refine lv_iload hx hb dX2_hasOutcome_31 (lv_at hl 0 rfl) ?_
      refine lv_iload_n hx hb dX2_hasOutcome_33 rfl (lv_at hl 4 rfl) ?_
      refine lv_icmp_gt (tgt := 41) hx hb dX2_hasOutcome_34 (by decide) (fun c_34 => ?_) (fun c_34 => ?_)
      · refine lv_iconst (v := 0) hx hb dX2_hasOutcome_41 (by decide) ?_
        exact hend _ _ _ _ _ _ hP hD hS dX2_hasOutcome_42 (by decide) rfl (by simp +decide only [e_out, c_22, c_28, c_34, if_true, if_false, not_true_eq_false, not_false_eq_true, and_self, and_true, true_and, and_false, false_and, kn01, kn10, kn02, kn20, kn12, kn21, eq_self])
      · refine lv_iconst (v := 1) hx hb dX2_hasOutcome_37 (by decide) ?_
        refine lv_goto (tgt := 42) hx hb dX2_hasOutcome_38 (by decide) ?_
        exact hend _ _ _ _ _ _ hP hD hS dX2_hasOutcome_42 (by decide) rfl (by simp +decide only [e_out, c_22, c_28, c_34, if_true, if_false, not_true_eq_false, not_false_eq_true, and_self, and_true, true_and, and_false, false_and, kn01, kn10, kn02, kn20, kn12, kn21, eq_self])
set_option maxHeartbeats 400000 in
set_option maxRecDepth 100000 in
theorem c_X2_withOutcome (l : Launch) (D : va_G) (I C Q : ClassId) (e0 e1 e2 : Nat) (ev : Nat → Int32) (dbl : Int32) (lo : Int32) (hi : Int32) : KI l D (tyL I C Q) yX2_withOutcome wsX2_withOutcome { frames := 2, cells := 0, slots := 0, locals := 47 } [.ref e0, .int lo, .int hi] (wEv I e0 e1 e2 ev dbl) (wEv I e0 e1 e2 ev dbl) (nI (e_wo ev lo hi 64)) := by
  refine KI.of (cc := cX2_withOutcome) (maxL := 5) (rt := .int) (own := RX2) (by decide) rfl rfl (Nat.le_of_ble_eq_true rfl) ?_
  intro p e s m below meth c A Q0 ls hx hb hml hown hts hE hA hP hD hS hl hend
  have hK := hE.1
  have hF : CallFix p m c cX2_withOutcome 5 s [.ref e0, .int lo, .int hi].toArray wsX2_withOutcome RX2 := ⟨hx, hb, hml, hown, hts⟩
  have hl : lv_has ls 5 [(0, .ref e0), (1, .int lo), (2, .int hi)] := hl
  refine lv_iconst (v := 0) hx hb dX2_withOutcome_0 (by decide) ?_
  refine lv_istore_n (lv' := [(3, .int 0), (0, .ref e0), (1, .int lo), (2, .int hi)]) hx hb dX2_withOutcome_1 rfl hl (by decide) rfl (fun ls hl => ?_)
  refine lv_iconst (v := 0) hx hb dX2_withOutcome_2 (by decide) ?_
  refine lv_istore (lv' := [(4, .int 0), (3, .int 0), (0, .ref e0), (1, .int lo), (2, .int hi)]) hx hb dX2_withOutcome_3 hl (by decide) rfl (fun ls hl => ?_)
  have loop5 : ∀ (n : Nat) (k : Nat), (k + n = 64) → ∀ (H : Heap) (locs : List Loc) (ls : Array Slot), va_P D vwCl (wEv I e0 e1 e2 ev dbl) H → va_D A (wEv I e0 e1 e2 ev dbl) → va_S A s.heap H locs → lv_has ls 5 [(0, .ref e0), (1, .int lo), (2, .int hi), (3, .int (nI (e_wo ev lo hi k))), (4, .int (nI k))] → W p l e ({ frames := 2, cells := 0, slots := 0, locals := 47 } : Room) s m [.ref e0, .int lo, .int hi].toArray below meth c H locs 0 0 Q0 (F0 m 5 ls []) := by
    intro n
    induction n with
    | zero =>
      intro k hk H locs ls hP hD hS hl
      refine lv_iload hx hb dX2_withOutcome_5 (lv_at hl 4 rfl) ?_
      refine lv_bipush (v := 63) hx hb dX2_withOutcome_7 (by decide) ?_
      refine lv_icmp_gt (tgt := 32) hx hb dX2_withOutcome_9 (by decide) (fun c_9 => ?_) (fun c_9 => ?_)
      · refine lv_iload_n hx hb dX2_withOutcome_32 rfl (lv_at hl 3 rfl) ?_
        exact hend _ _ _ _ _ _ hP hD hS dX2_withOutcome_33 rfl rfl (by rw [show k = 64 by omega])
      · exact absurd ((nI_ltI (a := 63) (b := k) (by omega) (by omega)).mpr (by omega)) c_9
    | succ n ih =>
      intro k hk H locs ls hP hD hS hl
      refine lv_iload hx hb dX2_withOutcome_5 (lv_at hl 4 rfl) ?_
      refine lv_bipush (v := 63) hx hb dX2_withOutcome_7 (by decide) ?_
      refine lv_icmp_gt (tgt := 32) hx hb dX2_withOutcome_9 (by decide) (fun c_9 => ?_) (fun c_9 => ?_)
      · exact absurd ((nI_ltI (a := 63) (b := k) (by omega) (by omega)).mp c_9) (by omega)
      · refine lv_aload_n hx hb dX2_withOutcome_12 rfl (lv_at hl 0 rfl) ?_
        refine lv_iload hx hb dX2_withOutcome_13 (lv_at hl 4 rfl) ?_
        refine lv_iload_n hx hb dX2_withOutcome_15 rfl (lv_at hl 1 rfl) ?_
        refine lv_iload_n hx hb dX2_withOutcome_16 rfl (lv_at hl 2 rfl) ?_
        refine k_iF (va_runV (As := [.int (nI k), .int lo, .int hi]) (rest := []) hF (c_X2_hasOutcome l D I C Q e0 e1 e2 ev dbl k lo hi (by omega) _) (cwV 3 hts gX2_withOutcome_X2_hasOutcome rfl rfl rfl (by decide +kernel) ⟨Nat.le_of_ble_eq_true rfl, Nat.le_of_ble_eq_true rfl⟩) (kPreV hE hP hD (ci := 2) (q0 := 0) rfl rfl) rfl rfl hl.1 rfl (lv_room (Nat.le_of_ble_eq_true rfl)) dX2_withOutcome_17 ⟨Nat.zero_le _, Nat.zero_le _⟩) hD hS hA (fun H locs hP hD hS => ?_)
        refine lv_if_eq (tgt := 26) hx hb dX2_withOutcome_20 (by decide) (fun c_20 => ?_) (fun c_20 => ?_)
        · refine lv_iinc (v := nI (k + 1)) (lv' := [(4, .int (nI (k + 1))), (0, .ref e0), (1, .int lo), (2, .int hi), (3, .int (nI (e_wo ev lo hi k)))]) hx hb dX2_withOutcome_26 hl (k := 4) rfl (nI_inc k) (by decide) rfl (fun ls hl => ?_)
          refine lv_goto (tgt := 5) hx hb dX2_withOutcome_29 (by decide) ?_
          have hl9 : lv_has ls 5 [(0, .ref e0), (1, .int lo), (2, .int hi), (3, .int (nI (e_wo ev lo hi k))), (4, .int (nI (k + 1)))] := lv_sub hl [1, 2, 3, 4, 0] rfl
          rw [show (nI (e_wo ev lo hi k)) = (nI (e_wo ev lo hi (k + 1))) from by simp +decide only [e_wo, c_20, if_true, if_false, not_true_eq_false, not_false_eq_true, and_self, and_true, true_and, and_false, false_and, kn01, kn10, kn02, kn20, kn12, kn21, eq_self]] at hl9
          exact ih (k + 1) (by omega) _ _ _ hP hD hS hl9 
        · refine lv_iinc (v := nI (e_wo ev lo hi k + 1)) (lv' := [(3, .int (nI (e_wo ev lo hi k + 1))), (0, .ref e0), (1, .int lo), (2, .int hi), (4, .int (nI k))]) hx hb dX2_withOutcome_23 hl (k := 3) rfl (nI_inc (e_wo ev lo hi k)) (by decide) rfl (fun ls hl => ?_)
          refine lv_iinc (v := nI (k + 1)) (lv' := [(4, .int (nI (k + 1))), (3, .int (nI (e_wo ev lo hi k + 1))), (0, .ref e0), (1, .int lo), (2, .int hi)]) hx hb dX2_withOutcome_26 hl (k := 4) rfl (nI_inc k) (by decide) rfl (fun ls hl => ?_)
          refine lv_goto (tgt := 5) hx hb dX2_withOutcome_29 (by decide) ?_
          have hl9 : lv_has ls 5 [(0, .ref e0), (1, .int lo), (2, .int hi), (3, .int (nI (e_wo ev lo hi k + 1))), (4, .int (nI (k + 1)))] := lv_sub hl [2, 3, 4, 1, 0] rfl
          rw [show (nI (e_wo ev lo hi k + 1)) = (nI (e_wo ev lo hi (k + 1))) from by simp +decide only [e_wo, c_20, if_true, if_false, not_true_eq_false, not_false_eq_true, and_self, and_true, true_and, and_false, false_and, kn01, kn10, kn02, kn20, kn12, kn21, eq_self]] at hl9
          exact ih (k + 1) (by omega) _ _ _ hP hD hS hl9 
  exact loop5 64 0 (by omega) _ _ _ hP hD hS (lv_sub hl [2, 3, 4, 1, 0] rfl) 
set_option maxHeartbeats 400000 in
set_option maxRecDepth 100000 in
theorem c_X2_hadIllness (l : Launch) (D : va_G) (I C Q : ClassId) (e0 e1 e2 : Nat) (ev : Nat → Int32) (dbl : Int32) (key : Int32) : KI l D (tyL I C Q) yX2_hadIllness wsX2_hadIllness { frames := 2, cells := 0, slots := 0, locals := 47 } [.ref e0, .int key] (wEv I e0 e1 e2 ev dbl) (wEv I e0 e1 e2 ev dbl) (e_ilL ev key 64 0) := by
  refine KI.of (cc := cX2_hadIllness) (maxL := 3) (rt := .boolean) (own := RX2) (by decide) rfl rfl (Nat.le_of_ble_eq_true rfl) ?_
  intro p e s m below meth c A Q0 ls hx hb hml hown hts hE hA hP hD hS hl hend
  have hK := hE.1
  have hF : CallFix p m c cX2_hadIllness 3 s [.ref e0, .int key].toArray wsX2_hadIllness RX2 := ⟨hx, hb, hml, hown, hts⟩
  have k0 := hts (.fieldLink RX2 14 "LateExcuses$Events" "rows" "LLateExcuses$Table;") (List.mem_of_getElem? (i := 1) rfl)
  have u2 : ∀ w ∈ u_ws RX2 TX2 2, w ∈ wsX2_hadIllness := by decide +kernel
  have hl : lv_has ls 3 [(0, .ref e0), (1, .int key)] := hl
  refine lv_iconst (v := 0) hx hb dX2_hadIllness_0 (by decide) ?_
  refine lv_istore_n (lv' := [(2, .int 0), (0, .ref e0), (1, .int key)]) hx hb dX2_hadIllness_1 rfl hl (by decide) rfl (fun ls hl => ?_)
  have loop2 : ∀ (n : Nat) (k : Nat), (k + n = 64) → ∀ (H : Heap) (locs : List Loc) (ls : Array Slot), va_P D vwCl (wEv I e0 e1 e2 ev dbl) H → va_D A (wEv I e0 e1 e2 ev dbl) → va_S A s.heap H locs → lv_has ls 3 [(0, .ref e0), (1, .int key), (2, .int (nI k))] → (e_ilL ev key n k = e_ilL ev key 64 0) → W p l e ({ frames := 2, cells := 0, slots := 0, locals := 47 } : Room) s m [.ref e0, .int key].toArray below meth c H locs 0 0 Q0 (F0 m 2 ls []) := by
    intro n
    induction n with
    | zero =>
      intro k hk H locs ls hP hD hS hl hr
      refine lv_iload_n hx hb dX2_hadIllness_2 rfl (lv_at hl 2 rfl) ?_
      refine lv_bipush (v := 63) hx hb dX2_hadIllness_3 (by decide) ?_
      refine lv_icmp_gt (tgt := 52) hx hb dX2_hadIllness_5 (by decide) (fun c_5 => ?_) (fun c_5 => ?_)
      · refine lv_iconst (v := 0) hx hb dX2_hadIllness_52 (by decide) ?_
        exact hend _ _ _ _ _ _ hP hD hS dX2_hadIllness_53 (by decide) rfl (by rw [← hr]; rfl)
      · exact absurd ((nI_ltI (a := 63) (b := k) (by omega) (by omega)).mpr (by omega)) c_5
    | succ n ih =>
      intro k hk H locs ls hP hD hS hl hr
      refine lv_iload_n hx hb dX2_hadIllness_2 rfl (lv_at hl 2 rfl) ?_
      refine lv_bipush (v := 63) hx hb dX2_hadIllness_3 (by decide) ?_
      refine lv_icmp_gt (tgt := 52) hx hb dX2_hadIllness_5 (by decide) (fun c_5 => ?_) (fun c_5 => ?_)
      · exact absurd ((nI_ltI (a := 63) (b := k) (by omega) (by omega)).mp c_5) (by omega)
      · refine lv_aload_n hx hb dX2_hadIllness_8 rfl (lv_at hl 0 rfl) ?_
        refine va_get (D := D) (ci := 2) (v := .ref e1) (C := RX2) (T := TX2) (N := 2) hx hb hts u2 hown hK hP 0 rfl rfl 0 (by decide) k0 (fun _ h9 => h9) rfl dX2_hadIllness_9 ?_
        refine lv_iload_n hx hb dX2_hadIllness_12 rfl (lv_at hl 2 rfl) ?_
        refine lv_iconst (v := 1) hx hb dX2_hadIllness_13 (by decide) ?_
        have hPc := hP.sub (ws' := (wT I e1 e2 64 7 ev)) [1, 2] rfl
        have hDc := hD.sub (ws' := (wT I e1 e2 64 7 ev)) [1, 2] (by decide) rfl
        refine k_i (wr := [(e0, .inr (2, [.ref e1, .int dbl]))]) (ws' := (wEv I e0 e1 e2 ev dbl)) (va_runV (As := [.int (nI k), .int 1]) (rest := []) hF (c_X5_get l D I C Q e1 e2 64 7 ev k 1 (by omega) (by omega) (by omega) (by omega) (by omega) _) (cwV 2 hts gX2_hadIllness_X5_get rfl rfl rfl (by decide +kernel) ⟨Nat.le_of_ble_eq_true rfl, Nat.le_of_ble_eq_true rfl⟩) (kPreV hE hPc hDc (ci := 5) (q0 := 0) rfl rfl) rfl rfl hl.1 rfl (lv_room (Nat.le_of_ble_eq_true rfl)) dX2_hadIllness_14 ⟨Nat.zero_le _, Nat.zero_le _⟩) hP hD hS hA [1, 2] [0] [0, 1, 2] rfl rfl (by decide) (by decide) rfl (by decide) (fun H locs hP hD hS => ?_)
        refine lv_iload_n hx hb dX2_hadIllness_17 rfl (lv_at hl 1 rfl) ?_
        refine lv_icmp_ne (tgt := 46) hx hb dX2_hadIllness_18 (by decide) (fun c_18 => ?_) (fun c_18 => ?_)
        · refine lv_iinc (v := nI (k + 1)) (lv' := [(2, .int (nI (k + 1))), (0, .ref e0), (1, .int key)]) hx hb dX2_hadIllness_46 hl (k := 2) rfl (nI_inc k) (by decide) rfl (fun ls hl => ?_)
          refine lv_goto (tgt := 2) hx hb dX2_hadIllness_49 (by decide) ?_
          exact ih (k + 1) (by omega) _ _ _ hP hD hS (lv_sub hl [1, 2, 0] rfl) (by rw [← hr]; simp +decide only [e_ilL, c_5, c_18, if_true, if_false, not_true_eq_false, not_false_eq_true, and_self, and_true, true_and, and_false, false_and, kn01, kn10, kn02, kn20, kn12, kn21, eq_self])
        · refine lv_aload_n hx hb dX2_hadIllness_21 rfl (lv_at hl 0 rfl) ?_
          refine va_get (D := D) (ci := 2) (v := .ref e1) (C := RX2) (T := TX2) (N := 2) hx hb hts u2 hown hK hP 0 rfl rfl 0 (by decide) k0 (fun _ h9 => h9) rfl dX2_hadIllness_22 ?_
          refine lv_iload_n hx hb dX2_hadIllness_25 rfl (lv_at hl 2 rfl) ?_
          refine lv_iconst (v := 3) hx hb dX2_hadIllness_26 (by decide) ?_
          have hPc := hP.sub (ws' := (wT I e1 e2 64 7 ev)) [1, 2] rfl
          have hDc := hD.sub (ws' := (wT I e1 e2 64 7 ev)) [1, 2] (by decide) rfl
          refine k_i (wr := [(e0, .inr (2, [.ref e1, .int dbl]))]) (ws' := (wEv I e0 e1 e2 ev dbl)) (va_runV (As := [.int (nI k), .int 3]) (rest := []) hF (c_X5_get l D I C Q e1 e2 64 7 ev k 3 (by omega) (by omega) (by omega) (by omega) (by omega) _) (cwV 2 hts gX2_hadIllness_X5_get rfl rfl rfl (by decide +kernel) ⟨Nat.le_of_ble_eq_true rfl, Nat.le_of_ble_eq_true rfl⟩) (kPreV hE hPc hDc (ci := 5) (q0 := 0) rfl rfl) rfl rfl hl.1 rfl (lv_room (Nat.le_of_ble_eq_true rfl)) dX2_hadIllness_27 ⟨Nat.zero_le _, Nat.zero_le _⟩) hP hD hS hA [1, 2] [0] [0, 1, 2] rfl rfl (by decide) (by decide) rfl (by decide) (fun H locs hP hD hS => ?_)
          refine lv_iconst (v := 2) hx hb dX2_hadIllness_30 (by decide) ?_
          refine lv_icmp_ne (tgt := 46) hx hb dX2_hadIllness_31 (by decide) (fun c_31 => ?_) (fun c_31 => ?_)
          · refine lv_iinc (v := nI (k + 1)) (lv' := [(2, .int (nI (k + 1))), (0, .ref e0), (1, .int key)]) hx hb dX2_hadIllness_46 hl (k := 2) rfl (nI_inc k) (by decide) rfl (fun ls hl => ?_)
            refine lv_goto (tgt := 2) hx hb dX2_hadIllness_49 (by decide) ?_
            exact ih (k + 1) (by omega) _ _ _ hP hD hS (lv_sub hl [1, 2, 0] rfl) (by rw [← hr]; simp +decide only [e_ilL, c_5, c_18, c_31, if_true, if_false, not_true_eq_false, not_false_eq_true, and_self, and_true, true_and, and_false, false_and, kn01, kn10, kn02, kn20, kn12, kn21, eq_self])
          · refine lv_aload_n hx hb dX2_hadIllness_34 rfl (lv_at hl 0 rfl) ?_
            refine lv_iload_n hx hb dX2_hadIllness_35 rfl (lv_at hl 2 rfl) ?_
            refine lv_iconst (v := 1) hx hb dX2_hadIllness_36 (by decide) ?_
            refine lv_iconst (v := 1) hx hb dX2_hadIllness_37 (by decide) ?_
            refine k_iF (va_runV (As := [.int (nI k), .int 1, .int 1]) (rest := []) hF (c_X2_hasOutcome l D I C Q e0 e1 e2 ev dbl k 1 1 (by omega) _) (cwV 3 hts gX2_hadIllness_X2_hasOutcome rfl rfl rfl (by decide +kernel) ⟨Nat.le_of_ble_eq_true rfl, Nat.le_of_ble_eq_true rfl⟩) (kPreV hE hP hD (ci := 2) (q0 := 0) rfl rfl) rfl rfl hl.1 rfl (lv_room (Nat.le_of_ble_eq_true rfl)) dX2_hadIllness_38 ⟨Nat.zero_le _, Nat.zero_le _⟩) hD hS hA (fun H locs hP hD hS => ?_)
            refine lv_if_eq (tgt := 46) hx hb dX2_hadIllness_41 (by decide) (fun c_41 => ?_) (fun c_41 => ?_)
            · refine lv_iinc (v := nI (k + 1)) (lv' := [(2, .int (nI (k + 1))), (0, .ref e0), (1, .int key)]) hx hb dX2_hadIllness_46 hl (k := 2) rfl (nI_inc k) (by decide) rfl (fun ls hl => ?_)
              refine lv_goto (tgt := 2) hx hb dX2_hadIllness_49 (by decide) ?_
              exact ih (k + 1) (by omega) _ _ _ hP hD hS (lv_sub hl [1, 2, 0] rfl) (by rw [← hr]; simp +decide only [e_ilL, c_5, c_18, c_31, c_41, if_true, if_false, not_true_eq_false, not_false_eq_true, and_self, and_true, true_and, and_false, false_and, kn01, kn10, kn02, kn20, kn12, kn21, eq_self])
            · refine lv_iconst (v := 1) hx hb dX2_hadIllness_44 (by decide) ?_
              exact hend _ _ _ _ _ _ hP hD hS dX2_hadIllness_45 (by decide) rfl (by rw [← hr]; simp +decide only [e_ilL, c_18, c_31, c_41, if_true, if_false, not_true_eq_false, not_false_eq_true, and_self, and_true, true_and, and_false, false_and, kn01, kn10, kn02, kn20, kn12, kn21, eq_self])
  exact loop2 64 0 (by omega) _ _ _ hP hD hS (lv_sub hl [1, 2, 0] rfl) rfl
