set_option maxHeartbeats 400000 in
set_option maxRecDepth 100000 in
theorem c_X9_faultOf (l : Launch) (D : va_G) (I C Q : ClassId) (a0 a1 a2 a3 a4 : Nat) (now : Nat → Int32) (kept : Nat → Int32) (st : Int32) (text : Nat → Int32) (L : Nat) (att : Int32) (num : Int32) (rd : Nat → Int32) (hL : L ≤ 80) : KI l D (tyL I C Q) yX9_faultOf wsX9_faultOf { frames := 3, cells := 0, slots := 0, locals := 64 } [.ref a0] (wM I a0 a1 a2 a3 a4 now kept st text (nI L) att num rd) (wM I a0 a1 a2 a3 a4 now kept st text (nI L) (nI ((t_fo text L num rd).2.1)) ((t_fo text L num rd).2.2.1) ((t_fo text L num rd).2.2.2)) ((t_fo text L num rd).1) := by
  refine KI.of (cc := cX9_faultOf) (maxL := 2) (rt := .int) (own := RX9) (by decide) rfl rfl (Nat.le_of_ble_eq_true rfl) ?_
  intro p e s m below meth c A Q0 ls hx hb hml hown hts hE hA hP hD hS hl hend
  have hK := hE.1
  have hF : CallFix p m c cX9_faultOf 2 s [.ref a0].toArray wsX9_faultOf RX9 := ⟨hx, hb, hml, hown, hts⟩
  have k0 := hts (.fieldLink RX9 138 "LateExcusesModel" "at" "I") (List.mem_of_getElem? (i := 1) rfl)
  have k1 := hts (.fieldLink RX9 134 "LateExcusesModel" "length" "I") (List.mem_of_getElem? (i := 2) rfl)
  have k2 := hts (.fieldLink RX9 19 "LateExcusesModel" "read" "[I") (List.mem_of_getElem? (i := 3) rfl)
  have u9 : ∀ w ∈ u_ws RX9 TX9 8, w ∈ wsX9_faultOf := by decide +kernel
  have hl : lv_has ls 2 [(0, .ref a0)] := hl
  refine lv_aload_n hx hb dX9_faultOf_0 rfl (lv_at hl 0 rfl) ?_
  refine lv_iconst (v := 0) hx hb dX9_faultOf_1 (by decide) ?_
  refine va_put (D := D) (ci := 9) (v := .int 0) (ty := .int) (C := RX9) (T := TX9) (N := 8) hx hb hts u9 tyX9 tyX9_ok nmX9 hown hK hP hD hS 0 rfl rfl 5 (by decide) k0 (fun _ h9 => h9) rfl (by decide +kernel) rfl rfl (Nat.le_of_ble_eq_true rfl) dX9_faultOf_2 (fun H locs hP hD hS => ?_)
  have hP : va_P D vwCl (wM I a0 a1 a2 a3 a4 now kept st text (nI L) 0 num rd) H := hP
  have hD : va_D A (wM I a0 a1 a2 a3 a4 now kept st text (nI L) 0 num rd) := hD
  have loop5 : ∀ (n : Nat) (b : Nat) (z : Int32) (r : Nat → Int32), (L ≤ b + n) → (b ≤ 80) → ∀ (H : Heap) (locs : List Loc) (ls : Array Slot), va_P D vwCl (wM I a0 a1 a2 a3 a4 now kept st text (nI L) (nI b) z r) H → va_D A (wM I a0 a1 a2 a3 a4 now kept st text (nI L) (nI b) z r) → va_S A s.heap H locs → lv_has ls 2 [(0, .ref a0)] → (t_flL text L n b z r = t_fo text L num rd) → W p l e ({ frames := 3, cells := 0, slots := 0, locals := 64 } : Room) s m [.ref a0].toArray below meth c H locs 0 0 Q0 (F0 m 5 ls []) := by
    intro n
    induction n with
    | zero =>
      intro b z r hbn hb8 H locs ls hP hD hS hl hr
      refine lv_aload_n hx hb dX9_faultOf_5 rfl (lv_at hl 0 rfl) ?_
      refine va_get (D := D) (ci := 9) (v := .int (nI b)) (C := RX9) (T := TX9) (N := 8) hx hb hts u9 hown hK hP 0 rfl rfl 5 (by decide) k0 (fun _ h9 => h9) rfl dX9_faultOf_6 ?_
      refine lv_aload_n hx hb dX9_faultOf_9 rfl (lv_at hl 0 rfl) ?_
      refine va_get (D := D) (ci := 9) (v := .int (nI L)) (C := RX9) (T := TX9) (N := 8) hx hb hts u9 hown hK hP 0 rfl rfl 4 (by decide) k1 (fun _ h9 => h9) rfl dX9_faultOf_10 ?_
      refine lv_icmp_ge (tgt := 79) hx hb dX9_faultOf_13 (by decide) (fun c_13 => ?_) (fun c_13 => ?_)
      · have hle : L ≤ b := (nI_leI (a := L) (b := b) (by omega) (by omega)).mp c_13
        refine lv_iconst (v := (-1)) hx hb dX9_faultOf_79 (by decide) ?_
        exact hend _ _ _ _ _ _ hP hD hS dX9_faultOf_80 rfl (by rw [← hr]; simp +decide only [t_flL, if_true, if_false, not_true_eq_false, not_false_eq_true, and_self, and_true, true_and, and_false, false_and, kn01, kn10, kn02, kn20, kn12, kn21, eq_self]) (by rw [← hr]; simp +decide only [t_flL, if_true, if_false, not_true_eq_false, not_false_eq_true, and_self, and_true, true_and, and_false, false_and, kn01, kn10, kn02, kn20, kn12, kn21, eq_self])
      · exact absurd ((nI_leI (a := L) (b := b) (by omega) (by omega)).mpr (by omega)) c_13
    | succ n ih =>
      intro b z r hbn hb8 H locs ls hP hD hS hl hr
      refine lv_aload_n hx hb dX9_faultOf_5 rfl (lv_at hl 0 rfl) ?_
      refine va_get (D := D) (ci := 9) (v := .int (nI b)) (C := RX9) (T := TX9) (N := 8) hx hb hts u9 hown hK hP 0 rfl rfl 5 (by decide) k0 (fun _ h9 => h9) rfl dX9_faultOf_6 ?_
      refine lv_aload_n hx hb dX9_faultOf_9 rfl (lv_at hl 0 rfl) ?_
      refine va_get (D := D) (ci := 9) (v := .int (nI L)) (C := RX9) (T := TX9) (N := 8) hx hb hts u9 hown hK hP 0 rfl rfl 4 (by decide) k1 (fun _ h9 => h9) rfl dX9_faultOf_10 ?_
      refine lv_icmp_ge (tgt := 79) hx hb dX9_faultOf_13 (by decide) (fun c_13 => ?_) (fun c_13 => ?_)
      · have hle : L ≤ b := (nI_leI (a := L) (b := b) (by omega) (by omega)).mp c_13
        refine lv_iconst (v := (-1)) hx hb dX9_faultOf_79 (by decide) ?_
        exact hend _ _ _ _ _ _ hP hD hS dX9_faultOf_80 rfl (by rw [← hr]; simp +decide only [t_flL, hle, if_true, if_false, not_true_eq_false, not_false_eq_true, and_self, and_true, true_and, and_false, false_and, kn01, kn10, kn02, kn20, kn12, kn21, eq_self]) (by rw [← hr]; simp +decide only [t_flL, hle, if_true, if_false, not_true_eq_false, not_false_eq_true, and_self, and_true, true_and, and_false, false_and, kn01, kn10, kn02, kn20, kn12, kn21, eq_self])
      · have hle : ¬ L ≤ b := fun h => c_13 ((nI_leI (a := L) (b := b) (by omega) (by omega)).mpr h)
        refine lv_aload_n hx hb dX9_faultOf_16 rfl (lv_at hl 0 rfl) ?_
        refine va_get (D := D) (ci := 9) (v := .int (nI b)) (C := RX9) (T := TX9) (N := 8) hx hb hts u9 hown hK hP 0 rfl rfl 5 (by decide) k0 (fun _ h9 => h9) rfl dX9_faultOf_17 ?_
        refine lv_istore_n (lv' := [(1, .int (nI b)), (0, .ref a0)]) hx hb dX9_faultOf_20 rfl hl (by decide) rfl (fun ls hl => ?_)
        refine lv_aload_n hx hb dX9_faultOf_21 rfl (lv_at hl 1 rfl) ?_
        refine k_iF (va_runV (As := []) (rest := []) hF (c_X9_passesEvent l D I C Q a0 a1 a2 a3 a4 now kept st text L b z r hL (by omega) _) (cwV 0 hts gX9_faultOf_X9_passesEvent rfl rfl rfl (by decide +kernel) ⟨Nat.le_of_ble_eq_true rfl, Nat.le_of_ble_eq_true rfl⟩) (kPreV hE hP hD (ci := 9) (q0 := 0) rfl rfl) rfl rfl hl.1 rfl (lv_room (Nat.le_of_ble_eq_true rfl)) dX9_faultOf_22 ⟨Nat.zero_le _, Nat.zero_le _⟩) hD hS hA (fun H locs hP hD hS => ?_)
        have hP : va_P D vwCl (wM I a0 a1 a2 a3 a4 now kept st text (nI L) (nI ((t_ev text L b r).2.1)) ((t_ev text L b r).2.2.1) ((t_ev text L b r).2.2.2)) H := hP
        have hD : va_D A (wM I a0 a1 a2 a3 a4 now kept st text (nI L) (nI ((t_ev text L b r).2.1)) ((t_ev text L b r).2.2.1) ((t_ev text L b r).2.2.2)) := hD
        refine lv_if_ne (tgt := 34) hx hb dX9_faultOf_25 (by decide) (fun c_25 => ?_) (fun c_25 => ?_)
        · refine lv_aload_n hx hb dX9_faultOf_34 rfl (lv_at hl 1 rfl) ?_
          refine va_get (D := D) (ci := 9) (v := .ref a4) (C := RX9) (T := TX9) (N := 8) hx hb hts u9 hown hK hP 0 rfl rfl 7 (by decide) k2 (fun _ h9 => h9) rfl dX9_faultOf_35 ?_
          refine lv_iconst (v := 0) hx hb dX9_faultOf_38 (by decide) ?_
          refine k_iald (j := 0) (v := (((t_ev text L b r).2.2.2) 0)) hx hb hK hP 4 0 rfl rfl rfl (by decide) (by decide) rfl dX9_faultOf_39 ?_
          refine lv_aload_n hx hb dX9_faultOf_40 rfl (lv_at hl 1 rfl) ?_
          refine va_get (D := D) (ci := 9) (v := .ref a4) (C := RX9) (T := TX9) (N := 8) hx hb hts u9 hown hK hP 0 rfl rfl 7 (by decide) k2 (fun _ h9 => h9) rfl dX9_faultOf_41 ?_
          refine lv_iconst (v := 1) hx hb dX9_faultOf_44 (by decide) ?_
          refine k_iald (j := 1) (v := (((t_ev text L b r).2.2.2) 1)) hx hb hK hP 4 0 rfl rfl rfl (by decide) (by decide) rfl dX9_faultOf_45 ?_
          refine lv_aload_n hx hb dX9_faultOf_46 rfl (lv_at hl 1 rfl) ?_
          refine va_get (D := D) (ci := 9) (v := .ref a4) (C := RX9) (T := TX9) (N := 8) hx hb hts u9 hown hK hP 0 rfl rfl 7 (by decide) k2 (fun _ h9 => h9) rfl dX9_faultOf_47 ?_
          refine lv_iconst (v := 2) hx hb dX9_faultOf_50 (by decide) ?_
          refine k_iald (j := 2) (v := (((t_ev text L b r).2.2.2) 2)) hx hb hK hP 4 0 rfl rfl rfl (by decide) (by decide) rfl dX9_faultOf_51 ?_
          refine lv_aload_n hx hb dX9_faultOf_52 rfl (lv_at hl 1 rfl) ?_
          refine va_get (D := D) (ci := 9) (v := .ref a4) (C := RX9) (T := TX9) (N := 8) hx hb hts u9 hown hK hP 0 rfl rfl 7 (by decide) k2 (fun _ h9 => h9) rfl dX9_faultOf_53 ?_
          refine lv_iconst (v := 3) hx hb dX9_faultOf_56 (by decide) ?_
          refine k_iald (j := 3) (v := (((t_ev text L b r).2.2.2) 3)) hx hb hK hP 4 0 rfl rfl rfl (by decide) (by decide) rfl dX9_faultOf_57 ?_
          refine lv_aload_n hx hb dX9_faultOf_58 rfl (lv_at hl 1 rfl) ?_
          refine va_get (D := D) (ci := 9) (v := .ref a4) (C := RX9) (T := TX9) (N := 8) hx hb hts u9 hown hK hP 0 rfl rfl 7 (by decide) k2 (fun _ h9 => h9) rfl dX9_faultOf_59 ?_
          refine lv_iconst (v := 4) hx hb dX9_faultOf_62 (by decide) ?_
          refine k_iald (j := 4) (v := (((t_ev text L b r).2.2.2) 4)) hx hb hK hP 4 0 rfl rfl rfl (by decide) (by decide) rfl dX9_faultOf_63 ?_
          refine k_i0 (va_runS (As := [.int (((t_ev text L b r).2.2.2) 0), .int (((t_ev text L b r).2.2.2) 1), .int (((t_ev text L b r).2.2.2) 2), .int (((t_ev text L b r).2.2.2) 3), .int (((t_ev text L b r).2.2.2) 4)]) (rest := []) hF (c_X9_isEvent l D I C Q (((t_ev text L b r).2.2.2) 0) (((t_ev text L b r).2.2.2) 1) (((t_ev text L b r).2.2.2) 2) (((t_ev text L b r).2.2.2) 3) (((t_ev text L b r).2.2.2) 4) _) (va_cwS 5 hts gX9_faultOf_X9_isEvent rfl rfl rfl (by decide +kernel) ⟨Nat.le_of_ble_eq_true rfl, Nat.le_of_ble_eq_true rfl⟩) (kPreS hE k_P0 (k_D0 (A := A))) rfl rfl hl.1 rfl (lv_room (Nat.le_of_ble_eq_true rfl)) dX9_faultOf_64 ⟨Nat.zero_le _, Nat.zero_le _⟩) hP hS hA (fun H locs hP hS => ?_)
          refine lv_if_ne (tgt := 76) hx hb dX9_faultOf_67 (by decide) (fun c_67 => ?_) (fun c_67 => ?_)
          · refine lv_goto (tgt := 5) hx hb dX9_faultOf_76 (by decide) ?_
            exact ih ((t_ev text L b r).2.1) ((t_ev text L b r).2.2.1) ((t_ev text L b r).2.2.2) (by have h := t_ev_prog c_25; omega) (by have h := t_ev_prog c_25; omega) _ _ _ hP hD hS (lv_sub hl [1] rfl) (by rw [← hr]; simp +decide only [t_flL, hle, c_25, c_67, if_true, if_false, not_true_eq_false, not_false_eq_true, and_self, and_true, true_and, and_false, false_and, kn01, kn10, kn02, kn20, kn12, kn21, eq_self])
          · refine lv_sipush (v := 2000) hx hb dX9_faultOf_70 (by decide) ?_
            refine lv_iload_n hx hb dX9_faultOf_73 rfl (lv_at hl 0 rfl) ?_
            refine k_iadd (v := nI (2000 + b)) hx hb dX9_faultOf_74 (nI_add 2000 b) ?_
            exact hend _ _ _ _ _ _ hP hD hS dX9_faultOf_75 rfl (by rw [← hr]; simp +decide only [t_flL, hle, c_25, c_67, if_true, if_false, not_true_eq_false, not_false_eq_true, and_self, and_true, true_and, and_false, false_and, kn01, kn10, kn02, kn20, kn12, kn21, eq_self]) (by rw [← hr]; simp +decide only [t_flL, hle, c_25, c_67, if_true, if_false, not_true_eq_false, not_false_eq_true, and_self, and_true, true_and, and_false, false_and, kn01, kn10, kn02, kn20, kn12, kn21, eq_self])
        · refine lv_sipush (v := 1000) hx hb dX9_faultOf_28 (by decide) ?_
          refine lv_iload_n hx hb dX9_faultOf_31 rfl (lv_at hl 0 rfl) ?_
          refine k_iadd (v := nI (1000 + b)) hx hb dX9_faultOf_32 (nI_add 1000 b) ?_
          exact hend _ _ _ _ _ _ hP hD hS dX9_faultOf_33 rfl (by rw [← hr]; simp +decide only [t_flL, hle, c_25, if_true, if_false, not_true_eq_false, not_false_eq_true, and_self, and_true, true_and, and_false, false_and, kn01, kn10, kn02, kn20, kn12, kn21, eq_self]) (by rw [← hr]; simp +decide only [t_flL, hle, c_25, if_true, if_false, not_true_eq_false, not_false_eq_true, and_self, and_true, true_and, and_false, false_and, kn01, kn10, kn02, kn20, kn12, kn21, eq_self])
  exact loop5 80 0 num rd (by omega) (by omega) _ _ _ hP hD hS (lv_sub hl [0] rfl) rfl
set_option maxHeartbeats 400000 in
set_option maxRecDepth 100000 in
theorem c_X9_faultB (l : Launch) (D : va_G) (I C Q : ClassId) (a0 a1 a2 a3 a4 : Nat) (now : Nat → Int32) (kept : Nat → Int32) (st : Int32) (text : Nat → Int32) (len : Int32) (att : Int32) (num : Int32) (rd : Nat → Int32) (x : Int32) (hbad : m_isIn x 0 1 = 0) : KI l D (tyL I C Q) yX9_fault wsX9_fault { frames := 1, cells := 0, slots := 0, locals := 22 } [.ref a0, .int x] (wM I a0 a1 a2 a3 a4 now kept st text len att num rd) (wM I a0 a1 a2 a3 a4 now kept st text len att num rd) (-1000001) := by
  refine KI.of (cc := cX9_fault) (maxL := 3) (rt := .int) (own := RX9) (by decide) rfl rfl (Nat.le_of_ble_eq_true rfl) ?_
  intro p e s m below meth c A Q0 ls hx hb hml hown hts hE hA hP hD hS hl hend
  have hK := hE.1
  have hF : CallFix p m c cX9_fault 3 s [.ref a0, .int x].toArray wsX9_fault RX9 := ⟨hx, hb, hml, hown, hts⟩
  have k0 := hts (.constant RX9 31 (-1000001)) (List.mem_of_getElem? (i := 1) rfl)
  have hl : lv_has ls 3 [(0, .ref a0), (1, .int x)] := hl
  refine lv_iload_n hx hb dX9_fault_0 rfl (lv_at hl 1 rfl) ?_
  refine lv_iconst (v := 0) hx hb dX9_fault_1 (by decide) ?_
  refine lv_iconst (v := 1) hx hb dX9_fault_2 (by decide) ?_
  refine k_i0 (va_runS (As := [.int x, .int 0, .int 1]) (rest := []) hF (c_X9_isIn l D I C Q x 0 1 _) (va_cwS 3 hts gX9_fault_X9_isIn rfl rfl rfl (by decide +kernel) ⟨Nat.le_of_ble_eq_true rfl, Nat.le_of_ble_eq_true rfl⟩) (kPreS hE k_P0 (k_D0 (A := A))) rfl rfl hl.1 rfl (lv_room (Nat.le_of_ble_eq_true rfl)) dX9_fault_3 ⟨Nat.zero_le _, Nat.zero_le _⟩) hP hS hA (fun H locs hP hS => ?_)
  refine lv_if_ne (tgt := 12) hx hb dX9_fault_6 (by decide) (fun c_6 => ?_) (fun c_6 => ?_)
  · exact absurd hbad c_6
  · refine lv_ldc (v := (-1000001)) hx hb hown k0 dX9_fault_9 ?_
    exact hend _ _ _ _ _ _ hP hD hS dX9_fault_11 rfl rfl rfl
set_option maxHeartbeats 400000 in
set_option maxRecDepth 100000 in
theorem c_X9_faultO (l : Launch) (D : va_G) (I C Q : ClassId) (a0 a1 a2 a3 a4 : Nat) (now : Nat → Int32) (kept : Nat → Int32) (st : Int32) (text : Nat → Int32) (L : Nat) (att : Int32) (num : Int32) (rd : Nat → Int32) (x : Int32) (hL : L ≤ 80) (hok : ¬ m_isIn x 0 1 = 0) : KI l D (tyL I C Q) yX9_fault wsX9_fault { frames := 4, cells := 0, slots := 0, locals := 85 } [.ref a0, .int x] (wM I a0 a1 a2 a3 a4 now kept st text (nI L) att num rd) (wM I a0 a1 a2 a3 a4 now kept st text (nI L) (nI ((t_fo text L num rd).2.1)) ((t_fo text L num rd).2.2.1) ((t_fo text L num rd).2.2.2)) (t_fl text L num rd x) := by
  refine KI.of (cc := cX9_fault) (maxL := 3) (rt := .int) (own := RX9) (by decide) rfl rfl (Nat.le_of_ble_eq_true rfl) ?_
  intro p e s m below meth c A Q0 ls hx hb hml hown hts hE hA hP hD hS hl hend
  have hK := hE.1
  have hF : CallFix p m c cX9_fault 3 s [.ref a0, .int x].toArray wsX9_fault RX9 := ⟨hx, hb, hml, hown, hts⟩
  have k0 := hts (.constant RX9 119 (-1000004)) (List.mem_of_getElem? (i := 2) rfl)
  have hl : lv_has ls 3 [(0, .ref a0), (1, .int x)] := hl
  refine lv_iload_n hx hb dX9_fault_0 rfl (lv_at hl 1 rfl) ?_
  refine lv_iconst (v := 0) hx hb dX9_fault_1 (by decide) ?_
  refine lv_iconst (v := 1) hx hb dX9_fault_2 (by decide) ?_
  refine k_i0 (va_runS (As := [.int x, .int 0, .int 1]) (rest := []) hF (c_X9_isIn l D I C Q x 0 1 _) (va_cwS 3 hts gX9_fault_X9_isIn rfl rfl rfl (by decide +kernel) ⟨Nat.le_of_ble_eq_true rfl, Nat.le_of_ble_eq_true rfl⟩) (kPreS hE k_P0 (k_D0 (A := A))) rfl rfl hl.1 rfl (lv_room (Nat.le_of_ble_eq_true rfl)) dX9_fault_3 ⟨Nat.zero_le _, Nat.zero_le _⟩) hP hS hA (fun H locs hP hS => ?_)
  refine lv_if_ne (tgt := 12) hx hb dX9_fault_6 (by decide) (fun c_6 => ?_) (fun c_6 => ?_)
  · refine lv_aload_n hx hb dX9_fault_12 rfl (lv_at hl 0 rfl) ?_
    refine k_iF (va_runV (As := []) (rest := []) hF (c_X9_faultOf l D I C Q a0 a1 a2 a3 a4 now kept st text L att num rd hL _) (cwV 0 hts gX9_fault_X9_faultOf rfl rfl rfl (by decide +kernel) ⟨Nat.le_of_ble_eq_true rfl, Nat.le_of_ble_eq_true rfl⟩) (kPreV hE hP hD (ci := 9) (q0 := 0) rfl rfl) rfl rfl hl.1 rfl (lv_room (Nat.le_of_ble_eq_true rfl)) dX9_fault_13 ⟨Nat.zero_le _, Nat.zero_le _⟩) hD hS hA (fun H locs hP hD hS => ?_)
    have hP : va_P D vwCl (wM I a0 a1 a2 a3 a4 now kept st text (nI L) (nI ((t_fo text L num rd).2.1)) ((t_fo text L num rd).2.2.1) ((t_fo text L num rd).2.2.2)) H := hP
    have hD : va_D A (wM I a0 a1 a2 a3 a4 now kept st text (nI L) (nI ((t_fo text L num rd).2.1)) ((t_fo text L num rd).2.2.1) ((t_fo text L num rd).2.2.2)) := hD
    refine lv_istore_n (lv' := [(2, .int ((t_fo text L num rd).1)), (0, .ref a0), (1, .int x)]) hx hb dX9_fault_16 rfl hl (by decide) rfl (fun ls hl => ?_)
    refine lv_iload_n hx hb dX9_fault_17 rfl (lv_at hl 0 rfl) ?_
    refine lv_if_ge (tgt := 24) hx hb dX9_fault_18 (by decide) (fun c_18 => ?_) (fun c_18 => ?_)
    · refine lv_iload_n hx hb dX9_fault_24 rfl (lv_at hl 2 rfl) ?_
      refine lv_if_ne (tgt := 36) hx hb dX9_fault_25 (by decide) (fun c_25 => ?_) (fun c_25 => ?_)
      · refine lv_iload_n hx hb dX9_fault_36 rfl (lv_at hl 0 rfl) ?_
        refine lv_sipush (v := 1000) hx hb dX9_fault_37 (by decide) ?_
        refine lv_idiv hx hb dX9_fault_40 (by decide) ?_
        exact hend _ _ _ _ _ _ hP hD hS dX9_fault_41 rfl rfl (by simp +decide only [t_fl, c_6, c_18, c_25, if_true, if_false, not_true_eq_false, not_false_eq_true, and_self, and_true, true_and, and_false, false_and, kn01, kn10, kn02, kn20, kn12, kn21, eq_self])
      · refine lv_iload_n hx hb dX9_fault_28 rfl (lv_at hl 0 rfl) ?_
        refine lv_sipush (v := 1000) hx hb dX9_fault_29 (by decide) ?_
        refine lv_irem hx hb dX9_fault_32 (by decide) ?_
        refine lv_goto (tgt := 41) hx hb dX9_fault_33 (by decide) ?_
        exact hend _ _ _ _ _ _ hP hD hS dX9_fault_41 rfl rfl (by simp +decide only [t_fl, c_6, c_18, c_25, if_true, if_false, not_true_eq_false, not_false_eq_true, and_self, and_true, true_and, and_false, false_and, kn01, kn10, kn02, kn20, kn12, kn21, eq_self])
    · refine lv_ldc (v := (-1000004)) hx hb hown k0 dX9_fault_21 ?_
      exact hend _ _ _ _ _ _ hP hD hS dX9_fault_23 rfl rfl (by simp +decide only [t_fl, c_6, c_18, if_true, if_false, not_true_eq_false, not_false_eq_true, and_self, and_true, true_and, and_false, false_and, kn01, kn10, kn02, kn20, kn12, kn21, eq_self])
  · exact absurd c_6 hok
