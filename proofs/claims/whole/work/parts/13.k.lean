set_option maxHeartbeats 400000 in
set_option maxRecDepth 100000 in
theorem c_X9_moveB (l : Launch) (D : va_G) (I C Q : ClassId) (a0 a1 a2 a3 a4 : Nat) (now : Nat → Int32) (kept : Nat → Int32) (st : Int32) (text : Nat → Int32) (len : Int32) (att : Int32) (num : Int32) (rd : Nat → Int32) (ti : Int32) (hbad : m_isIn ti 1 100 = 0) : KI l D (tyL I C Q) yX9_move wsX9_move { frames := 1, cells := 0, slots := 0, locals := 22 } [.ref a0, .int ti] (wM I a0 a1 a2 a3 a4 now kept st text len att num rd) (wM I a0 a1 a2 a3 a4 now kept st text len att num rd) (-1000001) := by
  refine KI.of (cc := cX9_move) (maxL := 6) (rt := .int) (own := RX9) (by decide) rfl rfl (Nat.le_of_ble_eq_true rfl) ?_
  intro p e s m below meth c A Q0 ls hx hb hml hown hts hE hA hP hD hS hl hend
  have hK := hE.1
  have hF : CallFix p m c cX9_move 6 s [.ref a0, .int ti].toArray wsX9_move RX9 := ⟨hx, hb, hml, hown, hts⟩
  have k0 := hts (.constant RX9 31 (-1000001)) (List.mem_of_getElem? (i := 1) rfl)
  have hl : lv_has ls 6 [(0, .ref a0), (1, .int ti)] := hl
  refine lv_iload_n hx hb dX9_move_0 rfl (lv_at hl 1 rfl) ?_
  refine lv_iconst (v := 1) hx hb dX9_move_1 (by decide) ?_
  refine lv_bipush (v := 100) hx hb dX9_move_2 (by decide) ?_
  refine k_i0 (va_runS (As := [.int ti, .int 1, .int 100]) (rest := []) hF (c_X9_isIn l D I C Q ti 1 100 _) (va_cwS 3 hts gX9_move_X9_isIn rfl rfl rfl (by decide +kernel) ⟨Nat.le_of_ble_eq_true rfl, Nat.le_of_ble_eq_true rfl⟩) (kPreS hE k_P0 (k_D0 (A := A))) rfl rfl hl.1 rfl (lv_room (Nat.le_of_ble_eq_true rfl)) dX9_move_4 ⟨Nat.zero_le _, Nat.zero_le _⟩) hP hS hA (fun H locs hP hS => ?_)
  refine lv_if_ne (tgt := 13) hx hb dX9_move_7 (by decide) (fun c_7 => ?_) (fun c_7 => ?_)
  · exact absurd hbad c_7
  · refine lv_ldc (v := (-1000001)) hx hb hown k0 dX9_move_10 ?_
    exact hend _ _ _ _ _ _ hP hD hS dX9_move_12 rfl rfl rfl
set_option maxHeartbeats 400000 in
set_option maxRecDepth 100000 in
theorem c_X9_moveN (l : Launch) (D : va_G) (I C Q : ClassId) (a0 a1 a2 a3 a4 : Nat) (now : Nat → Int32) (kept : Nat → Int32) (st : Int32) (text : Nat → Int32) (len : Int32) (att : Int32) (num : Int32) (rd : Nat → Int32) (ti : Int32) (hok : ¬ m_isIn ti 1 100 = 0) (hnp2 : now 2 = 1 ∨ now 0 = -1) : KI l D (tyL I C Q) yX9_move wsX9_move { frames := 1, cells := 0, slots := 0, locals := 22 } [.ref a0, .int ti] (wM I a0 a1 a2 a3 a4 now kept st text len att num rd) (wM I a0 a1 a2 a3 a4 now kept st text len att num rd) (-1000002) := by
  refine KI.of (cc := cX9_move) (maxL := 6) (rt := .int) (own := RX9) (by decide) rfl rfl (Nat.le_of_ble_eq_true rfl) ?_
  intro p e s m below meth c A Q0 ls hx hb hml hown hts hE hA hP hD hS hl hend
  have hK := hE.1
  have hF : CallFix p m c cX9_move 6 s [.ref a0, .int ti].toArray wsX9_move RX9 := ⟨hx, hb, hml, hown, hts⟩
  have k0 := hts (.fieldLink RX9 7 "LateExcusesModel" "now" "[I") (List.mem_of_getElem? (i := 2) rfl)
  have k1 := hts (.constant RX9 26 (-1000002)) (List.mem_of_getElem? (i := 3) rfl)
  have u9 : ∀ w ∈ u_ws RX9 TX9 8, w ∈ wsX9_move := by decide +kernel
  have hl : lv_has ls 6 [(0, .ref a0), (1, .int ti)] := hl
  refine lv_iload_n hx hb dX9_move_0 rfl (lv_at hl 1 rfl) ?_
  refine lv_iconst (v := 1) hx hb dX9_move_1 (by decide) ?_
  refine lv_bipush (v := 100) hx hb dX9_move_2 (by decide) ?_
  refine k_i0 (va_runS (As := [.int ti, .int 1, .int 100]) (rest := []) hF (c_X9_isIn l D I C Q ti 1 100 _) (va_cwS 3 hts gX9_move_X9_isIn rfl rfl rfl (by decide +kernel) ⟨Nat.le_of_ble_eq_true rfl, Nat.le_of_ble_eq_true rfl⟩) (kPreS hE k_P0 (k_D0 (A := A))) rfl rfl hl.1 rfl (lv_room (Nat.le_of_ble_eq_true rfl)) dX9_move_4 ⟨Nat.zero_le _, Nat.zero_le _⟩) hP hS hA (fun H locs hP hS => ?_)
  refine lv_if_ne (tgt := 13) hx hb dX9_move_7 (by decide) (fun c_7 => ?_) (fun c_7 => ?_)
  · refine lv_aload_n hx hb dX9_move_13 rfl (lv_at hl 0 rfl) ?_
    refine va_get (D := D) (ci := 9) (v := .ref a1) (C := RX9) (T := TX9) (N := 8) hx hb hts u9 hown hK hP 0 rfl rfl 0 (by decide) k0 (fun _ h9 => h9) rfl dX9_move_14 ?_
    refine lv_iconst (v := 2) hx hb dX9_move_17 (by decide) ?_
    refine k_iald (j := 2) (v := (now 2)) hx hb hK hP 1 0 rfl rfl rfl (by decide) (by decide) rfl dX9_move_18 ?_
    refine lv_iconst (v := 1) hx hb dX9_move_19 (by decide) ?_
    refine lv_icmp_eq (tgt := 33) hx hb dX9_move_20 (by decide) (fun c_20 => ?_) (fun c_20 => ?_)
    · refine lv_ldc (v := (-1000002)) hx hb hown k1 dX9_move_33 ?_
      exact hend _ _ _ _ _ _ hP hD hS dX9_move_35 rfl rfl rfl
    · refine lv_aload_n hx hb dX9_move_23 rfl (lv_at hl 0 rfl) ?_
      refine va_get (D := D) (ci := 9) (v := .ref a1) (C := RX9) (T := TX9) (N := 8) hx hb hts u9 hown hK hP 0 rfl rfl 0 (by decide) k0 (fun _ h9 => h9) rfl dX9_move_24 ?_
      refine lv_iconst (v := 0) hx hb dX9_move_27 (by decide) ?_
      refine k_iald (j := 0) (v := (now 0)) hx hb hK hP 1 0 rfl rfl rfl (by decide) (by decide) rfl dX9_move_28 ?_
      refine lv_iconst (v := (-1)) hx hb dX9_move_29 (by decide) ?_
      refine lv_icmp_ne (tgt := 36) hx hb dX9_move_30 (by decide) (fun c_30 => ?_) (fun c_30 => ?_)
      · exact (hnp2.elim c_20 c_30).elim
      · refine lv_ldc (v := (-1000002)) hx hb hown k1 dX9_move_33 ?_
        exact hend _ _ _ _ _ _ hP hD hS dX9_move_35 rfl rfl rfl
  · exact absurd c_7 hok
set_option maxHeartbeats 400000 in
set_option maxRecDepth 100000 in
theorem c_X9_moveO (l : Launch) (D : va_G) (I C Q : ClassId) (a0 a1 a2 a3 a4 : Nat) (now : Nat → Int32) (kept : Nat → Int32) (ns : Nat) (text : Nat → Int32) (len : Int32) (att : Int32) (num : Int32) (rd : Nat → Int32) (np : Nat) (sz : Nat) (ti : Int32) (hok : ¬ m_isIn ti 1 100 = 0) (hnp : now 10 = nI np) (hn64 : np ≤ 64) (hsz : now 6 = nI sz) (hs0 : 0 < sz) (hs1 : sz ≤ 100) (hwk : wOk now) (hnk : nOk now np) (hw0 : now 0 ≤ 1999) (hns : ns ≤ 4) (h2 : ¬ now 2 = 1) (h0 : ¬ now 0 = -1) : KI l D (tyL I C Q) yX9_move wsX9_move { frames := 3, cells := 0, slots := 0, locals := 66 } [.ref a0, .int ti] (wM I a0 a1 a2 a3 a4 now kept (nI ns) text len att num rd) (wM I a0 a1 a2 a3 a4 (upd (upd (m_mv now ti np sz).2 0 (m_mvT now ti)) 2 1) (m_rec now kept ns) (nI (m_rns ns)) text len att num rd) (nI (m_mv now ti np sz).1) := by
  refine KI.of (cc := cX9_move) (maxL := 6) (rt := .int) (own := RX9) (by decide) rfl rfl (Nat.le_of_ble_eq_true rfl) ?_
  intro p e s m below meth c A Q0 ls hx hb hml hown hts hE hA hP hD hS hl hend
  have hK := hE.1
  have hF : CallFix p m c cX9_move 6 s [.ref a0, .int ti].toArray wsX9_move RX9 := ⟨hx, hb, hml, hown, hts⟩
  have k0 := hts (.fieldLink RX9 7 "LateExcusesModel" "now" "[I") (List.mem_of_getElem? (i := 2) rfl)
  have u9 : ∀ w ∈ u_ws RX9 TX9 8, w ∈ wsX9_move := by decide +kernel
  have hl : lv_has ls 6 [(0, .ref a0), (1, .int ti)] := hl
  refine lv_iload_n hx hb dX9_move_0 rfl (lv_at hl 1 rfl) ?_
  refine lv_iconst (v := 1) hx hb dX9_move_1 (by decide) ?_
  refine lv_bipush (v := 100) hx hb dX9_move_2 (by decide) ?_
  refine k_i0 (va_runS (As := [.int ti, .int 1, .int 100]) (rest := []) hF (c_X9_isIn l D I C Q ti 1 100 _) (va_cwS 3 hts gX9_move_X9_isIn rfl rfl rfl (by decide +kernel) ⟨Nat.le_of_ble_eq_true rfl, Nat.le_of_ble_eq_true rfl⟩) (kPreS hE k_P0 (k_D0 (A := A))) rfl rfl hl.1 rfl (lv_room (Nat.le_of_ble_eq_true rfl)) dX9_move_4 ⟨Nat.zero_le _, Nat.zero_le _⟩) hP hS hA (fun H locs hP hS => ?_)
  refine lv_if_ne (tgt := 13) hx hb dX9_move_7 (by decide) (fun c_7 => ?_) (fun c_7 => ?_)
  · refine lv_aload_n hx hb dX9_move_13 rfl (lv_at hl 0 rfl) ?_
    refine va_get (D := D) (ci := 9) (v := .ref a1) (C := RX9) (T := TX9) (N := 8) hx hb hts u9 hown hK hP 0 rfl rfl 0 (by decide) k0 (fun _ h9 => h9) rfl dX9_move_14 ?_
    refine lv_iconst (v := 2) hx hb dX9_move_17 (by decide) ?_
    refine k_iald (j := 2) (v := (now 2)) hx hb hK hP 1 0 rfl rfl rfl (by decide) (by decide) rfl dX9_move_18 ?_
    refine lv_iconst (v := 1) hx hb dX9_move_19 (by decide) ?_
    refine lv_icmp_eq (tgt := 33) hx hb dX9_move_20 (by decide) (fun c_20 => ?_) (fun c_20 => ?_)
    · exact absurd c_20 h2
    · refine lv_aload_n hx hb dX9_move_23 rfl (lv_at hl 0 rfl) ?_
      refine va_get (D := D) (ci := 9) (v := .ref a1) (C := RX9) (T := TX9) (N := 8) hx hb hts u9 hown hK hP 0 rfl rfl 0 (by decide) k0 (fun _ h9 => h9) rfl dX9_move_24 ?_
      refine lv_iconst (v := 0) hx hb dX9_move_27 (by decide) ?_
      refine k_iald (j := 0) (v := (now 0)) hx hb hK hP 1 0 rfl rfl rfl (by decide) (by decide) rfl dX9_move_28 ?_
      refine lv_iconst (v := (-1)) hx hb dX9_move_29 (by decide) ?_
      refine lv_icmp_ne (tgt := 36) hx hb dX9_move_30 (by decide) (fun c_30 => ?_) (fun c_30 => ?_)
      · refine lv_aload_n hx hb dX9_move_36 rfl (lv_at hl 0 rfl) ?_
        refine k_vF (va_runV (As := []) (rest := []) hF (c_X9_records l D I C Q a0 a1 a2 a3 a4 now kept ns text len att num rd hns _) (cwV 0 hts gX9_move_X9_records rfl rfl rfl (by decide +kernel) ⟨Nat.le_of_ble_eq_true rfl, Nat.le_of_ble_eq_true rfl⟩) (kPreV hE hP hD (ci := 9) (q0 := 0) rfl rfl) rfl rfl hl.1 rfl (lv_room (Nat.le_of_ble_eq_true rfl)) dX9_move_37 ⟨Nat.zero_le _, Nat.zero_le _⟩) hD hS hA (fun H locs hP hD hS => ?_)
        have hP : va_P D vwCl (wM I a0 a1 a2 a3 a4 now (m_rec now kept ns) (nI (m_rns ns)) text len att num rd) H := hP
        have hD : va_D A (wM I a0 a1 a2 a3 a4 now (m_rec now kept ns) (nI (m_rns ns)) text len att num rd) := hD
        refine lv_aload_n hx hb dX9_move_40 rfl (lv_at hl 0 rfl) ?_
        refine va_get (D := D) (ci := 9) (v := .ref a1) (C := RX9) (T := TX9) (N := 8) hx hb hts u9 hown hK hP 0 rfl rfl 0 (by decide) k0 (fun _ h9 => h9) rfl dX9_move_41 ?_
        refine lv_iconst (v := 0) hx hb dX9_move_44 (by decide) ?_
        refine k_iald (j := 0) (v := (now 0)) hx hb hK hP 1 0 rfl rfl rfl (by decide) (by decide) rfl dX9_move_45 ?_
        refine lv_istore_n (lv' := [(2, .int (now 0)), (0, .ref a0), (1, .int ti)]) hx hb dX9_move_46 rfl hl (by decide) rfl (fun ls hl => ?_)
        refine lv_iload_n hx hb dX9_move_47 rfl (lv_at hl 0 rfl) ?_
        refine lv_iload_n hx hb dX9_move_48 rfl (lv_at hl 2 rfl) ?_
        refine lv_isub hx hb dX9_move_49 ?_
        refine lv_iconst (v := (-1)) hx hb dX9_move_50 (by decide) ?_
        refine lv_icmp_ge (tgt := 58) hx hb dX9_move_51 (by decide) (fun c_51 => ?_) (fun c_51 => ?_)
        · refine lv_iload_n hx hb dX9_move_58 rfl (lv_at hl 0 rfl) ?_
          refine lv_iload_n hx hb dX9_move_59 rfl (lv_at hl 2 rfl) ?_
          refine lv_isub hx hb dX9_move_60 ?_
          refine lv_istore_n (lv' := [(3, .int ((now 0) - ti)), (2, .int (now 0)), (0, .ref a0), (1, .int ti)]) hx hb dX9_move_61 rfl hl (by decide) rfl (fun ls hl => ?_)
          refine lv_iconst (v := 0) hx hb dX9_move_62 (by decide) ?_
          refine lv_istore (lv' := [(4, .int 0), (3, .int ((now 0) - ti)), (2, .int (now 0)), (0, .ref a0), (1, .int ti)]) hx hb dX9_move_63 hl (by decide) rfl (fun ls hl => ?_)
          refine lv_iconst (v := 0) hx hb dX9_move_65 (by decide) ?_
          refine lv_istore (lv' := [(5, .int 0), (4, .int 0), (3, .int ((now 0) - ti)), (2, .int (now 0)), (0, .ref a0), (1, .int ti)]) hx hb dX9_move_66 hl (by decide) rfl (fun ls hl => ?_)
          have loop68 : ∀ (n : Nat) (f : Nat → Int32) (b : Nat) (cn : Nat), (wOk f) → (f 10 = nI np) → (f 6 = nI sz) → (nOk f np) → (b + n = 2000) → ∀ (H : Heap) (locs : List Loc) (ls : Array Slot), va_P D vwCl (wM I a0 a1 a2 a3 a4 f (m_rec now kept ns) (nI (m_rns ns)) text len att num rd) H → va_D A (wM I a0 a1 a2 a3 a4 f (m_rec now kept ns) (nI (m_rns ns)) text len att num rd) → va_S A s.heap H locs → lv_has ls 6 [(0, .ref a0), (1, .int ti), (2, .int (now 0)), (3, .int (m_mvT now ti)), (4, .int (nI cn)), (5, .int (nI b))] → (m_mvL (now 0) (m_mvT now ti) np sz n f b cn = m_mv now ti np sz) → W p l e ({ frames := 3, cells := 0, slots := 0, locals := 66 } : Room) s m [.ref a0, .int ti].toArray below meth c H locs 0 0 Q0 (F0 m 68 ls []) := by
            intro n
            induction n with
            | zero =>
              intro f b cn hwf hf10 hf6 hnf hbn H locs ls hP hD hS hl hr
              refine lv_aload_n hx hb dX9_move_68 rfl (lv_at hl 0 rfl) ?_
              refine lv_iload hx hb dX9_move_69 (lv_at hl 5 rfl) ?_
              refine k_iF (va_runV (As := [.int (nI b)]) (rest := []) hF (c_X9_endOfN l D I C Q a0 a1 a2 a3 a4 f (m_rec now kept ns) (nI (m_rns ns)) text len att num rd sz b hf6 hs0 hs1 _) (cwV 1 hts gX9_move_X9_endOf rfl rfl rfl (by decide +kernel) ⟨Nat.le_of_ble_eq_true rfl, Nat.le_of_ble_eq_true rfl⟩) (kPreV hE hP hD (ci := 9) (q0 := 0) rfl rfl) rfl rfl hl.1 rfl (lv_room (Nat.le_of_ble_eq_true rfl)) dX9_move_71 ⟨Nat.zero_le _, Nat.zero_le _⟩) hD hS hA (fun H locs hP hD hS => ?_)
              refine lv_iload_n hx hb dX9_move_74 rfl (lv_at hl 2 rfl) ?_
              refine lv_icmp_gt (tgt := 125) hx hb dX9_move_75 (by decide) (fun c_75 => ?_) (fun c_75 => ?_)
              · refine lv_aload_n hx hb dX9_move_125 rfl (lv_at hl 0 rfl) ?_
                refine va_get (D := D) (ci := 9) (v := .ref a1) (C := RX9) (T := TX9) (N := 8) hx hb hts u9 hown hK hP 0 rfl rfl 0 (by decide) k0 (fun _ h9 => h9) rfl dX9_move_126 ?_
                refine lv_iconst (v := 0) hx hb dX9_move_129 (by decide) ?_
                refine lv_iload_n hx hb dX9_move_130 rfl (lv_at hl 3 rfl) ?_
                refine k_iast (j := 0) hx hb hK hP hD hS 1 0 rfl rfl rfl (by decide) (by decide) dX9_move_131 (fun H locs hP hD hS => ?_)
                have hP : va_P D vwCl (wM I a0 a1 a2 a3 a4 (upd f 0 (m_mvT now ti)) (m_rec now kept ns) (nI (m_rns ns)) text len att num rd) H := hP
                have hD : va_D A (wM I a0 a1 a2 a3 a4 (upd f 0 (m_mvT now ti)) (m_rec now kept ns) (nI (m_rns ns)) text len att num rd) := hD
                refine lv_aload_n hx hb dX9_move_132 rfl (lv_at hl 0 rfl) ?_
                refine va_get (D := D) (ci := 9) (v := .ref a1) (C := RX9) (T := TX9) (N := 8) hx hb hts u9 hown hK hP 0 rfl rfl 0 (by decide) k0 (fun _ h9 => h9) rfl dX9_move_133 ?_
                refine lv_iconst (v := 2) hx hb dX9_move_136 (by decide) ?_
                refine lv_iconst (v := 1) hx hb dX9_move_137 (by decide) ?_
                refine k_iast (j := 2) hx hb hK hP hD hS 1 0 rfl rfl rfl (by decide) (by decide) dX9_move_138 (fun H locs hP hD hS => ?_)
                have hP : va_P D vwCl (wM I a0 a1 a2 a3 a4 (upd (upd f 0 (m_mvT now ti)) 2 1) (m_rec now kept ns) (nI (m_rns ns)) text len att num rd) H := hP
                have hD : va_D A (wM I a0 a1 a2 a3 a4 (upd (upd f 0 (m_mvT now ti)) 2 1) (m_rec now kept ns) (nI (m_rns ns)) text len att num rd) := hD
                refine lv_iload hx hb dX9_move_139 (lv_at hl 4 rfl) ?_
                exact hend _ _ _ _ _ _ hP hD hS dX9_move_141 rfl (by rw [← hr]; simp +decide only [m_mvL, c_75, if_true, if_false, not_true_eq_false, not_false_eq_true, and_self, and_true, true_and, and_false, false_and, kn01, kn10, kn02, kn20, kn12, kn21, eq_self]) (by rw [← hr]; simp +decide only [m_mvL, c_75, if_true, if_false, not_true_eq_false, not_false_eq_true, and_self, and_true, true_and, and_false, false_and, kn01, kn10, kn02, kn20, kn12, kn21, eq_self])
              · exact absurd (k_end hs0 hs1 hw0 (by omega) (by omega)) c_75
            | succ n ih =>
              intro f b cn hwf hf10 hf6 hnf hbn H locs ls hP hD hS hl hr
              refine lv_aload_n hx hb dX9_move_68 rfl (lv_at hl 0 rfl) ?_
              refine lv_iload hx hb dX9_move_69 (lv_at hl 5 rfl) ?_
              refine k_iF (va_runV (As := [.int (nI b)]) (rest := []) hF (c_X9_endOfN l D I C Q a0 a1 a2 a3 a4 f (m_rec now kept ns) (nI (m_rns ns)) text len att num rd sz b hf6 hs0 hs1 _) (cwV 1 hts gX9_move_X9_endOf rfl rfl rfl (by decide +kernel) ⟨Nat.le_of_ble_eq_true rfl, Nat.le_of_ble_eq_true rfl⟩) (kPreV hE hP hD (ci := 9) (q0 := 0) rfl rfl) rfl rfl hl.1 rfl (lv_room (Nat.le_of_ble_eq_true rfl)) dX9_move_71 ⟨Nat.zero_le _, Nat.zero_le _⟩) hD hS hA (fun H locs hP hD hS => ?_)
              refine lv_iload_n hx hb dX9_move_74 rfl (lv_at hl 2 rfl) ?_
              refine lv_icmp_gt (tgt := 125) hx hb dX9_move_75 (by decide) (fun c_75 => ?_) (fun c_75 => ?_)
              · refine lv_aload_n hx hb dX9_move_125 rfl (lv_at hl 0 rfl) ?_
                refine va_get (D := D) (ci := 9) (v := .ref a1) (C := RX9) (T := TX9) (N := 8) hx hb hts u9 hown hK hP 0 rfl rfl 0 (by decide) k0 (fun _ h9 => h9) rfl dX9_move_126 ?_
                refine lv_iconst (v := 0) hx hb dX9_move_129 (by decide) ?_
                refine lv_iload_n hx hb dX9_move_130 rfl (lv_at hl 3 rfl) ?_
                refine k_iast (j := 0) hx hb hK hP hD hS 1 0 rfl rfl rfl (by decide) (by decide) dX9_move_131 (fun H locs hP hD hS => ?_)
                have hP : va_P D vwCl (wM I a0 a1 a2 a3 a4 (upd f 0 (m_mvT now ti)) (m_rec now kept ns) (nI (m_rns ns)) text len att num rd) H := hP
                have hD : va_D A (wM I a0 a1 a2 a3 a4 (upd f 0 (m_mvT now ti)) (m_rec now kept ns) (nI (m_rns ns)) text len att num rd) := hD
                refine lv_aload_n hx hb dX9_move_132 rfl (lv_at hl 0 rfl) ?_
                refine va_get (D := D) (ci := 9) (v := .ref a1) (C := RX9) (T := TX9) (N := 8) hx hb hts u9 hown hK hP 0 rfl rfl 0 (by decide) k0 (fun _ h9 => h9) rfl dX9_move_133 ?_
                refine lv_iconst (v := 2) hx hb dX9_move_136 (by decide) ?_
                refine lv_iconst (v := 1) hx hb dX9_move_137 (by decide) ?_
                refine k_iast (j := 2) hx hb hK hP hD hS 1 0 rfl rfl rfl (by decide) (by decide) dX9_move_138 (fun H locs hP hD hS => ?_)
                have hP : va_P D vwCl (wM I a0 a1 a2 a3 a4 (upd (upd f 0 (m_mvT now ti)) 2 1) (m_rec now kept ns) (nI (m_rns ns)) text len att num rd) H := hP
                have hD : va_D A (wM I a0 a1 a2 a3 a4 (upd (upd f 0 (m_mvT now ti)) 2 1) (m_rec now kept ns) (nI (m_rns ns)) text len att num rd) := hD
                refine lv_iload hx hb dX9_move_139 (lv_at hl 4 rfl) ?_
                exact hend _ _ _ _ _ _ hP hD hS dX9_move_141 rfl (by rw [← hr]; simp +decide only [m_mvL, c_75, if_true, if_false, not_true_eq_false, not_false_eq_true, and_self, and_true, true_and, and_false, false_and, kn01, kn10, kn02, kn20, kn12, kn21, eq_self]) (by rw [← hr]; simp +decide only [m_mvL, c_75, if_true, if_false, not_true_eq_false, not_false_eq_true, and_self, and_true, true_and, and_false, false_and, kn01, kn10, kn02, kn20, kn12, kn21, eq_self])
              · refine lv_aload_n hx hb dX9_move_78 rfl (lv_at hl 0 rfl) ?_
                refine lv_iload hx hb dX9_move_79 (lv_at hl 5 rfl) ?_
                refine k_iF (va_runV (As := [.int (nI b)]) (rest := []) hF (c_X9_endOfN l D I C Q a0 a1 a2 a3 a4 f (m_rec now kept ns) (nI (m_rns ns)) text len att num rd sz b hf6 hs0 hs1 _) (cwV 1 hts gX9_move_X9_endOf rfl rfl rfl (by decide +kernel) ⟨Nat.le_of_ble_eq_true rfl, Nat.le_of_ble_eq_true rfl⟩) (kPreV hE hP hD (ci := 9) (q0 := 0) rfl rfl) rfl rfl hl.1 rfl (lv_room (Nat.le_of_ble_eq_true rfl)) dX9_move_81 ⟨Nat.zero_le _, Nat.zero_le _⟩) hD hS hA (fun H locs hP hD hS => ?_)
                refine lv_iload_n hx hb dX9_move_84 rfl (lv_at hl 3 rfl) ?_
                refine lv_icmp_le (tgt := 119) hx hb dX9_move_85 (by decide) (fun c_85 => ?_) (fun c_85 => ?_)
                · refine lv_iinc (v := nI (b + 1)) (lv' := [(5, .int (nI (b + 1))), (0, .ref a0), (1, .int ti), (2, .int (now 0)), (3, .int (m_mvT now ti)), (4, .int (nI cn))]) hx hb dX9_move_119 hl (k := 5) rfl (nI_inc b) (by decide) rfl (fun ls hl => ?_)
                  refine lv_goto (tgt := 68) hx hb dX9_move_122 (by decide) ?_
                  exact ih f (b + 1) cn (by omega) (by omega) (by omega) (by omega) (by omega) _ _ _ hP hD hS (lv_sub hl [1, 2, 3, 4, 5, 0] rfl) (by rw [← hr]; simp +decide only [m_mvL, c_75, c_85, if_true, if_false, not_true_eq_false, not_false_eq_true, and_self, and_true, true_and, and_false, false_and, kn01, kn10, kn02, kn20, kn12, kn21, eq_self])
                · refine lv_aload_n hx hb dX9_move_88 rfl (lv_at hl 0 rfl) ?_
                  refine lv_iload hx hb dX9_move_89 (lv_at hl 5 rfl) ?_
                  refine k_iF (va_runV (As := [.int (nI b)]) (rest := []) hF (c_X9_modeOf l D I C Q a0 a1 a2 a3 a4 f (m_rec now kept ns) (nI (m_rns ns)) text len att num rd np (nI b) hf10 hn64 _) (cwV 1 hts gX9_move_X9_modeOf rfl rfl rfl (by decide +kernel) ⟨Nat.le_of_ble_eq_true rfl, Nat.le_of_ble_eq_true rfl⟩) (kPreV hE hP hD (ci := 9) (q0 := 0) rfl rfl) rfl rfl hl.1 rfl (lv_room (Nat.le_of_ble_eq_true rfl)) dX9_move_91 ⟨Nat.zero_le _, Nat.zero_le _⟩) hD hS hA (fun H locs hP hD hS => ?_)
                  refine lv_if_ne (tgt := 119) hx hb dX9_move_94 (by decide) (fun c_94 => ?_) (fun c_94 => ?_)
                  · refine lv_iinc (v := nI (b + 1)) (lv' := [(5, .int (nI (b + 1))), (0, .ref a0), (1, .int ti), (2, .int (now 0)), (3, .int (m_mvT now ti)), (4, .int (nI cn))]) hx hb dX9_move_119 hl (k := 5) rfl (nI_inc b) (by decide) rfl (fun ls hl => ?_)
                    refine lv_goto (tgt := 68) hx hb dX9_move_122 (by decide) ?_
                    exact ih f (b + 1) cn (by omega) (by omega) (by omega) (by omega) (by omega) _ _ _ hP hD hS (lv_sub hl [1, 2, 3, 4, 5, 0] rfl) (by rw [← hr]; simp +decide only [m_mvL, c_75, c_85, c_94, if_true, if_false, not_true_eq_false, not_false_eq_true, and_self, and_true, true_and, and_false, false_and, kn01, kn10, kn02, kn20, kn12, kn21, eq_self])
                  · refine lv_iinc (v := nI (cn + 1)) (lv' := [(4, .int (nI (cn + 1))), (0, .ref a0), (1, .int ti), (2, .int (now 0)), (3, .int (m_mvT now ti)), (5, .int (nI b))]) hx hb dX9_move_97 hl (k := 4) rfl (nI_inc cn) (by decide) rfl (fun ls hl => ?_)
                    refine lv_aload_n hx hb dX9_move_100 rfl (lv_at hl 1 rfl) ?_
                    refine lv_iload hx hb dX9_move_101 (lv_at hl 5 rfl) ?_
                    refine k_iF (va_runV (As := [.int (nI b)]) (rest := []) hF (c_X9_find l D I C Q a0 a1 a2 a3 a4 f (m_rec now kept ns) (nI (m_rns ns)) text len att num rd np (nI b) hf10 hn64 _) (cwV 1 hts gX9_move_X9_find rfl rfl rfl (by decide +kernel) ⟨Nat.le_of_ble_eq_true rfl, Nat.le_of_ble_eq_true rfl⟩) (kPreV hE hP hD (ci := 9) (q0 := 0) rfl rfl) rfl rfl hl.1 rfl (lv_room (Nat.le_of_ble_eq_true rfl)) dX9_move_103 ⟨Nat.zero_le _, Nat.zero_le _⟩) hD hS hA (fun H locs hP hD hS => ?_)
                    rcases m_find_or f (nI b) np with ⟨hlt, hq⟩ | ⟨hlt, hq⟩
                    · refine k_top hq ?_
                      refine lv_if_lt (tgt := 119) hx hb dX9_move_106 (by decide) (fun c_106 => ?_) (fun c_106 => ?_)
                      · exact absurd c_106 (nI_pos (by omega))
                      · refine lv_aload_n hx hb dX9_move_109 rfl (lv_at hl 1 rfl) ?_
                        refine lv_aload_n hx hb dX9_move_110 rfl (lv_at hl 1 rfl) ?_
                        refine lv_iload hx hb dX9_move_111 (lv_at hl 5 rfl) ?_
                        refine k_iF (va_runV (As := [.int (nI b)]) (rest := [.ref a0]) hF (c_X9_find l D I C Q a0 a1 a2 a3 a4 f (m_rec now kept ns) (nI (m_rns ns)) text len att num rd np (nI b) hf10 hn64 _) (cwV 1 hts gX9_move_X9_find rfl rfl rfl (by decide +kernel) ⟨Nat.le_of_ble_eq_true rfl, Nat.le_of_ble_eq_true rfl⟩) (kPreV hE hP hD (ci := 9) (q0 := 0) rfl rfl) rfl rfl hl.1 rfl (lv_room (Nat.le_of_ble_eq_true rfl)) dX9_move_113 ⟨Nat.zero_le _, Nat.zero_le _⟩) hD hS hA (fun H locs hP hD hS => ?_)
                        refine k_top (y := nI (m_fk f (nI b) np)) hq ?_
                        refine k_vF (va_runV (As := [.int (nI (m_fk f (nI b) np))]) (rest := []) hF (c_X9_takesBack l D I C Q a0 a1 a2 a3 a4 f (m_rec now kept ns) (nI (m_rns ns)) text len att num rd (m_fk f (nI b) np) hwf (by omega) _) (cwV 1 hts gX9_move_X9_takesBack rfl rfl rfl (by decide +kernel) ⟨Nat.le_of_ble_eq_true rfl, Nat.le_of_ble_eq_true rfl⟩) (kPreV hE hP hD (ci := 9) (q0 := 0) rfl rfl) rfl rfl hl.1 rfl (lv_room (Nat.le_of_ble_eq_true rfl)) dX9_move_116 ⟨Nat.zero_le _, Nat.zero_le _⟩) hD hS hA (fun H locs hP hD hS => ?_)
                        have hP : va_P D vwCl (wM I a0 a1 a2 a3 a4 (m_takes f (m_fk f (nI b) np)) (m_rec now kept ns) (nI (m_rns ns)) text len att num rd) H := hP
                        have hD : va_D A (wM I a0 a1 a2 a3 a4 (m_takes f (m_fk f (nI b) np)) (m_rec now kept ns) (nI (m_rns ns)) text len att num rd) := hD
                        refine lv_iinc (v := nI (b + 1)) (lv' := [(5, .int (nI (b + 1))), (4, .int (nI (cn + 1))), (0, .ref a0), (1, .int ti), (2, .int (now 0)), (3, .int (m_mvT now ti))]) hx hb dX9_move_119 hl (k := 5) rfl (nI_inc b) (by decide) rfl (fun ls hl => ?_)
                        refine lv_goto (tgt := 68) hx hb dX9_move_122 (by decide) ?_
                        exact ih (m_takes f (m_fk f (nI b) np)) (b + 1) (cn + 1) (wOk_takes hwf) ((m_takes_o hwf (by omega) (by omega) (by omega) (by omega)).trans hf10) ((m_takes_o hwf (by omega) (by omega) (by omega) (by omega)).trans hf6) (nOk_takes hwf hn64 hnf) (by omega) _ _ _ hP hD hS (lv_sub hl [2, 3, 4, 5, 1, 0] rfl) (by rw [← hr]; simp +decide only [m_mvL, c_75, c_85, c_94, c_106, hlt, if_true, if_false, not_true_eq_false, not_false_eq_true, and_self, and_true, true_and, and_false, false_and, kn01, kn10, kn02, kn20, kn12, kn21, eq_self])
                    · refine k_top hq ?_
                      refine lv_if_lt (tgt := 119) hx hb dX9_move_106 (by decide) (fun c_106 => ?_) (fun c_106 => ?_)
                      · refine lv_iinc (v := nI (b + 1)) (lv' := [(5, .int (nI (b + 1))), (4, .int (nI (cn + 1))), (0, .ref a0), (1, .int ti), (2, .int (now 0)), (3, .int (m_mvT now ti))]) hx hb dX9_move_119 hl (k := 5) rfl (nI_inc b) (by decide) rfl (fun ls hl => ?_)
                        refine lv_goto (tgt := 68) hx hb dX9_move_122 (by decide) ?_
                        exact ih f (b + 1) (cn + 1) (by omega) (by omega) (by omega) (by omega) (by omega) _ _ _ hP hD hS (lv_sub hl [2, 3, 4, 5, 1, 0] rfl) (by rw [← hr]; simp +decide only [m_mvL, c_75, c_85, c_94, c_106, hlt, if_true, if_false, not_true_eq_false, not_false_eq_true, and_self, and_true, true_and, and_false, false_and, kn01, kn10, kn02, kn20, kn12, kn21, eq_self])
                      · exact (c_106 (by decide)).elim
          have hT : now 0 - ti = m_mvT now ti := by rw [m_mvT, if_pos c_51]
          rw [hT] at hl
          exact loop68 2000 now 0 0 hwk hnp hsz hnk (by omega) _ _ _ hP hD hS (lv_sub hl [4, 5, 3, 2, 1, 0] rfl) rfl
        · refine lv_iconst (v := (-1)) hx hb dX9_move_54 (by decide) ?_
          refine lv_goto (tgt := 61) hx hb dX9_move_55 (by decide) ?_
          refine lv_istore_n (lv' := [(3, .int (-1)), (2, .int (now 0)), (0, .ref a0), (1, .int ti)]) hx hb dX9_move_61 rfl hl (by decide) rfl (fun ls hl => ?_)
          refine lv_iconst (v := 0) hx hb dX9_move_62 (by decide) ?_
          refine lv_istore (lv' := [(4, .int 0), (3, .int (-1)), (2, .int (now 0)), (0, .ref a0), (1, .int ti)]) hx hb dX9_move_63 hl (by decide) rfl (fun ls hl => ?_)
          refine lv_iconst (v := 0) hx hb dX9_move_65 (by decide) ?_
          refine lv_istore (lv' := [(5, .int 0), (4, .int 0), (3, .int (-1)), (2, .int (now 0)), (0, .ref a0), (1, .int ti)]) hx hb dX9_move_66 hl (by decide) rfl (fun ls hl => ?_)
          have loop68 : ∀ (n : Nat) (f : Nat → Int32) (b : Nat) (cn : Nat), (wOk f) → (f 10 = nI np) → (f 6 = nI sz) → (nOk f np) → (b + n = 2000) → ∀ (H : Heap) (locs : List Loc) (ls : Array Slot), va_P D vwCl (wM I a0 a1 a2 a3 a4 f (m_rec now kept ns) (nI (m_rns ns)) text len att num rd) H → va_D A (wM I a0 a1 a2 a3 a4 f (m_rec now kept ns) (nI (m_rns ns)) text len att num rd) → va_S A s.heap H locs → lv_has ls 6 [(0, .ref a0), (1, .int ti), (2, .int (now 0)), (3, .int (m_mvT now ti)), (4, .int (nI cn)), (5, .int (nI b))] → (m_mvL (now 0) (m_mvT now ti) np sz n f b cn = m_mv now ti np sz) → W p l e ({ frames := 3, cells := 0, slots := 0, locals := 66 } : Room) s m [.ref a0, .int ti].toArray below meth c H locs 0 0 Q0 (F0 m 68 ls []) := by
            intro n
            induction n with
            | zero =>
              intro f b cn hwf hf10 hf6 hnf hbn H locs ls hP hD hS hl hr
              refine lv_aload_n hx hb dX9_move_68 rfl (lv_at hl 0 rfl) ?_
              refine lv_iload hx hb dX9_move_69 (lv_at hl 5 rfl) ?_
              refine k_iF (va_runV (As := [.int (nI b)]) (rest := []) hF (c_X9_endOfN l D I C Q a0 a1 a2 a3 a4 f (m_rec now kept ns) (nI (m_rns ns)) text len att num rd sz b hf6 hs0 hs1 _) (cwV 1 hts gX9_move_X9_endOf rfl rfl rfl (by decide +kernel) ⟨Nat.le_of_ble_eq_true rfl, Nat.le_of_ble_eq_true rfl⟩) (kPreV hE hP hD (ci := 9) (q0 := 0) rfl rfl) rfl rfl hl.1 rfl (lv_room (Nat.le_of_ble_eq_true rfl)) dX9_move_71 ⟨Nat.zero_le _, Nat.zero_le _⟩) hD hS hA (fun H locs hP hD hS => ?_)
              refine lv_iload_n hx hb dX9_move_74 rfl (lv_at hl 2 rfl) ?_
              refine lv_icmp_gt (tgt := 125) hx hb dX9_move_75 (by decide) (fun c_75 => ?_) (fun c_75 => ?_)
              · refine lv_aload_n hx hb dX9_move_125 rfl (lv_at hl 0 rfl) ?_
                refine va_get (D := D) (ci := 9) (v := .ref a1) (C := RX9) (T := TX9) (N := 8) hx hb hts u9 hown hK hP 0 rfl rfl 0 (by decide) k0 (fun _ h9 => h9) rfl dX9_move_126 ?_
                refine lv_iconst (v := 0) hx hb dX9_move_129 (by decide) ?_
                refine lv_iload_n hx hb dX9_move_130 rfl (lv_at hl 3 rfl) ?_
                refine k_iast (j := 0) hx hb hK hP hD hS 1 0 rfl rfl rfl (by decide) (by decide) dX9_move_131 (fun H locs hP hD hS => ?_)
                have hP : va_P D vwCl (wM I a0 a1 a2 a3 a4 (upd f 0 (m_mvT now ti)) (m_rec now kept ns) (nI (m_rns ns)) text len att num rd) H := hP
                have hD : va_D A (wM I a0 a1 a2 a3 a4 (upd f 0 (m_mvT now ti)) (m_rec now kept ns) (nI (m_rns ns)) text len att num rd) := hD
                refine lv_aload_n hx hb dX9_move_132 rfl (lv_at hl 0 rfl) ?_
                refine va_get (D := D) (ci := 9) (v := .ref a1) (C := RX9) (T := TX9) (N := 8) hx hb hts u9 hown hK hP 0 rfl rfl 0 (by decide) k0 (fun _ h9 => h9) rfl dX9_move_133 ?_
                refine lv_iconst (v := 2) hx hb dX9_move_136 (by decide) ?_
                refine lv_iconst (v := 1) hx hb dX9_move_137 (by decide) ?_
                refine k_iast (j := 2) hx hb hK hP hD hS 1 0 rfl rfl rfl (by decide) (by decide) dX9_move_138 (fun H locs hP hD hS => ?_)
                have hP : va_P D vwCl (wM I a0 a1 a2 a3 a4 (upd (upd f 0 (m_mvT now ti)) 2 1) (m_rec now kept ns) (nI (m_rns ns)) text len att num rd) H := hP
                have hD : va_D A (wM I a0 a1 a2 a3 a4 (upd (upd f 0 (m_mvT now ti)) 2 1) (m_rec now kept ns) (nI (m_rns ns)) text len att num rd) := hD
                refine lv_iload hx hb dX9_move_139 (lv_at hl 4 rfl) ?_
                exact hend _ _ _ _ _ _ hP hD hS dX9_move_141 rfl (by rw [← hr]; simp +decide only [m_mvL, c_75, if_true, if_false, not_true_eq_false, not_false_eq_true, and_self, and_true, true_and, and_false, false_and, kn01, kn10, kn02, kn20, kn12, kn21, eq_self]) (by rw [← hr]; simp +decide only [m_mvL, c_75, if_true, if_false, not_true_eq_false, not_false_eq_true, and_self, and_true, true_and, and_false, false_and, kn01, kn10, kn02, kn20, kn12, kn21, eq_self])
              · exact absurd (k_end hs0 hs1 hw0 (by omega) (by omega)) c_75
            | succ n ih =>
              intro f b cn hwf hf10 hf6 hnf hbn H locs ls hP hD hS hl hr
              refine lv_aload_n hx hb dX9_move_68 rfl (lv_at hl 0 rfl) ?_
              refine lv_iload hx hb dX9_move_69 (lv_at hl 5 rfl) ?_
              refine k_iF (va_runV (As := [.int (nI b)]) (rest := []) hF (c_X9_endOfN l D I C Q a0 a1 a2 a3 a4 f (m_rec now kept ns) (nI (m_rns ns)) text len att num rd sz b hf6 hs0 hs1 _) (cwV 1 hts gX9_move_X9_endOf rfl rfl rfl (by decide +kernel) ⟨Nat.le_of_ble_eq_true rfl, Nat.le_of_ble_eq_true rfl⟩) (kPreV hE hP hD (ci := 9) (q0 := 0) rfl rfl) rfl rfl hl.1 rfl (lv_room (Nat.le_of_ble_eq_true rfl)) dX9_move_71 ⟨Nat.zero_le _, Nat.zero_le _⟩) hD hS hA (fun H locs hP hD hS => ?_)
              refine lv_iload_n hx hb dX9_move_74 rfl (lv_at hl 2 rfl) ?_
              refine lv_icmp_gt (tgt := 125) hx hb dX9_move_75 (by decide) (fun c_75 => ?_) (fun c_75 => ?_)
              · refine lv_aload_n hx hb dX9_move_125 rfl (lv_at hl 0 rfl) ?_
                refine va_get (D := D) (ci := 9) (v := .ref a1) (C := RX9) (T := TX9) (N := 8) hx hb hts u9 hown hK hP 0 rfl rfl 0 (by decide) k0 (fun _ h9 => h9) rfl dX9_move_126 ?_
                refine lv_iconst (v := 0) hx hb dX9_move_129 (by decide) ?_
                refine lv_iload_n hx hb dX9_move_130 rfl (lv_at hl 3 rfl) ?_
                refine k_iast (j := 0) hx hb hK hP hD hS 1 0 rfl rfl rfl (by decide) (by decide) dX9_move_131 (fun H locs hP hD hS => ?_)
                have hP : va_P D vwCl (wM I a0 a1 a2 a3 a4 (upd f 0 (m_mvT now ti)) (m_rec now kept ns) (nI (m_rns ns)) text len att num rd) H := hP
                have hD : va_D A (wM I a0 a1 a2 a3 a4 (upd f 0 (m_mvT now ti)) (m_rec now kept ns) (nI (m_rns ns)) text len att num rd) := hD
                refine lv_aload_n hx hb dX9_move_132 rfl (lv_at hl 0 rfl) ?_
                refine va_get (D := D) (ci := 9) (v := .ref a1) (C := RX9) (T := TX9) (N := 8) hx hb hts u9 hown hK hP 0 rfl rfl 0 (by decide) k0 (fun _ h9 => h9) rfl dX9_move_133 ?_
                refine lv_iconst (v := 2) hx hb dX9_move_136 (by decide) ?_
                refine lv_iconst (v := 1) hx hb dX9_move_137 (by decide) ?_
                refine k_iast (j := 2) hx hb hK hP hD hS 1 0 rfl rfl rfl (by decide) (by decide) dX9_move_138 (fun H locs hP hD hS => ?_)
                have hP : va_P D vwCl (wM I a0 a1 a2 a3 a4 (upd (upd f 0 (m_mvT now ti)) 2 1) (m_rec now kept ns) (nI (m_rns ns)) text len att num rd) H := hP
                have hD : va_D A (wM I a0 a1 a2 a3 a4 (upd (upd f 0 (m_mvT now ti)) 2 1) (m_rec now kept ns) (nI (m_rns ns)) text len att num rd) := hD
                refine lv_iload hx hb dX9_move_139 (lv_at hl 4 rfl) ?_
                exact hend _ _ _ _ _ _ hP hD hS dX9_move_141 rfl (by rw [← hr]; simp +decide only [m_mvL, c_75, if_true, if_false, not_true_eq_false, not_false_eq_true, and_self, and_true, true_and, and_false, false_and, kn01, kn10, kn02, kn20, kn12, kn21, eq_self]) (by rw [← hr]; simp +decide only [m_mvL, c_75, if_true, if_false, not_true_eq_false, not_false_eq_true, and_self, and_true, true_and, and_false, false_and, kn01, kn10, kn02, kn20, kn12, kn21, eq_self])
              · refine lv_aload_n hx hb dX9_move_78 rfl (lv_at hl 0 rfl) ?_
                refine lv_iload hx hb dX9_move_79 (lv_at hl 5 rfl) ?_
                refine k_iF (va_runV (As := [.int (nI b)]) (rest := []) hF (c_X9_endOfN l D I C Q a0 a1 a2 a3 a4 f (m_rec now kept ns) (nI (m_rns ns)) text len att num rd sz b hf6 hs0 hs1 _) (cwV 1 hts gX9_move_X9_endOf rfl rfl rfl (by decide +kernel) ⟨Nat.le_of_ble_eq_true rfl, Nat.le_of_ble_eq_true rfl⟩) (kPreV hE hP hD (ci := 9) (q0 := 0) rfl rfl) rfl rfl hl.1 rfl (lv_room (Nat.le_of_ble_eq_true rfl)) dX9_move_81 ⟨Nat.zero_le _, Nat.zero_le _⟩) hD hS hA (fun H locs hP hD hS => ?_)
                refine lv_iload_n hx hb dX9_move_84 rfl (lv_at hl 3 rfl) ?_
                refine lv_icmp_le (tgt := 119) hx hb dX9_move_85 (by decide) (fun c_85 => ?_) (fun c_85 => ?_)
                · refine lv_iinc (v := nI (b + 1)) (lv' := [(5, .int (nI (b + 1))), (0, .ref a0), (1, .int ti), (2, .int (now 0)), (3, .int (m_mvT now ti)), (4, .int (nI cn))]) hx hb dX9_move_119 hl (k := 5) rfl (nI_inc b) (by decide) rfl (fun ls hl => ?_)
                  refine lv_goto (tgt := 68) hx hb dX9_move_122 (by decide) ?_
                  exact ih f (b + 1) cn (by omega) (by omega) (by omega) (by omega) (by omega) _ _ _ hP hD hS (lv_sub hl [1, 2, 3, 4, 5, 0] rfl) (by rw [← hr]; simp +decide only [m_mvL, c_75, c_85, if_true, if_false, not_true_eq_false, not_false_eq_true, and_self, and_true, true_and, and_false, false_and, kn01, kn10, kn02, kn20, kn12, kn21, eq_self])
                · refine lv_aload_n hx hb dX9_move_88 rfl (lv_at hl 0 rfl) ?_
                  refine lv_iload hx hb dX9_move_89 (lv_at hl 5 rfl) ?_
                  refine k_iF (va_runV (As := [.int (nI b)]) (rest := []) hF (c_X9_modeOf l D I C Q a0 a1 a2 a3 a4 f (m_rec now kept ns) (nI (m_rns ns)) text len att num rd np (nI b) hf10 hn64 _) (cwV 1 hts gX9_move_X9_modeOf rfl rfl rfl (by decide +kernel) ⟨Nat.le_of_ble_eq_true rfl, Nat.le_of_ble_eq_true rfl⟩) (kPreV hE hP hD (ci := 9) (q0 := 0) rfl rfl) rfl rfl hl.1 rfl (lv_room (Nat.le_of_ble_eq_true rfl)) dX9_move_91 ⟨Nat.zero_le _, Nat.zero_le _⟩) hD hS hA (fun H locs hP hD hS => ?_)
                  refine lv_if_ne (tgt := 119) hx hb dX9_move_94 (by decide) (fun c_94 => ?_) (fun c_94 => ?_)
                  · refine lv_iinc (v := nI (b + 1)) (lv' := [(5, .int (nI (b + 1))), (0, .ref a0), (1, .int ti), (2, .int (now 0)), (3, .int (m_mvT now ti)), (4, .int (nI cn))]) hx hb dX9_move_119 hl (k := 5) rfl (nI_inc b) (by decide) rfl (fun ls hl => ?_)
                    refine lv_goto (tgt := 68) hx hb dX9_move_122 (by decide) ?_
                    exact ih f (b + 1) cn (by omega) (by omega) (by omega) (by omega) (by omega) _ _ _ hP hD hS (lv_sub hl [1, 2, 3, 4, 5, 0] rfl) (by rw [← hr]; simp +decide only [m_mvL, c_75, c_85, c_94, if_true, if_false, not_true_eq_false, not_false_eq_true, and_self, and_true, true_and, and_false, false_and, kn01, kn10, kn02, kn20, kn12, kn21, eq_self])
                  · refine lv_iinc (v := nI (cn + 1)) (lv' := [(4, .int (nI (cn + 1))), (0, .ref a0), (1, .int ti), (2, .int (now 0)), (3, .int (m_mvT now ti)), (5, .int (nI b))]) hx hb dX9_move_97 hl (k := 4) rfl (nI_inc cn) (by decide) rfl (fun ls hl => ?_)
                    refine lv_aload_n hx hb dX9_move_100 rfl (lv_at hl 1 rfl) ?_
                    refine lv_iload hx hb dX9_move_101 (lv_at hl 5 rfl) ?_
                    refine k_iF (va_runV (As := [.int (nI b)]) (rest := []) hF (c_X9_find l D I C Q a0 a1 a2 a3 a4 f (m_rec now kept ns) (nI (m_rns ns)) text len att num rd np (nI b) hf10 hn64 _) (cwV 1 hts gX9_move_X9_find rfl rfl rfl (by decide +kernel) ⟨Nat.le_of_ble_eq_true rfl, Nat.le_of_ble_eq_true rfl⟩) (kPreV hE hP hD (ci := 9) (q0 := 0) rfl rfl) rfl rfl hl.1 rfl (lv_room (Nat.le_of_ble_eq_true rfl)) dX9_move_103 ⟨Nat.zero_le _, Nat.zero_le _⟩) hD hS hA (fun H locs hP hD hS => ?_)
                    rcases m_find_or f (nI b) np with ⟨hlt, hq⟩ | ⟨hlt, hq⟩
                    · refine k_top hq ?_
                      refine lv_if_lt (tgt := 119) hx hb dX9_move_106 (by decide) (fun c_106 => ?_) (fun c_106 => ?_)
                      · exact absurd c_106 (nI_pos (by omega))
                      · refine lv_aload_n hx hb dX9_move_109 rfl (lv_at hl 1 rfl) ?_
                        refine lv_aload_n hx hb dX9_move_110 rfl (lv_at hl 1 rfl) ?_
                        refine lv_iload hx hb dX9_move_111 (lv_at hl 5 rfl) ?_
                        refine k_iF (va_runV (As := [.int (nI b)]) (rest := [.ref a0]) hF (c_X9_find l D I C Q a0 a1 a2 a3 a4 f (m_rec now kept ns) (nI (m_rns ns)) text len att num rd np (nI b) hf10 hn64 _) (cwV 1 hts gX9_move_X9_find rfl rfl rfl (by decide +kernel) ⟨Nat.le_of_ble_eq_true rfl, Nat.le_of_ble_eq_true rfl⟩) (kPreV hE hP hD (ci := 9) (q0 := 0) rfl rfl) rfl rfl hl.1 rfl (lv_room (Nat.le_of_ble_eq_true rfl)) dX9_move_113 ⟨Nat.zero_le _, Nat.zero_le _⟩) hD hS hA (fun H locs hP hD hS => ?_)
                        refine k_top (y := nI (m_fk f (nI b) np)) hq ?_
                        refine k_vF (va_runV (As := [.int (nI (m_fk f (nI b) np))]) (rest := []) hF (c_X9_takesBack l D I C Q a0 a1 a2 a3 a4 f (m_rec now kept ns) (nI (m_rns ns)) text len att num rd (m_fk f (nI b) np) hwf (by omega) _) (cwV 1 hts gX9_move_X9_takesBack rfl rfl rfl (by decide +kernel) ⟨Nat.le_of_ble_eq_true rfl, Nat.le_of_ble_eq_true rfl⟩) (kPreV hE hP hD (ci := 9) (q0 := 0) rfl rfl) rfl rfl hl.1 rfl (lv_room (Nat.le_of_ble_eq_true rfl)) dX9_move_116 ⟨Nat.zero_le _, Nat.zero_le _⟩) hD hS hA (fun H locs hP hD hS => ?_)
                        have hP : va_P D vwCl (wM I a0 a1 a2 a3 a4 (m_takes f (m_fk f (nI b) np)) (m_rec now kept ns) (nI (m_rns ns)) text len att num rd) H := hP
                        have hD : va_D A (wM I a0 a1 a2 a3 a4 (m_takes f (m_fk f (nI b) np)) (m_rec now kept ns) (nI (m_rns ns)) text len att num rd) := hD
                        refine lv_iinc (v := nI (b + 1)) (lv' := [(5, .int (nI (b + 1))), (4, .int (nI (cn + 1))), (0, .ref a0), (1, .int ti), (2, .int (now 0)), (3, .int (m_mvT now ti))]) hx hb dX9_move_119 hl (k := 5) rfl (nI_inc b) (by decide) rfl (fun ls hl => ?_)
                        refine lv_goto (tgt := 68) hx hb dX9_move_122 (by decide) ?_
                        exact ih (m_takes f (m_fk f (nI b) np)) (b + 1) (cn + 1) (wOk_takes hwf) ((m_takes_o hwf (by omega) (by omega) (by omega) (by omega)).trans hf10) ((m_takes_o hwf (by omega) (by omega) (by omega) (by omega)).trans hf6) (nOk_takes hwf hn64 hnf) (by omega) _ _ _ hP hD hS (lv_sub hl [2, 3, 4, 5, 1, 0] rfl) (by rw [← hr]; simp +decide only [m_mvL, c_75, c_85, c_94, c_106, hlt, if_true, if_false, not_true_eq_false, not_false_eq_true, and_self, and_true, true_and, and_false, false_and, kn01, kn10, kn02, kn20, kn12, kn21, eq_self])
                    · refine k_top hq ?_
                      refine lv_if_lt (tgt := 119) hx hb dX9_move_106 (by decide) (fun c_106 => ?_) (fun c_106 => ?_)
                      · refine lv_iinc (v := nI (b + 1)) (lv' := [(5, .int (nI (b + 1))), (4, .int (nI (cn + 1))), (0, .ref a0), (1, .int ti), (2, .int (now 0)), (3, .int (m_mvT now ti))]) hx hb dX9_move_119 hl (k := 5) rfl (nI_inc b) (by decide) rfl (fun ls hl => ?_)
                        refine lv_goto (tgt := 68) hx hb dX9_move_122 (by decide) ?_
                        exact ih f (b + 1) (cn + 1) (by omega) (by omega) (by omega) (by omega) (by omega) _ _ _ hP hD hS (lv_sub hl [2, 3, 4, 5, 1, 0] rfl) (by rw [← hr]; simp +decide only [m_mvL, c_75, c_85, c_94, c_106, hlt, if_true, if_false, not_true_eq_false, not_false_eq_true, and_self, and_true, true_and, and_false, false_and, kn01, kn10, kn02, kn20, kn12, kn21, eq_self])
                      · exact (c_106 (by decide)).elim
          have hT : (-1 : Int32) = m_mvT now ti := by rw [m_mvT, if_neg c_51]
          rw [hT] at hl
          exact loop68 2000 now 0 0 hwk hnp hsz hnk (by omega) _ _ _ hP hD hS (lv_sub hl [4, 5, 3, 2, 1, 0] rfl) rfl
      · exact absurd c_30 h0
  · exact absurd c_7 hok
