set_option maxHeartbeats 400000 in
set_option maxRecDepth 100000 in
theorem c_X9_playN (l : Launch) (D : va_G) (I C Q : ClassId) (a0 a1 a2 a3 a4 : Nat) (now : Nat → Int32) (kept : Nat → Int32) (st : Int32) (text : Nat → Int32) (L : Nat) (att : Int32) (num : Int32) (rd : Nat → Int32) (hL : L ≤ 80) (hf : 0 ≤ (t_fo text L num rd).1) : KI l D (tyL I C Q) yX9_play wsX9_play { frames := 4, cells := 0, slots := 0, locals := 85 } [.ref a0] (wM I a0 a1 a2 a3 a4 now kept st text (nI L) att num rd) (wM I a0 a1 a2 a3 a4 now kept st text (nI L) (nI ((t_fo text L num rd).2.1)) ((t_fo text L num rd).2.2.1) ((t_fo text L num rd).2.2.2)) (-1000002) := by
  refine KI.of (cc := cX9_play) (maxL := 3) (rt := .int) (own := RX9) (by decide) rfl rfl (Nat.le_of_ble_eq_true rfl) ?_
  intro p e s m below meth c A Q0 ls hx hb hml hown hts hE hA hP hD hS hl hend
  have hK := hE.1
  have hF : CallFix p m c cX9_play 3 s [.ref a0].toArray wsX9_play RX9 := ⟨hx, hb, hml, hown, hts⟩
  have k0 := hts (.constant RX9 26 (-1000002)) (List.mem_of_getElem? (i := 1) rfl)
  have hl : lv_has ls 3 [(0, .ref a0)] := hl
  refine lv_aload_n hx hb dX9_play_0 rfl (lv_at hl 0 rfl) ?_
  refine k_iF (va_runV (As := []) (rest := []) hF (c_X9_faultOf l D I C Q a0 a1 a2 a3 a4 now kept st text L att num rd hL _) (cwV 0 hts gX9_play_X9_faultOf rfl rfl rfl (by decide +kernel) ⟨Nat.le_of_ble_eq_true rfl, Nat.le_of_ble_eq_true rfl⟩) (kPreV hE hP hD (ci := 9) (q0 := 0) rfl rfl) rfl rfl hl.1 rfl (lv_room (Nat.le_of_ble_eq_true rfl)) dX9_play_1 ⟨Nat.zero_le _, Nat.zero_le _⟩) hD hS hA (fun H locs hP hD hS => ?_)
  have hP : va_P D vwCl (wM I a0 a1 a2 a3 a4 now kept st text (nI L) (nI ((t_fo text L num rd).2.1)) ((t_fo text L num rd).2.2.1) ((t_fo text L num rd).2.2.2)) H := hP
  have hD : va_D A (wM I a0 a1 a2 a3 a4 now kept st text (nI L) (nI ((t_fo text L num rd).2.1)) ((t_fo text L num rd).2.2.1) ((t_fo text L num rd).2.2.2)) := hD
  refine lv_if_lt (tgt := 10) hx hb dX9_play_4 (by decide) (fun c_4 => ?_) (fun c_4 => ?_)
  · exact absurd c_4 (Int32.not_lt.mpr hf)
  · refine lv_ldc (v := (-1000002)) hx hb hown k0 dX9_play_7 ?_
    exact hend _ _ _ _ _ _ hP hD hS dX9_play_9 rfl rfl rfl
set_option maxHeartbeats 400000 in
set_option maxRecDepth 100000 in
theorem c_X9_playO (l : Launch) (D : va_G) (I C Q : ClassId) (a0 a1 a2 a3 a4 : Nat) (now : Nat → Int32) (kept : Nat → Int32) (ns : Nat) (text : Nat → Int32) (L : Nat) (att : Int32) (num : Int32) (rd : Nat → Int32) (np : Nat) (sz : Nat) (hL : L ≤ 80) (hf : ¬ 0 ≤ (t_fo text L num rd).1) (hns : ns ≤ 4) (hs0 : 0 < sz) (hs1 : sz ≤ 100) (hgo : m_pgL text L sz 80 0 (t_fo text L num rd).2.2.2 now np) : KI l D (tyL I C Q) yX9_play wsX9_play { frames := 6, cells := 0, slots := 0, locals := 144 } [.ref a0] (wM I a0 a1 a2 a3 a4 now kept (nI ns) text (nI L) att num rd) (wM I a0 a1 a2 a3 a4 ((m_plL text L sz 80 0 (t_fo text L num rd).2.2.1 (t_fo text L num rd).2.2.2 now np 0).2.2.2.2) (m_rec now kept ns) (nI (m_rns ns)) text (nI L) (nI (m_plL text L sz 80 0 (t_fo text L num rd).2.2.1 (t_fo text L num rd).2.2.2 now np 0).2.1) ((m_plL text L sz 80 0 (t_fo text L num rd).2.2.1 (t_fo text L num rd).2.2.2 now np 0).2.2.1) ((m_plL text L sz 80 0 (t_fo text L num rd).2.2.1 (t_fo text L num rd).2.2.2 now np 0).2.2.2.1)) (nI (m_plL text L sz 80 0 (t_fo text L num rd).2.2.1 (t_fo text L num rd).2.2.2 now np 0).1) := by
  refine KI.of (cc := cX9_play) (maxL := 3) (rt := .int) (own := RX9) (by decide) rfl rfl (Nat.le_of_ble_eq_true rfl) ?_
  intro p e s m below meth c A Q0 ls hx hb hml hown hts hE hA hP hD hS hl hend
  have hK := hE.1
  have hF : CallFix p m c cX9_play 3 s [.ref a0].toArray wsX9_play RX9 := ⟨hx, hb, hml, hown, hts⟩
  have k0 := hts (.fieldLink RX9 138 "LateExcusesModel" "at" "I") (List.mem_of_getElem? (i := 2) rfl)
  have k1 := hts (.fieldLink RX9 134 "LateExcusesModel" "length" "I") (List.mem_of_getElem? (i := 3) rfl)
  have k2 := hts (.fieldLink RX9 19 "LateExcusesModel" "read" "[I") (List.mem_of_getElem? (i := 4) rfl)
  have u9 : ∀ w ∈ u_ws RX9 TX9 8, w ∈ wsX9_play := by decide +kernel
  have hl : lv_has ls 3 [(0, .ref a0)] := hl
  refine lv_aload_n hx hb dX9_play_0 rfl (lv_at hl 0 rfl) ?_
  refine k_iF (va_runV (As := []) (rest := []) hF (c_X9_faultOf l D I C Q a0 a1 a2 a3 a4 now kept (nI ns) text L att num rd hL _) (cwV 0 hts gX9_play_X9_faultOf rfl rfl rfl (by decide +kernel) ⟨Nat.le_of_ble_eq_true rfl, Nat.le_of_ble_eq_true rfl⟩) (kPreV hE hP hD (ci := 9) (q0 := 0) rfl rfl) rfl rfl hl.1 rfl (lv_room (Nat.le_of_ble_eq_true rfl)) dX9_play_1 ⟨Nat.zero_le _, Nat.zero_le _⟩) hD hS hA (fun H locs hP hD hS => ?_)
  have hP : va_P D vwCl (wM I a0 a1 a2 a3 a4 now kept (nI ns) text (nI L) (nI ((t_fo text L num rd).2.1)) ((t_fo text L num rd).2.2.1) ((t_fo text L num rd).2.2.2)) H := hP
  have hD : va_D A (wM I a0 a1 a2 a3 a4 now kept (nI ns) text (nI L) (nI ((t_fo text L num rd).2.1)) ((t_fo text L num rd).2.2.1) ((t_fo text L num rd).2.2.2)) := hD
  refine lv_if_lt (tgt := 10) hx hb dX9_play_4 (by decide) (fun c_4 => ?_) (fun c_4 => ?_)
  · refine lv_aload_n hx hb dX9_play_10 rfl (lv_at hl 0 rfl) ?_
    refine k_vF (va_runV (As := []) (rest := []) hF (c_X9_records l D I C Q a0 a1 a2 a3 a4 now kept ns text (nI L) (nI ((t_fo text L num rd).2.1)) ((t_fo text L num rd).2.2.1) ((t_fo text L num rd).2.2.2) hns _) (cwV 0 hts gX9_play_X9_records rfl rfl rfl (by decide +kernel) ⟨Nat.le_of_ble_eq_true rfl, Nat.le_of_ble_eq_true rfl⟩) (kPreV hE hP hD (ci := 9) (q0 := 0) rfl rfl) rfl rfl hl.1 rfl (lv_room (Nat.le_of_ble_eq_true rfl)) dX9_play_11 ⟨Nat.zero_le _, Nat.zero_le _⟩) hD hS hA (fun H locs hP hD hS => ?_)
    have hP : va_P D vwCl (wM I a0 a1 a2 a3 a4 now (m_rec now kept ns) (nI (m_rns ns)) text (nI L) (nI ((t_fo text L num rd).2.1)) ((t_fo text L num rd).2.2.1) ((t_fo text L num rd).2.2.2)) H := hP
    have hD : va_D A (wM I a0 a1 a2 a3 a4 now (m_rec now kept ns) (nI (m_rns ns)) text (nI L) (nI ((t_fo text L num rd).2.1)) ((t_fo text L num rd).2.2.1) ((t_fo text L num rd).2.2.2)) := hD
    refine lv_iconst (v := 0) hx hb dX9_play_14 (by decide) ?_
    refine lv_istore_n (lv' := [(1, .int 0), (0, .ref a0)]) hx hb dX9_play_15 rfl hl (by decide) rfl (fun ls hl => ?_)
    refine lv_aload_n hx hb dX9_play_16 rfl (lv_at hl 1 rfl) ?_
    refine lv_iconst (v := 0) hx hb dX9_play_17 (by decide) ?_
    refine va_put (D := D) (ci := 9) (v := .int 0) (ty := .int) (C := RX9) (T := TX9) (N := 8) hx hb hts u9 tyX9 tyX9_ok nmX9 hown hK hP hD hS 0 rfl rfl 5 (by decide) k0 (fun _ h9 => h9) rfl (by decide +kernel) rfl rfl (Nat.le_of_ble_eq_true rfl) dX9_play_18 (fun H locs hP hD hS => ?_)
    have hP : va_P D vwCl (wM I a0 a1 a2 a3 a4 now (m_rec now kept ns) (nI (m_rns ns)) text (nI L) 0 ((t_fo text L num rd).2.2.1) ((t_fo text L num rd).2.2.2)) H := hP
    have hD : va_D A (wM I a0 a1 a2 a3 a4 now (m_rec now kept ns) (nI (m_rns ns)) text (nI L) 0 ((t_fo text L num rd).2.2.1) ((t_fo text L num rd).2.2.2)) := hD
    have loop21 : ∀ (n : Nat) (b : Nat) (z : Int32) (r : Nat → Int32) (f : Nat → Int32) (p9 : Nat) (cn : Nat), (b ≤ 80) → (m_pgL text L sz n b r f p9) → ∀ (H : Heap) (locs : List Loc) (ls : Array Slot), va_P D vwCl (wM I a0 a1 a2 a3 a4 f (m_rec now kept ns) (nI (m_rns ns)) text (nI L) (nI b) z r) H → va_D A (wM I a0 a1 a2 a3 a4 f (m_rec now kept ns) (nI (m_rns ns)) text (nI L) (nI b) z r) → va_S A s.heap H locs → lv_has ls 3 [(0, .ref a0), (1, .int (nI cn))] → (m_plL text L sz n b z r f p9 cn = (m_plL text L sz 80 0 (t_fo text L num rd).2.2.1 (t_fo text L num rd).2.2.2 now np 0)) → W p l e ({ frames := 6, cells := 0, slots := 0, locals := 144 } : Room) s m [.ref a0].toArray below meth c H locs 0 0 Q0 (F0 m 21 ls []) := by
      intro n
      induction n with
      | zero =>
        intro b z r f p9 cn hb8 hgd H locs ls hP hD hS hl hr
        refine lv_aload_n hx hb dX9_play_21 rfl (lv_at hl 0 rfl) ?_
        refine va_get (D := D) (ci := 9) (v := .int (nI b)) (C := RX9) (T := TX9) (N := 8) hx hb hts u9 hown hK hP 0 rfl rfl 5 (by decide) k0 (fun _ h9 => h9) rfl dX9_play_22 ?_
        refine lv_aload_n hx hb dX9_play_25 rfl (lv_at hl 0 rfl) ?_
        refine va_get (D := D) (ci := 9) (v := .int (nI L)) (C := RX9) (T := TX9) (N := 8) hx hb hts u9 hown hK hP 0 rfl rfl 4 (by decide) k1 (fun _ h9 => h9) rfl dX9_play_26 ?_
        refine lv_icmp_ge (tgt := 90) hx hb dX9_play_29 (by decide) (fun c_29 => ?_) (fun c_29 => ?_)
        · have hle : L ≤ b := (nI_leI (a := L) (b := b) (by omega) (by omega)).mp c_29
          refine lv_iload_n hx hb dX9_play_90 rfl (lv_at hl 1 rfl) ?_
          exact hend _ _ _ _ _ _ hP hD hS dX9_play_91 rfl (by rw [← hr]; simp +decide only [m_plL, if_true, if_false, not_true_eq_false, not_false_eq_true, and_self, and_true, true_and, and_false, false_and, kn01, kn10, kn02, kn20, kn12, kn21, eq_self]) (by rw [← hr]; simp +decide only [m_plL, if_true, if_false, not_true_eq_false, not_false_eq_true, and_self, and_true, true_and, and_false, false_and, kn01, kn10, kn02, kn20, kn12, kn21, eq_self])
        · exact absurd ((nI_leI (a := L) (b := b) (by omega) (by omega)).mpr hgd) c_29
      | succ n ih =>
        intro b z r f p9 cn hb8 hgd H locs ls hP hD hS hl hr
        refine lv_aload_n hx hb dX9_play_21 rfl (lv_at hl 0 rfl) ?_
        refine va_get (D := D) (ci := 9) (v := .int (nI b)) (C := RX9) (T := TX9) (N := 8) hx hb hts u9 hown hK hP 0 rfl rfl 5 (by decide) k0 (fun _ h9 => h9) rfl dX9_play_22 ?_
        refine lv_aload_n hx hb dX9_play_25 rfl (lv_at hl 0 rfl) ?_
        refine va_get (D := D) (ci := 9) (v := .int (nI L)) (C := RX9) (T := TX9) (N := 8) hx hb hts u9 hown hK hP 0 rfl rfl 4 (by decide) k1 (fun _ h9 => h9) rfl dX9_play_26 ?_
        refine lv_icmp_ge (tgt := 90) hx hb dX9_play_29 (by decide) (fun c_29 => ?_) (fun c_29 => ?_)
        · have hle : L ≤ b := (nI_leI (a := L) (b := b) (by omega) (by omega)).mp c_29
          refine lv_iload_n hx hb dX9_play_90 rfl (lv_at hl 1 rfl) ?_
          exact hend _ _ _ _ _ _ hP hD hS dX9_play_91 rfl (by rw [← hr]; simp +decide only [m_plL, hle, if_true, if_false, not_true_eq_false, not_false_eq_true, and_self, and_true, true_and, and_false, false_and, kn01, kn10, kn02, kn20, kn12, kn21, eq_self]) (by rw [← hr]; simp +decide only [m_plL, hle, if_true, if_false, not_true_eq_false, not_false_eq_true, and_self, and_true, true_and, and_false, false_and, kn01, kn10, kn02, kn20, kn12, kn21, eq_self])
        · have hle : ¬ L ≤ b := fun h => c_29 ((nI_leI (a := L) (b := b) (by omega) (by omega)).mpr h)
          obtain ⟨hwl, hpi, hpt, hpx, ⟨hf10, hp64, hf6, hwf, hnf, hcp⟩, hgn⟩ := hgd.resolve_left hle
          have hpg := t_ev_prog hwl
          refine lv_aload_n hx hb dX9_play_32 rfl (lv_at hl 0 rfl) ?_
          refine k_iF (va_runV (As := []) (rest := []) hF (c_X9_passesEvent l D I C Q a0 a1 a2 a3 a4 f (m_rec now kept ns) (nI (m_rns ns)) text L b z r hL (by omega) _) (cwV 0 hts gX9_play_X9_passesEvent rfl rfl rfl (by decide +kernel) ⟨Nat.le_of_ble_eq_true rfl, Nat.le_of_ble_eq_true rfl⟩) (kPreV hE hP hD (ci := 9) (q0 := 0) rfl rfl) rfl rfl hl.1 rfl (lv_room (Nat.le_of_ble_eq_true rfl)) dX9_play_33 ⟨Nat.zero_le _, Nat.zero_le _⟩) hD hS hA (fun H locs hP hD hS => ?_)
          have hP : va_P D vwCl (wM I a0 a1 a2 a3 a4 f (m_rec now kept ns) (nI (m_rns ns)) text (nI L) (nI ((t_ev text L b r).2.1)) ((t_ev text L b r).2.2.1) ((t_ev text L b r).2.2.2)) H := hP
          have hD : va_D A (wM I a0 a1 a2 a3 a4 f (m_rec now kept ns) (nI (m_rns ns)) text (nI L) (nI ((t_ev text L b r).2.1)) ((t_ev text L b r).2.2.1) ((t_ev text L b r).2.2.2)) := hD
          refine lv_istore_n (lv' := [(2, .int ((t_ev text L b r).1)), (0, .ref a0), (1, .int (nI cn))]) hx hb dX9_play_36 rfl hl (by decide) rfl (fun ls hl => ?_)
          refine lv_iload_n hx hb dX9_play_37 rfl (lv_at hl 2 rfl) ?_
          refine lv_iload_n hx hb dX9_play_38 rfl (lv_at hl 0 rfl) ?_
          refine lv_if_eq (tgt := 84) hx hb dX9_play_39 (by decide) (fun c_39 => ?_) (fun c_39 => ?_)
          · exact absurd c_39 hwl
          · refine lv_aload_n hx hb dX9_play_42 rfl (lv_at hl 1 rfl) ?_
            refine lv_aload_n hx hb dX9_play_43 rfl (lv_at hl 1 rfl) ?_
            refine va_get (D := D) (ci := 9) (v := .ref a4) (C := RX9) (T := TX9) (N := 8) hx hb hts u9 hown hK hP 0 rfl rfl 7 (by decide) k2 (fun _ h9 => h9) rfl dX9_play_44 ?_
            refine lv_iconst (v := 0) hx hb dX9_play_47 (by decide) ?_
            refine k_iald (j := 0) (v := (((t_ev text L b r).2.2.2) 0)) hx hb hK hP 4 0 rfl rfl rfl (by decide) (by decide) rfl dX9_play_48 ?_
            refine k_top (y := nI (m_pi text L b r)) hpi.1 ?_
            refine lv_aload_n hx hb dX9_play_49 rfl (lv_at hl 1 rfl) ?_
            refine va_get (D := D) (ci := 9) (v := .ref a4) (C := RX9) (T := TX9) (N := 8) hx hb hts u9 hown hK hP 0 rfl rfl 7 (by decide) k2 (fun _ h9 => h9) rfl dX9_play_50 ?_
            refine lv_iconst (v := 1) hx hb dX9_play_53 (by decide) ?_
            refine k_iald (j := 1) (v := (((t_ev text L b r).2.2.2) 1)) hx hb hK hP 4 0 rfl rfl rfl (by decide) (by decide) rfl dX9_play_54 ?_
            refine k_top (y := nI (m_pt text L b r)) hpt.1 ?_
            refine lv_aload_n hx hb dX9_play_55 rfl (lv_at hl 1 rfl) ?_
            refine va_get (D := D) (ci := 9) (v := .ref a4) (C := RX9) (T := TX9) (N := 8) hx hb hts u9 hown hK hP 0 rfl rfl 7 (by decide) k2 (fun _ h9 => h9) rfl dX9_play_56 ?_
            refine lv_iconst (v := 2) hx hb dX9_play_59 (by decide) ?_
            refine k_iald (j := 2) (v := (((t_ev text L b r).2.2.2) 2)) hx hb hK hP 4 0 rfl rfl rfl (by decide) (by decide) rfl dX9_play_60 ?_
            refine lv_aload_n hx hb dX9_play_61 rfl (lv_at hl 1 rfl) ?_
            refine va_get (D := D) (ci := 9) (v := .ref a4) (C := RX9) (T := TX9) (N := 8) hx hb hts u9 hown hK hP 0 rfl rfl 7 (by decide) k2 (fun _ h9 => h9) rfl dX9_play_62 ?_
            refine lv_iconst (v := 3) hx hb dX9_play_65 (by decide) ?_
            refine k_iald (j := 3) (v := (((t_ev text L b r).2.2.2) 3)) hx hb hK hP 4 0 rfl rfl rfl (by decide) (by decide) rfl dX9_play_66 ?_
            refine lv_aload_n hx hb dX9_play_67 rfl (lv_at hl 1 rfl) ?_
            refine va_get (D := D) (ci := 9) (v := .ref a4) (C := RX9) (T := TX9) (N := 8) hx hb hts u9 hown hK hP 0 rfl rfl 7 (by decide) k2 (fun _ h9 => h9) rfl dX9_play_68 ?_
            refine lv_iconst (v := 4) hx hb dX9_play_71 (by decide) ?_
            refine k_iald (j := 4) (v := (((t_ev text L b r).2.2.2) 4)) hx hb hK hP 4 0 rfl rfl rfl (by decide) (by decide) rfl dX9_play_72 ?_
            refine k_top (y := nI (m_px text L b r)) hpx.1 ?_
            refine k_iF (va_runV (As := [.int (nI (m_pi text L b r)), .int (nI (m_pt text L b r)), .int (((t_ev text L b r).2.2.2) 2), .int (((t_ev text L b r).2.2.2) 3), .int (nI (m_px text L b r))]) (rest := [.int (nI cn)]) hF (c_X9_comes l D I C Q a0 a1 a2 a3 a4 f (m_rec now kept ns) (nI (m_rns ns)) text (nI L) (nI ((t_ev text L b r).2.1)) ((t_ev text L b r).2.2.1) ((t_ev text L b r).2.2.2) p9 sz (m_pi text L b r) (m_pt text L b r) (((t_ev text L b r).2.2.2) 2) (((t_ev text L b r).2.2.2) 3) (m_px text L b r) hf10 hp64 hf6 hs0 hs1 hwf hnf hpt.2 hpi.2 hpx.2 hcp _) (cwV 5 hts gX9_play_X9_comes rfl rfl rfl (by decide +kernel) ⟨Nat.le_of_ble_eq_true rfl, Nat.le_of_ble_eq_true rfl⟩) (kPreV hE hP hD (ci := 9) (q0 := 0) rfl rfl) rfl rfl hl.1 rfl (lv_room (Nat.le_of_ble_eq_true rfl)) dX9_play_73 ⟨Nat.zero_le _, Nat.zero_le _⟩) hD hS hA (fun H locs hP hD hS => ?_)
            have hP : va_P D vwCl (wM I a0 a1 a2 a3 a4 ((m_come f (m_pi text L b r) (m_pt text L b r) (((t_ev text L b r).2.2.2) 2) (((t_ev text L b r).2.2.2) 3) (m_px text L b r) p9 sz).2) (m_rec now kept ns) (nI (m_rns ns)) text (nI L) (nI ((t_ev text L b r).2.1)) ((t_ev text L b r).2.2.1) ((t_ev text L b r).2.2.2)) H := hP
            have hD : va_D A (wM I a0 a1 a2 a3 a4 ((m_come f (m_pi text L b r) (m_pt text L b r) (((t_ev text L b r).2.2.2) 2) (((t_ev text L b r).2.2.2) 3) (m_px text L b r) p9 sz).2) (m_rec now kept ns) (nI (m_rns ns)) text (nI L) (nI ((t_ev text L b r).2.1)) ((t_ev text L b r).2.2.1) ((t_ev text L b r).2.2.2)) := hD
            refine k_top (y := (m_pco text L sz b r f p9).1) rfl ?_
            have hP : va_P D vwCl (wM I a0 a1 a2 a3 a4 ((m_pco text L sz b r f p9).2) (m_rec now kept ns) (nI (m_rns ns)) text (nI L) (nI ((t_ev text L b r).2.1)) ((t_ev text L b r).2.2.1) (m_pR text L b r)) H := hP
            have hD : va_D A (wM I a0 a1 a2 a3 a4 ((m_pco text L sz b r f p9).2) (m_rec now kept ns) (nI (m_rns ns)) text (nI L) (nI ((t_ev text L b r).2.1)) ((t_ev text L b r).2.2.1) (m_pR text L b r)) := hD
            refine lv_iconst (v := 2) hx hb dX9_play_76 (by decide) ?_
            refine lv_icmp_ge (tgt := 84) hx hb dX9_play_77 (by decide) (fun c_77 => ?_) (fun c_77 => ?_)
            · refine lv_iconst (v := 0) hx hb dX9_play_84 (by decide) ?_
              refine k_iadd (v := nI (cn + 0)) hx hb dX9_play_85 (nI_add cn 0) ?_
              refine lv_istore_n (lv' := [(1, .int (nI (cn + 0))), (2, .int ((t_ev text L b r).1)), (0, .ref a0)]) hx hb dX9_play_86 rfl hl (by decide) rfl (fun ls hl => ?_)
              refine lv_goto (tgt := 21) hx hb dX9_play_87 (by decide) ?_
              exact ih ((t_ev text L b r).2.1) ((t_ev text L b r).2.2.1) (m_pR text L b r) ((m_pco text L sz b r f p9).2) (m_cnp f (m_pi text L b r) (m_pt text L b r) p9 sz) (cn + 0) (by omega) hgn _ _ _ hP hD hS (lv_sub hl [2, 0] rfl) (by rw [← hr]; simp +decide only [m_plL, hle, c_77, Nat.add_zero, if_true, if_false, not_true_eq_false, not_false_eq_true, and_self, and_true, true_and, and_false, false_and, kn01, kn10, kn02, kn20, kn12, kn21, eq_self])
            · refine lv_iconst (v := 1) hx hb dX9_play_80 (by decide) ?_
              refine lv_goto (tgt := 85) hx hb dX9_play_81 (by decide) ?_
              refine k_iadd (v := nI (cn + 1)) hx hb dX9_play_85 (nI_add cn 1) ?_
              refine lv_istore_n (lv' := [(1, .int (nI (cn + 1))), (2, .int ((t_ev text L b r).1)), (0, .ref a0)]) hx hb dX9_play_86 rfl hl (by decide) rfl (fun ls hl => ?_)
              refine lv_goto (tgt := 21) hx hb dX9_play_87 (by decide) ?_
              exact ih ((t_ev text L b r).2.1) ((t_ev text L b r).2.2.1) (m_pR text L b r) ((m_pco text L sz b r f p9).2) (m_cnp f (m_pi text L b r) (m_pt text L b r) p9 sz) (cn + 1) (by omega) hgn _ _ _ hP hD hS (lv_sub hl [2, 0] rfl) (by rw [← hr]; simp +decide only [m_plL, hle, c_77, Nat.add_zero, if_true, if_false, not_true_eq_false, not_false_eq_true, and_self, and_true, true_and, and_false, false_and, kn01, kn10, kn02, kn20, kn12, kn21, eq_self])
    exact loop21 80 0 ((t_fo text L num rd).2.2.1) ((t_fo text L num rd).2.2.2) now np 0 (by omega) hgo _ _ _ hP hD hS (lv_sub hl [1, 0] rfl) rfl
  · exact absurd (Int32.not_lt.mp c_4) hf
