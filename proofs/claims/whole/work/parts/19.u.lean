set_option maxHeartbeats 400000 in
set_option maxRecDepth 100000 in
theorem c_X6_hasFault (l : Launch) (D : va_G) (I C Q : ClassId) (x0 x1 : Nat) (sg : Nat → Int32) (L : Nat) (xp : Int32) (xn : Int32) (xi : Int32) (xt : Int32) (xk : Int32) (xa : Int32) (xe : Int32) (xf : Int32) (xr : Int32) (hL : L ≤ 80) (hsg : ∀ i, i < L → narrow .char (.int (sg i)) = .int (sg i)) : KI l D (tyL I C Q) yX6_hasFault wsX6_hasFault { frames := 4, cells := 0, slots := 0, locals := 84 } [.ref x0] (wX I C x0 x1 sg (nI L) xp xn xi xt xk xa xe xf xr) (wX I C x0 x1 sg (nI L) ((x_hfL sg L 80 0 (xp, xn, xi, xt, xk, xa, xe) xf xr).2.1.1) ((x_hfL sg L 80 0 (xp, xn, xi, xt, xk, xa, xe) xf xr).2.1.2.1) ((x_hfL sg L 80 0 (xp, xn, xi, xt, xk, xa, xe) xf xr).2.1.2.2.1) ((x_hfL sg L 80 0 (xp, xn, xi, xt, xk, xa, xe) xf xr).2.1.2.2.2.1) ((x_hfL sg L 80 0 (xp, xn, xi, xt, xk, xa, xe) xf xr).2.1.2.2.2.2.1) ((x_hfL sg L 80 0 (xp, xn, xi, xt, xk, xa, xe) xf xr).2.1.2.2.2.2.2.1) ((x_hfL sg L 80 0 (xp, xn, xi, xt, xk, xa, xe) xf xr).2.1.2.2.2.2.2.2) ((x_hfL sg L 80 0 (xp, xn, xi, xt, xk, xa, xe) xf xr).2.2.1) ((x_hfL sg L 80 0 (xp, xn, xi, xt, xk, xa, xe) xf xr).2.2.2)) ((x_hfL sg L 80 0 (xp, xn, xi, xt, xk, xa, xe) xf xr).1) := by
  refine KI.of (cc := cX6_hasFault) (maxL := 4) (rt := .boolean) (own := RX6) (by decide) rfl rfl (Nat.le_of_ble_eq_true rfl) ?_
  intro p e s m below meth c A Q0 ls hx hb hml hown hts hE hA hP hD hS hl hend
  have hK := hE.1
  have hF : CallFix p m c cX6_hasFault 4 s [.ref x0].toArray wsX6_hasFault RX6 := ⟨hx, hb, hml, hown, hts⟩
  have k0 := hts (.fieldLink RX6 15 "LateExcuses$Text" "length" "I") (List.mem_of_getElem? (i := 1) rfl)
  have k1 := hts (.fieldLink RX6 19 "LateExcuses$Text" "faultPlace" "I") (List.mem_of_getElem? (i := 6) rfl)
  have k2 := hts (.fieldLink RX6 22 "LateExcuses$Text" "faultReason" "I") (List.mem_of_getElem? (i := 7) rfl)
  have k3 := hts (.fieldLink RX6 29 "LateExcuses$Text" "id" "I") (List.mem_of_getElem? (i := 2) rfl)
  have k4 := hts (.fieldLink RX6 32 "LateExcuses$Text" "time" "I") (List.mem_of_getElem? (i := 3) rfl)
  have k5 := hts (.fieldLink RX6 35 "LateExcuses$Text" "key" "I") (List.mem_of_getElem? (i := 4) rfl)
  have k6 := hts (.fieldLink RX6 38 "LateExcuses$Text" "amount" "I") (List.mem_of_getElem? (i := 5) rfl)
  have k7 := hts (.static yX8_isEvent) (List.mem_of_getElem? (i := 36) rfl)
  have k8 := hts (.initialized RX8) (List.mem_of_getElem? (i := 26) rfl)
  have u6 : ∀ w ∈ u_ws RX6 TX6 11, w ∈ wsX6_hasFault := by decide +kernel
  have hl : lv_has ls 4 [(0, .ref x0)] := hl
  refine lv_iconst (v := 0) hx hb dX6_hasFault_0 (by decide) ?_
  refine lv_istore_n (lv' := [(1, .int 0), (0, .ref x0)]) hx hb dX6_hasFault_1 rfl hl (by decide) rfl (fun ls hl => ?_)
  refine lv_iconst (v := 0) hx hb dX6_hasFault_2 (by decide) ?_
  refine lv_istore_n (lv' := [(2, .int 0), (1, .int 0), (0, .ref x0)]) hx hb dX6_hasFault_3 rfl hl (by decide) rfl (fun ls hl => ?_)
  have loop4 : ∀ (n : Nat) (b : Nat) (i : Nat) (J : XJ), (i + n = 80) → (b ≤ 200) → ∀ (H : Heap) (locs : List Loc) (ls : Array Slot), va_P D vwCl (wX I C x0 x1 sg (nI L) J.1 J.2.1 J.2.2.1 J.2.2.2.1 J.2.2.2.2.1 J.2.2.2.2.2.1 J.2.2.2.2.2.2 xf xr) H → va_D A (wX I C x0 x1 sg (nI L) J.1 J.2.1 J.2.2.1 J.2.2.2.1 J.2.2.2.2.1 J.2.2.2.2.2.1 J.2.2.2.2.2.2 xf xr) → va_S A s.heap H locs → lv_has ls 4 [(0, .ref x0), (1, .int (nI b)), (2, .int (nI i))] → (x_hfL sg L n b J xf xr = (x_hfL sg L 80 0 (xp, xn, xi, xt, xk, xa, xe) xf xr)) → W p l e ({ frames := 4, cells := 0, slots := 0, locals := 84 } : Room) s m [.ref x0].toArray below meth c H locs 0 0 Q0 (F0 m 4 ls []) := by
    intro n
    induction n with
    | zero =>
      intro b i J hi hbL H locs ls hP hD hS hl hr
      refine lv_iload_n hx hb dX6_hasFault_4 rfl (lv_at hl 2 rfl) ?_
      refine lv_bipush (v := 80) hx hb dX6_hasFault_5 (by decide) ?_
      refine lv_icmp_ge (tgt := 78) hx hb dX6_hasFault_7 (by decide) (fun c_7 => ?_) (fun c_7 => ?_)
      · refine lv_iconst (v := 0) hx hb dX6_hasFault_78 (by decide) ?_
        exact hend _ _ _ _ _ _ hP hD hS dX6_hasFault_79 (by decide) (by rw [← hr]; simp +decide only [x_hfL, if_true, if_false, not_true_eq_false, not_false_eq_true, and_self, and_true, true_and, and_false, false_and, kn01, kn10, kn02, kn20, kn12, kn21, eq_self]) (by rw [← hr]; simp +decide only [x_hfL, if_true, if_false, not_true_eq_false, not_false_eq_true, and_self, and_true, true_and, and_false, false_and, kn01, kn10, kn02, kn20, kn12, kn21, eq_self])
      · exact absurd ((nI_leI (a := 80) (b := i) (by omega) (by omega)).mpr (by omega)) c_7
    | succ n ih =>
      intro b i J hi hbL H locs ls hP hD hS hl hr
      refine lv_iload_n hx hb dX6_hasFault_4 rfl (lv_at hl 2 rfl) ?_
      refine lv_bipush (v := 80) hx hb dX6_hasFault_5 (by decide) ?_
      refine lv_icmp_ge (tgt := 78) hx hb dX6_hasFault_7 (by decide) (fun c_7 => ?_) (fun c_7 => ?_)
      · exact absurd ((nI_leI (a := 80) (b := i) (by omega) (by omega)).mp c_7) (by omega)
      · refine lv_iload_n hx hb dX6_hasFault_10 rfl (lv_at hl 1 rfl) ?_
        refine lv_aload_n hx hb dX6_hasFault_11 rfl (lv_at hl 0 rfl) ?_
        refine va_get (D := D) (ci := 6) (v := .int (nI L)) (C := RX6) (T := TX6) (N := 11) hx hb hts u6 hown hK hP 0 rfl rfl 1 (by decide) k0 (fun _ h9 => h9) rfl dX6_hasFault_12 ?_
        refine lv_icmp_ge (tgt := 78) hx hb dX6_hasFault_15 (by decide) (fun c_15 => ?_) (fun c_15 => ?_)
        · have hle : L ≤ b := (nI_leI (a := L) (b := b) (by omega) (by omega)).mp c_15
          refine lv_iconst (v := 0) hx hb dX6_hasFault_78 (by decide) ?_
          exact hend _ _ _ _ _ _ hP hD hS dX6_hasFault_79 (by decide) (by rw [← hr]; simp +decide only [x_hfL, hle, if_true, if_false, not_true_eq_false, not_false_eq_true, and_self, and_true, true_and, and_false, false_and, kn01, kn10, kn02, kn20, kn12, kn21, eq_self]) (by rw [← hr]; simp +decide only [x_hfL, hle, if_true, if_false, not_true_eq_false, not_false_eq_true, and_self, and_true, true_and, and_false, false_and, kn01, kn10, kn02, kn20, kn12, kn21, eq_self])
        · have hle : ¬ L ≤ b := fun h => c_15 ((nI_leI (a := L) (b := b) (by omega) (by omega)).mpr h)
          refine lv_aload_n hx hb dX6_hasFault_18 rfl (lv_at hl 0 rfl) ?_
          refine lv_iload_n hx hb dX6_hasFault_19 rfl (lv_at hl 1 rfl) ?_
          refine k_iF (va_runV (As := [.int (nI b)]) (rest := []) hF (c_X6_readEvent l D I C Q x0 x1 sg L J.1 J.2.1 J.2.2.1 J.2.2.2.1 J.2.2.2.2.1 J.2.2.2.2.2.1 J.2.2.2.2.2.2 xf xr b hL hbL hsg _) (cwV 1 hts gX6_hasFault_X6_readEvent rfl rfl rfl (by decide +kernel) ⟨Nat.le_of_ble_eq_true rfl, Nat.le_of_ble_eq_true rfl⟩) (kPreV hE hP hD (ci := 6) (q0 := 0) rfl rfl) rfl rfl hl.1 rfl (lv_room (Nat.le_of_ble_eq_true rfl)) dX6_hasFault_20 ⟨Nat.zero_le _, Nat.zero_le _⟩) hD hS hA (fun H locs hP hD hS => ?_)
          have hP : va_P D vwCl (wX I C x0 x1 sg (nI L) ((x_J sg L b).1) ((x_J sg L b).2.1) ((x_J sg L b).2.2.1) ((x_J sg L b).2.2.2.1) ((x_J sg L b).2.2.2.2.1) ((x_J sg L b).2.2.2.2.2.1) ((x_J sg L b).2.2.2.2.2.2) xf xr) H := hP
          have hD : va_D A (wX I C x0 x1 sg (nI L) ((x_J sg L b).1) ((x_J sg L b).2.1) ((x_J sg L b).2.2.1) ((x_J sg L b).2.2.2.1) ((x_J sg L b).2.2.2.2.1) ((x_J sg L b).2.2.2.2.2.1) ((x_J sg L b).2.2.2.2.2.2) xf xr) := hD
          by_cases heo : x_eo sg L b = 0
          · refine k_top (if_pos heo : x_r sg L b = _) ?_
            refine lv_istore_n (lv' := [(3, .int (-1)), (0, .ref x0), (1, .int (nI b)), (2, .int (nI i))]) hx hb dX6_hasFault_23 rfl hl (by decide) rfl (fun ls hl => ?_)
            refine lv_iload_n hx hb dX6_hasFault_24 rfl (lv_at hl 0 rfl) ?_
            refine lv_if_lt (tgt := 50) hx hb dX6_hasFault_25 (by decide) (fun c_25 => ?_) (fun c_25 => ?_)
            · refine lv_aload_n hx hb dX6_hasFault_50 rfl (lv_at hl 1 rfl) ?_
              refine lv_iload_n hx hb dX6_hasFault_51 rfl (lv_at hl 2 rfl) ?_
              refine va_put (D := D) (ci := 6) (v := .int (nI b)) (ty := .int) (C := RX6) (T := TX6) (N := 11) hx hb hts u6 tyX6 tyX6_ok nmX6 hown hK hP hD hS 0 rfl rfl 9 (by decide) k1 (fun _ h9 => h9) rfl (by decide +kernel) rfl rfl (Nat.le_of_ble_eq_true rfl) dX6_hasFault_52 (fun H locs hP hD hS => ?_)
              have hP : va_P D vwCl (wX I C x0 x1 sg (nI L) ((x_J sg L b).1) ((x_J sg L b).2.1) ((x_J sg L b).2.2.1) ((x_J sg L b).2.2.2.1) ((x_J sg L b).2.2.2.2.1) ((x_J sg L b).2.2.2.2.2.1) ((x_J sg L b).2.2.2.2.2.2) (nI b) xr) H := hP
              have hD : va_D A (wX I C x0 x1 sg (nI L) ((x_J sg L b).1) ((x_J sg L b).2.1) ((x_J sg L b).2.2.1) ((x_J sg L b).2.2.2.1) ((x_J sg L b).2.2.2.2.1) ((x_J sg L b).2.2.2.2.2.1) ((x_J sg L b).2.2.2.2.2.2) (nI b) xr) := hD
              refine lv_aload_n hx hb dX6_hasFault_55 rfl (lv_at hl 1 rfl) ?_
              refine lv_iload_n hx hb dX6_hasFault_56 rfl (lv_at hl 0 rfl) ?_
              refine lv_if_ge (tgt := 64) hx hb dX6_hasFault_57 (by decide) (fun c_57 => ?_) (fun c_57 => ?_)
              · exact absurd c_57 (by decide)
              · refine lv_iconst (v := 1) hx hb dX6_hasFault_60 (by decide) ?_
                refine lv_goto (tgt := 65) hx hb dX6_hasFault_61 (by decide) ?_
                refine va_put (D := D) (ci := 6) (v := .int 1) (ty := .int) (C := RX6) (T := TX6) (N := 11) hx hb hts u6 tyX6 tyX6_ok nmX6 hown hK hP hD hS 0 rfl rfl 10 (by decide) k2 (fun _ h9 => h9) rfl (by decide +kernel) rfl rfl (Nat.le_of_ble_eq_true rfl) dX6_hasFault_65 (fun H locs hP hD hS => ?_)
                have hP : va_P D vwCl (wX I C x0 x1 sg (nI L) ((x_J sg L b).1) ((x_J sg L b).2.1) ((x_J sg L b).2.2.1) ((x_J sg L b).2.2.2.1) ((x_J sg L b).2.2.2.2.1) ((x_J sg L b).2.2.2.2.2.1) ((x_J sg L b).2.2.2.2.2.2) (nI b) 1) H := hP
                have hD : va_D A (wX I C x0 x1 sg (nI L) ((x_J sg L b).1) ((x_J sg L b).2.1) ((x_J sg L b).2.2.1) ((x_J sg L b).2.2.2.1) ((x_J sg L b).2.2.2.2.1) ((x_J sg L b).2.2.2.2.2.1) ((x_J sg L b).2.2.2.2.2.2) (nI b) 1) := hD
                refine lv_iconst (v := 1) hx hb dX6_hasFault_68 (by decide) ?_
                exact hend _ _ _ _ _ _ hP hD hS dX6_hasFault_69 (by decide) (by rw [← hr]; simp +decide only [x_hfL, hle, heo, if_true, if_false, not_true_eq_false, not_false_eq_true, and_self, and_true, true_and, and_false, false_and, kn01, kn10, kn02, kn20, kn12, kn21, eq_self]) (by rw [← hr]; simp +decide only [x_hfL, hle, heo, if_true, if_false, not_true_eq_false, not_false_eq_true, and_self, and_true, true_and, and_false, false_and, kn01, kn10, kn02, kn20, kn12, kn21, eq_self])
            · exact (c_25 (by decide)).elim
          · refine k_top (if_neg heo : x_r sg L b = _) ?_
            refine lv_istore_n (lv' := [(3, .int (nI (x_en sg L b))), (0, .ref x0), (1, .int (nI b)), (2, .int (nI i))]) hx hb dX6_hasFault_23 rfl hl (by decide) rfl (fun ls hl => ?_)
            refine lv_iload_n hx hb dX6_hasFault_24 rfl (lv_at hl 0 rfl) ?_
            refine lv_if_lt (tgt := 50) hx hb dX6_hasFault_25 (by decide) (fun c_25 => ?_) (fun c_25 => ?_)
            · exact absurd c_25 (nI_pos (k_lt31 (x_enb sg L b) hbL (by decide)))
            · refine lv_aload_n hx hb dX6_hasFault_28 rfl (lv_at hl 1 rfl) ?_
              refine va_get (D := D) (ci := 6) (v := .int ((x_J sg L b).2.2.1)) (C := RX6) (T := TX6) (N := 11) hx hb hts u6 hown hK hP 0 rfl rfl 4 (by decide) k3 (fun _ h9 => h9) rfl dX6_hasFault_29 ?_
              refine lv_aload_n hx hb dX6_hasFault_32 rfl (lv_at hl 1 rfl) ?_
              refine va_get (D := D) (ci := 6) (v := .int ((x_J sg L b).2.2.2.1)) (C := RX6) (T := TX6) (N := 11) hx hb hts u6 hown hK hP 0 rfl rfl 5 (by decide) k4 (fun _ h9 => h9) rfl dX6_hasFault_33 ?_
              refine lv_aload_n hx hb dX6_hasFault_36 rfl (lv_at hl 1 rfl) ?_
              refine va_get (D := D) (ci := 6) (v := .int ((x_J sg L b).2.2.2.2.1)) (C := RX6) (T := TX6) (N := 11) hx hb hts u6 hown hK hP 0 rfl rfl 6 (by decide) k5 (fun _ h9 => h9) rfl dX6_hasFault_37 ?_
              refine lv_aload_n hx hb dX6_hasFault_40 rfl (lv_at hl 1 rfl) ?_
              refine va_get (D := D) (ci := 6) (v := .int ((x_J sg L b).2.2.2.2.2.1)) (C := RX6) (T := TX6) (N := 11) hx hb hts u6 hown hK hP 0 rfl rfl 7 (by decide) k6 (fun _ h9 => h9) rfl dX6_hasFault_41 ?_
              refine k_i0 (va_runSN (As := [.int ((x_J sg L b).2.2.1), .int ((x_J sg L b).2.2.2.1), .int ((x_J sg L b).2.2.2.2.1), .int ((x_J sg L b).2.2.2.2.2.1)]) (rest := []) hF (c_X8_isEvent l D I C Q ((x_J sg L b).2.2.1) ((x_J sg L b).2.2.2.1) ((x_J sg L b).2.2.2.2.1) ((x_J sg L b).2.2.2.2.2.1) _) ⟨va_cnB 4 hts gX6_hasFault_X8_isEvent_n41 rfl rfl rfl (hE.nest 10 rfl) k8 (by decide +kernel) ⟨Nat.le_of_ble_eq_true rfl, Nat.le_of_ble_eq_true rfl⟩, k7, trivial⟩ (kPreS hE k_P0 (k_D0 (A := A))) rfl rfl hl.1 rfl (lv_room (Nat.le_of_ble_eq_true rfl)) dX6_hasFault_44 ⟨Nat.zero_le _, Nat.zero_le _⟩) hP hS hA (fun H locs hP hS => ?_)
              refine lv_if_ne (tgt := 70) hx hb dX6_hasFault_47 (by decide) (fun c_47 => ?_) (fun c_47 => ?_)
              · have hok : ¬ x_ok sg L b = 0 := c_47
                refine lv_iload_n hx hb dX6_hasFault_70 rfl (lv_at hl 0 rfl) ?_
                refine lv_istore_n (lv' := [(1, .int (nI (x_en sg L b))), (3, .int (nI (x_en sg L b))), (0, .ref x0), (2, .int (nI i))]) hx hb dX6_hasFault_71 rfl hl (by decide) rfl (fun ls hl => ?_)
                refine lv_iinc (v := nI (i + 1)) (lv' := [(2, .int (nI (i + 1))), (1, .int (nI (x_en sg L b))), (3, .int (nI (x_en sg L b))), (0, .ref x0)]) hx hb dX6_hasFault_72 hl (k := 3) rfl (nI_inc i) (by decide) rfl (fun ls hl => ?_)
                refine lv_goto (tgt := 4) hx hb dX6_hasFault_75 (by decide) ?_
                exact ih (x_en sg L b) (i + 1) (x_J sg L b) (by omega) (k_fwd (x_enb sg L b) hle hL) _ _ _ hP hD hS (lv_sub hl [3, 1, 0] rfl) (by rw [← hr]; simp +decide only [x_hfL, hle, heo, hok, if_true, if_false, not_true_eq_false, not_false_eq_true, and_self, and_true, true_and, and_false, false_and, kn01, kn10, kn02, kn20, kn12, kn21, eq_self])
              · have hok : x_ok sg L b = 0 := c_47
                refine lv_aload_n hx hb dX6_hasFault_50 rfl (lv_at hl 1 rfl) ?_
                refine lv_iload_n hx hb dX6_hasFault_51 rfl (lv_at hl 2 rfl) ?_
                refine va_put (D := D) (ci := 6) (v := .int (nI b)) (ty := .int) (C := RX6) (T := TX6) (N := 11) hx hb hts u6 tyX6 tyX6_ok nmX6 hown hK hP hD hS 0 rfl rfl 9 (by decide) k1 (fun _ h9 => h9) rfl (by decide +kernel) rfl rfl (Nat.le_of_ble_eq_true rfl) dX6_hasFault_52 (fun H locs hP hD hS => ?_)
                have hP : va_P D vwCl (wX I C x0 x1 sg (nI L) ((x_J sg L b).1) ((x_J sg L b).2.1) ((x_J sg L b).2.2.1) ((x_J sg L b).2.2.2.1) ((x_J sg L b).2.2.2.2.1) ((x_J sg L b).2.2.2.2.2.1) ((x_J sg L b).2.2.2.2.2.2) (nI b) xr) H := hP
                have hD : va_D A (wX I C x0 x1 sg (nI L) ((x_J sg L b).1) ((x_J sg L b).2.1) ((x_J sg L b).2.2.1) ((x_J sg L b).2.2.2.1) ((x_J sg L b).2.2.2.2.1) ((x_J sg L b).2.2.2.2.2.1) ((x_J sg L b).2.2.2.2.2.2) (nI b) xr) := hD
                refine lv_aload_n hx hb dX6_hasFault_55 rfl (lv_at hl 1 rfl) ?_
                refine lv_iload_n hx hb dX6_hasFault_56 rfl (lv_at hl 0 rfl) ?_
                refine lv_if_ge (tgt := 64) hx hb dX6_hasFault_57 (by decide) (fun c_57 => ?_) (fun c_57 => ?_)
                · refine lv_iconst (v := 2) hx hb dX6_hasFault_64 (by decide) ?_
                  refine va_put (D := D) (ci := 6) (v := .int 2) (ty := .int) (C := RX6) (T := TX6) (N := 11) hx hb hts u6 tyX6 tyX6_ok nmX6 hown hK hP hD hS 0 rfl rfl 10 (by decide) k2 (fun _ h9 => h9) rfl (by decide +kernel) rfl rfl (Nat.le_of_ble_eq_true rfl) dX6_hasFault_65 (fun H locs hP hD hS => ?_)
                  have hP : va_P D vwCl (wX I C x0 x1 sg (nI L) ((x_J sg L b).1) ((x_J sg L b).2.1) ((x_J sg L b).2.2.1) ((x_J sg L b).2.2.2.1) ((x_J sg L b).2.2.2.2.1) ((x_J sg L b).2.2.2.2.2.1) ((x_J sg L b).2.2.2.2.2.2) (nI b) 2) H := hP
                  have hD : va_D A (wX I C x0 x1 sg (nI L) ((x_J sg L b).1) ((x_J sg L b).2.1) ((x_J sg L b).2.2.1) ((x_J sg L b).2.2.2.1) ((x_J sg L b).2.2.2.2.1) ((x_J sg L b).2.2.2.2.2.1) ((x_J sg L b).2.2.2.2.2.2) (nI b) 2) := hD
                  refine lv_iconst (v := 1) hx hb dX6_hasFault_68 (by decide) ?_
                  exact hend _ _ _ _ _ _ hP hD hS dX6_hasFault_69 (by decide) (by rw [← hr]; simp +decide only [x_hfL, hle, heo, hok, if_true, if_false, not_true_eq_false, not_false_eq_true, and_self, and_true, true_and, and_false, false_and, kn01, kn10, kn02, kn20, kn12, kn21, eq_self]) (by rw [← hr]; simp +decide only [x_hfL, hle, heo, hok, if_true, if_false, not_true_eq_false, not_false_eq_true, and_self, and_true, true_and, and_false, false_and, kn01, kn10, kn02, kn20, kn12, kn21, eq_self])
                · exact absurd (nI_pos' (k_lt31 (x_enb sg L b) hbL (by decide))) c_57
  exact loop4 80 0 0 (xp, xn, xi, xt, xk, xa, xe) (by omega) (by omega) _ _ _ hP hD hS (lv_sub hl [2, 1, 0] rfl) rfl
