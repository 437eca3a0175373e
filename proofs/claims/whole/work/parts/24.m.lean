set_option maxHeartbeats 400000 in
set_option maxRecDepth 100000 in
theorem c_X9_meanB (l : Launch) (D : va_G) (I C Q : ClassId) (a0 a1 a2 a3 a4 : Nat) (now : Nat → Int32) (kept : Nat → Int32) (st : Int32) (text : Nat → Int32) (len : Int32) (att : Int32) (num : Int32) (rd : Nat → Int32) (sz : Nat) (q : Int32) (hsz : now 6 = nI sz) (hs0 : 0 < sz) (hs1 : sz ≤ 100) (hbad : m_isP now q sz = 0) : KI l D (tyL I C Q) yX9_mean wsX9_mean { frames := 2, cells := 0, slots := 0, locals := 43 } [.ref a0, .int q] (wM I a0 a1 a2 a3 a4 now kept st text len att num rd) (wM I a0 a1 a2 a3 a4 now kept st text len att num rd) (-1000001) := by
  refine KI.of (cc := cX9_mean) (maxL := 3) (rt := .int) (own := RX9) (by decide) rfl rfl (Nat.le_of_ble_eq_true rfl) ?_
  intro p e s m below meth c A Q0 ls hx hb hml hown hts hE hA hP hD hS hl hend
  have hK := hE.1
  have hF : CallFix p m c cX9_mean 3 s [.ref a0, .int q].toArray wsX9_mean RX9 := ⟨hx, hb, hml, hown, hts⟩
  have k0 := hts (.constant RX9 31 (-1000001)) (List.mem_of_getElem? (i := 1) rfl)
  have hl : lv_has ls 3 [(0, .ref a0), (1, .int q)] := hl
  refine lv_aload_n hx hb dX9_mean_0 rfl (lv_at hl 0 rfl) ?_
  refine lv_iload_n hx hb dX9_mean_1 rfl (lv_at hl 1 rfl) ?_
  refine k_iF (va_runV (As := [.int q]) (rest := []) hF (c_X9_isPane l D I C Q a0 a1 a2 a3 a4 now kept st text len att num rd sz q hsz hs0 hs1 _) (cwV 1 hts gX9_mean_X9_isPane rfl rfl rfl (by decide +kernel) ⟨Nat.le_of_ble_eq_true rfl, Nat.le_of_ble_eq_true rfl⟩) (kPreV hE hP hD (ci := 9) (q0 := 0) rfl rfl) rfl rfl hl.1 rfl (lv_room (Nat.le_of_ble_eq_true rfl)) dX9_mean_2 ⟨Nat.zero_le _, Nat.zero_le _⟩) hD hS hA (fun H locs hP hD hS => ?_)
  refine lv_if_ne (tgt := 11) hx hb dX9_mean_5 (by decide) (fun c_5 => ?_) (fun c_5 => ?_)
  · exact absurd hbad c_5
  · refine lv_ldc (v := (-1000001)) hx hb hown k0 dX9_mean_8 ?_
    exact hend _ _ _ _ _ _ hP hD hS dX9_mean_10 rfl rfl rfl
set_option maxHeartbeats 400000 in
set_option maxRecDepth 100000 in
theorem c_X9_meanO (l : Launch) (D : va_G) (I C Q : ClassId) (a0 a1 a2 a3 a4 : Nat) (now : Nat → Int32) (kept : Nat → Int32) (st : Int32) (text : Nat → Int32) (len : Int32) (att : Int32) (num : Int32) (rd : Nat → Int32) (sz : Nat) (n : Nat) (q : Int32) (hsz : now 6 = nI sz) (hs0 : 0 < sz) (hs1 : sz ≤ 100) (hok : ¬ m_isP now q sz = 0) (hn : m_num now sz q = nI n) (hn64 : n ≤ 64) (hsm : (m_sum now sz q).toInt.natAbs ≤ 6400) : KI l D (tyL I C Q) yX9_mean wsX9_mean { frames := 3, cells := 0, slots := 0, locals := 69 } [.ref a0, .int q] (wM I a0 a1 a2 a3 a4 now kept st text len att num rd) (wM I a0 a1 a2 a3 a4 now kept st text len att num rd) (m_mean now sz q) := by
  refine KI.of (cc := cX9_mean) (maxL := 3) (rt := .int) (own := RX9) (by decide) rfl rfl (Nat.le_of_ble_eq_true rfl) ?_
  intro p e s m below meth c A Q0 ls hx hb hml hown hts hE hA hP hD hS hl hend
  have hK := hE.1
  have hF : CallFix p m c cX9_mean 3 s [.ref a0, .int q].toArray wsX9_mean RX9 := ⟨hx, hb, hml, hown, hts⟩
  have k0 := hts (.constant RX9 119 (-1000004)) (List.mem_of_getElem? (i := 2) rfl)
  have hl : lv_has ls 3 [(0, .ref a0), (1, .int q)] := hl
  refine lv_aload_n hx hb dX9_mean_0 rfl (lv_at hl 0 rfl) ?_
  refine lv_iload_n hx hb dX9_mean_1 rfl (lv_at hl 1 rfl) ?_
  refine k_iF (va_runV (As := [.int q]) (rest := []) hF (c_X9_isPane l D I C Q a0 a1 a2 a3 a4 now kept st text len att num rd sz q hsz hs0 hs1 _) (cwV 1 hts gX9_mean_X9_isPane rfl rfl rfl (by decide +kernel) ⟨Nat.le_of_ble_eq_true rfl, Nat.le_of_ble_eq_true rfl⟩) (kPreV hE hP hD (ci := 9) (q0 := 0) rfl rfl) rfl rfl hl.1 rfl (lv_room (Nat.le_of_ble_eq_true rfl)) dX9_mean_2 ⟨Nat.zero_le _, Nat.zero_le _⟩) hD hS hA (fun H locs hP hD hS => ?_)
  refine lv_if_ne (tgt := 11) hx hb dX9_mean_5 (by decide) (fun c_5 => ?_) (fun c_5 => ?_)
  · refine lv_aload_n hx hb dX9_mean_11 rfl (lv_at hl 0 rfl) ?_
    refine lv_iload_n hx hb dX9_mean_12 rfl (lv_at hl 1 rfl) ?_
    refine lv_iconst (v := 0) hx hb dX9_mean_13 (by decide) ?_
    refine k_iF (va_runV (As := [.int q, .int 0]) (rest := []) hF (c_X9_sumOf l D I C Q a0 a1 a2 a3 a4 now kept st text len att num rd sz q 0 hsz hs0 hs1 _) (cwV 2 hts gX9_mean_X9_sumOf rfl rfl rfl (by decide +kernel) ⟨Nat.le_of_ble_eq_true rfl, Nat.le_of_ble_eq_true rfl⟩) (kPreV hE hP hD (ci := 9) (q0 := 0) rfl rfl) rfl rfl hl.1 rfl (lv_room (Nat.le_of_ble_eq_true rfl)) dX9_mean_14 ⟨Nat.zero_le _, Nat.zero_le _⟩) hD hS hA (fun H locs hP hD hS => ?_)
    refine k_top (y := nI n) ((m_sumOf_0 _ _ _).trans hn) ?_
    refine lv_istore_n (lv' := [(2, .int (nI n)), (0, .ref a0), (1, .int q)]) hx hb dX9_mean_17 rfl hl (by decide) rfl (fun ls hl => ?_)
    refine lv_iload_n hx hb dX9_mean_18 rfl (lv_at hl 0 rfl) ?_
    refine lv_if_ne (tgt := 27) hx hb dX9_mean_19 (by decide) (fun c_19 => ?_) (fun c_19 => ?_)
    · have hn0 : 0 < n := Nat.pos_of_ne_zero (fun e => c_19 (by rw [e]; rfl))
      refine lv_aload_n hx hb dX9_mean_27 rfl (lv_at hl 1 rfl) ?_
      refine lv_iload_n hx hb dX9_mean_28 rfl (lv_at hl 2 rfl) ?_
      refine lv_iconst (v := 1) hx hb dX9_mean_29 (by decide) ?_
      refine k_iF (va_runV (As := [.int q, .int 1]) (rest := []) hF (c_X9_sumOf l D I C Q a0 a1 a2 a3 a4 now kept st text len att num rd sz q 1 hsz hs0 hs1 _) (cwV 2 hts gX9_mean_X9_sumOf rfl rfl rfl (by decide +kernel) ⟨Nat.le_of_ble_eq_true rfl, Nat.le_of_ble_eq_true rfl⟩) (kPreV hE hP hD (ci := 9) (q0 := 0) rfl rfl) rfl rfl hl.1 rfl (lv_room (Nat.le_of_ble_eq_true rfl)) dX9_mean_30 ⟨Nat.zero_le _, Nat.zero_le _⟩) hD hS hA (fun H locs hP hD hS => ?_)
      refine k_top (y := m_sum now sz q) (m_sumOf_1 _ _ _) ?_
      refine lv_i2f hx hb dX9_mean_33 ?_
      refine lv_iload_n hx hb dX9_mean_34 rfl (lv_at hl 0 rfl) ?_
      refine lv_i2f hx hb dX9_mean_35 ?_
      refine lv_fdiv hx hb dX9_mean_36 (f_okN (f_okQ hsm hn0 hn64)) ?_
      refine k_i0 (va_runS (As := [.float (FP.fdiv (FP.i2f (m_sum now sz q)) (FP.i2f (nI n)))]) (rest := []) hF (c_X9_bitsOf l D I C Q (FP.fdiv (FP.i2f (m_sum now sz q)) (FP.i2f (nI n))) (f_okQ hsm hn0 hn64) _) (va_cwS 1 hts gX9_mean_X9_bitsOf rfl rfl rfl (by decide +kernel) ⟨Nat.le_of_ble_eq_true rfl, Nat.le_of_ble_eq_true rfl⟩) (kPreS hE k_P0 (k_D0 (A := A))) rfl rfl hl.1 rfl (lv_room (Nat.le_of_ble_eq_true rfl)) dX9_mean_37 ⟨Nat.zero_le _, Nat.zero_le _⟩) hP hS hA (fun H locs hP hS => ?_)
      exact hend _ _ _ _ _ _ hP hD hS dX9_mean_40 rfl rfl (by rw [m_mean, hn, if_neg c_19])
    · refine lv_ldc (v := (-1000004)) hx hb hown k0 dX9_mean_22 ?_
      refine lv_goto (tgt := 40) hx hb dX9_mean_24 (by decide) ?_
      exact hend _ _ _ _ _ _ hP hD hS dX9_mean_40 rfl rfl (by rw [m_mean, hn, if_pos c_19])
  · exact absurd c_5 hok
set_option maxHeartbeats 400000 in
set_option maxRecDepth 100000 in
theorem c_X9_trustB (l : Launch) (D : va_G) (I C Q : ClassId) (a0 a1 a2 a3 a4 : Nat) (now : Nat → Int32) (kept : Nat → Int32) (st : Int32) (text : Nat → Int32) (len : Int32) (att : Int32) (num : Int32) (rd : Nat → Int32) (key : Int32) (hbad : m_isIn key 0 5 = 0) : KI l D (tyL I C Q) yX9_trust wsX9_trust { frames := 1, cells := 0, slots := 0, locals := 22 } [.ref a0, .int key] (wM I a0 a1 a2 a3 a4 now kept st text len att num rd) (wM I a0 a1 a2 a3 a4 now kept st text len att num rd) (-1000001) := by
  refine KI.of (cc := cX9_trust) (maxL := 5) (rt := .int) (own := RX9) (by decide) rfl rfl (Nat.le_of_ble_eq_true rfl) ?_
  intro p e s m below meth c A Q0 ls hx hb hml hown hts hE hA hP hD hS hl hend
  have hK := hE.1
  have hF : CallFix p m c cX9_trust 5 s [.ref a0, .int key].toArray wsX9_trust RX9 := ⟨hx, hb, hml, hown, hts⟩
  have k0 := hts (.constant RX9 31 (-1000001)) (List.mem_of_getElem? (i := 1) rfl)
  have hl : lv_has ls 5 [(0, .ref a0), (1, .int key)] := hl
  refine lv_iload_n hx hb dX9_trust_0 rfl (lv_at hl 1 rfl) ?_
  refine lv_iconst (v := 0) hx hb dX9_trust_1 (by decide) ?_
  refine lv_iconst (v := 5) hx hb dX9_trust_2 (by decide) ?_
  refine k_i0 (va_runS (As := [.int key, .int 0, .int 5]) (rest := []) hF (c_X9_isIn l D I C Q key 0 5 _) (va_cwS 3 hts gX9_trust_X9_isIn rfl rfl rfl (by decide +kernel) ⟨Nat.le_of_ble_eq_true rfl, Nat.le_of_ble_eq_true rfl⟩) (kPreS hE k_P0 (k_D0 (A := A))) rfl rfl hl.1 rfl (lv_room (Nat.le_of_ble_eq_true rfl)) dX9_trust_3 ⟨Nat.zero_le _, Nat.zero_le _⟩) hP hS hA (fun H locs hP hS => ?_)
  refine lv_if_ne (tgt := 12) hx hb dX9_trust_6 (by decide) (fun c_6 => ?_) (fun c_6 => ?_)
  · exact absurd hbad c_6
  · refine lv_ldc (v := (-1000001)) hx hb hown k0 dX9_trust_9 ?_
    exact hend _ _ _ _ _ _ hP hD hS dX9_trust_11 rfl rfl rfl
set_option maxHeartbeats 400000 in
set_option maxRecDepth 100000 in
theorem c_X9_trustO (l : Launch) (D : va_G) (I C Q : ClassId) (a0 a1 a2 a3 a4 : Nat) (now : Nat → Int32) (kept : Nat → Int32) (st : Int32) (text : Nat → Int32) (len : Int32) (att : Int32) (num : Int32) (rd : Nat → Int32) (key : Int32) (hok : ¬ m_isIn key 0 5 = 0) : KI l D (tyL I C Q) yX9_trust wsX9_trust { frames := 1, cells := 0, slots := 0, locals := 23 } [.ref a0, .int key] (wM I a0 a1 a2 a3 a4 now kept st text len att num rd) (wM I a0 a1 a2 a3 a4 now kept st text len att num rd) (m_trust now key) := by
  refine KI.of (cc := cX9_trust) (maxL := 5) (rt := .int) (own := RX9) (by decide) rfl rfl (Nat.le_of_ble_eq_true rfl) ?_
  intro p e s m below meth c A Q0 ls hx hb hml hown hts hE hA hP hD hS hl hend
  have hK := hE.1
  have hF : CallFix p m c cX9_trust 5 s [.ref a0, .int key].toArray wsX9_trust RX9 := ⟨hx, hb, hml, hown, hts⟩
  have k0 := hts (.constant RX9 119 (-1000004)) (List.mem_of_getElem? (i := 3) rfl)
  have k1 := hts (.constantFloat RX9 126 (1056964608)) (List.mem_of_getElem? (i := 2) rfl)
  have hl : lv_has ls 5 [(0, .ref a0), (1, .int key)] := hl
  refine lv_iload_n hx hb dX9_trust_0 rfl (lv_at hl 1 rfl) ?_
  refine lv_iconst (v := 0) hx hb dX9_trust_1 (by decide) ?_
  refine lv_iconst (v := 5) hx hb dX9_trust_2 (by decide) ?_
  refine k_i0 (va_runS (As := [.int key, .int 0, .int 5]) (rest := []) hF (c_X9_isIn l D I C Q key 0 5 _) (va_cwS 3 hts gX9_trust_X9_isIn rfl rfl rfl (by decide +kernel) ⟨Nat.le_of_ble_eq_true rfl, Nat.le_of_ble_eq_true rfl⟩) (kPreS hE k_P0 (k_D0 (A := A))) rfl rfl hl.1 rfl (lv_room (Nat.le_of_ble_eq_true rfl)) dX9_trust_3 ⟨Nat.zero_le _, Nat.zero_le _⟩) hP hS hA (fun H locs hP hS => ?_)
  refine lv_if_ne (tgt := 12) hx hb dX9_trust_6 (by decide) (fun c_6 => ?_) (fun c_6 => ?_)
  · refine lv_fconst0 hx hb dX9_trust_12 ?_
    refine lv_fstore_n (lv' := [(2, .float FP.fconst0), (0, .ref a0), (1, .int key)]) hx hb dX9_trust_13 rfl hl (by decide) rfl (fun ls hl => ?_)
    refine lv_iconst (v := 0) hx hb dX9_trust_14 (by decide) ?_
    refine lv_istore_n (lv' := [(3, .int 0), (2, .float FP.fconst0), (0, .ref a0), (1, .int key)]) hx hb dX9_trust_15 rfl hl (by decide) rfl (fun ls hl => ?_)
    refine lv_iconst (v := 0) hx hb dX9_trust_16 (by decide) ?_
    refine lv_istore (lv' := [(4, .int 0), (3, .int 0), (2, .float FP.fconst0), (0, .ref a0), (1, .int key)]) hx hb dX9_trust_17 hl (by decide) rfl (fun ls hl => ?_)
    have loop19 : ∀ (n : Nat) (k : Nat), (k + n = 64) → ∀ (H : Heap) (locs : List Loc) (ls : Array Slot), va_P D vwCl (wM I a0 a1 a2 a3 a4 now kept st text len att num rd) H → va_D A (wM I a0 a1 a2 a3 a4 now kept st text len att num rd) → va_S A s.heap H locs → lv_has ls 5 [(0, .ref a0), (1, .int key), (2, .float (f_h (m_th now key k))), (3, .int (nI (m_tn now key k))), (4, .int (nI k))] → W p l e ({ frames := 1, cells := 0, slots := 0, locals := 23 } : Room) s m [.ref a0, .int key].toArray below meth c H locs 0 0 Q0 (F0 m 19 ls []) := by
      intro n
      induction n with
      | zero =>
        intro k hk H locs ls hP hD hS hl
        refine lv_iload hx hb dX9_trust_19 (lv_at hl 4 rfl) ?_
        refine lv_bipush (v := 64) hx hb dX9_trust_21 (by decide) ?_
        refine lv_icmp_ge (tgt := 91) hx hb dX9_trust_23 (by decide) (fun c_23 => ?_) (fun c_23 => ?_)
        · have hk9 : k = 64 := by omega
          have hth := m_th_le now key k
          refine lv_iload_n hx hb dX9_trust_91 rfl (lv_at hl 3 rfl) ?_
          refine lv_if_ne (tgt := 100) hx hb dX9_trust_92 (by decide) (fun c_92 => ?_) (fun c_92 => ?_)
          · have hn0 : 0 < m_tn now key k := Nat.pos_of_ne_zero (fun e => c_92 (by rw [e]; rfl))
            refine lv_fload_n hx hb dX9_trust_100 rfl (lv_at hl 2 rfl) ?_
            refine lv_iload_n hx hb dX9_trust_101 rfl (lv_at hl 3 rfl) ?_
            refine lv_i2f hx hb dX9_trust_102 ?_
            refine lv_fdiv hx hb dX9_trust_103 (f_okN (f_okH (by omega) hn0 (by omega))) ?_
            refine k_i0 (va_runS (As := [.float (FP.fdiv (f_h (m_th now key k)) (FP.i2f (nI (m_tn now key k))))]) (rest := []) hF (c_X9_bitsOf l D I C Q (FP.fdiv (f_h (m_th now key k)) (FP.i2f (nI (m_tn now key k)))) (f_okH (by omega) hn0 (by omega)) _) (va_cwS 1 hts gX9_trust_X9_bitsOf rfl rfl rfl (by decide +kernel) ⟨Nat.le_of_ble_eq_true rfl, Nat.le_of_ble_eq_true rfl⟩) (kPreS hE k_P0 (k_D0 (A := A))) rfl rfl hl.1 rfl (lv_room (Nat.le_of_ble_eq_true rfl)) dX9_trust_104 ⟨Nat.zero_le _, Nat.zero_le _⟩) hP hS hA (fun H locs hP hS => ?_)
            exact hend _ _ _ _ _ _ hP hD hS dX9_trust_107 rfl rfl (by rw [m_trust, ← hk9, if_neg (show ¬ m_tn now key k = 0 by omega)])
          · have hz0 : m_tn now key k = 0 := (nI_eq (a := m_tn now key k) (b := 0) (by omega) (by omega)).mp c_92
            refine lv_ldc (v := (-1000004)) hx hb hown k0 dX9_trust_95 ?_
            refine lv_goto (tgt := 107) hx hb dX9_trust_97 (by decide) ?_
            exact hend _ _ _ _ _ _ hP hD hS dX9_trust_107 rfl rfl (by rw [m_trust, ← hk9, if_pos hz0])
        · exact absurd ((nI_leI (a := 64) (b := k) (by omega) (by omega)).mpr (by omega)) c_23
      | succ n ih =>
        intro k hk H locs ls hP hD hS hl
        refine lv_iload hx hb dX9_trust_19 (lv_at hl 4 rfl) ?_
        refine lv_bipush (v := 64) hx hb dX9_trust_21 (by decide) ?_
        refine lv_icmp_ge (tgt := 91) hx hb dX9_trust_23 (by decide) (fun c_23 => ?_) (fun c_23 => ?_)
        · exact absurd ((nI_leI (a := 64) (b := k) (by omega) (by omega)).mp c_23) (by omega)
        · refine lv_aload_n hx hb dX9_trust_26 rfl (lv_at hl 0 rfl) ?_
          refine lv_iload hx hb dX9_trust_27 (lv_at hl 4 rfl) ?_
          refine lv_iconst (v := 0) hx hb dX9_trust_29 (by decide) ?_
          refine k_iF (va_runV (As := [.int (nI k), .int 0]) (rest := []) hF (c_X9_ofE l D I C Q a0 a1 a2 a3 a4 now kept st text len att num rd k 0 (by omega) (by omega) _) (cwV 2 hts gX9_trust_X9_ofE rfl rfl rfl (by decide +kernel) ⟨Nat.le_of_ble_eq_true rfl, Nat.le_of_ble_eq_true rfl⟩) (kPreV hE hP hD (ci := 9) (q0 := 0) rfl rfl) rfl rfl hl.1 rfl (lv_room (Nat.le_of_ble_eq_true rfl)) dX9_trust_30 ⟨Nat.zero_le _, Nat.zero_le _⟩) hD hS hA (fun H locs hP hD hS => ?_)
          refine lv_iconst (v := 1) hx hb dX9_trust_33 (by decide) ?_
          refine lv_icmp_ne (tgt := 85) hx hb dX9_trust_34 (by decide) (fun c_34 => ?_) (fun c_34 => ?_)
          · refine lv_iinc (v := nI (k + 1)) (lv' := [(4, .int (nI (k + 1))), (0, .ref a0), (1, .int key), (2, .float (f_h (m_th now key k))), (3, .int (nI (m_tn now key k)))]) hx hb dX9_trust_85 hl (k := 4) rfl (nI_inc k) (by decide) rfl (fun ls hl => ?_)
            refine lv_goto (tgt := 19) hx hb dX9_trust_88 (by decide) ?_
            have hl9 : lv_has ls 5 [(0, .ref a0), (1, .int key), (2, .float (f_h (m_th now key k))), (3, .int (nI (m_tn now key k))), (4, .int (nI (k + 1)))] := lv_sub hl [1, 2, 3, 4, 0] rfl
            rw [show (f_h (m_th now key k)) = (f_h (m_th now key (k + 1))) from by simp +decide only [m_th, c_23, c_34, if_true, if_false, not_true_eq_false, not_false_eq_true, and_self, and_true, true_and, and_false, false_and, kn01, kn10, kn02, kn20, kn12, kn21, eq_self]] at hl9
            rw [show (nI (m_tn now key k)) = (nI (m_tn now key (k + 1))) from by simp +decide only [m_tn, c_34, if_true, if_false, not_true_eq_false, not_false_eq_true, and_self, and_true, true_and, and_false, false_and, kn01, kn10, kn02, kn20, kn12, kn21, eq_self]] at hl9
            exact ih (k + 1) (by omega) _ _ _ hP hD hS hl9 
          · refine lv_aload_n hx hb dX9_trust_37 rfl (lv_at hl 0 rfl) ?_
            refine lv_iload hx hb dX9_trust_38 (lv_at hl 4 rfl) ?_
            refine lv_iconst (v := 2) hx hb dX9_trust_40 (by decide) ?_
            refine k_iF (va_runV (As := [.int (nI k), .int 2]) (rest := []) hF (c_X9_ofE l D I C Q a0 a1 a2 a3 a4 now kept st text len att num rd k 2 (by omega) (by omega) _) (cwV 2 hts gX9_trust_X9_ofE rfl rfl rfl (by decide +kernel) ⟨Nat.le_of_ble_eq_true rfl, Nat.le_of_ble_eq_true rfl⟩) (kPreV hE hP hD (ci := 9) (q0 := 0) rfl rfl) rfl rfl hl.1 rfl (lv_room (Nat.le_of_ble_eq_true rfl)) dX9_trust_41 ⟨Nat.zero_le _, Nat.zero_le _⟩) hD hS hA (fun H locs hP hD hS => ?_)
            refine lv_iload_n hx hb dX9_trust_44 rfl (lv_at hl 1 rfl) ?_
            refine lv_icmp_ne (tgt := 85) hx hb dX9_trust_45 (by decide) (fun c_45 => ?_) (fun c_45 => ?_)
            · refine lv_iinc (v := nI (k + 1)) (lv' := [(4, .int (nI (k + 1))), (0, .ref a0), (1, .int key), (2, .float (f_h (m_th now key k))), (3, .int (nI (m_tn now key k)))]) hx hb dX9_trust_85 hl (k := 4) rfl (nI_inc k) (by decide) rfl (fun ls hl => ?_)
              refine lv_goto (tgt := 19) hx hb dX9_trust_88 (by decide) ?_
              have hl9 : lv_has ls 5 [(0, .ref a0), (1, .int key), (2, .float (f_h (m_th now key k))), (3, .int (nI (m_tn now key k))), (4, .int (nI (k + 1)))] := lv_sub hl [1, 2, 3, 4, 0] rfl
              rw [show (f_h (m_th now key k)) = (f_h (m_th now key (k + 1))) from by simp +decide only [m_th, c_23, c_34, c_45, if_true, if_false, not_true_eq_false, not_false_eq_true, and_self, and_true, true_and, and_false, false_and, kn01, kn10, kn02, kn20, kn12, kn21, eq_self]] at hl9
              rw [show (nI (m_tn now key k)) = (nI (m_tn now key (k + 1))) from by simp +decide only [m_tn, c_34, c_45, if_true, if_false, not_true_eq_false, not_false_eq_true, and_self, and_true, true_and, and_false, false_and, kn01, kn10, kn02, kn20, kn12, kn21, eq_self]] at hl9
              exact ih (k + 1) (by omega) _ _ _ hP hD hS hl9 
            · refine lv_iinc (v := nI (m_tn now key k + 1)) (lv' := [(3, .int (nI (m_tn now key k + 1))), (0, .ref a0), (1, .int key), (2, .float (f_h (m_th now key k))), (4, .int (nI k))]) hx hb dX9_trust_48 hl (k := 3) rfl (nI_inc (m_tn now key k)) (by decide) rfl (fun ls hl => ?_)
              refine lv_fload_n hx hb dX9_trust_51 rfl (lv_at hl 3 rfl) ?_
              refine lv_aload_n hx hb dX9_trust_52 rfl (lv_at hl 1 rfl) ?_
              refine lv_iload hx hb dX9_trust_53 (lv_at hl 4 rfl) ?_
              refine lv_iconst (v := 5) hx hb dX9_trust_55 (by decide) ?_
              refine k_iF (va_runV (As := [.int (nI k), .int 5]) (rest := [.float (f_h (m_th now key k))]) hF (c_X9_ofE l D I C Q a0 a1 a2 a3 a4 now kept st text len att num rd k 5 (by omega) (by omega) _) (cwV 2 hts gX9_trust_X9_ofE rfl rfl rfl (by decide +kernel) ⟨Nat.le_of_ble_eq_true rfl, Nat.le_of_ble_eq_true rfl⟩) (kPreV hE hP hD (ci := 9) (q0 := 0) rfl rfl) rfl rfl hl.1 rfl (lv_room (Nat.le_of_ble_eq_true rfl)) dX9_trust_56 ⟨Nat.zero_le _, Nat.zero_le _⟩) hD hS hA (fun H locs hP hD hS => ?_)
              refine lv_if_ne (tgt := 66) hx hb dX9_trust_59 (by decide) (fun c_59 => ?_) (fun c_59 => ?_)
              · refine lv_aload_n hx hb dX9_trust_66 rfl (lv_at hl 1 rfl) ?_
                refine lv_iload hx hb dX9_trust_67 (lv_at hl 4 rfl) ?_
                refine lv_iconst (v := 5) hx hb dX9_trust_69 (by decide) ?_
                refine k_iF (va_runV (As := [.int (nI k), .int 5]) (rest := [.float (f_h (m_th now key k))]) hF (c_X9_ofE l D I C Q a0 a1 a2 a3 a4 now kept st text len att num rd k 5 (by omega) (by omega) _) (cwV 2 hts gX9_trust_X9_ofE rfl rfl rfl (by decide +kernel) ⟨Nat.le_of_ble_eq_true rfl, Nat.le_of_ble_eq_true rfl⟩) (kPreV hE hP hD (ci := 9) (q0 := 0) rfl rfl) rfl rfl hl.1 rfl (lv_room (Nat.le_of_ble_eq_true rfl)) dX9_trust_70 ⟨Nat.zero_le _, Nat.zero_le _⟩) hD hS hA (fun H locs hP hD hS => ?_)
                refine lv_iconst (v := 1) hx hb dX9_trust_73 (by decide) ?_
                refine lv_icmp_ne (tgt := 82) hx hb dX9_trust_74 (by decide) (fun c_74 => ?_) (fun c_74 => ?_)
                · refine lv_fconst0 hx hb dX9_trust_82 ?_
                  refine lv_fadd hx hb dX9_trust_83 (by rw [f_add0 (by have := m_th_le now key k; omega)]; exact f_hN _ (by have := m_th_le now key k; omega)) ?_
                  refine lv_fstore_n (lv' := [(2, .float (FP.fadd (f_h (m_th now key k)) FP.fconst0)), (3, .int (nI (m_tn now key k + 1))), (0, .ref a0), (1, .int key), (4, .int (nI k))]) hx hb dX9_trust_84 rfl hl (by decide) rfl (fun ls hl => ?_)
                  refine lv_iinc (v := nI (k + 1)) (lv' := [(4, .int (nI (k + 1))), (2, .float (FP.fadd (f_h (m_th now key k)) FP.fconst0)), (3, .int (nI (m_tn now key k + 1))), (0, .ref a0), (1, .int key)]) hx hb dX9_trust_85 hl (k := 4) rfl (nI_inc k) (by decide) rfl (fun ls hl => ?_)
                  refine lv_goto (tgt := 19) hx hb dX9_trust_88 (by decide) ?_
                  have hl9 : lv_has ls 5 [(0, .ref a0), (1, .int key), (2, .float (FP.fadd (f_h (m_th now key k)) FP.fconst0)), (3, .int (nI (m_tn now key k + 1))), (4, .int (nI (k + 1)))] := lv_sub hl [3, 4, 1, 2, 0] rfl
                  rw [show (FP.fadd (f_h (m_th now key k)) FP.fconst0) = (f_h (m_th now key (k + 1))) from by rw [f_add0 (by have := m_th_le now key k; omega)]; simp +decide only [m_th, c_23, c_34, c_45, c_59, c_74, if_true, if_false, not_true_eq_false, not_false_eq_true, and_self, and_true, true_and, and_false, false_and, kn01, kn10, kn02, kn20, kn12, kn21, eq_self]] at hl9
                  rw [show (nI (m_tn now key k + 1)) = (nI (m_tn now key (k + 1))) from by simp +decide only [m_tn, c_34, c_45, if_true, if_false, not_true_eq_false, not_false_eq_true, and_self, and_true, true_and, and_false, false_and, kn01, kn10, kn02, kn20, kn12, kn21, eq_self]] at hl9
                  exact ih (k + 1) (by omega) _ _ _ hP hD hS hl9 
                · refine lv_ldcf (v := (1056964608)) hx hb hown k1 dX9_trust_77 ?_
                  refine lv_goto (tgt := 83) hx hb dX9_trust_79 (by decide) ?_
                  refine lv_fadd hx hb dX9_trust_83 (by rw [f_add5 (by have := m_th_le now key k; omega)]; exact f_hN _ (by have := m_th_le now key k; omega)) ?_
                  refine lv_fstore_n (lv' := [(2, .float (FP.fadd (f_h (m_th now key k)) (1056964608))), (3, .int (nI (m_tn now key k + 1))), (0, .ref a0), (1, .int key), (4, .int (nI k))]) hx hb dX9_trust_84 rfl hl (by decide) rfl (fun ls hl => ?_)
                  refine lv_iinc (v := nI (k + 1)) (lv' := [(4, .int (nI (k + 1))), (2, .float (FP.fadd (f_h (m_th now key k)) (1056964608))), (3, .int (nI (m_tn now key k + 1))), (0, .ref a0), (1, .int key)]) hx hb dX9_trust_85 hl (k := 4) rfl (nI_inc k) (by decide) rfl (fun ls hl => ?_)
                  refine lv_goto (tgt := 19) hx hb dX9_trust_88 (by decide) ?_
                  have hl9 : lv_has ls 5 [(0, .ref a0), (1, .int key), (2, .float (FP.fadd (f_h (m_th now key k)) (1056964608))), (3, .int (nI (m_tn now key k + 1))), (4, .int (nI (k + 1)))] := lv_sub hl [3, 4, 1, 2, 0] rfl
                  rw [show (FP.fadd (f_h (m_th now key k)) (1056964608)) = (f_h (m_th now key (k + 1))) from by rw [f_add5 (by have := m_th_le now key k; omega)]; simp +decide only [m_th, c_23, c_34, c_45, c_59, c_74, if_true, if_false, not_true_eq_false, not_false_eq_true, and_self, and_true, true_and, and_false, false_and, kn01, kn10, kn02, kn20, kn12, kn21, eq_self]] at hl9
                  rw [show (nI (m_tn now key k + 1)) = (nI (m_tn now key (k + 1))) from by simp +decide only [m_tn, c_34, c_45, if_true, if_false, not_true_eq_false, not_false_eq_true, and_self, and_true, true_and, and_false, false_and, kn01, kn10, kn02, kn20, kn12, kn21, eq_self]] at hl9
                  exact ih (k + 1) (by omega) _ _ _ hP hD hS hl9 
              · refine lv_fconst1 hx hb dX9_trust_62 ?_
                refine lv_goto (tgt := 83) hx hb dX9_trust_63 (by decide) ?_
                refine lv_fadd hx hb dX9_trust_83 (by rw [f_add1 (by have := m_th_le now key k; omega)]; exact f_hN _ (by have := m_th_le now key k; omega)) ?_
                refine lv_fstore_n (lv' := [(2, .float (FP.fadd (f_h (m_th now key k)) FP.fconst1)), (3, .int (nI (m_tn now key k + 1))), (0, .ref a0), (1, .int key), (4, .int (nI k))]) hx hb dX9_trust_84 rfl hl (by decide) rfl (fun ls hl => ?_)
                refine lv_iinc (v := nI (k + 1)) (lv' := [(4, .int (nI (k + 1))), (2, .float (FP.fadd (f_h (m_th now key k)) FP.fconst1)), (3, .int (nI (m_tn now key k + 1))), (0, .ref a0), (1, .int key)]) hx hb dX9_trust_85 hl (k := 4) rfl (nI_inc k) (by decide) rfl (fun ls hl => ?_)
                refine lv_goto (tgt := 19) hx hb dX9_trust_88 (by decide) ?_
                have hl9 : lv_has ls 5 [(0, .ref a0), (1, .int key), (2, .float (FP.fadd (f_h (m_th now key k)) FP.fconst1)), (3, .int (nI (m_tn now key k + 1))), (4, .int (nI (k + 1)))] := lv_sub hl [3, 4, 1, 2, 0] rfl
                rw [show (FP.fadd (f_h (m_th now key k)) FP.fconst1) = (f_h (m_th now key (k + 1))) from by rw [f_add1 (by have := m_th_le now key k; omega)]; simp +decide only [m_th, c_23, c_34, c_45, c_59, if_true, if_false, not_true_eq_false, not_false_eq_true, and_self, and_true, true_and, and_false, false_and, kn01, kn10, kn02, kn20, kn12, kn21, eq_self]] at hl9
                rw [show (nI (m_tn now key k + 1)) = (nI (m_tn now key (k + 1))) from by simp +decide only [m_tn, c_34, c_45, if_true, if_false, not_true_eq_false, not_false_eq_true, and_self, and_true, true_and, and_false, false_and, kn01, kn10, kn02, kn20, kn12, kn21, eq_self]] at hl9
                exact ih (k + 1) (by omega) _ _ _ hP hD hS hl9 
    rw [show FP.fconst0 = f_h (m_th now key 0) from f_h00.symm] at hl
    exact loop19 64 0 (by omega) _ _ _ hP hD hS (lv_sub hl [3, 4, 2, 1, 0] rfl) 
  · exact absurd c_6 hok
