set_option maxHeartbeats 400000 in
set_option maxRecDepth 100000 in
theorem c_X9_rises (l : Launch) (D : va_G) (I C Q : ClassId) (a0 a1 a2 a3 a4 : Nat) (now : Nat → Int32) (kept : Nat → Int32) (st : Int32) (text : Nat → Int32) (len : Int32) (att : Int32) (num : Int32) (rd : Nat → Int32) (np : Nat) (sz : Nat) (to : Int32) (hnp : now 10 = nI np) (hn64 : np ≤ 64) (hsz : now 6 = nI sz) (hs0 : 0 < sz) (hs1 : sz ≤ 100) (hwk : wOk now) (hnk : nOk now np) : KV l D (tyL I C Q) yX9_rises wsX9_rises { frames := 4, cells := 0, slots := 0, locals := 92 } [.ref a0, .int to] (wM I a0 a1 a2 a3 a4 now kept st text len att num rd) (wM I a0 a1 a2 a3 a4 (m_rises now to np sz) kept st text len att num rd) := by
  refine KV.of (cc := cX9_rises) (maxL := 5) (own := RX9) (by decide) rfl rfl (Nat.le_of_ble_eq_true rfl) ?_
  intro p e s m below meth c A Q0 ls hx hb hml hown hts hE hA hP hD hS hl hend
  have hK := hE.1
  have hF : CallFix p m c cX9_rises 5 s [.ref a0, .int to].toArray wsX9_rises RX9 := ⟨hx, hb, hml, hown, hts⟩
  have k0 := hts (.fieldLink RX9 7 "LateExcusesModel" "now" "[I") (List.mem_of_getElem? (i := 1) rfl)
  have u9 : ∀ w ∈ u_ws RX9 TX9 8, w ∈ wsX9_rises := by decide +kernel
  have hl : lv_has ls 5 [(0, .ref a0), (1, .int to)] := hl
  refine lv_aload_n hx hb dX9_rises_0 rfl (lv_at hl 0 rfl) ?_
  refine va_get (D := D) (ci := 9) (v := .ref a1) (C := RX9) (T := TX9) (N := 8) hx hb hts u9 hown hK hP 0 rfl rfl 0 (by decide) k0 (fun _ h9 => h9) rfl dX9_rises_1 ?_
  refine lv_iconst (v := 0) hx hb dX9_rises_4 (by decide) ?_
  refine k_iald (j := 0) (v := (now 0)) hx hb hK hP 1 0 rfl rfl rfl (by decide) (by decide) rfl dX9_rises_5 ?_
  refine lv_istore_n (lv' := [(2, .int (now 0)), (0, .ref a0), (1, .int to)]) hx hb dX9_rises_6 rfl hl (by decide) rfl (fun ls hl => ?_)
  refine lv_aload_n hx hb dX9_rises_7 rfl (lv_at hl 1 rfl) ?_
  refine va_get (D := D) (ci := 9) (v := .ref a1) (C := RX9) (T := TX9) (N := 8) hx hb hts u9 hown hK hP 0 rfl rfl 0 (by decide) k0 (fun _ h9 => h9) rfl dX9_rises_8 ?_
  refine lv_iconst (v := 0) hx hb dX9_rises_11 (by decide) ?_
  refine lv_iload_n hx hb dX9_rises_12 rfl (lv_at hl 2 rfl) ?_
  refine k_iast (j := 0) hx hb hK hP hD hS 1 0 rfl rfl rfl (by decide) (by decide) dX9_rises_13 (fun H locs hP hD hS => ?_)
  have hP : va_P D vwCl (wM I a0 a1 a2 a3 a4 (upd now 0 to) kept st text len att num rd) H := hP
  have hD : va_D A (wM I a0 a1 a2 a3 a4 (upd now 0 to) kept st text len att num rd) := hD
  refine lv_aload_n hx hb dX9_rises_14 rfl (lv_at hl 1 rfl) ?_
  refine lv_iconst (v := (-1)) hx hb dX9_rises_15 (by decide) ?_
  refine k_iF (va_runV (As := [.int (-1)]) (rest := []) hF (c_X9_nextKept l D I C Q a0 a1 a2 a3 a4 (upd now 0 to) kept st text len att num rd np (-1) (Eq.trans (pk_un (by omega)) hnp) hn64 _) (cwV 1 hts gX9_rises_X9_nextKept rfl rfl rfl (by decide +kernel) ⟨Nat.le_of_ble_eq_true rfl, Nat.le_of_ble_eq_true rfl⟩) (kPreV hE hP hD (ci := 9) (q0 := 0) rfl rfl) rfl rfl hl.1 rfl (lv_room (Nat.le_of_ble_eq_true rfl)) dX9_rises_16 ⟨Nat.zero_le _, Nat.zero_le _⟩) hD hS hA (fun H locs hP hD hS => ?_)
  refine lv_istore_n (lv' := [(3, .int (m_oI (m_nb (upd now 0 to) (-1) np))), (2, .int (now 0)), (0, .ref a0), (1, .int to)]) hx hb dX9_rises_19 rfl hl (by decide) rfl (fun ls hl => ?_)
  have loop20 : ∀ (n : Nat) (f : Nat → Int32) (ab : Int32), (wOk f) → (f 10 = nI np) → (f 6 = nI sz) → (nOk f np) → (1999 ≤ ab.toInt + (n : Int)) → ∀ (H : Heap) (locs : List Loc) (ls : Array Slot), va_P D vwCl (wM I a0 a1 a2 a3 a4 f kept st text len att num rd) H → va_D A (wM I a0 a1 a2 a3 a4 f kept st text len att num rd) → va_S A s.heap H locs → lv_has ls 5 [(0, .ref a0), (1, .int to), (2, .int (now 0)), (3, .int (m_oI (m_nb f ab np)))] → (m_rL (now 0) to np sz n f ab = m_rises now to np sz) → W p l e ({ frames := 4, cells := 0, slots := 0, locals := 92 } : Room) s m [.ref a0, .int to].toArray below meth c H locs 0 0 Q0 (F0 m 20 ls []) := by
    intro n
    induction n with
    | zero =>
      intro f ab hwf hf10 hf6 hnf hfu H locs ls hP hD hS hl hr
      have hnb : m_nb f ab np = none := m_fuel0 hnf (by omega)
      have hl : lv_has ls 5 [(0, .ref a0), (1, .int to), (2, .int (now 0)), (3, .int (-1))] := by rw [hnb] at hl; exact hl
      refine lv_iload_n hx hb dX9_rises_20 rfl (lv_at hl 3 rfl) ?_
      refine lv_if_lt (tgt := 111) hx hb dX9_rises_21 (by decide) (fun c_21 => ?_) (fun c_21 => ?_)
      · exact hend _ _ _ _ _ hP hD hS dX9_rises_111 (by rw [← hr]; simp only [m_rL])
      · exact (c_21 (by decide)).elim
    | succ n ih =>
      intro f ab hwf hf10 hf6 hnf hfu H locs ls hP hD hS hl hr
      rcases hnb : m_nb f ab np with _ | k
      · have hl : lv_has ls 5 [(0, .ref a0), (1, .int to), (2, .int (now 0)), (3, .int (-1))] := by rw [hnb] at hl; exact hl
        refine lv_iload_n hx hb dX9_rises_20 rfl (lv_at hl 3 rfl) ?_
        refine lv_if_lt (tgt := 111) hx hb dX9_rises_21 (by decide) (fun c_21 => ?_) (fun c_21 => ?_)
        · exact hend _ _ _ _ _ hP hD hS dX9_rises_111 (by rw [← hr]; simp only [m_rL, hnb])
        · exact (c_21 (by decide)).elim
      · have hl : lv_has ls 5 [(0, .ref a0), (1, .int to), (2, .int (now 0)), (3, .int (nI k))] := by rw [hnb] at hl; exact hl
        have hkb := (m_nb_lt hnb).1
        refine lv_iload_n hx hb dX9_rises_20 rfl (lv_at hl 3 rfl) ?_
        refine lv_if_lt (tgt := 111) hx hb dX9_rises_21 (by decide) (fun c_21 => ?_) (fun c_21 => ?_)
        · exact absurd c_21 (nI_pos (by omega))
        · refine lv_aload_n hx hb dX9_rises_24 rfl (lv_at hl 0 rfl) ?_
          refine lv_iload_n hx hb dX9_rises_25 rfl (lv_at hl 3 rfl) ?_
          refine lv_iconst (v := 0) hx hb dX9_rises_26 (by decide) ?_
          refine k_iF (va_runV (As := [.int (nI k), .int 0]) (rest := []) hF (c_X9_ofP l D I C Q a0 a1 a2 a3 a4 f kept st text len att num rd k 0 (by omega) (by omega) _) (cwV 2 hts gX9_rises_X9_ofP rfl rfl rfl (by decide +kernel) ⟨Nat.le_of_ble_eq_true rfl, Nat.le_of_ble_eq_true rfl⟩) (kPreV hE hP hD (ci := 9) (q0 := 0) rfl rfl) rfl rfl hl.1 rfl (lv_room (Nat.le_of_ble_eq_true rfl)) dX9_rises_27 ⟨Nat.zero_le _, Nat.zero_le _⟩) hD hS hA (fun H locs hP hD hS => ?_)
          refine lv_istore (lv' := [(4, .int (f (396 + 8 * k + 0))), (0, .ref a0), (1, .int to), (2, .int (now 0)), (3, .int (nI k))]) hx hb dX9_rises_30 hl (by decide) rfl (fun ls hl => ?_)
          refine lv_aload_n hx hb dX9_rises_32 rfl (lv_at hl 1 rfl) ?_
          refine lv_iload_n hx hb dX9_rises_33 rfl (lv_at hl 4 rfl) ?_
          refine lv_iconst (v := 1) hx hb dX9_rises_34 (by decide) ?_
          refine k_iF (va_runV (As := [.int (nI k), .int 1]) (rest := []) hF (c_X9_ofP l D I C Q a0 a1 a2 a3 a4 f kept st text len att num rd k 1 (by omega) (by omega) _) (cwV 2 hts gX9_rises_X9_ofP rfl rfl rfl (by decide +kernel) ⟨Nat.le_of_ble_eq_true rfl, Nat.le_of_ble_eq_true rfl⟩) (kPreV hE hP hD (ci := 9) (q0 := 0) rfl rfl) rfl rfl hl.1 rfl (lv_room (Nat.le_of_ble_eq_true rfl)) dX9_rises_35 ⟨Nat.zero_le _, Nat.zero_le _⟩) hD hS hA (fun H locs hP hD hS => ?_)
          refine lv_if_ne (tgt := 69) hx hb dX9_rises_38 (by decide) (fun c_38 => ?_) (fun c_38 => ?_)
          · refine lv_aload_n hx hb dX9_rises_69 rfl (lv_at hl 1 rfl) ?_
            refine lv_iload_n hx hb dX9_rises_70 rfl (lv_at hl 4 rfl) ?_
            refine lv_iconst (v := 1) hx hb dX9_rises_71 (by decide) ?_
            refine k_iF (va_runV (As := [.int (nI k), .int 1]) (rest := []) hF (c_X9_ofP l D I C Q a0 a1 a2 a3 a4 f kept st text len att num rd k 1 (by omega) (by omega) _) (cwV 2 hts gX9_rises_X9_ofP rfl rfl rfl (by decide +kernel) ⟨Nat.le_of_ble_eq_true rfl, Nat.le_of_ble_eq_true rfl⟩) (kPreV hE hP hD (ci := 9) (q0 := 0) rfl rfl) rfl rfl hl.1 rfl (lv_room (Nat.le_of_ble_eq_true rfl)) dX9_rises_72 ⟨Nat.zero_le _, Nat.zero_le _⟩) hD hS hA (fun H locs hP hD hS => ?_)
            refine lv_iconst (v := 1) hx hb dX9_rises_75 (by decide) ?_
            refine lv_icmp_ne (tgt := 101) hx hb dX9_rises_76 (by decide) (fun c_76 => ?_) (fun c_76 => ?_)
            · have hst : f = m_rstep (now 0) to sz f k := by simp +decide only [m_rstep, c_21, c_38, c_76, if_true, if_false, not_true_eq_false, not_false_eq_true, and_self, and_true, true_and, and_false, false_and, kn01, kn10, kn02, kn20, kn12, kn21, eq_self]
              rw [hst] at hP hD
              refine lv_aload_n hx hb dX9_rises_101 rfl (lv_at hl 1 rfl) ?_
              refine lv_iload hx hb dX9_rises_102 (lv_at hl 0 rfl) ?_
              refine k_iF (va_runV (As := [.int (f (396 + 8 * k + 0))]) (rest := []) hF (c_X9_nextKept l D I C Q a0 a1 a2 a3 a4 (m_rstep (now 0) to sz f k) kept st text len att num rd np (f (396 + 8 * k + 0)) ((m_rstep_o hwf (by omega) (by omega) (by omega) (by omega)).trans hf10) hn64 _) (cwV 1 hts gX9_rises_X9_nextKept rfl rfl rfl (by decide +kernel) ⟨Nat.le_of_ble_eq_true rfl, Nat.le_of_ble_eq_true rfl⟩) (kPreV hE hP hD (ci := 9) (q0 := 0) rfl rfl) rfl rfl hl.1 rfl (lv_room (Nat.le_of_ble_eq_true rfl)) dX9_rises_104 ⟨Nat.zero_le _, Nat.zero_le _⟩) hD hS hA (fun H locs hP hD hS => ?_)
              refine lv_istore_n (lv' := [(3, .int (m_oI (m_nb (m_rstep (now 0) to sz f k) (f (396 + 8 * k + 0)) np))), (4, .int (f (396 + 8 * k + 0))), (0, .ref a0), (1, .int to), (2, .int (now 0))]) hx hb dX9_rises_107 rfl hl (by decide) rfl (fun ls hl => ?_)
              refine lv_goto (tgt := 20) hx hb dX9_rises_108 (by decide) ?_
              exact ih (m_rstep (now 0) to sz f k) (f (396 + 8 * k + 0)) (wOk_rstep hwf) ((m_rstep_o hwf (by omega) (by omega) (by omega) (by omega)).trans hf10) ((m_rstep_o hwf (by omega) (by omega) (by omega) (by omega)).trans hf6) (nOk_rstep hwf (by omega) hn64 hnf) (m_fuelS hfu hnb) _ _ _ hP hD hS (lv_sub hl [2, 3, 4, 0] rfl) (by rw [← hr]; simp only [m_rL, hnb])
            · refine lv_aload_n hx hb dX9_rises_79 rfl (lv_at hl 1 rfl) ?_
              refine lv_iload_n hx hb dX9_rises_80 rfl (lv_at hl 4 rfl) ?_
              refine lv_iconst (v := 2) hx hb dX9_rises_81 (by decide) ?_
              refine k_iF (va_runV (As := [.int (nI k), .int 2]) (rest := []) hF (c_X9_ofP l D I C Q a0 a1 a2 a3 a4 f kept st text len att num rd k 2 (by omega) (by omega) _) (cwV 2 hts gX9_rises_X9_ofP rfl rfl rfl (by decide +kernel) ⟨Nat.le_of_ble_eq_true rfl, Nat.le_of_ble_eq_true rfl⟩) (kPreV hE hP hD (ci := 9) (q0 := 0) rfl rfl) rfl rfl hl.1 rfl (lv_room (Nat.le_of_ble_eq_true rfl)) dX9_rises_82 ⟨Nat.zero_le _, Nat.zero_le _⟩) hD hS hA (fun H locs hP hD hS => ?_)
              refine lv_iload_n hx hb dX9_rises_85 rfl (lv_at hl 2 rfl) ?_
              refine lv_icmp_gt (tgt := 101) hx hb dX9_rises_86 (by decide) (fun c_86 => ?_) (fun c_86 => ?_)
              · have hst : f = m_rstep (now 0) to sz f k := by simp +decide only [m_rstep, c_21, c_38, c_76, c_86, if_true, if_false, not_true_eq_false, not_false_eq_true, and_self, and_true, true_and, and_false, false_and, kn01, kn10, kn02, kn20, kn12, kn21, eq_self]
                rw [hst] at hP hD
                refine lv_aload_n hx hb dX9_rises_101 rfl (lv_at hl 1 rfl) ?_
                refine lv_iload hx hb dX9_rises_102 (lv_at hl 0 rfl) ?_
                refine k_iF (va_runV (As := [.int (f (396 + 8 * k + 0))]) (rest := []) hF (c_X9_nextKept l D I C Q a0 a1 a2 a3 a4 (m_rstep (now 0) to sz f k) kept st text len att num rd np (f (396 + 8 * k + 0)) ((m_rstep_o hwf (by omega) (by omega) (by omega) (by omega)).trans hf10) hn64 _) (cwV 1 hts gX9_rises_X9_nextKept rfl rfl rfl (by decide +kernel) ⟨Nat.le_of_ble_eq_true rfl, Nat.le_of_ble_eq_true rfl⟩) (kPreV hE hP hD (ci := 9) (q0 := 0) rfl rfl) rfl rfl hl.1 rfl (lv_room (Nat.le_of_ble_eq_true rfl)) dX9_rises_104 ⟨Nat.zero_le _, Nat.zero_le _⟩) hD hS hA (fun H locs hP hD hS => ?_)
                refine lv_istore_n (lv' := [(3, .int (m_oI (m_nb (m_rstep (now 0) to sz f k) (f (396 + 8 * k + 0)) np))), (4, .int (f (396 + 8 * k + 0))), (0, .ref a0), (1, .int to), (2, .int (now 0))]) hx hb dX9_rises_107 rfl hl (by decide) rfl (fun ls hl => ?_)
                refine lv_goto (tgt := 20) hx hb dX9_rises_108 (by decide) ?_
                exact ih (m_rstep (now 0) to sz f k) (f (396 + 8 * k + 0)) (wOk_rstep hwf) ((m_rstep_o hwf (by omega) (by omega) (by omega) (by omega)).trans hf10) ((m_rstep_o hwf (by omega) (by omega) (by omega) (by omega)).trans hf6) (nOk_rstep hwf (by omega) hn64 hnf) (m_fuelS hfu hnb) _ _ _ hP hD hS (lv_sub hl [2, 3, 4, 0] rfl) (by rw [← hr]; simp only [m_rL, hnb])
              · refine lv_aload_n hx hb dX9_rises_89 rfl (lv_at hl 1 rfl) ?_
                refine lv_iload_n hx hb dX9_rises_90 rfl (lv_at hl 4 rfl) ?_
                refine lv_iconst (v := 1) hx hb dX9_rises_91 (by decide) ?_
                refine lv_iconst (v := 2) hx hb dX9_rises_92 (by decide) ?_
                refine k_vF (va_runV (As := [.int (nI k), .int 1, .int 2]) (rest := []) hF (c_X9_setsP l D I C Q a0 a1 a2 a3 a4 f kept st text len att num rd k 1 2 (by omega) (by omega) _) (cwV 3 hts gX9_rises_X9_setsP rfl rfl rfl (by decide +kernel) ⟨Nat.le_of_ble_eq_true rfl, Nat.le_of_ble_eq_true rfl⟩) (kPreV hE hP hD (ci := 9) (q0 := 0) rfl rfl) rfl rfl hl.1 rfl (lv_room (Nat.le_of_ble_eq_true rfl)) dX9_rises_93 ⟨Nat.zero_le _, Nat.zero_le _⟩) hD hS hA (fun H locs hP hD hS => ?_)
                have hP : va_P D vwCl (wM I a0 a1 a2 a3 a4 (upd f (396 + 8 * k + 1) 2) kept st text len att num rd) H := hP
                have hD : va_D A (wM I a0 a1 a2 a3 a4 (upd f (396 + 8 * k + 1) 2) kept st text len att num rd) := hD
                refine lv_aload_n hx hb dX9_rises_96 rfl (lv_at hl 1 rfl) ?_
                refine lv_iload_n hx hb dX9_rises_97 rfl (lv_at hl 4 rfl) ?_
                refine k_vF (va_runV (As := [.int (nI k)]) (rest := []) hF (c_X9_tells l D I C Q a0 a1 a2 a3 a4 (upd f (396 + 8 * k + 1) 2) kept st text len att num rd sz k ((pk_un (by omega)).trans hf6) hs0 hs1 (wOk_upd hwf (by omega)) (by omega) _) (cwV 1 hts gX9_rises_X9_tells rfl rfl rfl (by decide +kernel) ⟨Nat.le_of_ble_eq_true rfl, Nat.le_of_ble_eq_true rfl⟩) (kPreV hE hP hD (ci := 9) (q0 := 0) rfl rfl) rfl rfl hl.1 rfl (lv_room (Nat.le_of_ble_eq_true rfl)) dX9_rises_98 ⟨Nat.zero_le _, Nat.zero_le _⟩) hD hS hA (fun H locs hP hD hS => ?_)
                have hP : va_P D vwCl (wM I a0 a1 a2 a3 a4 (m_tells (upd f (396 + 8 * k + 1) 2) k sz) kept st text len att num rd) H := hP
                have hD : va_D A (wM I a0 a1 a2 a3 a4 (m_tells (upd f (396 + 8 * k + 1) 2) k sz) kept st text len att num rd) := hD
                have hst : (m_tells (upd f (396 + 8 * k + 1) 2) k sz) = m_rstep (now 0) to sz f k := by simp +decide only [m_rstep, c_21, c_38, c_76, c_86, if_true, if_false, not_true_eq_false, not_false_eq_true, and_self, and_true, true_and, and_false, false_and, kn01, kn10, kn02, kn20, kn12, kn21, eq_self]
                rw [hst] at hP hD
                refine lv_aload_n hx hb dX9_rises_101 rfl (lv_at hl 1 rfl) ?_
                refine lv_iload hx hb dX9_rises_102 (lv_at hl 0 rfl) ?_
                refine k_iF (va_runV (As := [.int (f (396 + 8 * k + 0))]) (rest := []) hF (c_X9_nextKept l D I C Q a0 a1 a2 a3 a4 (m_rstep (now 0) to sz f k) kept st text len att num rd np (f (396 + 8 * k + 0)) ((m_rstep_o hwf (by omega) (by omega) (by omega) (by omega)).trans hf10) hn64 _) (cwV 1 hts gX9_rises_X9_nextKept rfl rfl rfl (by decide +kernel) ⟨Nat.le_of_ble_eq_true rfl, Nat.le_of_ble_eq_true rfl⟩) (kPreV hE hP hD (ci := 9) (q0 := 0) rfl rfl) rfl rfl hl.1 rfl (lv_room (Nat.le_of_ble_eq_true rfl)) dX9_rises_104 ⟨Nat.zero_le _, Nat.zero_le _⟩) hD hS hA (fun H locs hP hD hS => ?_)
                refine lv_istore_n (lv' := [(3, .int (m_oI (m_nb (m_rstep (now 0) to sz f k) (f (396 + 8 * k + 0)) np))), (4, .int (f (396 + 8 * k + 0))), (0, .ref a0), (1, .int to), (2, .int (now 0))]) hx hb dX9_rises_107 rfl hl (by decide) rfl (fun ls hl => ?_)
                refine lv_goto (tgt := 20) hx hb dX9_rises_108 (by decide) ?_
                exact ih (m_rstep (now 0) to sz f k) (f (396 + 8 * k + 0)) (wOk_rstep hwf) ((m_rstep_o hwf (by omega) (by omega) (by omega) (by omega)).trans hf10) ((m_rstep_o hwf (by omega) (by omega) (by omega) (by omega)).trans hf6) (nOk_rstep hwf (by omega) hn64 hnf) (m_fuelS hfu hnb) _ _ _ hP hD hS (lv_sub hl [2, 3, 4, 0] rfl) (by rw [← hr]; simp only [m_rL, hnb])
          · refine lv_aload_n hx hb dX9_rises_41 rfl (lv_at hl 1 rfl) ?_
            refine lv_iload hx hb dX9_rises_42 (lv_at hl 0 rfl) ?_
            refine k_iF (va_runV (As := [.int (f (396 + 8 * k + 0))]) (rest := []) hF (c_X9_endOf l D I C Q a0 a1 a2 a3 a4 f kept st text len att num rd sz (f (396 + 8 * k + 0)) hf6 hs0 hs1 _) (cwV 1 hts gX9_rises_X9_endOf rfl rfl rfl (by decide +kernel) ⟨Nat.le_of_ble_eq_true rfl, Nat.le_of_ble_eq_true rfl⟩) (kPreV hE hP hD (ci := 9) (q0 := 0) rfl rfl) rfl rfl hl.1 rfl (lv_room (Nat.le_of_ble_eq_true rfl)) dX9_rises_44 ⟨Nat.zero_le _, Nat.zero_le _⟩) hD hS hA (fun H locs hP hD hS => ?_)
            refine lv_iload_n hx hb dX9_rises_47 rfl (lv_at hl 3 rfl) ?_
            refine lv_icmp_le (tgt := 69) hx hb dX9_rises_48 (by decide) (fun c_48 => ?_) (fun c_48 => ?_)
            · refine lv_aload_n hx hb dX9_rises_69 rfl (lv_at hl 1 rfl) ?_
              refine lv_iload_n hx hb dX9_rises_70 rfl (lv_at hl 4 rfl) ?_
              refine lv_iconst (v := 1) hx hb dX9_rises_71 (by decide) ?_
              refine k_iF (va_runV (As := [.int (nI k), .int 1]) (rest := []) hF (c_X9_ofP l D I C Q a0 a1 a2 a3 a4 f kept st text len att num rd k 1 (by omega) (by omega) _) (cwV 2 hts gX9_rises_X9_ofP rfl rfl rfl (by decide +kernel) ⟨Nat.le_of_ble_eq_true rfl, Nat.le_of_ble_eq_true rfl⟩) (kPreV hE hP hD (ci := 9) (q0 := 0) rfl rfl) rfl rfl hl.1 rfl (lv_room (Nat.le_of_ble_eq_true rfl)) dX9_rises_72 ⟨Nat.zero_le _, Nat.zero_le _⟩) hD hS hA (fun H locs hP hD hS => ?_)
              refine lv_iconst (v := 1) hx hb dX9_rises_75 (by decide) ?_
              refine lv_icmp_ne (tgt := 101) hx hb dX9_rises_76 (by decide) (fun c_76 => ?_) (fun c_76 => ?_)
              · have hst : f = m_rstep (now 0) to sz f k := by simp +decide only [m_rstep, c_21, c_38, c_48, c_76, if_true, if_false, not_true_eq_false, not_false_eq_true, and_self, and_true, true_and, and_false, false_and, kn01, kn10, kn02, kn20, kn12, kn21, eq_self]
                rw [hst] at hP hD
                refine lv_aload_n hx hb dX9_rises_101 rfl (lv_at hl 1 rfl) ?_
                refine lv_iload hx hb dX9_rises_102 (lv_at hl 0 rfl) ?_
                refine k_iF (va_runV (As := [.int (f (396 + 8 * k + 0))]) (rest := []) hF (c_X9_nextKept l D I C Q a0 a1 a2 a3 a4 (m_rstep (now 0) to sz f k) kept st text len att num rd np (f (396 + 8 * k + 0)) ((m_rstep_o hwf (by omega) (by omega) (by omega) (by omega)).trans hf10) hn64 _) (cwV 1 hts gX9_rises_X9_nextKept rfl rfl rfl (by decide +kernel) ⟨Nat.le_of_ble_eq_true rfl, Nat.le_of_ble_eq_true rfl⟩) (kPreV hE hP hD (ci := 9) (q0 := 0) rfl rfl) rfl rfl hl.1 rfl (lv_room (Nat.le_of_ble_eq_true rfl)) dX9_rises_104 ⟨Nat.zero_le _, Nat.zero_le _⟩) hD hS hA (fun H locs hP hD hS => ?_)
                refine lv_istore_n (lv' := [(3, .int (m_oI (m_nb (m_rstep (now 0) to sz f k) (f (396 + 8 * k + 0)) np))), (4, .int (f (396 + 8 * k + 0))), (0, .ref a0), (1, .int to), (2, .int (now 0))]) hx hb dX9_rises_107 rfl hl (by decide) rfl (fun ls hl => ?_)
                refine lv_goto (tgt := 20) hx hb dX9_rises_108 (by decide) ?_
                exact ih (m_rstep (now 0) to sz f k) (f (396 + 8 * k + 0)) (wOk_rstep hwf) ((m_rstep_o hwf (by omega) (by omega) (by omega) (by omega)).trans hf10) ((m_rstep_o hwf (by omega) (by omega) (by omega) (by omega)).trans hf6) (nOk_rstep hwf (by omega) hn64 hnf) (m_fuelS hfu hnb) _ _ _ hP hD hS (lv_sub hl [2, 3, 4, 0] rfl) (by rw [← hr]; simp only [m_rL, hnb])
              · exact absurd (c_38.symm.trans c_76) (by decide)
            · refine lv_aload_n hx hb dX9_rises_51 rfl (lv_at hl 1 rfl) ?_
              refine lv_iload hx hb dX9_rises_52 (lv_at hl 0 rfl) ?_
              refine k_iF (va_runV (As := [.int (f (396 + 8 * k + 0))]) (rest := []) hF (c_X9_endOf l D I C Q a0 a1 a2 a3 a4 f kept st text len att num rd sz (f (396 + 8 * k + 0)) hf6 hs0 hs1 _) (cwV 1 hts gX9_rises_X9_endOf rfl rfl rfl (by decide +kernel) ⟨Nat.le_of_ble_eq_true rfl, Nat.le_of_ble_eq_true rfl⟩) (kPreV hE hP hD (ci := 9) (q0 := 0) rfl rfl) rfl rfl hl.1 rfl (lv_room (Nat.le_of_ble_eq_true rfl)) dX9_rises_54 ⟨Nat.zero_le _, Nat.zero_le _⟩) hD hS hA (fun H locs hP hD hS => ?_)
              refine lv_iload_n hx hb dX9_rises_57 rfl (lv_at hl 2 rfl) ?_
              refine lv_icmp_gt (tgt := 69) hx hb dX9_rises_58 (by decide) (fun c_58 => ?_) (fun c_58 => ?_)
              · refine lv_aload_n hx hb dX9_rises_69 rfl (lv_at hl 1 rfl) ?_
                refine lv_iload_n hx hb dX9_rises_70 rfl (lv_at hl 4 rfl) ?_
                refine lv_iconst (v := 1) hx hb dX9_rises_71 (by decide) ?_
                refine k_iF (va_runV (As := [.int (nI k), .int 1]) (rest := []) hF (c_X9_ofP l D I C Q a0 a1 a2 a3 a4 f kept st text len att num rd k 1 (by omega) (by omega) _) (cwV 2 hts gX9_rises_X9_ofP rfl rfl rfl (by decide +kernel) ⟨Nat.le_of_ble_eq_true rfl, Nat.le_of_ble_eq_true rfl⟩) (kPreV hE hP hD (ci := 9) (q0 := 0) rfl rfl) rfl rfl hl.1 rfl (lv_room (Nat.le_of_ble_eq_true rfl)) dX9_rises_72 ⟨Nat.zero_le _, Nat.zero_le _⟩) hD hS hA (fun H locs hP hD hS => ?_)
                refine lv_iconst (v := 1) hx hb dX9_rises_75 (by decide) ?_
                refine lv_icmp_ne (tgt := 101) hx hb dX9_rises_76 (by decide) (fun c_76 => ?_) (fun c_76 => ?_)
                · have hst : f = m_rstep (now 0) to sz f k := by simp +decide only [m_rstep, c_21, c_38, c_48, c_58, c_76, if_true, if_false, not_true_eq_false, not_false_eq_true, and_self, and_true, true_and, and_false, false_and, kn01, kn10, kn02, kn20, kn12, kn21, eq_self]
                  rw [hst] at hP hD
                  refine lv_aload_n hx hb dX9_rises_101 rfl (lv_at hl 1 rfl) ?_
                  refine lv_iload hx hb dX9_rises_102 (lv_at hl 0 rfl) ?_
                  refine k_iF (va_runV (As := [.int (f (396 + 8 * k + 0))]) (rest := []) hF (c_X9_nextKept l D I C Q a0 a1 a2 a3 a4 (m_rstep (now 0) to sz f k) kept st text len att num rd np (f (396 + 8 * k + 0)) ((m_rstep_o hwf (by omega) (by omega) (by omega) (by omega)).trans hf10) hn64 _) (cwV 1 hts gX9_rises_X9_nextKept rfl rfl rfl (by decide +kernel) ⟨Nat.le_of_ble_eq_true rfl, Nat.le_of_ble_eq_true rfl⟩) (kPreV hE hP hD (ci := 9) (q0 := 0) rfl rfl) rfl rfl hl.1 rfl (lv_room (Nat.le_of_ble_eq_true rfl)) dX9_rises_104 ⟨Nat.zero_le _, Nat.zero_le _⟩) hD hS hA (fun H locs hP hD hS => ?_)
                  refine lv_istore_n (lv' := [(3, .int (m_oI (m_nb (m_rstep (now 0) to sz f k) (f (396 + 8 * k + 0)) np))), (4, .int (f (396 + 8 * k + 0))), (0, .ref a0), (1, .int to), (2, .int (now 0))]) hx hb dX9_rises_107 rfl hl (by decide) rfl (fun ls hl => ?_)
                  refine lv_goto (tgt := 20) hx hb dX9_rises_108 (by decide) ?_
                  exact ih (m_rstep (now 0) to sz f k) (f (396 + 8 * k + 0)) (wOk_rstep hwf) ((m_rstep_o hwf (by omega) (by omega) (by omega) (by omega)).trans hf10) ((m_rstep_o hwf (by omega) (by omega) (by omega) (by omega)).trans hf6) (nOk_rstep hwf (by omega) hn64 hnf) (m_fuelS hfu hnb) _ _ _ hP hD hS (lv_sub hl [2, 3, 4, 0] rfl) (by rw [← hr]; simp only [m_rL, hnb])
                · exact absurd (c_38.symm.trans c_76) (by decide)
              · refine lv_aload_n hx hb dX9_rises_61 rfl (lv_at hl 1 rfl) ?_
                refine lv_iload_n hx hb dX9_rises_62 rfl (lv_at hl 4 rfl) ?_
                refine k_vF (va_runV (As := [.int (nI k)]) (rest := []) hF (c_X9_tells l D I C Q a0 a1 a2 a3 a4 f kept st text len att num rd sz k hf6 hs0 hs1 hwf (by omega) _) (cwV 1 hts gX9_rises_X9_tells rfl rfl rfl (by decide +kernel) ⟨Nat.le_of_ble_eq_true rfl, Nat.le_of_ble_eq_true rfl⟩) (kPreV hE hP hD (ci := 9) (q0 := 0) rfl rfl) rfl rfl hl.1 rfl (lv_room (Nat.le_of_ble_eq_true rfl)) dX9_rises_63 ⟨Nat.zero_le _, Nat.zero_le _⟩) hD hS hA (fun H locs hP hD hS => ?_)
                have hP : va_P D vwCl (wM I a0 a1 a2 a3 a4 (m_tells f k sz) kept st text len att num rd) H := hP
                have hD : va_D A (wM I a0 a1 a2 a3 a4 (m_tells f k sz) kept st text len att num rd) := hD
                refine lv_goto (tgt := 101) hx hb dX9_rises_66 (by decide) ?_
                have hst : (m_tells f k sz) = m_rstep (now 0) to sz f k := by simp +decide only [m_rstep, c_21, c_38, c_48, c_58, if_true, if_false, not_true_eq_false, not_false_eq_true, and_self, and_true, true_and, and_false, false_and, kn01, kn10, kn02, kn20, kn12, kn21, eq_self]
                rw [hst] at hP hD
                refine lv_aload_n hx hb dX9_rises_101 rfl (lv_at hl 1 rfl) ?_
                refine lv_iload hx hb dX9_rises_102 (lv_at hl 0 rfl) ?_
                refine k_iF (va_runV (As := [.int (f (396 + 8 * k + 0))]) (rest := []) hF (c_X9_nextKept l D I C Q a0 a1 a2 a3 a4 (m_rstep (now 0) to sz f k) kept st text len att num rd np (f (396 + 8 * k + 0)) ((m_rstep_o hwf (by omega) (by omega) (by omega) (by omega)).trans hf10) hn64 _) (cwV 1 hts gX9_rises_X9_nextKept rfl rfl rfl (by decide +kernel) ⟨Nat.le_of_ble_eq_true rfl, Nat.le_of_ble_eq_true rfl⟩) (kPreV hE hP hD (ci := 9) (q0 := 0) rfl rfl) rfl rfl hl.1 rfl (lv_room (Nat.le_of_ble_eq_true rfl)) dX9_rises_104 ⟨Nat.zero_le _, Nat.zero_le _⟩) hD hS hA (fun H locs hP hD hS => ?_)
                refine lv_istore_n (lv' := [(3, .int (m_oI (m_nb (m_rstep (now 0) to sz f k) (f (396 + 8 * k + 0)) np))), (4, .int (f (396 + 8 * k + 0))), (0, .ref a0), (1, .int to), (2, .int (now 0))]) hx hb dX9_rises_107 rfl hl (by decide) rfl (fun ls hl => ?_)
                refine lv_goto (tgt := 20) hx hb dX9_rises_108 (by decide) ?_
                exact ih (m_rstep (now 0) to sz f k) (f (396 + 8 * k + 0)) (wOk_rstep hwf) ((m_rstep_o hwf (by omega) (by omega) (by omega) (by omega)).trans hf10) ((m_rstep_o hwf (by omega) (by omega) (by omega) (by omega)).trans hf6) (nOk_rstep hwf (by omega) hn64 hnf) (m_fuelS hfu hnb) _ _ _ hP hD hS (lv_sub hl [2, 3, 4, 0] rfl) (by rw [← hr]; simp only [m_rL, hnb])
  exact loop20 2000 (upd now 0 to) (-1) (wOk_upd hwk (by omega)) ((pk_un (by omega)).trans hnp) ((pk_un (by omega)).trans hsz) (nOk_upd (by omega) hnk) (by decide) _ _ _ hP hD hS (lv_sub hl [2, 3, 1, 0] rfl) rfl
set_option maxHeartbeats 400000 in
set_option maxRecDepth 100000 in
theorem c_X9_wasIll (l : Launch) (D : va_G) (I C Q : ClassId) (a0 a1 a2 a3 a4 : Nat) (now : Nat → Int32) (kept : Nat → Int32) (st : Int32) (text : Nat → Int32) (len : Int32) (att : Int32) (num : Int32) (rd : Nat → Int32) (key : Int32) : KI l D (tyL I C Q) yX9_wasIll wsX9_wasIll { frames := 1, cells := 0, slots := 0, locals := 22 } [.ref a0, .int key] (wM I a0 a1 a2 a3 a4 now kept st text len att num rd) (wM I a0 a1 a2 a3 a4 now kept st text len att num rd) (m_ill now key 64) := by
  refine KI.of (cc := cX9_wasIll) (maxL := 4) (rt := .boolean) (own := RX9) (by decide) rfl rfl (Nat.le_of_ble_eq_true rfl) ?_
  intro p e s m below meth c A Q0 ls hx hb hml hown hts hE hA hP hD hS hl hend
  have hK := hE.1
  have hF : CallFix p m c cX9_wasIll 4 s [.ref a0, .int key].toArray wsX9_wasIll RX9 := ⟨hx, hb, hml, hown, hts⟩
  have hl : lv_has ls 4 [(0, .ref a0), (1, .int key)] := hl
  refine lv_iconst (v := 0) hx hb dX9_wasIll_0 (by decide) ?_
  refine lv_istore_n (lv' := [(2, .int 0), (0, .ref a0), (1, .int key)]) hx hb dX9_wasIll_1 rfl hl (by decide) rfl (fun ls hl => ?_)
  refine lv_iconst (v := 0) hx hb dX9_wasIll_2 (by decide) ?_
  refine lv_istore_n (lv' := [(3, .int 0), (2, .int 0), (0, .ref a0), (1, .int key)]) hx hb dX9_wasIll_3 rfl hl (by decide) rfl (fun ls hl => ?_)
  have loop4 : ∀ (n : Nat) (k : Nat), (k + n = 64) → ∀ (H : Heap) (locs : List Loc) (ls : Array Slot), va_P D vwCl (wM I a0 a1 a2 a3 a4 now kept st text len att num rd) H → va_D A (wM I a0 a1 a2 a3 a4 now kept st text len att num rd) → va_S A s.heap H locs → lv_has ls 4 [(0, .ref a0), (1, .int key), (2, .int (m_ill now key k)), (3, .int (nI k))] → W p l e ({ frames := 1, cells := 0, slots := 0, locals := 22 } : Room) s m [.ref a0, .int key].toArray below meth c H locs 0 0 Q0 (F0 m 4 ls []) := by
    intro n
    induction n with
    | zero =>
      intro k hk H locs ls hP hD hS hl
      refine lv_iload_n hx hb dX9_wasIll_4 rfl (lv_at hl 3 rfl) ?_
      refine lv_bipush (v := 64) hx hb dX9_wasIll_5 (by decide) ?_
      refine lv_icmp_ge (tgt := 66) hx hb dX9_wasIll_7 (by decide) (fun c_7 => ?_) (fun c_7 => ?_)
      · refine lv_iload_n hx hb dX9_wasIll_66 rfl (lv_at hl 2 rfl) ?_
        exact hend _ _ _ _ _ _ hP hD hS dX9_wasIll_67 (m_ill_b now key _) rfl (by rw [show k = 64 by omega])
      · exact absurd ((nI_leI (a := 64) (b := k) (by omega) (by omega)).mpr (by omega)) c_7
    | succ n ih =>
      intro k hk H locs ls hP hD hS hl
      refine lv_iload_n hx hb dX9_wasIll_4 rfl (lv_at hl 3 rfl) ?_
      refine lv_bipush (v := 64) hx hb dX9_wasIll_5 (by decide) ?_
      refine lv_icmp_ge (tgt := 66) hx hb dX9_wasIll_7 (by decide) (fun c_7 => ?_) (fun c_7 => ?_)
      · exact absurd ((nI_leI (a := 64) (b := k) (by omega) (by omega)).mp c_7) (by omega)
      · refine lv_iload_n hx hb dX9_wasIll_10 rfl (lv_at hl 2 rfl) ?_
        refine lv_if_ne (tgt := 54) hx hb dX9_wasIll_11 (by decide) (fun c_11 => ?_) (fun c_11 => ?_)
        · refine lv_iconst (v := 1) hx hb dX9_wasIll_54 (by decide) ?_
          refine lv_goto (tgt := 59) hx hb dX9_wasIll_55 (by decide) ?_
          refine lv_istore_n (lv' := [(2, .int 1), (0, .ref a0), (1, .int key), (3, .int (nI k))]) hx hb dX9_wasIll_59 rfl hl (by decide) rfl (fun ls hl => ?_)
          refine lv_iinc (v := nI (k + 1)) (lv' := [(3, .int (nI (k + 1))), (2, .int 1), (0, .ref a0), (1, .int key)]) hx hb dX9_wasIll_60 hl (k := 3) rfl (nI_inc k) (by decide) rfl (fun ls hl => ?_)
          refine lv_goto (tgt := 4) hx hb dX9_wasIll_63 (by decide) ?_
          have hl9 : lv_has ls 4 [(0, .ref a0), (1, .int key), (2, .int 1), (3, .int (nI (k + 1)))] := lv_sub hl [2, 3, 1, 0] rfl
          rw [show (1) = (m_ill now key (k + 1)) from by simp +decide only [m_ill, c_7, c_11, if_true, if_false, not_true_eq_false, not_false_eq_true, and_self, and_true, true_and, and_false, false_and, kn01, kn10, kn02, kn20, kn12, kn21, eq_self]] at hl9
          exact ih (k + 1) (by omega) _ _ _ hP hD hS hl9 
        · refine lv_aload_n hx hb dX9_wasIll_14 rfl (lv_at hl 0 rfl) ?_
          refine lv_iload_n hx hb dX9_wasIll_15 rfl (lv_at hl 3 rfl) ?_
          refine lv_iconst (v := 0) hx hb dX9_wasIll_16 (by decide) ?_
          refine k_iF (va_runV (As := [.int (nI k), .int 0]) (rest := []) hF (c_X9_ofE l D I C Q a0 a1 a2 a3 a4 now kept st text len att num rd k 0 (by omega) (by omega) _) (cwV 2 hts gX9_wasIll_X9_ofE rfl rfl rfl (by decide +kernel) ⟨Nat.le_of_ble_eq_true rfl, Nat.le_of_ble_eq_true rfl⟩) (kPreV hE hP hD (ci := 9) (q0 := 0) rfl rfl) rfl rfl hl.1 rfl (lv_room (Nat.le_of_ble_eq_true rfl)) dX9_wasIll_17 ⟨Nat.zero_le _, Nat.zero_le _⟩) hD hS hA (fun H locs hP hD hS => ?_)
          refine lv_iconst (v := 1) hx hb dX9_wasIll_20 (by decide) ?_
          refine lv_icmp_ne (tgt := 58) hx hb dX9_wasIll_21 (by decide) (fun c_21 => ?_) (fun c_21 => ?_)
          · refine lv_iconst (v := 0) hx hb dX9_wasIll_58 (by decide) ?_
            refine lv_istore_n (lv' := [(2, .int 0), (0, .ref a0), (1, .int key), (3, .int (nI k))]) hx hb dX9_wasIll_59 rfl hl (by decide) rfl (fun ls hl => ?_)
            refine lv_iinc (v := nI (k + 1)) (lv' := [(3, .int (nI (k + 1))), (2, .int 0), (0, .ref a0), (1, .int key)]) hx hb dX9_wasIll_60 hl (k := 3) rfl (nI_inc k) (by decide) rfl (fun ls hl => ?_)
            refine lv_goto (tgt := 4) hx hb dX9_wasIll_63 (by decide) ?_
            have hl9 : lv_has ls 4 [(0, .ref a0), (1, .int key), (2, .int 0), (3, .int (nI (k + 1)))] := lv_sub hl [2, 3, 1, 0] rfl
            rw [show (0) = (m_ill now key (k + 1)) from by simp +decide only [m_ill, c_7, c_11, c_21, if_true, if_false, not_true_eq_false, not_false_eq_true, and_self, and_true, true_and, and_false, false_and, kn01, kn10, kn02, kn20, kn12, kn21, eq_self]] at hl9
            exact ih (k + 1) (by omega) _ _ _ hP hD hS hl9 
          · refine lv_aload_n hx hb dX9_wasIll_24 rfl (lv_at hl 0 rfl) ?_
            refine lv_iload_n hx hb dX9_wasIll_25 rfl (lv_at hl 3 rfl) ?_
            refine lv_iconst (v := 2) hx hb dX9_wasIll_26 (by decide) ?_
            refine k_iF (va_runV (As := [.int (nI k), .int 2]) (rest := []) hF (c_X9_ofE l D I C Q a0 a1 a2 a3 a4 now kept st text len att num rd k 2 (by omega) (by omega) _) (cwV 2 hts gX9_wasIll_X9_ofE rfl rfl rfl (by decide +kernel) ⟨Nat.le_of_ble_eq_true rfl, Nat.le_of_ble_eq_true rfl⟩) (kPreV hE hP hD (ci := 9) (q0 := 0) rfl rfl) rfl rfl hl.1 rfl (lv_room (Nat.le_of_ble_eq_true rfl)) dX9_wasIll_27 ⟨Nat.zero_le _, Nat.zero_le _⟩) hD hS hA (fun H locs hP hD hS => ?_)
            refine lv_iload_n hx hb dX9_wasIll_30 rfl (lv_at hl 1 rfl) ?_
            refine lv_icmp_ne (tgt := 58) hx hb dX9_wasIll_31 (by decide) (fun c_31 => ?_) (fun c_31 => ?_)
            · refine lv_iconst (v := 0) hx hb dX9_wasIll_58 (by decide) ?_
              refine lv_istore_n (lv' := [(2, .int 0), (0, .ref a0), (1, .int key), (3, .int (nI k))]) hx hb dX9_wasIll_59 rfl hl (by decide) rfl (fun ls hl => ?_)
              refine lv_iinc (v := nI (k + 1)) (lv' := [(3, .int (nI (k + 1))), (2, .int 0), (0, .ref a0), (1, .int key)]) hx hb dX9_wasIll_60 hl (k := 3) rfl (nI_inc k) (by decide) rfl (fun ls hl => ?_)
              refine lv_goto (tgt := 4) hx hb dX9_wasIll_63 (by decide) ?_
              have hl9 : lv_has ls 4 [(0, .ref a0), (1, .int key), (2, .int 0), (3, .int (nI (k + 1)))] := lv_sub hl [2, 3, 1, 0] rfl
              rw [show (0) = (m_ill now key (k + 1)) from by simp +decide only [m_ill, c_7, c_11, c_21, c_31, if_true, if_false, not_true_eq_false, not_false_eq_true, and_self, and_true, true_and, and_false, false_and, kn01, kn10, kn02, kn20, kn12, kn21, eq_self]] at hl9
              exact ih (k + 1) (by omega) _ _ _ hP hD hS hl9 
            · refine lv_aload_n hx hb dX9_wasIll_34 rfl (lv_at hl 0 rfl) ?_
              refine lv_iload_n hx hb dX9_wasIll_35 rfl (lv_at hl 3 rfl) ?_
              refine lv_iconst (v := 4) hx hb dX9_wasIll_36 (by decide) ?_
              refine k_iF (va_runV (As := [.int (nI k), .int 4]) (rest := []) hF (c_X9_ofE l D I C Q a0 a1 a2 a3 a4 now kept st text len att num rd k 4 (by omega) (by omega) _) (cwV 2 hts gX9_wasIll_X9_ofE rfl rfl rfl (by decide +kernel) ⟨Nat.le_of_ble_eq_true rfl, Nat.le_of_ble_eq_true rfl⟩) (kPreV hE hP hD (ci := 9) (q0 := 0) rfl rfl) rfl rfl hl.1 rfl (lv_room (Nat.le_of_ble_eq_true rfl)) dX9_wasIll_37 ⟨Nat.zero_le _, Nat.zero_le _⟩) hD hS hA (fun H locs hP hD hS => ?_)
              refine lv_iconst (v := 2) hx hb dX9_wasIll_40 (by decide) ?_
              refine lv_icmp_ne (tgt := 58) hx hb dX9_wasIll_41 (by decide) (fun c_41 => ?_) (fun c_41 => ?_)
              · refine lv_iconst (v := 0) hx hb dX9_wasIll_58 (by decide) ?_
                refine lv_istore_n (lv' := [(2, .int 0), (0, .ref a0), (1, .int key), (3, .int (nI k))]) hx hb dX9_wasIll_59 rfl hl (by decide) rfl (fun ls hl => ?_)
                refine lv_iinc (v := nI (k + 1)) (lv' := [(3, .int (nI (k + 1))), (2, .int 0), (0, .ref a0), (1, .int key)]) hx hb dX9_wasIll_60 hl (k := 3) rfl (nI_inc k) (by decide) rfl (fun ls hl => ?_)
                refine lv_goto (tgt := 4) hx hb dX9_wasIll_63 (by decide) ?_
                have hl9 : lv_has ls 4 [(0, .ref a0), (1, .int key), (2, .int 0), (3, .int (nI (k + 1)))] := lv_sub hl [2, 3, 1, 0] rfl
                rw [show (0) = (m_ill now key (k + 1)) from by simp +decide only [m_ill, c_7, c_11, c_21, c_31, c_41, if_true, if_false, not_true_eq_false, not_false_eq_true, and_self, and_true, true_and, and_false, false_and, kn01, kn10, kn02, kn20, kn12, kn21, eq_self]] at hl9
                exact ih (k + 1) (by omega) _ _ _ hP hD hS hl9 
              · refine lv_aload_n hx hb dX9_wasIll_44 rfl (lv_at hl 0 rfl) ?_
                refine lv_iload_n hx hb dX9_wasIll_45 rfl (lv_at hl 3 rfl) ?_
                refine lv_iconst (v := 5) hx hb dX9_wasIll_46 (by decide) ?_
                refine k_iF (va_runV (As := [.int (nI k), .int 5]) (rest := []) hF (c_X9_ofE l D I C Q a0 a1 a2 a3 a4 now kept st text len att num rd k 5 (by omega) (by omega) _) (cwV 2 hts gX9_wasIll_X9_ofE rfl rfl rfl (by decide +kernel) ⟨Nat.le_of_ble_eq_true rfl, Nat.le_of_ble_eq_true rfl⟩) (kPreV hE hP hD (ci := 9) (q0 := 0) rfl rfl) rfl rfl hl.1 rfl (lv_room (Nat.le_of_ble_eq_true rfl)) dX9_wasIll_47 ⟨Nat.zero_le _, Nat.zero_le _⟩) hD hS hA (fun H locs hP hD hS => ?_)
                refine lv_iconst (v := 1) hx hb dX9_wasIll_50 (by decide) ?_
                refine lv_icmp_ne (tgt := 58) hx hb dX9_wasIll_51 (by decide) (fun c_51 => ?_) (fun c_51 => ?_)
                · refine lv_iconst (v := 0) hx hb dX9_wasIll_58 (by decide) ?_
                  refine lv_istore_n (lv' := [(2, .int 0), (0, .ref a0), (1, .int key), (3, .int (nI k))]) hx hb dX9_wasIll_59 rfl hl (by decide) rfl (fun ls hl => ?_)
                  refine lv_iinc (v := nI (k + 1)) (lv' := [(3, .int (nI (k + 1))), (2, .int 0), (0, .ref a0), (1, .int key)]) hx hb dX9_wasIll_60 hl (k := 3) rfl (nI_inc k) (by decide) rfl (fun ls hl => ?_)
                  refine lv_goto (tgt := 4) hx hb dX9_wasIll_63 (by decide) ?_
                  have hl9 : lv_has ls 4 [(0, .ref a0), (1, .int key), (2, .int 0), (3, .int (nI (k + 1)))] := lv_sub hl [2, 3, 1, 0] rfl
                  rw [show (0) = (m_ill now key (k + 1)) from by simp +decide only [m_ill, c_7, c_11, c_21, c_31, c_41, c_51, if_true, if_false, not_true_eq_false, not_false_eq_true, and_self, and_true, true_and, and_false, false_and, kn01, kn10, kn02, kn20, kn12, kn21, eq_self]] at hl9
                  exact ih (k + 1) (by omega) _ _ _ hP hD hS hl9 
                · refine lv_iconst (v := 1) hx hb dX9_wasIll_54 (by decide) ?_
                  refine lv_goto (tgt := 59) hx hb dX9_wasIll_55 (by decide) ?_
                  refine lv_istore_n (lv' := [(2, .int 1), (0, .ref a0), (1, .int key), (3, .int (nI k))]) hx hb dX9_wasIll_59 rfl hl (by decide) rfl (fun ls hl => ?_)
                  refine lv_iinc (v := nI (k + 1)) (lv' := [(3, .int (nI (k + 1))), (2, .int 1), (0, .ref a0), (1, .int key)]) hx hb dX9_wasIll_60 hl (k := 3) rfl (nI_inc k) (by decide) rfl (fun ls hl => ?_)
                  refine lv_goto (tgt := 4) hx hb dX9_wasIll_63 (by decide) ?_
                  have hl9 : lv_has ls 4 [(0, .ref a0), (1, .int key), (2, .int 1), (3, .int (nI (k + 1)))] := lv_sub hl [2, 3, 1, 0] rfl
                  rw [show (1) = (m_ill now key (k + 1)) from by simp +decide only [m_ill, c_7, c_11, c_21, c_31, c_41, c_51, if_true, if_false, not_true_eq_false, not_false_eq_true, and_self, and_true, true_and, and_false, false_and, kn01, kn10, kn02, kn20, kn12, kn21, eq_self]] at hl9
                  exact ih (k + 1) (by omega) _ _ _ hP hD hS hl9 
  exact loop4 64 0 (by omega) _ _ _ hP hD hS (lv_sub hl [2, 3, 1, 0] rfl) 
set_option maxHeartbeats 400000 in
set_option maxRecDepth 100000 in
theorem c_X9_isExcuse (l : Launch) (D : va_G) (I C Q : ClassId) (a0 a1 a2 a3 a4 : Nat) (now : Nat → Int32) (kept : Nat → Int32) (st : Int32) (text : Nat → Int32) (len : Int32) (att : Int32) (num : Int32) (rd : Nat → Int32) (sz : Nat) (t : Nat) (key : Int32) (x : Int32) (hsz : now 6 = nI sz) (hs0 : 0 < sz) (hs1 : sz ≤ 100) (ht : t < 2000) : KI l D (tyL I C Q) yX9_isExcuse wsX9_isExcuse { frames := 2, cells := 0, slots := 0, locals := 45 } [.ref a0, .int (nI t), .int key, .int x] (wM I a0 a1 a2 a3 a4 now kept st text len att num rd) (wM I a0 a1 a2 a3 a4 now kept st text len att num rd) (m_exc now t key x sz) := by
  have htz : t / sz ≤ t := Nat.div_le_self _ _
  refine KI.of (cc := cX9_isExcuse) (maxL := 5) (rt := .boolean) (own := RX9) (by decide) rfl rfl (Nat.le_of_ble_eq_true rfl) ?_
  intro p e s m below meth c A Q0 ls hx hb hml hown hts hE hA hP hD hS hl hend
  have hK := hE.1
  have hF : CallFix p m c cX9_isExcuse 5 s [.ref a0, .int (nI t), .int key, .int x].toArray wsX9_isExcuse RX9 := ⟨hx, hb, hml, hown, hts⟩
  have k0 := hts (.fieldLink RX9 7 "LateExcusesModel" "now" "[I") (List.mem_of_getElem? (i := 1) rfl)
  have u9 : ∀ w ∈ u_ws RX9 TX9 8, w ∈ wsX9_isExcuse := by decide +kernel
  have hl : lv_has ls 5 [(0, .ref a0), (1, .int (nI t)), (2, .int key), (3, .int x)] := hl
  refine lv_aload_n hx hb dX9_isExcuse_0 rfl (lv_at hl 0 rfl) ?_
  refine va_get (D := D) (ci := 9) (v := .ref a1) (C := RX9) (T := TX9) (N := 8) hx hb hts u9 hown hK hP 0 rfl rfl 0 (by decide) k0 (fun _ h9 => h9) rfl dX9_isExcuse_1 ?_
  refine lv_iconst (v := 0) hx hb dX9_isExcuse_4 (by decide) ?_
  refine k_iald (j := 0) (v := (now 0)) hx hb hK hP 1 0 rfl rfl rfl (by decide) (by decide) rfl dX9_isExcuse_5 ?_
  refine lv_aload_n hx hb dX9_isExcuse_6 rfl (lv_at hl 0 rfl) ?_
  refine lv_aload_n hx hb dX9_isExcuse_7 rfl (lv_at hl 0 rfl) ?_
  refine lv_iload_n hx hb dX9_isExcuse_8 rfl (lv_at hl 1 rfl) ?_
  refine k_iF (va_runV (As := [.int (nI t)]) (rest := [.ref a0, .int (now 0)]) hF (c_X9_paneAtN l D I C Q a0 a1 a2 a3 a4 now kept st text len att num rd sz t hsz hs0 hs1 ht _) (cwV 1 hts gX9_isExcuse_X9_paneAt rfl rfl rfl (by decide +kernel) ⟨Nat.le_of_ble_eq_true rfl, Nat.le_of_ble_eq_true rfl⟩) (kPreV hE hP hD (ci := 9) (q0 := 0) rfl rfl) rfl rfl hl.1 rfl (lv_room (Nat.le_of_ble_eq_true rfl)) dX9_isExcuse_9 ⟨Nat.zero_le _, Nat.zero_le _⟩) hD hS hA (fun H locs hP hD hS => ?_)
  refine k_iF (va_runV (As := [.int (nI (t / sz))]) (rest := [.int (now 0)]) hF (c_X9_endOfN l D I C Q a0 a1 a2 a3 a4 now kept st text len att num rd sz (t / sz) hsz hs0 hs1 _) (cwV 1 hts gX9_isExcuse_X9_endOf rfl rfl rfl (by decide +kernel) ⟨Nat.le_of_ble_eq_true rfl, Nat.le_of_ble_eq_true rfl⟩) (kPreV hE hP hD (ci := 9) (q0 := 0) rfl rfl) rfl rfl hl.1 rfl (lv_room (Nat.le_of_ble_eq_true rfl)) dX9_isExcuse_12 ⟨Nat.zero_le _, Nat.zero_le _⟩) hD hS hA (fun H locs hP hD hS => ?_)
  refine lv_isub hx hb dX9_isExcuse_15 ?_
  refine lv_iconst (v := 1) hx hb dX9_isExcuse_16 (by decide) ?_
  refine lv_iadd hx hb dX9_isExcuse_17 ?_
  refine lv_istore (lv' := [(4, .int (((now 0) - (nI (((t / sz) + 1) * sz))) + 1)), (0, .ref a0), (1, .int (nI t)), (2, .int key), (3, .int x)]) hx hb dX9_isExcuse_18 hl (by decide) rfl (fun ls hl => ?_)
  refine lv_iload_n hx hb dX9_isExcuse_20 rfl (lv_at hl 4 rfl) ?_
  by_cases c_21 : x < 1 ∨ 3 < x
  · refine lv_tableOut (tgt := 96) hx hb dX9_isExcuse_21 (k_swOut (by decide) (by decide) c_21) (by decide) ?_
    refine lv_iconst (v := 0) hx hb dX9_isExcuse_96 (by decide) ?_
    exact hend _ _ _ _ _ _ hP hD hS dX9_isExcuse_97 (by decide) rfl (m_exc_d c_21).symm
  · obtain ⟨j_21, hj1_21, hj2_21⟩ := k_swIn (lo := 1) (hi := 3) (n := 2) (by decide +kernel) (by decide) (by decide +kernel) (by decide) c_21
    match j_21, hj1_21, hj2_21 with
    | 0, _, e_21 =>
      have e_21 : x = 1 := e_21.trans (by decide +kernel)
      refine k_top e_21 ?_
      refine lv_tableIn (off := 27) (tgt := 48) hx hb dX9_isExcuse_21 (by decide) (by decide) (by decide) (by decide) ?_
      refine lv_iload hx hb dX9_isExcuse_48 (lv_at hl 0 rfl) ?_
      refine lv_bipush (v := 10) hx hb dX9_isExcuse_50 (by decide) ?_
      refine lv_icmp_gt (tgt := 59) hx hb dX9_isExcuse_52 (by decide) (fun c_52 => ?_) (fun c_52 => ?_)
      · refine lv_iconst (v := 0) hx hb dX9_isExcuse_59 (by decide) ?_
        exact hend _ _ _ _ _ _ hP hD hS dX9_isExcuse_60 (by decide) rfl (by rw [e_21]; simp +decide only [m_exc, c_52, if_true, if_false, not_true_eq_false, not_false_eq_true, and_self, and_true, true_and, and_false, false_and, kn01, kn10, kn02, kn20, kn12, kn21, eq_self])
      · refine lv_iconst (v := 1) hx hb dX9_isExcuse_55 (by decide) ?_
        refine lv_goto (tgt := 60) hx hb dX9_isExcuse_56 (by decide) ?_
        exact hend _ _ _ _ _ _ hP hD hS dX9_isExcuse_60 (by decide) rfl (by rw [e_21]; simp +decide only [m_exc, c_52, if_true, if_false, not_true_eq_false, not_false_eq_true, and_self, and_true, true_and, and_false, false_and, kn01, kn10, kn02, kn20, kn12, kn21, eq_self])
    | 1, _, e_21 =>
      have e_21 : x = 2 := e_21.trans (by decide +kernel)
      refine k_top e_21 ?_
      refine lv_tableIn (off := 40) (tgt := 61) hx hb dX9_isExcuse_21 (by decide) (by decide) (by decide) (by decide) ?_
      refine lv_iload hx hb dX9_isExcuse_61 (lv_at hl 0 rfl) ?_
      refine lv_bipush (v := 40) hx hb dX9_isExcuse_63 (by decide) ?_
      refine lv_icmp_gt (tgt := 80) hx hb dX9_isExcuse_65 (by decide) (fun c_65 => ?_) (fun c_65 => ?_)
      · refine lv_iconst (v := 0) hx hb dX9_isExcuse_80 (by decide) ?_
        exact hend _ _ _ _ _ _ hP hD hS dX9_isExcuse_81 (by decide) rfl (by rw [e_21]; simp +decide only [m_exc, c_65, if_true, if_false, not_true_eq_false, not_false_eq_true, and_self, and_true, true_and, and_false, false_and, kn01, kn10, kn02, kn20, kn12, kn21, eq_self])
      · refine lv_aload_n hx hb dX9_isExcuse_68 rfl (lv_at hl 1 rfl) ?_
        refine lv_iload_n hx hb dX9_isExcuse_69 rfl (lv_at hl 3 rfl) ?_
        refine k_iF (va_runV (As := [.int key]) (rest := []) hF (c_X9_wasIll l D I C Q a0 a1 a2 a3 a4 now kept st text len att num rd key _) (cwV 1 hts gX9_isExcuse_X9_wasIll rfl rfl rfl (by decide +kernel) ⟨Nat.le_of_ble_eq_true rfl, Nat.le_of_ble_eq_true rfl⟩) (kPreV hE hP hD (ci := 9) (q0 := 0) rfl rfl) rfl rfl hl.1 rfl (lv_room (Nat.le_of_ble_eq_true rfl)) dX9_isExcuse_70 ⟨Nat.zero_le _, Nat.zero_le _⟩) hD hS hA (fun H locs hP hD hS => ?_)
        refine lv_if_ne (tgt := 80) hx hb dX9_isExcuse_73 (by decide) (fun c_73 => ?_) (fun c_73 => ?_)
        · refine lv_iconst (v := 0) hx hb dX9_isExcuse_80 (by decide) ?_
          exact hend _ _ _ _ _ _ hP hD hS dX9_isExcuse_81 (by decide) rfl (by rw [e_21]; simp +decide only [m_exc, c_65, c_73, if_true, if_false, not_true_eq_false, not_false_eq_true, and_self, and_true, true_and, and_false, false_and, kn01, kn10, kn02, kn20, kn12, kn21, eq_self])
        · refine lv_iconst (v := 1) hx hb dX9_isExcuse_76 (by decide) ?_
          refine lv_goto (tgt := 81) hx hb dX9_isExcuse_77 (by decide) ?_
          exact hend _ _ _ _ _ _ hP hD hS dX9_isExcuse_81 (by decide) rfl (by rw [e_21]; simp +decide only [m_exc, c_65, c_73, if_true, if_false, not_true_eq_false, not_false_eq_true, and_self, and_true, true_and, and_false, false_and, kn01, kn10, kn02, kn20, kn12, kn21, eq_self])
    | 2, _, e_21 =>
      have e_21 : x = 3 := e_21.trans (by decide +kernel)
      refine k_top e_21 ?_
      refine lv_tableIn (off := 61) (tgt := 82) hx hb dX9_isExcuse_21 (by decide) (by decide) (by decide) (by decide) ?_
      refine lv_iload_n hx hb dX9_isExcuse_82 rfl (lv_at hl 2 rfl) ?_
      refine lv_bipush (v := 7) hx hb dX9_isExcuse_83 (by decide) ?_
      refine k_irem (v := nI (t % 7)) hx hb dX9_isExcuse_85 (k_remN (a := t) (b := 7) (by omega) (by omega) (by omega)) ?_
      refine lv_iconst (v := 5) hx hb dX9_isExcuse_86 (by decide) ?_
      refine lv_icmp_lt (tgt := 94) hx hb dX9_isExcuse_87 (by decide) (fun c_87 => ?_) (fun c_87 => ?_)
      · refine lv_iconst (v := 0) hx hb dX9_isExcuse_94 (by decide) ?_
        exact hend _ _ _ _ _ _ hP hD hS dX9_isExcuse_95 (by decide) rfl (by rw [e_21]; simp +decide only [m_exc, c_87, if_true, if_false, not_true_eq_false, not_false_eq_true, and_self, and_true, true_and, and_false, false_and, kn01, kn10, kn02, kn20, kn12, kn21, eq_self])
      · refine lv_iconst (v := 1) hx hb dX9_isExcuse_90 (by decide) ?_
        refine lv_goto (tgt := 95) hx hb dX9_isExcuse_91 (by decide) ?_
        exact hend _ _ _ _ _ _ hP hD hS dX9_isExcuse_95 (by decide) rfl (by rw [e_21]; simp +decide only [m_exc, c_87, if_true, if_false, not_true_eq_false, not_false_eq_true, and_self, and_true, true_and, and_false, false_and, kn01, kn10, kn02, kn20, kn12, kn21, eq_self])
    | j + 3, h, _ => exact absurd h (by omega)
