theorem i_nlt {a b : Int32} (h : a ≤ b) : ¬ b < a := fun h2 => by rw [Int32.le_iff_toInt_le] at h; rw [Int32.lt_iff_toInt_lt] at h2; omega
set_option maxHeartbeats 4000000 in
set_option maxRecDepth 100000 in
theorem c_L_arePanes (l : Launch) (D : va_G) (I C Q : ClassId) (y0 : Nat) {xx : LV} (hG : uG xx) : KI l D (tyL I C Q) yL_arePanes wsL_arePanes rmV [.ref y0] (uX I C Q y0 xx) (uX I C Q y0 xx) (nI 1) := by
  refine KI.of (cc := cL_arePanes) (maxL := 10) (rt := .boolean) (own := RL) (by decide) rfl rfl (Nat.le_of_ble_eq_true rfl) ?_
  intro p e s m below meth c A Q0 ls hx hb hml hown hts hE hA hP hD hS hl hend
  have hF : CallFix p m c cL_arePanes 10 s ([.ref y0] : List Value).toArray wsL_arePanes RL := ⟨hx, hb, hml, hown, hts⟩
  obtain ⟨fs, h0⟩ := uX_0 I C Q y0 xx
  have hcs : 0 ≤ (rmV).cells ∧ 0 ≤ (rmV).slots := ⟨Nat.zero_le _, Nat.zero_le _⟩
  obtain ⟨hs, hu64, hw40⟩ := uG_rows hG
  obtain ⟨N, hN, hN0, hrow⟩ := row_facts hG.1
  have hl : lv_has ls 10 [(0, .ref y0)] := hl
  have L16 : ∀ (n r : Nat) (e1 s1 c1 : Nat), r + n = q_u xx.2.1 → e1 = q_sum (fun r => N (r_p (aPn (cS xx.2.1)) r)) r → s1 = q_sum (fun r => q_b (s_d (aPn (cS xx.2.1)) (q_u xx.2.1) (r_p (aPn (cS xx.2.1)) r))) r → c1 = q_sum (fun r => q_b (v_c (aPn (cS xx.2.1)) (q_u xx.2.1) (r_p (aPn (cS xx.2.1)) r) 0 = 3)) r → ∀ (H : Heap) (locs : List Loc) (ls : Array Slot), va_P D vwCl (uX I C Q y0 xx) H → va_D A (uX I C Q y0 xx) → va_S A s.heap H locs → lv_has ls 10 [(5, .int (q_nx (aPn (cS xx.2.1)) (q_u xx.2.1) r)), (4, .int (nI 1)), (1, .int (nI (e1))), (2, .int (nI (s1))), (3, .int (nI (c1))), (0, .ref y0)] → (∀ (H : Heap) (locs : List Loc) (ls : Array Slot), va_P D vwCl (uX I C Q y0 xx) H → va_D A (uX I C Q y0 xx) → va_S A s.heap H locs → lv_has ls 10 [(4, .int (nI 1)), (1, .int (nI (q_sum (fun r => N (r_p (aPn (cS xx.2.1)) r)) (q_u xx.2.1)))), (2, .int (nI (q_sum (fun r => q_b (s_d (aPn (cS xx.2.1)) (q_u xx.2.1) (r_p (aPn (cS xx.2.1)) r))) (q_u xx.2.1)))), (3, .int (nI (q_sum (fun r => q_b (v_c (aPn (cS xx.2.1)) (q_u xx.2.1) (r_p (aPn (cS xx.2.1)) r) 0 = 3)) (q_u xx.2.1)))), (0, .ref y0)] → W p l e rmV s m ([.ref y0] : List Value).toArray below meth c H locs 0 0 Q0 (F0 m 283 ls [])) → W p l e rmV s m ([.ref y0] : List Value).toArray below meth c H locs 0 0 Q0 (F0 m 16 ls []) := by
    intro n
    induction n with
    | zero =>
      intro r e1 s1 c1 hk he1 hs1 hc1 H locs ls hP hD hS hl kx
      have hnx := nx_neg (r := r) hs
      refine lv_iload hx hb dL_arePanes_16 (lv_at hl 0 rfl) ?_
      refine lv_if_lt (tgt := 283) hx hb dL_arePanes_18 (by decide) (fun c_18 => ?_) (fun c_18 => ?_)
      · have er : r = q_u xx.2.1 := by omega
        rw [he1, hs1, hc1, er] at hl
        exact kx H locs ls hP hD hS (lv_sub hl [1, 2, 3, 4, 5] rfl)
      · exact absurd (hnx.resolve_left (fun h => c_18 h.1)).2.1 (by omega)
    | succ n ih =>
      intro r e1 s1 c1 hk he1 hs1 hc1 H locs ls hP hD hS hl kx
      have hnx := nx_neg (r := r) hs
      refine lv_iload hx hb dL_arePanes_16 (lv_at hl 0 rfl) ?_
      refine lv_if_lt (tgt := 283) hx hb dL_arePanes_18 (by decide) (fun c_18 => ?_) (fun c_18 => ?_)
      · exact absurd (hnx.resolve_right (fun h => h.1 c_18)).2 (by omega)
      · obtain ⟨-, hru, hq9⟩ := hnx.resolve_left (fun h => c_18 h.1)
        rw [hq9] at hl
        obtain ⟨hn1, hn64, hp1, hcase⟩ := hrow r hru
        obtain ⟨Nr, hNr⟩ : ∃ a, a = N (r_p (aPn (cS xx.2.1)) r) := ⟨_, rfl⟩
        rw [← hNr] at hn1 hn64 hp1 hcase
        have hse : e1 + Nr = q_sum (fun r => N (r_p (aPn (cS xx.2.1)) r)) (r + 1) := by rw [he1, hNr]; rfl
        rcases hcase with ⟨k0, ksd, k3, kw, ks0, k4⟩ | ⟨k0, ksd, k3, kw, ks0, ks1, k4⟩ | ⟨k0, ksd, k3, kw, ks0, k5, k4⟩ | ⟨k0, ksd, k3, kw, ks0, ks1, k4⟩
        · have hss : s1 + 0 = q_sum (fun r => q_b (s_d (aPn (cS xx.2.1)) (q_u xx.2.1) (r_p (aPn (cS xx.2.1)) r))) (r + 1) := by rw [hs1]; show _ = q_sum _ r + q_b _; rw [q_b0 ksd]
          have hsc : c1 + 0 = q_sum (fun r => q_b (v_c (aPn (cS xx.2.1)) (q_u xx.2.1) (r_p (aPn (cS xx.2.1)) r) 0 = 3)) (r + 1) := by rw [hc1]; show _ = q_sum _ r + q_b _; rw [q_b0 k3]
          refine lv_iload hx hb dL_arePanes_21 (lv_at hl 1 rfl) ?_
          refine lv_if_eq (tgt := 283) hx hb dL_arePanes_23 (by decide) (fun c_23 => ?_) (fun c_23 => ?_)
          · exact absurd c_23 (by decide)
          · refine lv_aload_n hx hb dL_arePanes_26 rfl (lv_at hl 5 rfl) ?_
            refine lv_iload hx hb dL_arePanes_27 (lv_at hl 0 rfl) ?_
            refine lv_iconst (v := nI 0) hx hb dL_arePanes_29 (by decide) ?_
            refine L_rd (as := [.int (q_pn xx.2.1 r), .int (nI 0)]) (rest := []) hF hE hA hP hD hS h0 hl.1 (rd_paneOf l D I C Q y0 r 0 hG hru (by omega)) (cwV 2 hts gL_arePanes_X8_paneOf rfl rfl rfl (by decide +kernel) ⟨Nat.le_of_ble_eq_true rfl, Nat.le_of_ble_eq_true rfl⟩) rfl rfl (Nat.le_of_ble_eq_true rfl) dL_arePanes_30 hcs (fun H locs hP hD hS => ?_)
            refine k_top (y := nI 0) (k0) ?_
            refine lv_istore (lv' := [(6, .int (nI 0)), (5, .int (q_pn xx.2.1 r)), (4, .int (nI 1)), (1, .int (nI (e1))), (2, .int (nI (s1))), (3, .int (nI (c1))), (0, .ref y0)]) hx hb dL_arePanes_33 hl (by decide) rfl (fun ls hl => ?_)
            refine lv_aload_n hx hb dL_arePanes_35 rfl (lv_at hl 6 rfl) ?_
            refine lv_iload hx hb dL_arePanes_36 (lv_at hl 1 rfl) ?_
            refine lv_iconst (v := nI 1) hx hb dL_arePanes_38 (by decide) ?_
            refine L_rd (as := [.int (q_pn xx.2.1 r), .int (nI 1)]) (rest := []) hF hE hA hP hD hS h0 hl.1 (rd_paneOf l D I C Q y0 r 1 hG hru (by omega)) (cwV 2 hts gL_arePanes_X8_paneOf rfl rfl rfl (by decide +kernel) ⟨Nat.le_of_ble_eq_true rfl, Nat.le_of_ble_eq_true rfl⟩) rfl rfl (Nat.le_of_ble_eq_true rfl) dL_arePanes_39 hcs (fun H locs hP hD hS => ?_)
            refine k_top (y := nI Nr) (hp1) ?_
            refine lv_istore (lv' := [(7, .int (nI Nr)), (6, .int (nI 0)), (5, .int (q_pn xx.2.1 r)), (4, .int (nI 1)), (1, .int (nI (e1))), (2, .int (nI (s1))), (3, .int (nI (c1))), (0, .ref y0)]) hx hb dL_arePanes_42 hl (by decide) rfl (fun ls hl => ?_)
            refine lv_aload_n hx hb dL_arePanes_44 rfl (lv_at hl 7 rfl) ?_
            refine lv_iload hx hb dL_arePanes_45 (lv_at hl 2 rfl) ?_
            refine lv_iconst (v := nI 5) hx hb dL_arePanes_47 (by decide) ?_
            refine L_rd (as := [.int (q_pn xx.2.1 r), .int (nI 5)]) (rest := []) hF hE hA hP hD hS h0 hl.1 (rd_paneOf l D I C Q y0 r 5 hG hru (by omega)) (cwV 2 hts gL_arePanes_X8_paneOf rfl rfl rfl (by decide +kernel) ⟨Nat.le_of_ble_eq_true rfl, Nat.le_of_ble_eq_true rfl⟩) rfl rfl (Nat.le_of_ble_eq_true rfl) dL_arePanes_48 hcs (fun H locs hP hD hS => ?_)
            refine lv_aload_n hx hb dL_arePanes_51 rfl (lv_at hl 7 rfl) ?_
            refine lv_iload hx hb dL_arePanes_52 (lv_at hl 2 rfl) ?_
            refine lv_bipush (v := nI 6) hx hb dL_arePanes_54 (by decide) ?_
            refine L_rd (as := [.int (q_pn xx.2.1 r), .int (nI 6)]) (rest := [.int (q_pof xx.2.1 r 5)]) hF hE hA hP hD hS h0 hl.1 (rd_paneOf l D I C Q y0 r 6 hG hru (by omega)) (cwV 2 hts gL_arePanes_X8_paneOf rfl rfl rfl (by decide +kernel) ⟨Nat.le_of_ble_eq_true rfl, Nat.le_of_ble_eq_true rfl⟩) rfl rfl (Nat.le_of_ble_eq_true rfl) dL_arePanes_56 hcs (fun H locs hP hD hS => ?_)
            refine lv_isub hx hb dL_arePanes_59 ?_
            refine k_top (y := nI 0) (kw) ?_
            refine lv_istore (lv' := [(8, .int (nI 0)), (7, .int (nI Nr)), (6, .int (nI 0)), (5, .int (q_pn xx.2.1 r)), (4, .int (nI 1)), (1, .int (nI (e1))), (2, .int (nI (s1))), (3, .int (nI (c1))), (0, .ref y0)]) hx hb dL_arePanes_60 hl (by decide) rfl (fun ls hl => ?_)
            refine lv_aload_n hx hb dL_arePanes_62 rfl (lv_at hl 8 rfl) ?_
            refine lv_iload hx hb dL_arePanes_63 (lv_at hl 3 rfl) ?_
            refine lv_iconst (v := nI 0) hx hb dL_arePanes_65 (by decide) ?_
            refine L_rd (as := [.int (q_pn xx.2.1 r), .int (nI 0)]) (rest := []) hF hE hA hP hD hS h0 hl.1 (rd_standing l D I C Q y0 r 0 hG hru (by omega)) (cwV 2 hts gL_arePanes_X8_standing rfl rfl rfl (by decide +kernel) ⟨Nat.le_of_ble_eq_true rfl, Nat.le_of_ble_eq_true rfl⟩) rfl rfl (Nat.le_of_ble_eq_true rfl) dL_arePanes_66 hcs (fun H locs hP hD hS => ?_)
            refine k_top (y := (-1000004)) (ks0) ?_
            refine lv_ldc hx hb hown (hts (.constant RL 62 (-1000004)) (List.mem_of_getElem? (i := 1) rfl)) dL_arePanes_69 ?_
            refine lv_icmp_eq (tgt := 78) hx hb dL_arePanes_71 (by decide) (fun c_71 => ?_) (fun c_71 => ?_)
            · refine lv_iconst (v := nI 0) hx hb dL_arePanes_78 (by decide) ?_
              refine lv_istore (lv' := [(9, .int (nI 0)), (8, .int (nI 0)), (7, .int (nI Nr)), (6, .int (nI 0)), (5, .int (q_pn xx.2.1 r)), (4, .int (nI 1)), (1, .int (nI (e1))), (2, .int (nI (s1))), (3, .int (nI (c1))), (0, .ref y0)]) hx hb dL_arePanes_79 hl (by decide) rfl (fun ls hl => ?_)
              refine lv_iload_n hx hb dL_arePanes_81 rfl (lv_at hl 6 rfl) ?_
              refine lv_iload hx hb dL_arePanes_82 (lv_at hl 2 rfl) ?_
              refine lv_iadd hx hb dL_arePanes_84 ?_
              refine k_top (y := nI (e1 + Nr)) (nI_add e1 Nr) ?_
              refine lv_istore_n (lv' := [(1, .int (nI (e1 + Nr))), (9, .int (nI 0)), (8, .int (nI 0)), (7, .int (nI Nr)), (6, .int (nI 0)), (5, .int (q_pn xx.2.1 r)), (4, .int (nI 1)), (2, .int (nI (s1))), (3, .int (nI (c1))), (0, .ref y0)]) hx hb dL_arePanes_85 rfl hl (by decide) rfl (fun ls hl => ?_)
              refine lv_iload_n hx hb dL_arePanes_86 rfl (lv_at hl 7 rfl) ?_
              refine lv_iload hx hb dL_arePanes_87 (lv_at hl 1 rfl) ?_
              refine lv_if_eq (tgt := 96) hx hb dL_arePanes_89 (by decide) (fun c_89 => ?_) (fun c_89 => ?_)
              · refine lv_iconst (v := nI 0) hx hb dL_arePanes_96 (by decide) ?_
                refine lv_iadd hx hb dL_arePanes_97 ?_
                refine k_top (y := nI (s1 + 0)) (nI_add s1 0) ?_
                refine lv_istore_n (lv' := [(2, .int (nI (s1 + 0))), (1, .int (nI (e1 + Nr))), (9, .int (nI 0)), (8, .int (nI 0)), (7, .int (nI Nr)), (6, .int (nI 0)), (5, .int (q_pn xx.2.1 r)), (4, .int (nI 1)), (3, .int (nI (c1))), (0, .ref y0)]) hx hb dL_arePanes_98 rfl hl (by decide) rfl (fun ls hl => ?_)
                refine lv_iload_n hx hb dL_arePanes_99 rfl (lv_at hl 8 rfl) ?_
                refine lv_iload hx hb dL_arePanes_100 (lv_at hl 5 rfl) ?_
                refine lv_iconst (v := nI 3) hx hb dL_arePanes_102 (by decide) ?_
                refine lv_icmp_ne (tgt := 110) hx hb dL_arePanes_103 (by decide) (fun c_103 => ?_) (fun c_103 => ?_)
                · refine lv_iconst (v := nI 0) hx hb dL_arePanes_110 (by decide) ?_
                  refine lv_iadd hx hb dL_arePanes_111 ?_
                  refine k_top (y := nI (c1 + 0)) (nI_add c1 0) ?_
                  refine lv_istore_n (lv' := [(3, .int (nI (c1 + 0))), (2, .int (nI (s1 + 0))), (1, .int (nI (e1 + Nr))), (9, .int (nI 0)), (8, .int (nI 0)), (7, .int (nI Nr)), (6, .int (nI 0)), (5, .int (q_pn xx.2.1 r)), (4, .int (nI 1)), (0, .ref y0)]) hx hb dL_arePanes_112 rfl hl (by decide) rfl (fun ls hl => ?_)
                  refine lv_iload hx hb dL_arePanes_113 (lv_at hl 5 rfl) ?_
                  refine lv_if_le (tgt := 159) hx hb dL_arePanes_115 (by decide) (fun c_115 => ?_) (fun c_115 => ?_)
                  · exact absurd ((nI_leI (a := Nr) (b := 0) (by omega) (by omega)).mp c_115) (by omega)
                  · refine lv_iload hx hb dL_arePanes_118 (lv_at hl 3 rfl) ?_
                    refine lv_iload hx hb dL_arePanes_120 (lv_at hl 6 rfl) ?_
                    refine lv_iconst (v := nI 1) hx hb dL_arePanes_122 (by decide) ?_
                    refine lv_icmp_eq (tgt := 132) hx hb dL_arePanes_123 (by decide) (fun c_123 => ?_) (fun c_123 => ?_)
                    · exact absurd c_123 (by decide)
                    · refine lv_iload hx hb dL_arePanes_126 (lv_at hl 6 rfl) ?_
                      refine lv_iconst (v := nI 3) hx hb dL_arePanes_128 (by decide) ?_
                      refine lv_icmp_ne (tgt := 136) hx hb dL_arePanes_129 (by decide) (fun c_129 => ?_) (fun c_129 => ?_)
                      · refine lv_iconst (v := nI 0) hx hb dL_arePanes_136 (by decide) ?_
                        refine lv_icmp_ne (tgt := 159) hx hb dL_arePanes_137 (by decide) (fun c_137 => ?_) (fun c_137 => ?_)
                        · exact absurd rfl c_137
                        · refine lv_iload hx hb dL_arePanes_140 (lv_at hl 4 rfl) ?_
                          refine lv_iload hx hb dL_arePanes_142 (lv_at hl 3 rfl) ?_
                          refine lv_if_eq (tgt := 151) hx hb dL_arePanes_144 (by decide) (fun c_144 => ?_) (fun c_144 => ?_)
                          · refine lv_iconst (v := nI 0) hx hb dL_arePanes_151 (by decide) ?_
                            refine lv_icmp_ne (tgt := 159) hx hb dL_arePanes_152 (by decide) (fun c_152 => ?_) (fun c_152 => ?_)
                            · exact absurd rfl c_152
                            · refine lv_iconst (v := nI 1) hx hb dL_arePanes_155 (by decide) ?_
                              refine lv_goto (tgt := 160) hx hb dL_arePanes_156 (by decide) ?_
                              refine lv_istore (lv' := [(4, .int (nI 1)), (3, .int (nI (c1 + 0))), (2, .int (nI (s1 + 0))), (1, .int (nI (e1 + Nr))), (9, .int (nI 0)), (8, .int (nI 0)), (7, .int (nI Nr)), (6, .int (nI 0)), (5, .int (q_pn xx.2.1 r)), (0, .ref y0)]) hx hb dL_arePanes_160 hl (by decide) rfl (fun ls hl => ?_)
                              refine lv_iload hx hb dL_arePanes_162 (lv_at hl 0 rfl) ?_
                              refine lv_if_eq (tgt := 205) hx hb dL_arePanes_164 (by decide) (fun c_164 => ?_) (fun c_164 => ?_)
                              · exact absurd c_164 (by decide)
                              · refine lv_iload hx hb dL_arePanes_167 (lv_at hl 4 rfl) ?_
                                refine lv_if_eq (tgt := 201) hx hb dL_arePanes_169 (by decide) (fun c_169 => ?_) (fun c_169 => ?_)
                                · refine lv_iconst (v := nI 1) hx hb dL_arePanes_201 (by decide) ?_
                                  refine lv_goto (tgt := 206) hx hb dL_arePanes_202 (by decide) ?_
                                  refine lv_istore (lv' := [(4, .int (nI 1)), (3, .int (nI (c1 + 0))), (2, .int (nI (s1 + 0))), (1, .int (nI (e1 + Nr))), (9, .int (nI 0)), (8, .int (nI 0)), (7, .int (nI Nr)), (6, .int (nI 0)), (5, .int (q_pn xx.2.1 r)), (0, .ref y0)]) hx hb dL_arePanes_206 hl (by decide) rfl (fun ls hl => ?_)
                                  refine lv_iload hx hb dL_arePanes_208 (lv_at hl 0 rfl) ?_
                                  refine lv_if_eq (tgt := 269) hx hb dL_arePanes_210 (by decide) (fun c_210 => ?_) (fun c_210 => ?_)
                                  · exact absurd c_210 (by decide)
                                  · refine lv_iload hx hb dL_arePanes_213 (lv_at hl 7 rfl) ?_
                                    refine lv_iconst (v := nI 2) hx hb dL_arePanes_215 (by decide) ?_
                                    refine lv_icmp_ne (tgt := 234) hx hb dL_arePanes_216 (by decide) (fun c_216 => ?_) (fun c_216 => ?_)
                                    · refine lv_aload_n hx hb dL_arePanes_234 rfl (lv_at hl 9 rfl) ?_
                                      refine lv_iload hx hb dL_arePanes_235 (lv_at hl 8 rfl) ?_
                                      refine lv_iconst (v := nI 4) hx hb dL_arePanes_237 (by decide) ?_
                                      refine L_rd (as := [.int (q_pn xx.2.1 r), .int (nI 4)]) (rest := []) hF hE hA hP hD hS h0 hl.1 (rd_paneOf l D I C Q y0 r 4 hG hru (by omega)) (cwV 2 hts gL_arePanes_X8_paneOf rfl rfl rfl (by decide +kernel) ⟨Nat.le_of_ble_eq_true rfl, Nat.le_of_ble_eq_true rfl⟩) rfl rfl (Nat.le_of_ble_eq_true rfl) dL_arePanes_238 hcs (fun H locs hP hD hS => ?_)
                                      refine k_top (y := (-1000004)) (k4) ?_
                                      refine lv_ldc hx hb hown (hts (.constant RL 62 (-1000004)) (List.mem_of_getElem? (i := 1) rfl)) dL_arePanes_241 ?_
                                      refine lv_icmp_ne (tgt := 250) hx hb dL_arePanes_243 (by decide) (fun c_243 => ?_) (fun c_243 => ?_)
                                      · exact absurd rfl c_243
                                      · refine lv_iconst (v := nI 1) hx hb dL_arePanes_246 (by decide) ?_
                                        refine lv_goto (tgt := 251) hx hb dL_arePanes_247 (by decide) ?_
                                        refine lv_iload hx hb dL_arePanes_251 (lv_at hl 7 rfl) ?_
                                        refine lv_iconst (v := nI 2) hx hb dL_arePanes_253 (by decide) ?_
                                        refine lv_icmp_eq (tgt := 261) hx hb dL_arePanes_254 (by decide) (fun c_254 => ?_) (fun c_254 => ?_)
                                        · exact absurd c_254 (by decide)
                                        · refine lv_iconst (v := nI 1) hx hb dL_arePanes_257 (by decide) ?_
                                          refine lv_goto (tgt := 262) hx hb dL_arePanes_258 (by decide) ?_
                                          refine lv_icmp_ne (tgt := 269) hx hb dL_arePanes_262 (by decide) (fun c_262 => ?_) (fun c_262 => ?_)
                                          · exact absurd rfl c_262
                                          · refine lv_iconst (v := nI 1) hx hb dL_arePanes_265 (by decide) ?_
                                            refine lv_goto (tgt := 270) hx hb dL_arePanes_266 (by decide) ?_
                                            refine lv_istore (lv' := [(4, .int (nI 1)), (3, .int (nI (c1 + 0))), (2, .int (nI (s1 + 0))), (1, .int (nI (e1 + Nr))), (9, .int (nI 0)), (8, .int (nI 0)), (7, .int (nI Nr)), (6, .int (nI 0)), (5, .int (q_pn xx.2.1 r)), (0, .ref y0)]) hx hb dL_arePanes_270 hl (by decide) rfl (fun ls hl => ?_)
                                            refine lv_aload_n hx hb dL_arePanes_272 rfl (lv_at hl 9 rfl) ?_
                                            refine lv_iload hx hb dL_arePanes_273 (lv_at hl 8 rfl) ?_
                                            refine L_rd (as := [.int (q_pn xx.2.1 r)]) (rest := []) hF hE hA hP hD hS h0 hl.1 (rd_nextP l D I C Q y0 r hG hru) (cwV 1 hts gL_arePanes_X8_nextPane rfl rfl rfl (by decide +kernel) ⟨Nat.le_of_ble_eq_true rfl, Nat.le_of_ble_eq_true rfl⟩) rfl rfl (Nat.le_of_ble_eq_true rfl) dL_arePanes_275 hcs (fun H locs hP hD hS => ?_)
                                            refine lv_istore (lv' := [(5, .int (q_nx (aPn (cS xx.2.1)) (q_u xx.2.1) (r + 1))), (4, .int (nI 1)), (3, .int (nI (c1 + 0))), (2, .int (nI (s1 + 0))), (1, .int (nI (e1 + Nr))), (9, .int (nI 0)), (8, .int (nI 0)), (7, .int (nI Nr)), (6, .int (nI 0)), (0, .ref y0)]) hx hb dL_arePanes_278 hl (by decide) rfl (fun ls hl => ?_)
                                            refine lv_goto (tgt := 16) hx hb dL_arePanes_280 (by decide) ?_
                                            exact ih (r + 1) (e1 + Nr) (s1 + 0) (c1 + 0) (by omega) hse hss hsc H locs ls hP hD hS (lv_sub hl [0, 1, 4, 3, 2, 9] rfl) kx
                                    · exact absurd c_216 (by decide)
                                · exact absurd rfl c_169
                          · exact absurd rfl c_144
                      · exact absurd c_129 (by decide)
                · exact absurd c_103 (by decide)
              · exact absurd rfl c_89
            · exact absurd rfl c_71
        · have hss : s1 + 1 = q_sum (fun r => q_b (s_d (aPn (cS xx.2.1)) (q_u xx.2.1) (r_p (aPn (cS xx.2.1)) r))) (r + 1) := by rw [hs1]; show _ = q_sum _ r + q_b _; rw [q_b1 ksd]
          have hsc : c1 + 0 = q_sum (fun r => q_b (v_c (aPn (cS xx.2.1)) (q_u xx.2.1) (r_p (aPn (cS xx.2.1)) r) 0 = 3)) (r + 1) := by rw [hc1]; show _ = q_sum _ r + q_b _; rw [q_b0 k3]
          refine lv_iload hx hb dL_arePanes_21 (lv_at hl 1 rfl) ?_
          refine lv_if_eq (tgt := 283) hx hb dL_arePanes_23 (by decide) (fun c_23 => ?_) (fun c_23 => ?_)
          · exact absurd c_23 (by decide)
          · refine lv_aload_n hx hb dL_arePanes_26 rfl (lv_at hl 5 rfl) ?_
            refine lv_iload hx hb dL_arePanes_27 (lv_at hl 0 rfl) ?_
            refine lv_iconst (v := nI 0) hx hb dL_arePanes_29 (by decide) ?_
            refine L_rd (as := [.int (q_pn xx.2.1 r), .int (nI 0)]) (rest := []) hF hE hA hP hD hS h0 hl.1 (rd_paneOf l D I C Q y0 r 0 hG hru (by omega)) (cwV 2 hts gL_arePanes_X8_paneOf rfl rfl rfl (by decide +kernel) ⟨Nat.le_of_ble_eq_true rfl, Nat.le_of_ble_eq_true rfl⟩) rfl rfl (Nat.le_of_ble_eq_true rfl) dL_arePanes_30 hcs (fun H locs hP hD hS => ?_)
            refine k_top (y := nI 1) (k0) ?_
            refine lv_istore (lv' := [(6, .int (nI 1)), (5, .int (q_pn xx.2.1 r)), (4, .int (nI 1)), (1, .int (nI (e1))), (2, .int (nI (s1))), (3, .int (nI (c1))), (0, .ref y0)]) hx hb dL_arePanes_33 hl (by decide) rfl (fun ls hl => ?_)
            refine lv_aload_n hx hb dL_arePanes_35 rfl (lv_at hl 6 rfl) ?_
            refine lv_iload hx hb dL_arePanes_36 (lv_at hl 1 rfl) ?_
            refine lv_iconst (v := nI 1) hx hb dL_arePanes_38 (by decide) ?_
            refine L_rd (as := [.int (q_pn xx.2.1 r), .int (nI 1)]) (rest := []) hF hE hA hP hD hS h0 hl.1 (rd_paneOf l D I C Q y0 r 1 hG hru (by omega)) (cwV 2 hts gL_arePanes_X8_paneOf rfl rfl rfl (by decide +kernel) ⟨Nat.le_of_ble_eq_true rfl, Nat.le_of_ble_eq_true rfl⟩) rfl rfl (Nat.le_of_ble_eq_true rfl) dL_arePanes_39 hcs (fun H locs hP hD hS => ?_)
            refine k_top (y := nI Nr) (hp1) ?_
            refine lv_istore (lv' := [(7, .int (nI Nr)), (6, .int (nI 1)), (5, .int (q_pn xx.2.1 r)), (4, .int (nI 1)), (1, .int (nI (e1))), (2, .int (nI (s1))), (3, .int (nI (c1))), (0, .ref y0)]) hx hb dL_arePanes_42 hl (by decide) rfl (fun ls hl => ?_)
            refine lv_aload_n hx hb dL_arePanes_44 rfl (lv_at hl 7 rfl) ?_
            refine lv_iload hx hb dL_arePanes_45 (lv_at hl 2 rfl) ?_
            refine lv_iconst (v := nI 5) hx hb dL_arePanes_47 (by decide) ?_
            refine L_rd (as := [.int (q_pn xx.2.1 r), .int (nI 5)]) (rest := []) hF hE hA hP hD hS h0 hl.1 (rd_paneOf l D I C Q y0 r 5 hG hru (by omega)) (cwV 2 hts gL_arePanes_X8_paneOf rfl rfl rfl (by decide +kernel) ⟨Nat.le_of_ble_eq_true rfl, Nat.le_of_ble_eq_true rfl⟩) rfl rfl (Nat.le_of_ble_eq_true rfl) dL_arePanes_48 hcs (fun H locs hP hD hS => ?_)
            refine lv_aload_n hx hb dL_arePanes_51 rfl (lv_at hl 7 rfl) ?_
            refine lv_iload hx hb dL_arePanes_52 (lv_at hl 2 rfl) ?_
            refine lv_bipush (v := nI 6) hx hb dL_arePanes_54 (by decide) ?_
            refine L_rd (as := [.int (q_pn xx.2.1 r), .int (nI 6)]) (rest := [.int (q_pof xx.2.1 r 5)]) hF hE hA hP hD hS h0 hl.1 (rd_paneOf l D I C Q y0 r 6 hG hru (by omega)) (cwV 2 hts gL_arePanes_X8_paneOf rfl rfl rfl (by decide +kernel) ⟨Nat.le_of_ble_eq_true rfl, Nat.le_of_ble_eq_true rfl⟩) rfl rfl (Nat.le_of_ble_eq_true rfl) dL_arePanes_56 hcs (fun H locs hP hD hS => ?_)
            refine lv_isub hx hb dL_arePanes_59 ?_
            refine k_top (y := nI 1) (kw) ?_
            refine lv_istore (lv' := [(8, .int (nI 1)), (7, .int (nI Nr)), (6, .int (nI 1)), (5, .int (q_pn xx.2.1 r)), (4, .int (nI 1)), (1, .int (nI (e1))), (2, .int (nI (s1))), (3, .int (nI (c1))), (0, .ref y0)]) hx hb dL_arePanes_60 hl (by decide) rfl (fun ls hl => ?_)
            refine lv_aload_n hx hb dL_arePanes_62 rfl (lv_at hl 8 rfl) ?_
            refine lv_iload hx hb dL_arePanes_63 (lv_at hl 3 rfl) ?_
            refine lv_iconst (v := nI 0) hx hb dL_arePanes_65 (by decide) ?_
            refine L_rd (as := [.int (q_pn xx.2.1 r), .int (nI 0)]) (rest := []) hF hE hA hP hD hS h0 hl.1 (rd_standing l D I C Q y0 r 0 hG hru (by omega)) (cwV 2 hts gL_arePanes_X8_standing rfl rfl rfl (by decide +kernel) ⟨Nat.le_of_ble_eq_true rfl, Nat.le_of_ble_eq_true rfl⟩) rfl rfl (Nat.le_of_ble_eq_true rfl) dL_arePanes_66 hcs (fun H locs hP hD hS => ?_)
            refine k_top (y := nI Nr) (ks0) ?_
            refine lv_ldc hx hb hown (hts (.constant RL 62 (-1000004)) (List.mem_of_getElem? (i := 1) rfl)) dL_arePanes_69 ?_
            refine lv_icmp_eq (tgt := 78) hx hb dL_arePanes_71 (by decide) (fun c_71 => ?_) (fun c_71 => ?_)
            · exact absurd c_71 (nI_nf (by omega))
            · refine lv_iconst (v := nI 1) hx hb dL_arePanes_74 (by decide) ?_
              refine lv_goto (tgt := 79) hx hb dL_arePanes_75 (by decide) ?_
              refine lv_istore (lv' := [(9, .int (nI 1)), (8, .int (nI 1)), (7, .int (nI Nr)), (6, .int (nI 1)), (5, .int (q_pn xx.2.1 r)), (4, .int (nI 1)), (1, .int (nI (e1))), (2, .int (nI (s1))), (3, .int (nI (c1))), (0, .ref y0)]) hx hb dL_arePanes_79 hl (by decide) rfl (fun ls hl => ?_)
              refine lv_iload_n hx hb dL_arePanes_81 rfl (lv_at hl 6 rfl) ?_
              refine lv_iload hx hb dL_arePanes_82 (lv_at hl 2 rfl) ?_
              refine lv_iadd hx hb dL_arePanes_84 ?_
              refine k_top (y := nI (e1 + Nr)) (nI_add e1 Nr) ?_
              refine lv_istore_n (lv' := [(1, .int (nI (e1 + Nr))), (9, .int (nI 1)), (8, .int (nI 1)), (7, .int (nI Nr)), (6, .int (nI 1)), (5, .int (q_pn xx.2.1 r)), (4, .int (nI 1)), (2, .int (nI (s1))), (3, .int (nI (c1))), (0, .ref y0)]) hx hb dL_arePanes_85 rfl hl (by decide) rfl (fun ls hl => ?_)
              refine lv_iload_n hx hb dL_arePanes_86 rfl (lv_at hl 7 rfl) ?_
              refine lv_iload hx hb dL_arePanes_87 (lv_at hl 1 rfl) ?_
              refine lv_if_eq (tgt := 96) hx hb dL_arePanes_89 (by decide) (fun c_89 => ?_) (fun c_89 => ?_)
              · exact absurd c_89 (by decide)
              · refine lv_iconst (v := nI 1) hx hb dL_arePanes_92 (by decide) ?_
                refine lv_goto (tgt := 97) hx hb dL_arePanes_93 (by decide) ?_
                refine lv_iadd hx hb dL_arePanes_97 ?_
                refine k_top (y := nI (s1 + 1)) (nI_add s1 1) ?_
                refine lv_istore_n (lv' := [(2, .int (nI (s1 + 1))), (1, .int (nI (e1 + Nr))), (9, .int (nI 1)), (8, .int (nI 1)), (7, .int (nI Nr)), (6, .int (nI 1)), (5, .int (q_pn xx.2.1 r)), (4, .int (nI 1)), (3, .int (nI (c1))), (0, .ref y0)]) hx hb dL_arePanes_98 rfl hl (by decide) rfl (fun ls hl => ?_)
                refine lv_iload_n hx hb dL_arePanes_99 rfl (lv_at hl 8 rfl) ?_
                refine lv_iload hx hb dL_arePanes_100 (lv_at hl 5 rfl) ?_
                refine lv_iconst (v := nI 3) hx hb dL_arePanes_102 (by decide) ?_
                refine lv_icmp_ne (tgt := 110) hx hb dL_arePanes_103 (by decide) (fun c_103 => ?_) (fun c_103 => ?_)
                · refine lv_iconst (v := nI 0) hx hb dL_arePanes_110 (by decide) ?_
                  refine lv_iadd hx hb dL_arePanes_111 ?_
                  refine k_top (y := nI (c1 + 0)) (nI_add c1 0) ?_
                  refine lv_istore_n (lv' := [(3, .int (nI (c1 + 0))), (2, .int (nI (s1 + 1))), (1, .int (nI (e1 + Nr))), (9, .int (nI 1)), (8, .int (nI 1)), (7, .int (nI Nr)), (6, .int (nI 1)), (5, .int (q_pn xx.2.1 r)), (4, .int (nI 1)), (0, .ref y0)]) hx hb dL_arePanes_112 rfl hl (by decide) rfl (fun ls hl => ?_)
                  refine lv_iload hx hb dL_arePanes_113 (lv_at hl 5 rfl) ?_
                  refine lv_if_le (tgt := 159) hx hb dL_arePanes_115 (by decide) (fun c_115 => ?_) (fun c_115 => ?_)
                  · exact absurd ((nI_leI (a := Nr) (b := 0) (by omega) (by omega)).mp c_115) (by omega)
                  · refine lv_iload hx hb dL_arePanes_118 (lv_at hl 3 rfl) ?_
                    refine lv_iload hx hb dL_arePanes_120 (lv_at hl 6 rfl) ?_
                    refine lv_iconst (v := nI 1) hx hb dL_arePanes_122 (by decide) ?_
                    refine lv_icmp_eq (tgt := 132) hx hb dL_arePanes_123 (by decide) (fun c_123 => ?_) (fun c_123 => ?_)
                    · refine lv_iconst (v := nI 1) hx hb dL_arePanes_132 (by decide) ?_
                      refine lv_goto (tgt := 137) hx hb dL_arePanes_133 (by decide) ?_
                      refine lv_icmp_ne (tgt := 159) hx hb dL_arePanes_137 (by decide) (fun c_137 => ?_) (fun c_137 => ?_)
                      · exact absurd rfl c_137
                      · refine lv_iload hx hb dL_arePanes_140 (lv_at hl 4 rfl) ?_
                        refine lv_iload hx hb dL_arePanes_142 (lv_at hl 3 rfl) ?_
                        refine lv_if_eq (tgt := 151) hx hb dL_arePanes_144 (by decide) (fun c_144 => ?_) (fun c_144 => ?_)
                        · exact absurd c_144 (by decide)
                        · refine lv_iconst (v := nI 1) hx hb dL_arePanes_147 (by decide) ?_
                          refine lv_goto (tgt := 152) hx hb dL_arePanes_148 (by decide) ?_
                          refine lv_icmp_ne (tgt := 159) hx hb dL_arePanes_152 (by decide) (fun c_152 => ?_) (fun c_152 => ?_)
                          · exact absurd rfl c_152
                          · refine lv_iconst (v := nI 1) hx hb dL_arePanes_155 (by decide) ?_
                            refine lv_goto (tgt := 160) hx hb dL_arePanes_156 (by decide) ?_
                            refine lv_istore (lv' := [(4, .int (nI 1)), (3, .int (nI (c1 + 0))), (2, .int (nI (s1 + 1))), (1, .int (nI (e1 + Nr))), (9, .int (nI 1)), (8, .int (nI 1)), (7, .int (nI Nr)), (6, .int (nI 1)), (5, .int (q_pn xx.2.1 r)), (0, .ref y0)]) hx hb dL_arePanes_160 hl (by decide) rfl (fun ls hl => ?_)
                            refine lv_iload hx hb dL_arePanes_162 (lv_at hl 0 rfl) ?_
                            refine lv_if_eq (tgt := 205) hx hb dL_arePanes_164 (by decide) (fun c_164 => ?_) (fun c_164 => ?_)
                            · exact absurd c_164 (by decide)
                            · refine lv_iload hx hb dL_arePanes_167 (lv_at hl 4 rfl) ?_
                              refine lv_if_eq (tgt := 201) hx hb dL_arePanes_169 (by decide) (fun c_169 => ?_) (fun c_169 => ?_)
                              · exact absurd c_169 (by decide)
                              · refine lv_aload_n hx hb dL_arePanes_172 rfl (lv_at hl 9 rfl) ?_
                                refine lv_iload hx hb dL_arePanes_173 (lv_at hl 8 rfl) ?_
                                refine lv_iconst (v := nI 0) hx hb dL_arePanes_175 (by decide) ?_
                                refine L_rd (as := [.int (q_pn xx.2.1 r), .int (nI 0)]) (rest := []) hF hE hA hP hD hS h0 hl.1 (rd_standing l D I C Q y0 r 0 hG hru (by omega)) (cwV 2 hts gL_arePanes_X8_standing rfl rfl rfl (by decide +kernel) ⟨Nat.le_of_ble_eq_true rfl, Nat.le_of_ble_eq_true rfl⟩) rfl rfl (Nat.le_of_ble_eq_true rfl) dL_arePanes_176 hcs (fun H locs hP hD hS => ?_)
                                refine k_top (y := nI Nr) (ks0) ?_
                                refine lv_iload hx hb dL_arePanes_179 (lv_at hl 6 rfl) ?_
                                refine lv_icmp_ne (tgt := 205) hx hb dL_arePanes_181 (by decide) (fun c_181 => ?_) (fun c_181 => ?_)
                                · exact absurd rfl c_181
                                · refine lv_aload_n hx hb dL_arePanes_184 rfl (lv_at hl 9 rfl) ?_
                                  refine lv_iload hx hb dL_arePanes_185 (lv_at hl 8 rfl) ?_
                                  refine lv_iconst (v := nI 1) hx hb dL_arePanes_187 (by decide) ?_
                                  refine L_rd (as := [.int (q_pn xx.2.1 r), .int (nI 1)]) (rest := []) hF hE hA hP hD hS h0 hl.1 (rd_standing l D I C Q y0 r 1 hG hru (by omega)) (cwV 2 hts gL_arePanes_X8_standing rfl rfl rfl (by decide +kernel) ⟨Nat.le_of_ble_eq_true rfl, Nat.le_of_ble_eq_true rfl⟩) rfl rfl (Nat.le_of_ble_eq_true rfl) dL_arePanes_188 hcs (fun H locs hP hD hS => ?_)
                                  refine k_top (y := q_pof xx.2.1 r 2) (ks1) ?_
                                  refine lv_aload_n hx hb dL_arePanes_191 rfl (lv_at hl 9 rfl) ?_
                                  refine lv_iload hx hb dL_arePanes_192 (lv_at hl 8 rfl) ?_
                                  refine lv_iconst (v := nI 2) hx hb dL_arePanes_194 (by decide) ?_
                                  refine L_rd (as := [.int (q_pn xx.2.1 r), .int (nI 2)]) (rest := [.int (q_pof xx.2.1 r 2)]) hF hE hA hP hD hS h0 hl.1 (rd_paneOf l D I C Q y0 r 2 hG hru (by omega)) (cwV 2 hts gL_arePanes_X8_paneOf rfl rfl rfl (by decide +kernel) ⟨Nat.le_of_ble_eq_true rfl, Nat.le_of_ble_eq_true rfl⟩) rfl rfl (Nat.le_of_ble_eq_true rfl) dL_arePanes_195 hcs (fun H locs hP hD hS => ?_)
                                  refine lv_icmp_ne (tgt := 205) hx hb dL_arePanes_198 (by decide) (fun c_198 => ?_) (fun c_198 => ?_)
                                  · exact absurd rfl c_198
                                  · refine lv_iconst (v := nI 1) hx hb dL_arePanes_201 (by decide) ?_
                                    refine lv_goto (tgt := 206) hx hb dL_arePanes_202 (by decide) ?_
                                    refine lv_istore (lv' := [(4, .int (nI 1)), (3, .int (nI (c1 + 0))), (2, .int (nI (s1 + 1))), (1, .int (nI (e1 + Nr))), (9, .int (nI 1)), (8, .int (nI 1)), (7, .int (nI Nr)), (6, .int (nI 1)), (5, .int (q_pn xx.2.1 r)), (0, .ref y0)]) hx hb dL_arePanes_206 hl (by decide) rfl (fun ls hl => ?_)
                                    refine lv_iload hx hb dL_arePanes_208 (lv_at hl 0 rfl) ?_
                                    refine lv_if_eq (tgt := 269) hx hb dL_arePanes_210 (by decide) (fun c_210 => ?_) (fun c_210 => ?_)
                                    · exact absurd c_210 (by decide)
                                    · refine lv_iload hx hb dL_arePanes_213 (lv_at hl 7 rfl) ?_
                                      refine lv_iconst (v := nI 2) hx hb dL_arePanes_215 (by decide) ?_
                                      refine lv_icmp_ne (tgt := 234) hx hb dL_arePanes_216 (by decide) (fun c_216 => ?_) (fun c_216 => ?_)
                                      · refine lv_aload_n hx hb dL_arePanes_234 rfl (lv_at hl 9 rfl) ?_
                                        refine lv_iload hx hb dL_arePanes_235 (lv_at hl 8 rfl) ?_
                                        refine lv_iconst (v := nI 4) hx hb dL_arePanes_237 (by decide) ?_
                                        refine L_rd (as := [.int (q_pn xx.2.1 r), .int (nI 4)]) (rest := []) hF hE hA hP hD hS h0 hl.1 (rd_paneOf l D I C Q y0 r 4 hG hru (by omega)) (cwV 2 hts gL_arePanes_X8_paneOf rfl rfl rfl (by decide +kernel) ⟨Nat.le_of_ble_eq_true rfl, Nat.le_of_ble_eq_true rfl⟩) rfl rfl (Nat.le_of_ble_eq_true rfl) dL_arePanes_238 hcs (fun H locs hP hD hS => ?_)
                                        refine k_top (y := (-1000004)) (k4) ?_
                                        refine lv_ldc hx hb hown (hts (.constant RL 62 (-1000004)) (List.mem_of_getElem? (i := 1) rfl)) dL_arePanes_241 ?_
                                        refine lv_icmp_ne (tgt := 250) hx hb dL_arePanes_243 (by decide) (fun c_243 => ?_) (fun c_243 => ?_)
                                        · exact absurd rfl c_243
                                        · refine lv_iconst (v := nI 1) hx hb dL_arePanes_246 (by decide) ?_
                                          refine lv_goto (tgt := 251) hx hb dL_arePanes_247 (by decide) ?_
                                          refine lv_iload hx hb dL_arePanes_251 (lv_at hl 7 rfl) ?_
                                          refine lv_iconst (v := nI 2) hx hb dL_arePanes_253 (by decide) ?_
                                          refine lv_icmp_eq (tgt := 261) hx hb dL_arePanes_254 (by decide) (fun c_254 => ?_) (fun c_254 => ?_)
                                          · exact absurd c_254 (by decide)
                                          · refine lv_iconst (v := nI 1) hx hb dL_arePanes_257 (by decide) ?_
                                            refine lv_goto (tgt := 262) hx hb dL_arePanes_258 (by decide) ?_
                                            refine lv_icmp_ne (tgt := 269) hx hb dL_arePanes_262 (by decide) (fun c_262 => ?_) (fun c_262 => ?_)
                                            · exact absurd rfl c_262
                                            · refine lv_iconst (v := nI 1) hx hb dL_arePanes_265 (by decide) ?_
                                              refine lv_goto (tgt := 270) hx hb dL_arePanes_266 (by decide) ?_
                                              refine lv_istore (lv' := [(4, .int (nI 1)), (3, .int (nI (c1 + 0))), (2, .int (nI (s1 + 1))), (1, .int (nI (e1 + Nr))), (9, .int (nI 1)), (8, .int (nI 1)), (7, .int (nI Nr)), (6, .int (nI 1)), (5, .int (q_pn xx.2.1 r)), (0, .ref y0)]) hx hb dL_arePanes_270 hl (by decide) rfl (fun ls hl => ?_)
                                              refine lv_aload_n hx hb dL_arePanes_272 rfl (lv_at hl 9 rfl) ?_
                                              refine lv_iload hx hb dL_arePanes_273 (lv_at hl 8 rfl) ?_
                                              refine L_rd (as := [.int (q_pn xx.2.1 r)]) (rest := []) hF hE hA hP hD hS h0 hl.1 (rd_nextP l D I C Q y0 r hG hru) (cwV 1 hts gL_arePanes_X8_nextPane rfl rfl rfl (by decide +kernel) ⟨Nat.le_of_ble_eq_true rfl, Nat.le_of_ble_eq_true rfl⟩) rfl rfl (Nat.le_of_ble_eq_true rfl) dL_arePanes_275 hcs (fun H locs hP hD hS => ?_)
                                              refine lv_istore (lv' := [(5, .int (q_nx (aPn (cS xx.2.1)) (q_u xx.2.1) (r + 1))), (4, .int (nI 1)), (3, .int (nI (c1 + 0))), (2, .int (nI (s1 + 1))), (1, .int (nI (e1 + Nr))), (9, .int (nI 1)), (8, .int (nI 1)), (7, .int (nI Nr)), (6, .int (nI 1)), (0, .ref y0)]) hx hb dL_arePanes_278 hl (by decide) rfl (fun ls hl => ?_)
                                              refine lv_goto (tgt := 16) hx hb dL_arePanes_280 (by decide) ?_
                                              exact ih (r + 1) (e1 + Nr) (s1 + 1) (c1 + 0) (by omega) hse hss hsc H locs ls hP hD hS (lv_sub hl [0, 1, 4, 3, 2, 9] rfl) kx
                                      · exact absurd c_216 (by decide)
                    · exact absurd rfl c_123
                · exact absurd c_103 (by decide)
        · have hss : s1 + 0 = q_sum (fun r => q_b (s_d (aPn (cS xx.2.1)) (q_u xx.2.1) (r_p (aPn (cS xx.2.1)) r))) (r + 1) := by rw [hs1]; show _ = q_sum _ r + q_b _; rw [q_b0 ksd]
          have hsc : c1 + 0 = q_sum (fun r => q_b (v_c (aPn (cS xx.2.1)) (q_u xx.2.1) (r_p (aPn (cS xx.2.1)) r) 0 = 3)) (r + 1) := by rw [hc1]; show _ = q_sum _ r + q_b _; rw [q_b0 k3]
          refine lv_iload hx hb dL_arePanes_21 (lv_at hl 1 rfl) ?_
          refine lv_if_eq (tgt := 283) hx hb dL_arePanes_23 (by decide) (fun c_23 => ?_) (fun c_23 => ?_)
          · exact absurd c_23 (by decide)
          · refine lv_aload_n hx hb dL_arePanes_26 rfl (lv_at hl 5 rfl) ?_
            refine lv_iload hx hb dL_arePanes_27 (lv_at hl 0 rfl) ?_
            refine lv_iconst (v := nI 0) hx hb dL_arePanes_29 (by decide) ?_
            refine L_rd (as := [.int (q_pn xx.2.1 r), .int (nI 0)]) (rest := []) hF hE hA hP hD hS h0 hl.1 (rd_paneOf l D I C Q y0 r 0 hG hru (by omega)) (cwV 2 hts gL_arePanes_X8_paneOf rfl rfl rfl (by decide +kernel) ⟨Nat.le_of_ble_eq_true rfl, Nat.le_of_ble_eq_true rfl⟩) rfl rfl (Nat.le_of_ble_eq_true rfl) dL_arePanes_30 hcs (fun H locs hP hD hS => ?_)
            refine k_top (y := nI 2) (k0) ?_
            refine lv_istore (lv' := [(6, .int (nI 2)), (5, .int (q_pn xx.2.1 r)), (4, .int (nI 1)), (1, .int (nI (e1))), (2, .int (nI (s1))), (3, .int (nI (c1))), (0, .ref y0)]) hx hb dL_arePanes_33 hl (by decide) rfl (fun ls hl => ?_)
            refine lv_aload_n hx hb dL_arePanes_35 rfl (lv_at hl 6 rfl) ?_
            refine lv_iload hx hb dL_arePanes_36 (lv_at hl 1 rfl) ?_
            refine lv_iconst (v := nI 1) hx hb dL_arePanes_38 (by decide) ?_
            refine L_rd (as := [.int (q_pn xx.2.1 r), .int (nI 1)]) (rest := []) hF hE hA hP hD hS h0 hl.1 (rd_paneOf l D I C Q y0 r 1 hG hru (by omega)) (cwV 2 hts gL_arePanes_X8_paneOf rfl rfl rfl (by decide +kernel) ⟨Nat.le_of_ble_eq_true rfl, Nat.le_of_ble_eq_true rfl⟩) rfl rfl (Nat.le_of_ble_eq_true rfl) dL_arePanes_39 hcs (fun H locs hP hD hS => ?_)
            refine k_top (y := nI Nr) (hp1) ?_
            refine lv_istore (lv' := [(7, .int (nI Nr)), (6, .int (nI 2)), (5, .int (q_pn xx.2.1 r)), (4, .int (nI 1)), (1, .int (nI (e1))), (2, .int (nI (s1))), (3, .int (nI (c1))), (0, .ref y0)]) hx hb dL_arePanes_42 hl (by decide) rfl (fun ls hl => ?_)
            refine lv_aload_n hx hb dL_arePanes_44 rfl (lv_at hl 7 rfl) ?_
            refine lv_iload hx hb dL_arePanes_45 (lv_at hl 2 rfl) ?_
            refine lv_iconst (v := nI 5) hx hb dL_arePanes_47 (by decide) ?_
            refine L_rd (as := [.int (q_pn xx.2.1 r), .int (nI 5)]) (rest := []) hF hE hA hP hD hS h0 hl.1 (rd_paneOf l D I C Q y0 r 5 hG hru (by omega)) (cwV 2 hts gL_arePanes_X8_paneOf rfl rfl rfl (by decide +kernel) ⟨Nat.le_of_ble_eq_true rfl, Nat.le_of_ble_eq_true rfl⟩) rfl rfl (Nat.le_of_ble_eq_true rfl) dL_arePanes_48 hcs (fun H locs hP hD hS => ?_)
            refine lv_aload_n hx hb dL_arePanes_51 rfl (lv_at hl 7 rfl) ?_
            refine lv_iload hx hb dL_arePanes_52 (lv_at hl 2 rfl) ?_
            refine lv_bipush (v := nI 6) hx hb dL_arePanes_54 (by decide) ?_
            refine L_rd (as := [.int (q_pn xx.2.1 r), .int (nI 6)]) (rest := [.int (q_pof xx.2.1 r 5)]) hF hE hA hP hD hS h0 hl.1 (rd_paneOf l D I C Q y0 r 6 hG hru (by omega)) (cwV 2 hts gL_arePanes_X8_paneOf rfl rfl rfl (by decide +kernel) ⟨Nat.le_of_ble_eq_true rfl, Nat.le_of_ble_eq_true rfl⟩) rfl rfl (Nat.le_of_ble_eq_true rfl) dL_arePanes_56 hcs (fun H locs hP hD hS => ?_)
            refine lv_isub hx hb dL_arePanes_59 ?_
            refine k_top (y := nI 0) (kw) ?_
            refine lv_istore (lv' := [(8, .int (nI 0)), (7, .int (nI Nr)), (6, .int (nI 2)), (5, .int (q_pn xx.2.1 r)), (4, .int (nI 1)), (1, .int (nI (e1))), (2, .int (nI (s1))), (3, .int (nI (c1))), (0, .ref y0)]) hx hb dL_arePanes_60 hl (by decide) rfl (fun ls hl => ?_)
            refine lv_aload_n hx hb dL_arePanes_62 rfl (lv_at hl 8 rfl) ?_
            refine lv_iload hx hb dL_arePanes_63 (lv_at hl 3 rfl) ?_
            refine lv_iconst (v := nI 0) hx hb dL_arePanes_65 (by decide) ?_
            refine L_rd (as := [.int (q_pn xx.2.1 r), .int (nI 0)]) (rest := []) hF hE hA hP hD hS h0 hl.1 (rd_standing l D I C Q y0 r 0 hG hru (by omega)) (cwV 2 hts gL_arePanes_X8_standing rfl rfl rfl (by decide +kernel) ⟨Nat.le_of_ble_eq_true rfl, Nat.le_of_ble_eq_true rfl⟩) rfl rfl (Nat.le_of_ble_eq_true rfl) dL_arePanes_66 hcs (fun H locs hP hD hS => ?_)
            refine k_top (y := (-1000004)) (ks0) ?_
            refine lv_ldc hx hb hown (hts (.constant RL 62 (-1000004)) (List.mem_of_getElem? (i := 1) rfl)) dL_arePanes_69 ?_
            refine lv_icmp_eq (tgt := 78) hx hb dL_arePanes_71 (by decide) (fun c_71 => ?_) (fun c_71 => ?_)
            · refine lv_iconst (v := nI 0) hx hb dL_arePanes_78 (by decide) ?_
              refine lv_istore (lv' := [(9, .int (nI 0)), (8, .int (nI 0)), (7, .int (nI Nr)), (6, .int (nI 2)), (5, .int (q_pn xx.2.1 r)), (4, .int (nI 1)), (1, .int (nI (e1))), (2, .int (nI (s1))), (3, .int (nI (c1))), (0, .ref y0)]) hx hb dL_arePanes_79 hl (by decide) rfl (fun ls hl => ?_)
              refine lv_iload_n hx hb dL_arePanes_81 rfl (lv_at hl 6 rfl) ?_
              refine lv_iload hx hb dL_arePanes_82 (lv_at hl 2 rfl) ?_
              refine lv_iadd hx hb dL_arePanes_84 ?_
              refine k_top (y := nI (e1 + Nr)) (nI_add e1 Nr) ?_
              refine lv_istore_n (lv' := [(1, .int (nI (e1 + Nr))), (9, .int (nI 0)), (8, .int (nI 0)), (7, .int (nI Nr)), (6, .int (nI 2)), (5, .int (q_pn xx.2.1 r)), (4, .int (nI 1)), (2, .int (nI (s1))), (3, .int (nI (c1))), (0, .ref y0)]) hx hb dL_arePanes_85 rfl hl (by decide) rfl (fun ls hl => ?_)
              refine lv_iload_n hx hb dL_arePanes_86 rfl (lv_at hl 7 rfl) ?_
              refine lv_iload hx hb dL_arePanes_87 (lv_at hl 1 rfl) ?_
              refine lv_if_eq (tgt := 96) hx hb dL_arePanes_89 (by decide) (fun c_89 => ?_) (fun c_89 => ?_)
              · refine lv_iconst (v := nI 0) hx hb dL_arePanes_96 (by decide) ?_
                refine lv_iadd hx hb dL_arePanes_97 ?_
                refine k_top (y := nI (s1 + 0)) (nI_add s1 0) ?_
                refine lv_istore_n (lv' := [(2, .int (nI (s1 + 0))), (1, .int (nI (e1 + Nr))), (9, .int (nI 0)), (8, .int (nI 0)), (7, .int (nI Nr)), (6, .int (nI 2)), (5, .int (q_pn xx.2.1 r)), (4, .int (nI 1)), (3, .int (nI (c1))), (0, .ref y0)]) hx hb dL_arePanes_98 rfl hl (by decide) rfl (fun ls hl => ?_)
                refine lv_iload_n hx hb dL_arePanes_99 rfl (lv_at hl 8 rfl) ?_
                refine lv_iload hx hb dL_arePanes_100 (lv_at hl 5 rfl) ?_
                refine lv_iconst (v := nI 3) hx hb dL_arePanes_102 (by decide) ?_
                refine lv_icmp_ne (tgt := 110) hx hb dL_arePanes_103 (by decide) (fun c_103 => ?_) (fun c_103 => ?_)
                · refine lv_iconst (v := nI 0) hx hb dL_arePanes_110 (by decide) ?_
                  refine lv_iadd hx hb dL_arePanes_111 ?_
                  refine k_top (y := nI (c1 + 0)) (nI_add c1 0) ?_
                  refine lv_istore_n (lv' := [(3, .int (nI (c1 + 0))), (2, .int (nI (s1 + 0))), (1, .int (nI (e1 + Nr))), (9, .int (nI 0)), (8, .int (nI 0)), (7, .int (nI Nr)), (6, .int (nI 2)), (5, .int (q_pn xx.2.1 r)), (4, .int (nI 1)), (0, .ref y0)]) hx hb dL_arePanes_112 rfl hl (by decide) rfl (fun ls hl => ?_)
                  refine lv_iload hx hb dL_arePanes_113 (lv_at hl 5 rfl) ?_
                  refine lv_if_le (tgt := 159) hx hb dL_arePanes_115 (by decide) (fun c_115 => ?_) (fun c_115 => ?_)
                  · exact absurd ((nI_leI (a := Nr) (b := 0) (by omega) (by omega)).mp c_115) (by omega)
                  · refine lv_iload hx hb dL_arePanes_118 (lv_at hl 3 rfl) ?_
                    refine lv_iload hx hb dL_arePanes_120 (lv_at hl 6 rfl) ?_
                    refine lv_iconst (v := nI 1) hx hb dL_arePanes_122 (by decide) ?_
                    refine lv_icmp_eq (tgt := 132) hx hb dL_arePanes_123 (by decide) (fun c_123 => ?_) (fun c_123 => ?_)
                    · exact absurd c_123 (by decide)
                    · refine lv_iload hx hb dL_arePanes_126 (lv_at hl 6 rfl) ?_
                      refine lv_iconst (v := nI 3) hx hb dL_arePanes_128 (by decide) ?_
                      refine lv_icmp_ne (tgt := 136) hx hb dL_arePanes_129 (by decide) (fun c_129 => ?_) (fun c_129 => ?_)
                      · refine lv_iconst (v := nI 0) hx hb dL_arePanes_136 (by decide) ?_
                        refine lv_icmp_ne (tgt := 159) hx hb dL_arePanes_137 (by decide) (fun c_137 => ?_) (fun c_137 => ?_)
                        · exact absurd rfl c_137
                        · refine lv_iload hx hb dL_arePanes_140 (lv_at hl 4 rfl) ?_
                          refine lv_iload hx hb dL_arePanes_142 (lv_at hl 3 rfl) ?_
                          refine lv_if_eq (tgt := 151) hx hb dL_arePanes_144 (by decide) (fun c_144 => ?_) (fun c_144 => ?_)
                          · refine lv_iconst (v := nI 0) hx hb dL_arePanes_151 (by decide) ?_
                            refine lv_icmp_ne (tgt := 159) hx hb dL_arePanes_152 (by decide) (fun c_152 => ?_) (fun c_152 => ?_)
                            · exact absurd rfl c_152
                            · refine lv_iconst (v := nI 1) hx hb dL_arePanes_155 (by decide) ?_
                              refine lv_goto (tgt := 160) hx hb dL_arePanes_156 (by decide) ?_
                              refine lv_istore (lv' := [(4, .int (nI 1)), (3, .int (nI (c1 + 0))), (2, .int (nI (s1 + 0))), (1, .int (nI (e1 + Nr))), (9, .int (nI 0)), (8, .int (nI 0)), (7, .int (nI Nr)), (6, .int (nI 2)), (5, .int (q_pn xx.2.1 r)), (0, .ref y0)]) hx hb dL_arePanes_160 hl (by decide) rfl (fun ls hl => ?_)
                              refine lv_iload hx hb dL_arePanes_162 (lv_at hl 0 rfl) ?_
                              refine lv_if_eq (tgt := 205) hx hb dL_arePanes_164 (by decide) (fun c_164 => ?_) (fun c_164 => ?_)
                              · exact absurd c_164 (by decide)
                              · refine lv_iload hx hb dL_arePanes_167 (lv_at hl 4 rfl) ?_
                                refine lv_if_eq (tgt := 201) hx hb dL_arePanes_169 (by decide) (fun c_169 => ?_) (fun c_169 => ?_)
                                · refine lv_iconst (v := nI 1) hx hb dL_arePanes_201 (by decide) ?_
                                  refine lv_goto (tgt := 206) hx hb dL_arePanes_202 (by decide) ?_
                                  refine lv_istore (lv' := [(4, .int (nI 1)), (3, .int (nI (c1 + 0))), (2, .int (nI (s1 + 0))), (1, .int (nI (e1 + Nr))), (9, .int (nI 0)), (8, .int (nI 0)), (7, .int (nI Nr)), (6, .int (nI 2)), (5, .int (q_pn xx.2.1 r)), (0, .ref y0)]) hx hb dL_arePanes_206 hl (by decide) rfl (fun ls hl => ?_)
                                  refine lv_iload hx hb dL_arePanes_208 (lv_at hl 0 rfl) ?_
                                  refine lv_if_eq (tgt := 269) hx hb dL_arePanes_210 (by decide) (fun c_210 => ?_) (fun c_210 => ?_)
                                  · exact absurd c_210 (by decide)
                                  · refine lv_iload hx hb dL_arePanes_213 (lv_at hl 7 rfl) ?_
                                    refine lv_iconst (v := nI 2) hx hb dL_arePanes_215 (by decide) ?_
                                    refine lv_icmp_ne (tgt := 234) hx hb dL_arePanes_216 (by decide) (fun c_216 => ?_) (fun c_216 => ?_)
                                    · exact absurd rfl c_216
                                    · refine lv_aload_n hx hb dL_arePanes_219 rfl (lv_at hl 9 rfl) ?_
                                      refine lv_iload hx hb dL_arePanes_220 (lv_at hl 8 rfl) ?_
                                      refine lv_iconst (v := nI 4) hx hb dL_arePanes_222 (by decide) ?_
                                      refine L_rd (as := [.int (q_pn xx.2.1 r), .int (nI 4)]) (rest := []) hF hE hA hP hD hS h0 hl.1 (rd_paneOf l D I C Q y0 r 4 hG hru (by omega)) (cwV 2 hts gL_arePanes_X8_paneOf rfl rfl rfl (by decide +kernel) ⟨Nat.le_of_ble_eq_true rfl, Nat.le_of_ble_eq_true rfl⟩) rfl rfl (Nat.le_of_ble_eq_true rfl) dL_arePanes_223 hcs (fun H locs hP hD hS => ?_)
                                      refine lv_aload_n hx hb dL_arePanes_226 rfl (lv_at hl 9 rfl) ?_
                                      refine lv_iconst (v := nI 5) hx hb dL_arePanes_227 (by decide) ?_
                                      refine L_rd (as := [.int (nI 5)]) (rest := [.int (q_pof xx.2.1 r 4)]) hF hE hA hP hD hS h0 hl.1 (rd_count l D I C Q y0 5 hG (by omega)) (cwV 1 hts gL_arePanes_X8_count rfl rfl rfl (by decide +kernel) ⟨Nat.le_of_ble_eq_true rfl, Nat.le_of_ble_eq_true rfl⟩) rfl rfl (Nat.le_of_ble_eq_true rfl) dL_arePanes_228 hcs (fun H locs hP hD hS => ?_)
                                      refine lv_icmp_le (tgt := 269) hx hb dL_arePanes_231 (by decide) (fun c_231 => ?_) (fun c_231 => ?_)
                                      · exact absurd k5 (i_nlt c_231)
                                      · refine lv_aload_n hx hb dL_arePanes_234 rfl (lv_at hl 9 rfl) ?_
                                        refine lv_iload hx hb dL_arePanes_235 (lv_at hl 8 rfl) ?_
                                        refine lv_iconst (v := nI 4) hx hb dL_arePanes_237 (by decide) ?_
                                        refine L_rd (as := [.int (q_pn xx.2.1 r), .int (nI 4)]) (rest := []) hF hE hA hP hD hS h0 hl.1 (rd_paneOf l D I C Q y0 r 4 hG hru (by omega)) (cwV 2 hts gL_arePanes_X8_paneOf rfl rfl rfl (by decide +kernel) ⟨Nat.le_of_ble_eq_true rfl, Nat.le_of_ble_eq_true rfl⟩) rfl rfl (Nat.le_of_ble_eq_true rfl) dL_arePanes_238 hcs (fun H locs hP hD hS => ?_)
                                        refine lv_ldc hx hb hown (hts (.constant RL 62 (-1000004)) (List.mem_of_getElem? (i := 1) rfl)) dL_arePanes_241 ?_
                                        refine lv_icmp_ne (tgt := 250) hx hb dL_arePanes_243 (by decide) (fun c_243 => ?_) (fun c_243 => ?_)
                                        · refine lv_iconst (v := nI 0) hx hb dL_arePanes_250 (by decide) ?_
                                          refine lv_iload hx hb dL_arePanes_251 (lv_at hl 7 rfl) ?_
                                          refine lv_iconst (v := nI 2) hx hb dL_arePanes_253 (by decide) ?_
                                          refine lv_icmp_eq (tgt := 261) hx hb dL_arePanes_254 (by decide) (fun c_254 => ?_) (fun c_254 => ?_)
                                          · refine lv_iconst (v := nI 0) hx hb dL_arePanes_261 (by decide) ?_
                                            refine lv_icmp_ne (tgt := 269) hx hb dL_arePanes_262 (by decide) (fun c_262 => ?_) (fun c_262 => ?_)
                                            · exact absurd rfl c_262
                                            · refine lv_iconst (v := nI 1) hx hb dL_arePanes_265 (by decide) ?_
                                              refine lv_goto (tgt := 270) hx hb dL_arePanes_266 (by decide) ?_
                                              refine lv_istore (lv' := [(4, .int (nI 1)), (3, .int (nI (c1 + 0))), (2, .int (nI (s1 + 0))), (1, .int (nI (e1 + Nr))), (9, .int (nI 0)), (8, .int (nI 0)), (7, .int (nI Nr)), (6, .int (nI 2)), (5, .int (q_pn xx.2.1 r)), (0, .ref y0)]) hx hb dL_arePanes_270 hl (by decide) rfl (fun ls hl => ?_)
                                              refine lv_aload_n hx hb dL_arePanes_272 rfl (lv_at hl 9 rfl) ?_
                                              refine lv_iload hx hb dL_arePanes_273 (lv_at hl 8 rfl) ?_
                                              refine L_rd (as := [.int (q_pn xx.2.1 r)]) (rest := []) hF hE hA hP hD hS h0 hl.1 (rd_nextP l D I C Q y0 r hG hru) (cwV 1 hts gL_arePanes_X8_nextPane rfl rfl rfl (by decide +kernel) ⟨Nat.le_of_ble_eq_true rfl, Nat.le_of_ble_eq_true rfl⟩) rfl rfl (Nat.le_of_ble_eq_true rfl) dL_arePanes_275 hcs (fun H locs hP hD hS => ?_)
                                              refine lv_istore (lv' := [(5, .int (q_nx (aPn (cS xx.2.1)) (q_u xx.2.1) (r + 1))), (4, .int (nI 1)), (3, .int (nI (c1 + 0))), (2, .int (nI (s1 + 0))), (1, .int (nI (e1 + Nr))), (9, .int (nI 0)), (8, .int (nI 0)), (7, .int (nI Nr)), (6, .int (nI 2)), (0, .ref y0)]) hx hb dL_arePanes_278 hl (by decide) rfl (fun ls hl => ?_)
                                              refine lv_goto (tgt := 16) hx hb dL_arePanes_280 (by decide) ?_
                                              exact ih (r + 1) (e1 + Nr) (s1 + 0) (c1 + 0) (by omega) hse hss hsc H locs ls hP hD hS (lv_sub hl [0, 1, 4, 3, 2, 9] rfl) kx
                                          · exact absurd rfl c_254
                                        · exact absurd c_243 k4
                                · exact absurd rfl c_169
                          · exact absurd rfl c_144
                      · exact absurd c_129 (by decide)
                · exact absurd c_103 (by decide)
              · exact absurd rfl c_89
            · exact absurd rfl c_71
        · have hss : s1 + 1 = q_sum (fun r => q_b (s_d (aPn (cS xx.2.1)) (q_u xx.2.1) (r_p (aPn (cS xx.2.1)) r))) (r + 1) := by rw [hs1]; show _ = q_sum _ r + q_b _; rw [q_b1 ksd]
          have hsc : c1 + 1 = q_sum (fun r => q_b (v_c (aPn (cS xx.2.1)) (q_u xx.2.1) (r_p (aPn (cS xx.2.1)) r) 0 = 3)) (r + 1) := by rw [hc1]; show _ = q_sum _ r + q_b _; rw [q_b1 k3]
          refine lv_iload hx hb dL_arePanes_21 (lv_at hl 1 rfl) ?_
          refine lv_if_eq (tgt := 283) hx hb dL_arePanes_23 (by decide) (fun c_23 => ?_) (fun c_23 => ?_)
          · exact absurd c_23 (by decide)
          · refine lv_aload_n hx hb dL_arePanes_26 rfl (lv_at hl 5 rfl) ?_
            refine lv_iload hx hb dL_arePanes_27 (lv_at hl 0 rfl) ?_
            refine lv_iconst (v := nI 0) hx hb dL_arePanes_29 (by decide) ?_
            refine L_rd (as := [.int (q_pn xx.2.1 r), .int (nI 0)]) (rest := []) hF hE hA hP hD hS h0 hl.1 (rd_paneOf l D I C Q y0 r 0 hG hru (by omega)) (cwV 2 hts gL_arePanes_X8_paneOf rfl rfl rfl (by decide +kernel) ⟨Nat.le_of_ble_eq_true rfl, Nat.le_of_ble_eq_true rfl⟩) rfl rfl (Nat.le_of_ble_eq_true rfl) dL_arePanes_30 hcs (fun H locs hP hD hS => ?_)
            refine k_top (y := nI 3) (k0) ?_
            refine lv_istore (lv' := [(6, .int (nI 3)), (5, .int (q_pn xx.2.1 r)), (4, .int (nI 1)), (1, .int (nI (e1))), (2, .int (nI (s1))), (3, .int (nI (c1))), (0, .ref y0)]) hx hb dL_arePanes_33 hl (by decide) rfl (fun ls hl => ?_)
            refine lv_aload_n hx hb dL_arePanes_35 rfl (lv_at hl 6 rfl) ?_
            refine lv_iload hx hb dL_arePanes_36 (lv_at hl 1 rfl) ?_
            refine lv_iconst (v := nI 1) hx hb dL_arePanes_38 (by decide) ?_
            refine L_rd (as := [.int (q_pn xx.2.1 r), .int (nI 1)]) (rest := []) hF hE hA hP hD hS h0 hl.1 (rd_paneOf l D I C Q y0 r 1 hG hru (by omega)) (cwV 2 hts gL_arePanes_X8_paneOf rfl rfl rfl (by decide +kernel) ⟨Nat.le_of_ble_eq_true rfl, Nat.le_of_ble_eq_true rfl⟩) rfl rfl (Nat.le_of_ble_eq_true rfl) dL_arePanes_39 hcs (fun H locs hP hD hS => ?_)
            refine k_top (y := nI Nr) (hp1) ?_
            refine lv_istore (lv' := [(7, .int (nI Nr)), (6, .int (nI 3)), (5, .int (q_pn xx.2.1 r)), (4, .int (nI 1)), (1, .int (nI (e1))), (2, .int (nI (s1))), (3, .int (nI (c1))), (0, .ref y0)]) hx hb dL_arePanes_42 hl (by decide) rfl (fun ls hl => ?_)
            refine lv_aload_n hx hb dL_arePanes_44 rfl (lv_at hl 7 rfl) ?_
            refine lv_iload hx hb dL_arePanes_45 (lv_at hl 2 rfl) ?_
            refine lv_iconst (v := nI 5) hx hb dL_arePanes_47 (by decide) ?_
            refine L_rd (as := [.int (q_pn xx.2.1 r), .int (nI 5)]) (rest := []) hF hE hA hP hD hS h0 hl.1 (rd_paneOf l D I C Q y0 r 5 hG hru (by omega)) (cwV 2 hts gL_arePanes_X8_paneOf rfl rfl rfl (by decide +kernel) ⟨Nat.le_of_ble_eq_true rfl, Nat.le_of_ble_eq_true rfl⟩) rfl rfl (Nat.le_of_ble_eq_true rfl) dL_arePanes_48 hcs (fun H locs hP hD hS => ?_)
            refine lv_aload_n hx hb dL_arePanes_51 rfl (lv_at hl 7 rfl) ?_
            refine lv_iload hx hb dL_arePanes_52 (lv_at hl 2 rfl) ?_
            refine lv_bipush (v := nI 6) hx hb dL_arePanes_54 (by decide) ?_
            refine L_rd (as := [.int (q_pn xx.2.1 r), .int (nI 6)]) (rest := [.int (q_pof xx.2.1 r 5)]) hF hE hA hP hD hS h0 hl.1 (rd_paneOf l D I C Q y0 r 6 hG hru (by omega)) (cwV 2 hts gL_arePanes_X8_paneOf rfl rfl rfl (by decide +kernel) ⟨Nat.le_of_ble_eq_true rfl, Nat.le_of_ble_eq_true rfl⟩) rfl rfl (Nat.le_of_ble_eq_true rfl) dL_arePanes_56 hcs (fun H locs hP hD hS => ?_)
            refine lv_isub hx hb dL_arePanes_59 ?_
            refine k_top (y := nI 1) (kw) ?_
            refine lv_istore (lv' := [(8, .int (nI 1)), (7, .int (nI Nr)), (6, .int (nI 3)), (5, .int (q_pn xx.2.1 r)), (4, .int (nI 1)), (1, .int (nI (e1))), (2, .int (nI (s1))), (3, .int (nI (c1))), (0, .ref y0)]) hx hb dL_arePanes_60 hl (by decide) rfl (fun ls hl => ?_)
            refine lv_aload_n hx hb dL_arePanes_62 rfl (lv_at hl 8 rfl) ?_
            refine lv_iload hx hb dL_arePanes_63 (lv_at hl 3 rfl) ?_
            refine lv_iconst (v := nI 0) hx hb dL_arePanes_65 (by decide) ?_
            refine L_rd (as := [.int (q_pn xx.2.1 r), .int (nI 0)]) (rest := []) hF hE hA hP hD hS h0 hl.1 (rd_standing l D I C Q y0 r 0 hG hru (by omega)) (cwV 2 hts gL_arePanes_X8_standing rfl rfl rfl (by decide +kernel) ⟨Nat.le_of_ble_eq_true rfl, Nat.le_of_ble_eq_true rfl⟩) rfl rfl (Nat.le_of_ble_eq_true rfl) dL_arePanes_66 hcs (fun H locs hP hD hS => ?_)
            refine k_top (y := nI Nr) (ks0) ?_
            refine lv_ldc hx hb hown (hts (.constant RL 62 (-1000004)) (List.mem_of_getElem? (i := 1) rfl)) dL_arePanes_69 ?_
            refine lv_icmp_eq (tgt := 78) hx hb dL_arePanes_71 (by decide) (fun c_71 => ?_) (fun c_71 => ?_)
            · exact absurd c_71 (nI_nf (by omega))
            · refine lv_iconst (v := nI 1) hx hb dL_arePanes_74 (by decide) ?_
              refine lv_goto (tgt := 79) hx hb dL_arePanes_75 (by decide) ?_
              refine lv_istore (lv' := [(9, .int (nI 1)), (8, .int (nI 1)), (7, .int (nI Nr)), (6, .int (nI 3)), (5, .int (q_pn xx.2.1 r)), (4, .int (nI 1)), (1, .int (nI (e1))), (2, .int (nI (s1))), (3, .int (nI (c1))), (0, .ref y0)]) hx hb dL_arePanes_79 hl (by decide) rfl (fun ls hl => ?_)
              refine lv_iload_n hx hb dL_arePanes_81 rfl (lv_at hl 6 rfl) ?_
              refine lv_iload hx hb dL_arePanes_82 (lv_at hl 2 rfl) ?_
              refine lv_iadd hx hb dL_arePanes_84 ?_
              refine k_top (y := nI (e1 + Nr)) (nI_add e1 Nr) ?_
              refine lv_istore_n (lv' := [(1, .int (nI (e1 + Nr))), (9, .int (nI 1)), (8, .int (nI 1)), (7, .int (nI Nr)), (6, .int (nI 3)), (5, .int (q_pn xx.2.1 r)), (4, .int (nI 1)), (2, .int (nI (s1))), (3, .int (nI (c1))), (0, .ref y0)]) hx hb dL_arePanes_85 rfl hl (by decide) rfl (fun ls hl => ?_)
              refine lv_iload_n hx hb dL_arePanes_86 rfl (lv_at hl 7 rfl) ?_
              refine lv_iload hx hb dL_arePanes_87 (lv_at hl 1 rfl) ?_
              refine lv_if_eq (tgt := 96) hx hb dL_arePanes_89 (by decide) (fun c_89 => ?_) (fun c_89 => ?_)
              · exact absurd c_89 (by decide)
              · refine lv_iconst (v := nI 1) hx hb dL_arePanes_92 (by decide) ?_
                refine lv_goto (tgt := 97) hx hb dL_arePanes_93 (by decide) ?_
                refine lv_iadd hx hb dL_arePanes_97 ?_
                refine k_top (y := nI (s1 + 1)) (nI_add s1 1) ?_
                refine lv_istore_n (lv' := [(2, .int (nI (s1 + 1))), (1, .int (nI (e1 + Nr))), (9, .int (nI 1)), (8, .int (nI 1)), (7, .int (nI Nr)), (6, .int (nI 3)), (5, .int (q_pn xx.2.1 r)), (4, .int (nI 1)), (3, .int (nI (c1))), (0, .ref y0)]) hx hb dL_arePanes_98 rfl hl (by decide) rfl (fun ls hl => ?_)
                refine lv_iload_n hx hb dL_arePanes_99 rfl (lv_at hl 8 rfl) ?_
                refine lv_iload hx hb dL_arePanes_100 (lv_at hl 5 rfl) ?_
                refine lv_iconst (v := nI 3) hx hb dL_arePanes_102 (by decide) ?_
                refine lv_icmp_ne (tgt := 110) hx hb dL_arePanes_103 (by decide) (fun c_103 => ?_) (fun c_103 => ?_)
                · exact absurd rfl c_103
                · refine lv_iconst (v := nI 1) hx hb dL_arePanes_106 (by decide) ?_
                  refine lv_goto (tgt := 111) hx hb dL_arePanes_107 (by decide) ?_
                  refine lv_iadd hx hb dL_arePanes_111 ?_
                  refine k_top (y := nI (c1 + 1)) (nI_add c1 1) ?_
                  refine lv_istore_n (lv' := [(3, .int (nI (c1 + 1))), (2, .int (nI (s1 + 1))), (1, .int (nI (e1 + Nr))), (9, .int (nI 1)), (8, .int (nI 1)), (7, .int (nI Nr)), (6, .int (nI 3)), (5, .int (q_pn xx.2.1 r)), (4, .int (nI 1)), (0, .ref y0)]) hx hb dL_arePanes_112 rfl hl (by decide) rfl (fun ls hl => ?_)
                  refine lv_iload hx hb dL_arePanes_113 (lv_at hl 5 rfl) ?_
                  refine lv_if_le (tgt := 159) hx hb dL_arePanes_115 (by decide) (fun c_115 => ?_) (fun c_115 => ?_)
                  · exact absurd ((nI_leI (a := Nr) (b := 0) (by omega) (by omega)).mp c_115) (by omega)
                  · refine lv_iload hx hb dL_arePanes_118 (lv_at hl 3 rfl) ?_
                    refine lv_iload hx hb dL_arePanes_120 (lv_at hl 6 rfl) ?_
                    refine lv_iconst (v := nI 1) hx hb dL_arePanes_122 (by decide) ?_
                    refine lv_icmp_eq (tgt := 132) hx hb dL_arePanes_123 (by decide) (fun c_123 => ?_) (fun c_123 => ?_)
                    · exact absurd c_123 (by decide)
                    · refine lv_iload hx hb dL_arePanes_126 (lv_at hl 6 rfl) ?_
                      refine lv_iconst (v := nI 3) hx hb dL_arePanes_128 (by decide) ?_
                      refine lv_icmp_ne (tgt := 136) hx hb dL_arePanes_129 (by decide) (fun c_129 => ?_) (fun c_129 => ?_)
                      · exact absurd rfl c_129
                      · refine lv_iconst (v := nI 1) hx hb dL_arePanes_132 (by decide) ?_
                        refine lv_goto (tgt := 137) hx hb dL_arePanes_133 (by decide) ?_
                        refine lv_icmp_ne (tgt := 159) hx hb dL_arePanes_137 (by decide) (fun c_137 => ?_) (fun c_137 => ?_)
                        · exact absurd rfl c_137
                        · refine lv_iload hx hb dL_arePanes_140 (lv_at hl 4 rfl) ?_
                          refine lv_iload hx hb dL_arePanes_142 (lv_at hl 3 rfl) ?_
                          refine lv_if_eq (tgt := 151) hx hb dL_arePanes_144 (by decide) (fun c_144 => ?_) (fun c_144 => ?_)
                          · exact absurd c_144 (by decide)
                          · refine lv_iconst (v := nI 1) hx hb dL_arePanes_147 (by decide) ?_
                            refine lv_goto (tgt := 152) hx hb dL_arePanes_148 (by decide) ?_
                            refine lv_icmp_ne (tgt := 159) hx hb dL_arePanes_152 (by decide) (fun c_152 => ?_) (fun c_152 => ?_)
                            · exact absurd rfl c_152
                            · refine lv_iconst (v := nI 1) hx hb dL_arePanes_155 (by decide) ?_
                              refine lv_goto (tgt := 160) hx hb dL_arePanes_156 (by decide) ?_
                              refine lv_istore (lv' := [(4, .int (nI 1)), (3, .int (nI (c1 + 1))), (2, .int (nI (s1 + 1))), (1, .int (nI (e1 + Nr))), (9, .int (nI 1)), (8, .int (nI 1)), (7, .int (nI Nr)), (6, .int (nI 3)), (5, .int (q_pn xx.2.1 r)), (0, .ref y0)]) hx hb dL_arePanes_160 hl (by decide) rfl (fun ls hl => ?_)
                              refine lv_iload hx hb dL_arePanes_162 (lv_at hl 0 rfl) ?_
                              refine lv_if_eq (tgt := 205) hx hb dL_arePanes_164 (by decide) (fun c_164 => ?_) (fun c_164 => ?_)
                              · exact absurd c_164 (by decide)
                              · refine lv_iload hx hb dL_arePanes_167 (lv_at hl 4 rfl) ?_
                                refine lv_if_eq (tgt := 201) hx hb dL_arePanes_169 (by decide) (fun c_169 => ?_) (fun c_169 => ?_)
                                · exact absurd c_169 (by decide)
                                · refine lv_aload_n hx hb dL_arePanes_172 rfl (lv_at hl 9 rfl) ?_
                                  refine lv_iload hx hb dL_arePanes_173 (lv_at hl 8 rfl) ?_
                                  refine lv_iconst (v := nI 0) hx hb dL_arePanes_175 (by decide) ?_
                                  refine L_rd (as := [.int (q_pn xx.2.1 r), .int (nI 0)]) (rest := []) hF hE hA hP hD hS h0 hl.1 (rd_standing l D I C Q y0 r 0 hG hru (by omega)) (cwV 2 hts gL_arePanes_X8_standing rfl rfl rfl (by decide +kernel) ⟨Nat.le_of_ble_eq_true rfl, Nat.le_of_ble_eq_true rfl⟩) rfl rfl (Nat.le_of_ble_eq_true rfl) dL_arePanes_176 hcs (fun H locs hP hD hS => ?_)
                                  refine k_top (y := nI Nr) (ks0) ?_
                                  refine lv_iload hx hb dL_arePanes_179 (lv_at hl 6 rfl) ?_
                                  refine lv_icmp_ne (tgt := 205) hx hb dL_arePanes_181 (by decide) (fun c_181 => ?_) (fun c_181 => ?_)
                                  · exact absurd rfl c_181
                                  · refine lv_aload_n hx hb dL_arePanes_184 rfl (lv_at hl 9 rfl) ?_
                                    refine lv_iload hx hb dL_arePanes_185 (lv_at hl 8 rfl) ?_
                                    refine lv_iconst (v := nI 1) hx hb dL_arePanes_187 (by decide) ?_
                                    refine L_rd (as := [.int (q_pn xx.2.1 r), .int (nI 1)]) (rest := []) hF hE hA hP hD hS h0 hl.1 (rd_standing l D I C Q y0 r 1 hG hru (by omega)) (cwV 2 hts gL_arePanes_X8_standing rfl rfl rfl (by decide +kernel) ⟨Nat.le_of_ble_eq_true rfl, Nat.le_of_ble_eq_true rfl⟩) rfl rfl (Nat.le_of_ble_eq_true rfl) dL_arePanes_188 hcs (fun H locs hP hD hS => ?_)
                                    refine k_top (y := q_pof xx.2.1 r 2) (ks1) ?_
                                    refine lv_aload_n hx hb dL_arePanes_191 rfl (lv_at hl 9 rfl) ?_
                                    refine lv_iload hx hb dL_arePanes_192 (lv_at hl 8 rfl) ?_
                                    refine lv_iconst (v := nI 2) hx hb dL_arePanes_194 (by decide) ?_
                                    refine L_rd (as := [.int (q_pn xx.2.1 r), .int (nI 2)]) (rest := [.int (q_pof xx.2.1 r 2)]) hF hE hA hP hD hS h0 hl.1 (rd_paneOf l D I C Q y0 r 2 hG hru (by omega)) (cwV 2 hts gL_arePanes_X8_paneOf rfl rfl rfl (by decide +kernel) ⟨Nat.le_of_ble_eq_true rfl, Nat.le_of_ble_eq_true rfl⟩) rfl rfl (Nat.le_of_ble_eq_true rfl) dL_arePanes_195 hcs (fun H locs hP hD hS => ?_)
                                    refine lv_icmp_ne (tgt := 205) hx hb dL_arePanes_198 (by decide) (fun c_198 => ?_) (fun c_198 => ?_)
                                    · exact absurd rfl c_198
                                    · refine lv_iconst (v := nI 1) hx hb dL_arePanes_201 (by decide) ?_
                                      refine lv_goto (tgt := 206) hx hb dL_arePanes_202 (by decide) ?_
                                      refine lv_istore (lv' := [(4, .int (nI 1)), (3, .int (nI (c1 + 1))), (2, .int (nI (s1 + 1))), (1, .int (nI (e1 + Nr))), (9, .int (nI 1)), (8, .int (nI 1)), (7, .int (nI Nr)), (6, .int (nI 3)), (5, .int (q_pn xx.2.1 r)), (0, .ref y0)]) hx hb dL_arePanes_206 hl (by decide) rfl (fun ls hl => ?_)
                                      refine lv_iload hx hb dL_arePanes_208 (lv_at hl 0 rfl) ?_
                                      refine lv_if_eq (tgt := 269) hx hb dL_arePanes_210 (by decide) (fun c_210 => ?_) (fun c_210 => ?_)
                                      · exact absurd c_210 (by decide)
                                      · refine lv_iload hx hb dL_arePanes_213 (lv_at hl 7 rfl) ?_
                                        refine lv_iconst (v := nI 2) hx hb dL_arePanes_215 (by decide) ?_
                                        refine lv_icmp_ne (tgt := 234) hx hb dL_arePanes_216 (by decide) (fun c_216 => ?_) (fun c_216 => ?_)
                                        · refine lv_aload_n hx hb dL_arePanes_234 rfl (lv_at hl 9 rfl) ?_
                                          refine lv_iload hx hb dL_arePanes_235 (lv_at hl 8 rfl) ?_
                                          refine lv_iconst (v := nI 4) hx hb dL_arePanes_237 (by decide) ?_
                                          refine L_rd (as := [.int (q_pn xx.2.1 r), .int (nI 4)]) (rest := []) hF hE hA hP hD hS h0 hl.1 (rd_paneOf l D I C Q y0 r 4 hG hru (by omega)) (cwV 2 hts gL_arePanes_X8_paneOf rfl rfl rfl (by decide +kernel) ⟨Nat.le_of_ble_eq_true rfl, Nat.le_of_ble_eq_true rfl⟩) rfl rfl (Nat.le_of_ble_eq_true rfl) dL_arePanes_238 hcs (fun H locs hP hD hS => ?_)
                                          refine k_top (y := (-1000004)) (k4) ?_
                                          refine lv_ldc hx hb hown (hts (.constant RL 62 (-1000004)) (List.mem_of_getElem? (i := 1) rfl)) dL_arePanes_241 ?_
                                          refine lv_icmp_ne (tgt := 250) hx hb dL_arePanes_243 (by decide) (fun c_243 => ?_) (fun c_243 => ?_)
                                          · exact absurd rfl c_243
                                          · refine lv_iconst (v := nI 1) hx hb dL_arePanes_246 (by decide) ?_
                                            refine lv_goto (tgt := 251) hx hb dL_arePanes_247 (by decide) ?_
                                            refine lv_iload hx hb dL_arePanes_251 (lv_at hl 7 rfl) ?_
                                            refine lv_iconst (v := nI 2) hx hb dL_arePanes_253 (by decide) ?_
                                            refine lv_icmp_eq (tgt := 261) hx hb dL_arePanes_254 (by decide) (fun c_254 => ?_) (fun c_254 => ?_)
                                            · exact absurd c_254 (by decide)
                                            · refine lv_iconst (v := nI 1) hx hb dL_arePanes_257 (by decide) ?_
                                              refine lv_goto (tgt := 262) hx hb dL_arePanes_258 (by decide) ?_
                                              refine lv_icmp_ne (tgt := 269) hx hb dL_arePanes_262 (by decide) (fun c_262 => ?_) (fun c_262 => ?_)
                                              · exact absurd rfl c_262
                                              · refine lv_iconst (v := nI 1) hx hb dL_arePanes_265 (by decide) ?_
                                                refine lv_goto (tgt := 270) hx hb dL_arePanes_266 (by decide) ?_
                                                refine lv_istore (lv' := [(4, .int (nI 1)), (3, .int (nI (c1 + 1))), (2, .int (nI (s1 + 1))), (1, .int (nI (e1 + Nr))), (9, .int (nI 1)), (8, .int (nI 1)), (7, .int (nI Nr)), (6, .int (nI 3)), (5, .int (q_pn xx.2.1 r)), (0, .ref y0)]) hx hb dL_arePanes_270 hl (by decide) rfl (fun ls hl => ?_)
                                                refine lv_aload_n hx hb dL_arePanes_272 rfl (lv_at hl 9 rfl) ?_
                                                refine lv_iload hx hb dL_arePanes_273 (lv_at hl 8 rfl) ?_
                                                refine L_rd (as := [.int (q_pn xx.2.1 r)]) (rest := []) hF hE hA hP hD hS h0 hl.1 (rd_nextP l D I C Q y0 r hG hru) (cwV 1 hts gL_arePanes_X8_nextPane rfl rfl rfl (by decide +kernel) ⟨Nat.le_of_ble_eq_true rfl, Nat.le_of_ble_eq_true rfl⟩) rfl rfl (Nat.le_of_ble_eq_true rfl) dL_arePanes_275 hcs (fun H locs hP hD hS => ?_)
                                                refine lv_istore (lv' := [(5, .int (q_nx (aPn (cS xx.2.1)) (q_u xx.2.1) (r + 1))), (4, .int (nI 1)), (3, .int (nI (c1 + 1))), (2, .int (nI (s1 + 1))), (1, .int (nI (e1 + Nr))), (9, .int (nI 1)), (8, .int (nI 1)), (7, .int (nI Nr)), (6, .int (nI 3)), (0, .ref y0)]) hx hb dL_arePanes_278 hl (by decide) rfl (fun ls hl => ?_)
                                                refine lv_goto (tgt := 16) hx hb dL_arePanes_280 (by decide) ?_
                                                exact ih (r + 1) (e1 + Nr) (s1 + 1) (c1 + 1) (by omega) hse hss hsc H locs ls hP hD hS (lv_sub hl [0, 1, 4, 3, 2, 9] rfl) kx
                                        · exact absurd c_216 (by decide)
  refine lv_iconst (v := nI 0) hx hb dL_arePanes_0 (by decide) ?_
  refine lv_istore_n (lv' := [(1, .int (nI 0)), (0, .ref y0)]) hx hb dL_arePanes_1 rfl hl (by decide) rfl (fun ls hl => ?_)
  refine lv_iconst (v := nI 0) hx hb dL_arePanes_2 (by decide) ?_
  refine lv_istore_n (lv' := [(2, .int (nI 0)), (1, .int (nI 0)), (0, .ref y0)]) hx hb dL_arePanes_3 rfl hl (by decide) rfl (fun ls hl => ?_)
  refine lv_iconst (v := nI 0) hx hb dL_arePanes_4 (by decide) ?_
  refine lv_istore_n (lv' := [(3, .int (nI 0)), (2, .int (nI 0)), (1, .int (nI 0)), (0, .ref y0)]) hx hb dL_arePanes_5 rfl hl (by decide) rfl (fun ls hl => ?_)
  refine lv_iconst (v := nI 1) hx hb dL_arePanes_6 (by decide) ?_
  refine lv_istore (lv' := [(4, .int (nI 1)), (3, .int (nI 0)), (2, .int (nI 0)), (1, .int (nI 0)), (0, .ref y0)]) hx hb dL_arePanes_7 hl (by decide) rfl (fun ls hl => ?_)
  refine lv_aload_n hx hb dL_arePanes_9 rfl (lv_at hl 4 rfl) ?_
  refine lv_iconst (v := (-1 : Int32)) hx hb dL_arePanes_10 (by decide) ?_
  refine L_rd (as := [.int (-1)]) (rest := []) hF hE hA hP hD hS h0 hl.1 (rd_next0 l D I C Q y0 hG) (cwV 1 hts gL_arePanes_X8_nextPane rfl rfl rfl (by decide +kernel) ⟨Nat.le_of_ble_eq_true rfl, Nat.le_of_ble_eq_true rfl⟩) rfl rfl (Nat.le_of_ble_eq_true rfl) dL_arePanes_11 hcs (fun H locs hP hD hS => ?_)
  refine lv_istore (lv' := [(5, .int (q_nx (aPn (cS xx.2.1)) (q_u xx.2.1) 0)), (4, .int (nI 1)), (3, .int (nI 0)), (2, .int (nI 0)), (1, .int (nI 0)), (0, .ref y0)]) hx hb dL_arePanes_14 hl (by decide) rfl (fun ls hl => ?_)
  refine L16 (q_u xx.2.1) 0 0 0 0 (by omega) rfl rfl rfl _ _ ls hP hD hS (lv_sub hl [0, 1, 4, 3, 2, 5] rfl) (fun H locs ls hP hD hS hl => ?_)
  have w1 : nI (q_sum (fun r => N (r_p (aPn (cS xx.2.1)) r)) (q_u xx.2.1)) = q_cnt xx.2.1 1 := by rw [q_cnt1, row_sum_all hs hN0, hN]
  have w2 : nI (q_sum (fun r => q_b (s_d (aPn (cS xx.2.1)) (q_u xx.2.1) (r_p (aPn (cS xx.2.1)) r))) (q_u xx.2.1)) = q_cnt xx.2.1 8 - q_cnt xx.2.1 9 := by rw [stand_sum hG.1, row_sum_all hs (F := fun q => q_b (s_d (aPn (cS xx.2.1)) (q_u xx.2.1) q)) (fun q hq hn => q_b0 (fun h => hn (s_d_ce h)))]
  have w3 : nI (q_sum (fun r => q_b (v_c (aPn (cS xx.2.1)) (q_u xx.2.1) (r_p (aPn (cS xx.2.1)) r) 0 = 3)) (q_u xx.2.1)) = q_cnt xx.2.1 10 := by rw [q_cnt10, p_cc_v hs, row_sum_all hs (F := fun q => q_b (v_c (aPn (cS xx.2.1)) (q_u xx.2.1) q 0 = 3)) (fun q hq hn => q_b0 (fun h => hn (v_ce_of h (by decide))))]
  refine lv_iload hx hb dL_arePanes_283 (lv_at hl 0 rfl) ?_
  refine lv_if_eq (tgt := 328) hx hb dL_arePanes_285 (by decide) (fun c_285 => ?_) (fun c_285 => ?_)
  · exact absurd c_285 (by decide)
  · refine lv_iload_n hx hb dL_arePanes_288 rfl (lv_at hl 1 rfl) ?_
    refine lv_aload_n hx hb dL_arePanes_289 rfl (lv_at hl 4 rfl) ?_
    refine lv_iconst (v := nI 1) hx hb dL_arePanes_290 (by decide) ?_
    refine L_rd (as := [.int (nI 1)]) (rest := [.int (nI (q_sum (fun r => N (r_p (aPn (cS xx.2.1)) r)) (q_u xx.2.1)))]) hF hE hA hP hD hS h0 hl.1 (rd_count l D I C Q y0 1 hG (by omega)) (cwV 1 hts gL_arePanes_X8_count rfl rfl rfl (by decide +kernel) ⟨Nat.le_of_ble_eq_true rfl, Nat.le_of_ble_eq_true rfl⟩) rfl rfl (Nat.le_of_ble_eq_true rfl) dL_arePanes_291 hcs (fun H locs hP hD hS => ?_)
    refine lv_icmp_ne (tgt := 328) hx hb dL_arePanes_294 (by decide) (fun c_294 => ?_) (fun c_294 => ?_)
    · exact absurd w1 c_294
    · refine lv_iload_n hx hb dL_arePanes_297 rfl (lv_at hl 2 rfl) ?_
      refine lv_aload_n hx hb dL_arePanes_298 rfl (lv_at hl 4 rfl) ?_
      refine lv_bipush (v := nI 8) hx hb dL_arePanes_299 (by decide) ?_
      refine L_rd (as := [.int (nI 8)]) (rest := [.int (nI (q_sum (fun r => q_b (s_d (aPn (cS xx.2.1)) (q_u xx.2.1) (r_p (aPn (cS xx.2.1)) r))) (q_u xx.2.1)))]) hF hE hA hP hD hS h0 hl.1 (rd_count l D I C Q y0 8 hG (by omega)) (cwV 1 hts gL_arePanes_X8_count rfl rfl rfl (by decide +kernel) ⟨Nat.le_of_ble_eq_true rfl, Nat.le_of_ble_eq_true rfl⟩) rfl rfl (Nat.le_of_ble_eq_true rfl) dL_arePanes_301 hcs (fun H locs hP hD hS => ?_)
      refine lv_aload_n hx hb dL_arePanes_304 rfl (lv_at hl 4 rfl) ?_
      refine lv_bipush (v := nI 9) hx hb dL_arePanes_305 (by decide) ?_
      refine L_rd (as := [.int (nI 9)]) (rest := [.int (q_cnt xx.2.1 8), .int (nI (q_sum (fun r => q_b (s_d (aPn (cS xx.2.1)) (q_u xx.2.1) (r_p (aPn (cS xx.2.1)) r))) (q_u xx.2.1)))]) hF hE hA hP hD hS h0 hl.1 (rd_count l D I C Q y0 9 hG (by omega)) (cwV 1 hts gL_arePanes_X8_count rfl rfl rfl (by decide +kernel) ⟨Nat.le_of_ble_eq_true rfl, Nat.le_of_ble_eq_true rfl⟩) rfl rfl (Nat.le_of_ble_eq_true rfl) dL_arePanes_307 hcs (fun H locs hP hD hS => ?_)
      refine lv_isub hx hb dL_arePanes_310 ?_
      refine lv_icmp_ne (tgt := 328) hx hb dL_arePanes_311 (by decide) (fun c_311 => ?_) (fun c_311 => ?_)
      · exact absurd w2 c_311
      · refine lv_iload_n hx hb dL_arePanes_314 rfl (lv_at hl 3 rfl) ?_
        refine lv_aload_n hx hb dL_arePanes_315 rfl (lv_at hl 4 rfl) ?_
        refine lv_bipush (v := nI 10) hx hb dL_arePanes_316 (by decide) ?_
        refine L_rd (as := [.int (nI 10)]) (rest := [.int (nI (q_sum (fun r => q_b (v_c (aPn (cS xx.2.1)) (q_u xx.2.1) (r_p (aPn (cS xx.2.1)) r) 0 = 3)) (q_u xx.2.1)))]) hF hE hA hP hD hS h0 hl.1 (rd_count l D I C Q y0 10 hG (by omega)) (cwV 1 hts gL_arePanes_X8_count rfl rfl rfl (by decide +kernel) ⟨Nat.le_of_ble_eq_true rfl, Nat.le_of_ble_eq_true rfl⟩) rfl rfl (Nat.le_of_ble_eq_true rfl) dL_arePanes_318 hcs (fun H locs hP hD hS => ?_)
        refine lv_icmp_ne (tgt := 328) hx hb dL_arePanes_321 (by decide) (fun c_321 => ?_) (fun c_321 => ?_)
        · exact absurd w3 c_321
        · refine lv_iconst (v := nI 1) hx hb dL_arePanes_324 (by decide) ?_
          refine lv_goto (tgt := 329) hx hb dL_arePanes_325 (by decide) ?_
          exact hend _ _ _ _ _ _ hP hD hS dL_arePanes_329 rfl rfl rfl
