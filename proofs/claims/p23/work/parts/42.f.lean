set_option maxHeartbeats 4000000 in
set_option maxRecDepth 100000 in
theorem c_L_areEvents (l : Launch) (D : va_G) (I C Q : ClassId) (y0 : Nat) {xx : LV} (hG : uG xx) : KI l D (tyL I C Q) yL_areEvents wsL_areEvents rmV [.ref y0] (uX I C Q y0 xx) (uX I C Q y0 xx) (nI 1) := by
  refine KI.of (cc := cL_areEvents) (maxL := 6) (rt := .boolean) (own := RL) (by decide) rfl rfl (Nat.le_of_ble_eq_true rfl) ?_
  intro p e s m below meth c A Q0 ls hx hb hml hown hts hE hA hP hD hS hl hend
  have hF : CallFix p m c cL_areEvents 6 s ([.ref y0] : List Value).toArray wsL_areEvents RL := ⟨hx, hb, hml, hown, hts⟩
  obtain ⟨fs, h0⟩ := uX_0 I C Q y0 xx
  have hcs : 0 ≤ (rmV).cells ∧ 0 ≤ (rmV).slots := ⟨Nat.zero_le _, Nat.zero_le _⟩
  obtain ⟨n, hn4, hns, hfil⟩ := filed_facts hG.1
  have hl : lv_has ls 6 [(0, .ref y0)] := hl
  obtain ⟨ff, hff⟩ : ∃ ff : Nat → Nat, ff = fun k => q_sum (fun j => q_b (j % 4 < n (j / 4))) k := ⟨_, rfl⟩
  have hff12 : ff 12 = n 0 + n 1 + n 2 := by
    have hq : ∀ c p : Nat, q_b (p < c) = if p < c then 1 else 0 := fun c p => by
      by_cases h : p < c
      · rw [q_b1 h, if_pos h]
      · rw [q_b0 h, if_neg h]
    rw [hff]
    show 0 + q_b (0 < n 0) + q_b (1 < n 0) + q_b (2 < n 0) + q_b (3 < n 0) + q_b (0 < n 1) + q_b (1 < n 1) + q_b (2 < n 1) + q_b (3 < n 1) + q_b (0 < n 2) + q_b (1 < n 2) + q_b (2 < n 2) + q_b (3 < n 2) = _
    simp only [hq]
    obtain ⟨h0, h1, h2⟩ := hn4
    rcases (show n 0 = 0 ∨ n 0 = 1 ∨ n 0 = 2 ∨ n 0 = 3 ∨ n 0 = 4 by omega) with e | e | e | e | e <;> rcases (show n 1 = 0 ∨ n 1 = 1 ∨ n 1 = 2 ∨ n 1 = 3 ∨ n 1 = 4 by omega) with e' | e' | e' | e' | e' <;> rcases (show n 2 = 0 ∨ n 2 = 1 ∨ n 2 = 2 ∨ n 2 = 3 ∨ n 2 = 4 by omega) with e'' | e'' | e'' | e'' | e'' <;> rw [e, e', e''] <;> rfl
  have hffs : ∀ k, ff (k + 1) = ff k + q_b (k % 4 < n (k / 4)) := fun k => by rw [hff]; rfl
  have L6 : ∀ (mm k f : Nat), k + mm = 12 → f = ff k → ∀ (H : Heap) (locs : List Loc) (ls : Array Slot), va_P D vwCl (uX I C Q y0 xx) H → va_D A (uX I C Q y0 xx) → va_S A s.heap H locs → lv_has ls 6 [(3, .int (nI k)), (1, .int (nI f)), (2, .int (nI 1)), (0, .ref y0)] → (∀ (H : Heap) (locs : List Loc) (ls : Array Slot), va_P D vwCl (uX I C Q y0 xx) H → va_D A (uX I C Q y0 xx) → va_S A s.heap H locs → lv_has ls 6 [(1, .int (nI (ff 12))), (2, .int (nI 1)), (0, .ref y0)] → W p l e rmV s m ([.ref y0] : List Value).toArray below meth c H locs 0 0 Q0 (F0 m 92 ls [])) → W p l e rmV s m ([.ref y0] : List Value).toArray below meth c H locs 0 0 Q0 (F0 m 6 ls []) := by
    intro mm
    induction mm with
    | zero =>
      intro k f hk hf H locs ls hP hD hS hl kx
      refine lv_iload_n hx hb dL_areEvents_6 rfl (lv_at hl 0 rfl) ?_
      refine lv_bipush (v := nI 12) hx hb dL_areEvents_7 (by decide) ?_
      refine lv_icmp_ge (tgt := 92) hx hb dL_areEvents_9 (by decide) (fun c_9 => ?_) (fun c_9 => ?_)
      · rw [hf, show k = 12 by omega] at hl
        exact kx H locs ls hP hD hS (lv_sub hl [1, 2, 3] rfl)
      · exact absurd ((nI_leI (a := 12) (b := k) (by omega) (by omega)).mpr (by omega)) c_9
    | succ mm ih =>
      intro k f hk hf H locs ls hP hD hS hl kx
      refine lv_iload_n hx hb dL_areEvents_6 rfl (lv_at hl 0 rfl) ?_
      refine lv_bipush (v := nI 12) hx hb dL_areEvents_7 (by decide) ?_
      refine lv_icmp_ge (tgt := 92) hx hb dL_areEvents_9 (by decide) (fun c_9 => ?_) (fun c_9 => ?_)
      · exact absurd ((nI_leI (a := 12) (b := k) (by omega) (by omega)).mp c_9) (by omega)
      · refine lv_iload_n hx hb dL_areEvents_12 rfl (lv_at hl 2 rfl) ?_
        refine lv_if_eq (tgt := 92) hx hb dL_areEvents_13 (by decide) (fun c_13 => ?_) (fun c_13 => ?_)
        · exact absurd c_13 (by decide)
        · have hk4 : k / 4 < 3 := by omega
          have hkm : k % 4 < 4 := by omega
          rcases hfil (k / 4) (k % 4) hk4 hkm with ⟨hle, hnf⟩ | ⟨hlt, id, x, hid, hnf, ho, hxx, hx1, hx3, hcx⟩
          · refine lv_aload_n hx hb dL_areEvents_16 rfl (lv_at hl 3 rfl) ?_
            refine lv_iload_n hx hb dL_areEvents_17 rfl (lv_at hl 0 rfl) ?_
            refine lv_iconst (v := nI 2) hx hb dL_areEvents_18 (by decide) ?_
            refine lv_ishr hx hb dL_areEvents_19 ?_
            refine k_top (y := nI (k / 4)) ((k_shr2 ⟨k, by omega⟩).1) ?_
            refine lv_iload_n hx hb dL_areEvents_20 rfl (lv_at hl 0 rfl) ?_
            refine lv_iconst (v := nI 3) hx hb dL_areEvents_21 (by decide) ?_
            refine lv_iand hx hb dL_areEvents_22 ?_
            refine k_top (y := nI (k % 4)) ((k_shr2 ⟨k, by omega⟩).2) ?_
            refine L_rd (as := [.int (nI (k / 4)), .int (nI (k % 4))]) (rest := []) hF hE hA hP hD hS h0 hl.1 (rd_filed l D I C Q y0 (k / 4) (k % 4) hG (by omega) (by omega)) (cwV 2 hts gL_areEvents_X8_filed rfl rfl rfl (by decide +kernel) ⟨Nat.le_of_ble_eq_true rfl, Nat.le_of_ble_eq_true rfl⟩) rfl rfl (Nat.le_of_ble_eq_true rfl) dL_areEvents_23 hcs (fun H locs hP hD hS => ?_)
            refine k_top (y := (-1000004)) (hnf) ?_
            refine lv_istore (lv' := [(4, .int (-1000004)), (3, .int (nI k)), (1, .int (nI f)), (2, .int (nI 1)), (0, .ref y0)]) hx hb dL_areEvents_26 hl (by decide) rfl (fun ls hl => ?_)
            refine lv_iload hx hb dL_areEvents_28 (lv_at hl 0 rfl) ?_
            refine lv_ldc hx hb hown (hts (.constant RL 62 (-1000004)) (List.mem_of_getElem? (i := 1) rfl)) dL_areEvents_30 ?_
            refine lv_icmp_eq (tgt := 86) hx hb dL_areEvents_32 (by decide) (fun c_32 => ?_) (fun c_32 => ?_)
            · refine lv_iinc (v := nI (k + 1)) (lv' := [(3, .int (nI (k + 1))), (4, .int (-1000004)), (1, .int (nI f)), (2, .int (nI 1)), (0, .ref y0)]) hx hb dL_areEvents_86 hl (k := 1) rfl (nI_inc k) (by decide) rfl (fun ls hl => ?_)
              refine lv_goto (tgt := 6) hx hb dL_areEvents_89 (by decide) ?_
              exact ih (k + 1) f (by omega) (by have h9 := hffs k; rw [q_b0 (p := k % 4 < n (k / 4)) (by omega)] at h9; omega) H locs ls hP hD hS (lv_sub hl [0, 2, 3, 4] rfl) kx
            · exact absurd rfl c_32
          · refine lv_aload_n hx hb dL_areEvents_16 rfl (lv_at hl 3 rfl) ?_
            refine lv_iload_n hx hb dL_areEvents_17 rfl (lv_at hl 0 rfl) ?_
            refine lv_iconst (v := nI 2) hx hb dL_areEvents_18 (by decide) ?_
            refine lv_ishr hx hb dL_areEvents_19 ?_
            refine k_top (y := nI (k / 4)) ((k_shr2 ⟨k, by omega⟩).1) ?_
            refine lv_iload_n hx hb dL_areEvents_20 rfl (lv_at hl 0 rfl) ?_
            refine lv_iconst (v := nI 3) hx hb dL_areEvents_21 (by decide) ?_
            refine lv_iand hx hb dL_areEvents_22 ?_
            refine k_top (y := nI (k % 4)) ((k_shr2 ⟨k, by omega⟩).2) ?_
            refine L_rd (as := [.int (nI (k / 4)), .int (nI (k % 4))]) (rest := []) hF hE hA hP hD hS h0 hl.1 (rd_filed l D I C Q y0 (k / 4) (k % 4) hG (by omega) (by omega)) (cwV 2 hts gL_areEvents_X8_filed rfl rfl rfl (by decide +kernel) ⟨Nat.le_of_ble_eq_true rfl, Nat.le_of_ble_eq_true rfl⟩) rfl rfl (Nat.le_of_ble_eq_true rfl) dL_areEvents_23 hcs (fun H locs hP hD hS => ?_)
            refine k_top (y := nI id) (hnf) ?_
            refine lv_istore (lv' := [(4, .int (nI id)), (3, .int (nI k)), (1, .int (nI f)), (2, .int (nI 1)), (0, .ref y0)]) hx hb dL_areEvents_26 hl (by decide) rfl (fun ls hl => ?_)
            refine lv_iload hx hb dL_areEvents_28 (lv_at hl 0 rfl) ?_
            refine lv_ldc hx hb hown (hts (.constant RL 62 (-1000004)) (List.mem_of_getElem? (i := 1) rfl)) dL_areEvents_30 ?_
            refine lv_icmp_eq (tgt := 86) hx hb dL_areEvents_32 (by decide) (fun c_32 => ?_) (fun c_32 => ?_)
            · exact absurd c_32 (nI_nf (by omega))
            · refine lv_iinc (v := nI (f + 1)) (lv' := [(1, .int (nI (f + 1))), (4, .int (nI id)), (3, .int (nI k)), (2, .int (nI 1)), (0, .ref y0)]) hx hb dL_areEvents_35 hl (k := 2) rfl (nI_inc f) (by decide) rfl (fun ls hl => ?_)
              refine lv_aload_n hx hb dL_areEvents_38 rfl (lv_at hl 4 rfl) ?_
              refine lv_iload hx hb dL_areEvents_39 (lv_at hl 1 rfl) ?_
              refine lv_iconst (v := nI 3) hx hb dL_areEvents_41 (by decide) ?_
              refine L_rd (as := [.int (nI id), .int (nI 3)]) (rest := []) hF hE hA hP hD hS h0 hl.1 (rd_eventOf l D I C Q y0 id 3 hG (by omega) (by omega)) (cwV 2 hts gL_areEvents_X8_eventOf rfl rfl rfl (by decide +kernel) ⟨Nat.le_of_ble_eq_true rfl, Nat.le_of_ble_eq_true rfl⟩) rfl rfl (Nat.le_of_ble_eq_true rfl) dL_areEvents_42 hcs (fun H locs hP hD hS => ?_)
              refine k_top (y := nI x) (hxx) ?_
              refine lv_istore (lv' := [(5, .int (nI x)), (1, .int (nI (f + 1))), (4, .int (nI id)), (3, .int (nI k)), (2, .int (nI 1)), (0, .ref y0)]) hx hb dL_areEvents_45 hl (by decide) rfl (fun ls hl => ?_)
              refine lv_aload_n hx hb dL_areEvents_47 rfl (lv_at hl 5 rfl) ?_
              refine lv_iload hx hb dL_areEvents_48 (lv_at hl 2 rfl) ?_
              refine lv_iconst (v := nI 4) hx hb dL_areEvents_50 (by decide) ?_
              refine L_rd (as := [.int (nI id), .int (nI 4)]) (rest := []) hF hE hA hP hD hS h0 hl.1 (rd_eventOf l D I C Q y0 id 4 hG (by omega) (by omega)) (cwV 2 hts gL_areEvents_X8_eventOf rfl rfl rfl (by decide +kernel) ⟨Nat.le_of_ble_eq_true rfl, Nat.le_of_ble_eq_true rfl⟩) rfl rfl (Nat.le_of_ble_eq_true rfl) dL_areEvents_51 hcs (fun H locs hP hD hS => ?_)
              refine k_top (y := nI 1) (ho) ?_
              refine lv_iconst (v := nI 1) hx hb dL_areEvents_54 (by decide) ?_
              refine lv_icmp_ne (tgt := 84) hx hb dL_areEvents_55 (by decide) (fun c_55 => ?_) (fun c_55 => ?_)
              · exact absurd rfl c_55
              · refine lv_iload hx hb dL_areEvents_58 (lv_at hl 0 rfl) ?_
                refine lv_if_le (tgt := 84) hx hb dL_areEvents_60 (by decide) (fun c_60 => ?_) (fun c_60 => ?_)
                · exact absurd ((nI_leI (a := x) (b := 0) (by omega) (by omega)).mp c_60) (by omega)
                · refine lv_iload_n hx hb dL_areEvents_63 rfl (lv_at hl 3 rfl) ?_
                  refine lv_iconst (v := nI 2) hx hb dL_areEvents_64 (by decide) ?_
                  refine lv_ishr hx hb dL_areEvents_65 ?_
                  refine k_top (y := nI (k / 4)) ((k_shr2 ⟨k, by omega⟩).1) ?_
                  refine lv_iconst (v := nI 2) hx hb dL_areEvents_66 (by decide) ?_
                  refine lv_icmp_eq (tgt := 80) hx hb dL_areEvents_67 (by decide) (fun c_67 => ?_) (fun c_67 => ?_)
                  · refine lv_iconst (v := nI 1) hx hb dL_areEvents_80 (by decide) ?_
                    refine lv_goto (tgt := 85) hx hb dL_areEvents_81 (by decide) ?_
                    refine lv_istore_n (lv' := [(2, .int (nI 1)), (5, .int (nI x)), (1, .int (nI (f + 1))), (4, .int (nI id)), (3, .int (nI k)), (0, .ref y0)]) hx hb dL_areEvents_85 rfl hl (by decide) rfl (fun ls hl => ?_)
                    refine lv_iinc (v := nI (k + 1)) (lv' := [(3, .int (nI (k + 1))), (2, .int (nI 1)), (5, .int (nI x)), (1, .int (nI (f + 1))), (4, .int (nI id)), (0, .ref y0)]) hx hb dL_areEvents_86 hl (k := 4) rfl (nI_inc k) (by decide) rfl (fun ls hl => ?_)
                    refine lv_goto (tgt := 6) hx hb dL_areEvents_89 (by decide) ?_
                    exact ih (k + 1) (f + 1) (by omega) (by have h9 := hffs k; rw [q_b1 hlt] at h9; omega) H locs ls hP hD hS (lv_sub hl [0, 3, 1, 5] rfl) kx
                  · have hx9 : x = k / 4 + 1 := hcx.resolve_left (fun h => c_67 (by rw [h]))
                    refine lv_iload hx hb dL_areEvents_70 (lv_at hl 0 rfl) ?_
                    refine lv_iload_n hx hb dL_areEvents_72 rfl (lv_at hl 3 rfl) ?_
                    refine lv_iconst (v := nI 2) hx hb dL_areEvents_73 (by decide) ?_
                    refine lv_ishr hx hb dL_areEvents_74 ?_
                    refine k_top (y := nI (k / 4)) ((k_shr2 ⟨k, by omega⟩).1) ?_
                    refine lv_iconst (v := nI 1) hx hb dL_areEvents_75 (by decide) ?_
                    refine lv_iadd hx hb dL_areEvents_76 ?_
                    refine k_top (y := nI (k / 4 + 1)) (nI_add (k / 4) 1) ?_
                    refine lv_icmp_ne (tgt := 84) hx hb dL_areEvents_77 (by decide) (fun c_77 => ?_) (fun c_77 => ?_)
                    · exact absurd (by rw [hx9]) c_77
                    · refine lv_iconst (v := nI 1) hx hb dL_areEvents_80 (by decide) ?_
                      refine lv_goto (tgt := 85) hx hb dL_areEvents_81 (by decide) ?_
                      refine lv_istore_n (lv' := [(2, .int (nI 1)), (5, .int (nI x)), (1, .int (nI (f + 1))), (4, .int (nI id)), (3, .int (nI k)), (0, .ref y0)]) hx hb dL_areEvents_85 rfl hl (by decide) rfl (fun ls hl => ?_)
                      refine lv_iinc (v := nI (k + 1)) (lv' := [(3, .int (nI (k + 1))), (2, .int (nI 1)), (5, .int (nI x)), (1, .int (nI (f + 1))), (4, .int (nI id)), (0, .ref y0)]) hx hb dL_areEvents_86 hl (k := 4) rfl (nI_inc k) (by decide) rfl (fun ls hl => ?_)
                      refine lv_goto (tgt := 6) hx hb dL_areEvents_89 (by decide) ?_
                      exact ih (k + 1) (f + 1) (by omega) (by have h9 := hffs k; rw [q_b1 hlt] at h9; omega) H locs ls hP hD hS (lv_sub hl [0, 3, 1, 5] rfl) kx
  refine lv_iconst (v := nI 0) hx hb dL_areEvents_0 (by decide) ?_
  refine lv_istore_n (lv' := [(1, .int (nI 0)), (0, .ref y0)]) hx hb dL_areEvents_1 rfl hl (by decide) rfl (fun ls hl => ?_)
  refine lv_iconst (v := nI 1) hx hb dL_areEvents_2 (by decide) ?_
  refine lv_istore_n (lv' := [(2, .int (nI 1)), (1, .int (nI 0)), (0, .ref y0)]) hx hb dL_areEvents_3 rfl hl (by decide) rfl (fun ls hl => ?_)
  refine lv_iconst (v := nI 0) hx hb dL_areEvents_4 (by decide) ?_
  refine lv_istore_n (lv' := [(3, .int (nI 0)), (2, .int (nI 1)), (1, .int (nI 0)), (0, .ref y0)]) hx hb dL_areEvents_5 rfl hl (by decide) rfl (fun ls hl => ?_)
  refine L6 12 0 0 (by omega) (by rw [hff]; rfl) _ _ ls hP hD hS (lv_sub hl [0, 2, 1, 3] rfl) (fun H locs ls hP hD hS hl => ?_)
  have w1 : nI (ff 12) = q_cnt xx.2.1 2 := by rw [q_cnt2, hff12, hns]
  refine lv_iload_n hx hb dL_areEvents_92 rfl (lv_at hl 1 rfl) ?_
  refine lv_if_eq (tgt := 128) hx hb dL_areEvents_93 (by decide) (fun c_93 => ?_) (fun c_93 => ?_)
  · exact absurd c_93 (by decide)
  · refine lv_iload_n hx hb dL_areEvents_96 rfl (lv_at hl 0 rfl) ?_
    refine lv_aload_n hx hb dL_areEvents_97 rfl (lv_at hl 2 rfl) ?_
    refine lv_iconst (v := nI 2) hx hb dL_areEvents_98 (by decide) ?_
    refine L_rd (as := [.int (nI 2)]) (rest := [.int (nI (ff 12))]) hF hE hA hP hD hS h0 hl.1 (rd_count l D I C Q y0 2 hG (by omega)) (cwV 1 hts gL_areEvents_X8_count rfl rfl rfl (by decide +kernel) ⟨Nat.le_of_ble_eq_true rfl, Nat.le_of_ble_eq_true rfl⟩) rfl rfl (Nat.le_of_ble_eq_true rfl) dL_areEvents_99 hcs (fun H locs hP hD hS => ?_)
    refine lv_icmp_ne (tgt := 128) hx hb dL_areEvents_102 (by decide) (fun c_102 => ?_) (fun c_102 => ?_)
    · exact absurd w1 c_102
    · refine lv_aload_n hx hb dL_areEvents_105 rfl (lv_at hl 2 rfl) ?_
      refine lv_iconst (v := nI 1) hx hb dL_areEvents_106 (by decide) ?_
      refine L_rd (as := [.int (nI 1)]) (rest := []) hF hE hA hP hD hS h0 hl.1 (rd_count l D I C Q y0 1 hG (by omega)) (cwV 1 hts gL_areEvents_X8_count rfl rfl rfl (by decide +kernel) ⟨Nat.le_of_ble_eq_true rfl, Nat.le_of_ble_eq_true rfl⟩) rfl rfl (Nat.le_of_ble_eq_true rfl) dL_areEvents_107 hcs (fun H locs hP hD hS => ?_)
      refine lv_aload_n hx hb dL_areEvents_110 rfl (lv_at hl 2 rfl) ?_
      refine lv_iconst (v := nI 3) hx hb dL_areEvents_111 (by decide) ?_
      refine L_rd (as := [.int (nI 3)]) (rest := [.int (q_cnt xx.2.1 1)]) hF hE hA hP hD hS h0 hl.1 (rd_count l D I C Q y0 3 hG (by omega)) (cwV 1 hts gL_areEvents_X8_count rfl rfl rfl (by decide +kernel) ⟨Nat.le_of_ble_eq_true rfl, Nat.le_of_ble_eq_true rfl⟩) rfl rfl (Nat.le_of_ble_eq_true rfl) dL_areEvents_112 hcs (fun H locs hP hD hS => ?_)
      refine lv_iadd hx hb dL_areEvents_115 ?_
      refine k_top (y := q_cnt xx.2.1 0) (ev_split hG.1) ?_
      refine lv_aload_n hx hb dL_areEvents_116 rfl (lv_at hl 2 rfl) ?_
      refine lv_iconst (v := nI 0) hx hb dL_areEvents_117 (by decide) ?_
      refine L_rd (as := [.int (nI 0)]) (rest := [.int (q_cnt xx.2.1 0)]) hF hE hA hP hD hS h0 hl.1 (rd_count l D I C Q y0 0 hG (by omega)) (cwV 1 hts gL_areEvents_X8_count rfl rfl rfl (by decide +kernel) ⟨Nat.le_of_ble_eq_true rfl, Nat.le_of_ble_eq_true rfl⟩) rfl rfl (Nat.le_of_ble_eq_true rfl) dL_areEvents_118 hcs (fun H locs hP hD hS => ?_)
      refine lv_icmp_ne (tgt := 128) hx hb dL_areEvents_121 (by decide) (fun c_121 => ?_) (fun c_121 => ?_)
      · exact absurd rfl c_121
      · refine lv_iconst (v := nI 1) hx hb dL_areEvents_124 (by decide) ?_
        refine lv_goto (tgt := 129) hx hb dL_areEvents_125 (by decide) ?_
        exact hend _ _ _ _ _ _ hP hD hS dL_areEvents_129 rfl rfl rfl
