set_option maxHeartbeats 400000 in
set_option maxRecDepth 100000 in
theorem c_X9_records (l : Launch) (D : va_G) (I C Q : ClassId) (a0 a1 a2 a3 a4 : Nat) (now : Nat → Int32) (kept : Nat → Int32) (ns : Nat) (text : Nat → Int32) (len : Int32) (att : Int32) (num : Int32) (rd : Nat → Int32) (hns : ns ≤ 4) : KV l D (tyL I C Q) yX9_records wsX9_records { frames := 0, cells := 0, slots := 0, locals := 0 } [.ref a0] (wM I a0 a1 a2 a3 a4 now kept (nI ns) text len att num rd) (wM I a0 a1 a2 a3 a4 now (m_rec now kept ns) (nI (m_rns ns)) text len att num rd) := by
  refine KV.of (cc := cX9_records) (maxL := 2) (own := RX9) (by decide) rfl rfl (Nat.le_of_ble_eq_true rfl) ?_
  intro p e s m below meth c A Q0 ls hx hb hml hown hts hE hA hP hD hS hl hend
  have hK := hE.1
  have hF : CallFix p m c cX9_records 2 s [.ref a0].toArray wsX9_records RX9 := ⟨hx, hb, hml, hown, hts⟩
  have k0 := hts (.fieldLink RX9 22 "LateExcusesModel" "states" "I") (List.mem_of_getElem? (i := 1) rfl)
  have k1 := hts (.fieldLink RX9 13 "LateExcusesModel" "kept" "[I") (List.mem_of_getElem? (i := 2) rfl)
  have k2 := hts (.fieldLink RX9 7 "LateExcusesModel" "now" "[I") (List.mem_of_getElem? (i := 3) rfl)
  have u9 : ∀ w ∈ u_ws RX9 TX9 8, w ∈ wsX9_records := by decide +kernel
  have hl : lv_has ls 2 [(0, .ref a0)] := hl
  rcases Nat.lt_or_ge ns 4 with hlt | hge
  · have hlt2 := hlt
    refine lv_aload_n hx hb dX9_records_0 rfl (lv_at hl 0 rfl) ?_
    refine va_get (D := D) (ci := 9) (v := .int (nI ns)) (C := RX9) (T := TX9) (N := 8) hx hb hts u9 hown hK hP 0 rfl rfl 2 (by decide) k0 (fun _ h9 => h9) rfl dX9_records_1 ?_
    refine lv_iconst (v := 4) hx hb dX9_records_4 (by decide) ?_
    refine lv_icmp_ne (tgt := 49) hx hb dX9_records_5 (by decide) (fun c_5 => ?_) (fun c_5 => ?_)
    · refine lv_iconst (v := 0) hx hb dX9_records_49 (by decide) ?_
      refine lv_istore_n (lv' := [(1, .int 0), (0, .ref a0)]) hx hb dX9_records_50 rfl hl (by decide) rfl (fun ls hl => ?_)
      have loop51 : ∀ (n : Nat) (k : Nat), (k + n = 1080) → ∀ (H : Heap) (locs : List Loc) (ls : Array Slot), va_P D vwCl (wM I a0 a1 a2 a3 a4 now (m_cp now kept (ns * 1080) k) (nI ns) text len att num rd) H → va_D A (wM I a0 a1 a2 a3 a4 now (m_cp now kept (ns * 1080) k) (nI ns) text len att num rd) → va_S A s.heap H locs → lv_has ls 2 [(0, .ref a0), (1, .int (nI k))] → W p l e ({ frames := 0, cells := 0, slots := 0, locals := 0 } : Room) s m [.ref a0].toArray below meth c H locs 0 0 Q0 (F0 m 51 ls []) := by
        intro n
        induction n with
        | zero =>
          intro k hk H locs ls hP hD hS hl
          refine lv_iload_n hx hb dX9_records_51 rfl (lv_at hl 1 rfl) ?_
          refine lv_sipush (v := 1080) hx hb dX9_records_52 (by decide) ?_
          refine lv_icmp_ge (tgt := 85) hx hb dX9_records_55 (by decide) (fun c_55 => ?_) (fun c_55 => ?_)
          · have hk8 : k = 1080 := by omega
            rw [hk8] at hP hD
            refine lv_aload_n hx hb dX9_records_85 rfl (lv_at hl 0 rfl) ?_
            refine lv_dup hx hb dX9_records_86 rfl ?_
            refine va_get (D := D) (ci := 9) (v := .int (nI ns)) (C := RX9) (T := TX9) (N := 8) hx hb hts u9 hown hK hP 0 rfl rfl 2 (by decide) k0 (fun _ h9 => h9) rfl dX9_records_87 ?_
            refine lv_iconst (v := 1) hx hb dX9_records_90 (by decide) ?_
            refine k_iadd (v := nI (ns + 1)) hx hb dX9_records_91 (nI_add ns 1) ?_
            refine va_put (D := D) (ci := 9) (v := .int (nI (ns + 1))) (ty := .int) (C := RX9) (T := TX9) (N := 8) hx hb hts u9 tyX9 tyX9_ok nmX9 hown hK hP hD hS 0 rfl rfl 2 (by decide) k0 (fun _ h9 => h9) rfl (by decide +kernel) rfl rfl (Nat.le_of_ble_eq_true rfl) dX9_records_92 (fun H locs hP hD hS => ?_)
            have hP : va_P D vwCl (wM I a0 a1 a2 a3 a4 now (m_cp now kept (ns * 1080) 1080) (nI (ns + 1)) text len att num rd) H := hP
            have hD : va_D A (wM I a0 a1 a2 a3 a4 now (m_cp now kept (ns * 1080) 1080) (nI (ns + 1)) text len att num rd) := hD
            exact hend _ _ _ _ _ hP hD hS dX9_records_95 (by rw [m_rec, m_rns, if_pos hlt2, if_pos hlt2])
          · exact absurd ((nI_leI (a := 1080) (b := k) (by omega) (by omega)).mpr (by omega)) c_55
        | succ n ih =>
          intro k hk H locs ls hP hD hS hl
          refine lv_iload_n hx hb dX9_records_51 rfl (lv_at hl 1 rfl) ?_
          refine lv_sipush (v := 1080) hx hb dX9_records_52 (by decide) ?_
          refine lv_icmp_ge (tgt := 85) hx hb dX9_records_55 (by decide) (fun c_55 => ?_) (fun c_55 => ?_)
          · exact absurd ((nI_leI (a := 1080) (b := k) (by omega) (by omega)).mp c_55) (by omega)
          · refine lv_aload_n hx hb dX9_records_58 rfl (lv_at hl 0 rfl) ?_
            refine va_get (D := D) (ci := 9) (v := .ref a2) (C := RX9) (T := TX9) (N := 8) hx hb hts u9 hown hK hP 0 rfl rfl 1 (by decide) k1 (fun _ h9 => h9) rfl dX9_records_59 ?_
            refine lv_aload_n hx hb dX9_records_62 rfl (lv_at hl 0 rfl) ?_
            refine va_get (D := D) (ci := 9) (v := .int (nI ns)) (C := RX9) (T := TX9) (N := 8) hx hb hts u9 hown hK hP 0 rfl rfl 2 (by decide) k0 (fun _ h9 => h9) rfl dX9_records_63 ?_
            refine lv_sipush (v := 1080) hx hb dX9_records_66 (by decide) ?_
            refine k_imul (v := nI (ns * 1080)) hx hb dX9_records_69 (k_mul ns 1080) ?_
            refine lv_iload_n hx hb dX9_records_70 rfl (lv_at hl 1 rfl) ?_
            refine k_iadd (v := nI (ns * 1080 + k)) hx hb dX9_records_71 (nI_add (ns * 1080) k) ?_
            refine lv_aload_n hx hb dX9_records_72 rfl (lv_at hl 0 rfl) ?_
            refine va_get (D := D) (ci := 9) (v := .ref a1) (C := RX9) (T := TX9) (N := 8) hx hb hts u9 hown hK hP 0 rfl rfl 0 (by decide) k2 (fun _ h9 => h9) rfl dX9_records_73 ?_
            refine lv_iload_n hx hb dX9_records_76 rfl (lv_at hl 1 rfl) ?_
            refine k_iald (j := k) (v := (now k)) hx hb hK hP 1 0 rfl rfl rfl (by omega) (by decide) rfl dX9_records_77 ?_
            refine k_iast (j := ns * 1080 + k) hx hb hK hP hD hS 2 0 rfl rfl rfl (by omega) (by decide) dX9_records_78 (fun H locs hP hD hS => ?_)
            have hP : va_P D vwCl (wM I a0 a1 a2 a3 a4 now (upd (m_cp now kept (ns * 1080) k) (ns * 1080 + k) (now k)) (nI ns) text len att num rd) H := hP
            have hD : va_D A (wM I a0 a1 a2 a3 a4 now (upd (m_cp now kept (ns * 1080) k) (ns * 1080 + k) (now k)) (nI ns) text len att num rd) := hD
            refine lv_iinc (v := nI (k + 1)) (lv' := [(1, .int (nI (k + 1))), (0, .ref a0)]) hx hb dX9_records_79 hl (k := 1) rfl (nI_inc k) (by decide) rfl (fun ls hl => ?_)
            refine lv_goto (tgt := 51) hx hb dX9_records_82 (by decide) ?_
            rw [show (upd (m_cp now kept (ns * 1080) k) (ns * 1080 + k) (now k)) = (m_cp now kept (ns * 1080) (k + 1)) from m_cp_s now kept (ns * 1080) k] at hP hD
            exact ih (k + 1) (by omega) _ _ _ hP hD hS (lv_sub hl [1, 0] rfl) 
      rw [← m_cp_0 now kept (ns * 1080)] at hP hD
      exact loop51 1080 0 (by omega) _ _ _ hP hD hS (lv_sub hl [1, 0] rfl) 
    · exact absurd ((nI_eq (a := ns) (b := 4) (by omega) (by omega)).mp c_5) (by omega)
  · have h4 : ns = 4 := by omega
    subst h4
    refine lv_aload_n hx hb dX9_records_0 rfl (lv_at hl 0 rfl) ?_
    refine va_get (D := D) (ci := 9) (v := .int 4) (C := RX9) (T := TX9) (N := 8) hx hb hts u9 hown hK hP 0 rfl rfl 2 (by decide) k0 (fun _ h9 => h9) rfl dX9_records_1 ?_
    refine lv_iconst (v := 4) hx hb dX9_records_4 (by decide) ?_
    refine lv_icmp_ne (tgt := 49) hx hb dX9_records_5 (by decide) (fun c_5 => ?_) (fun c_5 => ?_)
    · exact absurd rfl c_5
    · refine lv_iconst (v := 0) hx hb dX9_records_8 (by decide) ?_
      refine lv_istore_n (lv' := [(1, .int 0), (0, .ref a0)]) hx hb dX9_records_9 rfl hl (by decide) rfl (fun ls hl => ?_)
      have loop10 : ∀ (n : Nat) (k : Nat), (k + n = 3240) → ∀ (H : Heap) (locs : List Loc) (ls : Array Slot), va_P D vwCl (wM I a0 a1 a2 a3 a4 now (m_shK kept k) 4 text len att num rd) H → va_D A (wM I a0 a1 a2 a3 a4 now (m_shK kept k) 4 text len att num rd) → va_S A s.heap H locs → lv_has ls 2 [(0, .ref a0), (1, .int (nI k))] → W p l e ({ frames := 0, cells := 0, slots := 0, locals := 0 } : Room) s m [.ref a0].toArray below meth c H locs 0 0 Q0 (F0 m 10 ls []) := by
        intro n
        induction n with
        | zero =>
          intro k hk H locs ls hP hD hS hl
          refine lv_iload_n hx hb dX9_records_10 rfl (lv_at hl 1 rfl) ?_
          refine lv_sipush (v := 3240) hx hb dX9_records_11 (by decide) ?_
          refine lv_icmp_ge (tgt := 39) hx hb dX9_records_14 (by decide) (fun c_14 => ?_) (fun c_14 => ?_)
          · have hk3 : k = 3240 := by omega
            rw [hk3] at hP hD
            refine lv_aload_n hx hb dX9_records_39 rfl (lv_at hl 0 rfl) ?_
            refine lv_dup hx hb dX9_records_40 rfl ?_
            refine va_get (D := D) (ci := 9) (v := .int 4) (C := RX9) (T := TX9) (N := 8) hx hb hts u9 hown hK hP 0 rfl rfl 2 (by decide) k0 (fun _ h9 => h9) rfl dX9_records_41 ?_
            refine lv_iconst (v := 1) hx hb dX9_records_44 (by decide) ?_
            refine k_isub (v := 3) hx hb dX9_records_45 (by decide) ?_
            refine va_put (D := D) (ci := 9) (v := .int 3) (ty := .int) (C := RX9) (T := TX9) (N := 8) hx hb hts u9 tyX9 tyX9_ok nmX9 hown hK hP hD hS 0 rfl rfl 2 (by decide) k0 (fun _ h9 => h9) rfl (by decide +kernel) rfl rfl (Nat.le_of_ble_eq_true rfl) dX9_records_46 (fun H locs hP hD hS => ?_)
            have hP : va_P D vwCl (wM I a0 a1 a2 a3 a4 now (m_shK kept 3240) 3 text len att num rd) H := hP
            have hD : va_D A (wM I a0 a1 a2 a3 a4 now (m_shK kept 3240) 3 text len att num rd) := hD
            refine lv_iconst (v := 0) hx hb dX9_records_49 (by decide) ?_
            refine lv_istore_n (lv' := [(1, .int 0), (0, .ref a0)]) hx hb dX9_records_50 rfl hl (by decide) rfl (fun ls hl => ?_)
            have loop51 : ∀ (n : Nat) (k : Nat), (k + n = 1080) → ∀ (H : Heap) (locs : List Loc) (ls : Array Slot), va_P D vwCl (wM I a0 a1 a2 a3 a4 now (m_cp now (m_shK kept 3240) 3240 k) 3 text len att num rd) H → va_D A (wM I a0 a1 a2 a3 a4 now (m_cp now (m_shK kept 3240) 3240 k) 3 text len att num rd) → va_S A s.heap H locs → lv_has ls 2 [(0, .ref a0), (1, .int (nI k))] → W p l e ({ frames := 0, cells := 0, slots := 0, locals := 0 } : Room) s m [.ref a0].toArray below meth c H locs 0 0 Q0 (F0 m 51 ls []) := by
              intro n
              induction n with
              | zero =>
                intro k hk H locs ls hP hD hS hl
                refine lv_iload_n hx hb dX9_records_51 rfl (lv_at hl 1 rfl) ?_
                refine lv_sipush (v := 1080) hx hb dX9_records_52 (by decide) ?_
                refine lv_icmp_ge (tgt := 85) hx hb dX9_records_55 (by decide) (fun c_55 => ?_) (fun c_55 => ?_)
                · have hk8 : k = 1080 := by omega
                  rw [hk8] at hP hD
                  refine lv_aload_n hx hb dX9_records_85 rfl (lv_at hl 0 rfl) ?_
                  refine lv_dup hx hb dX9_records_86 rfl ?_
                  refine va_get (D := D) (ci := 9) (v := .int 3) (C := RX9) (T := TX9) (N := 8) hx hb hts u9 hown hK hP 0 rfl rfl 2 (by decide) k0 (fun _ h9 => h9) rfl dX9_records_87 ?_
                  refine lv_iconst (v := 1) hx hb dX9_records_90 (by decide) ?_
                  refine k_iadd (v := 4) hx hb dX9_records_91 (nI_add 3 1) ?_
                  refine va_put (D := D) (ci := 9) (v := .int 4) (ty := .int) (C := RX9) (T := TX9) (N := 8) hx hb hts u9 tyX9 tyX9_ok nmX9 hown hK hP hD hS 0 rfl rfl 2 (by decide) k0 (fun _ h9 => h9) rfl (by decide +kernel) rfl rfl (Nat.le_of_ble_eq_true rfl) dX9_records_92 (fun H locs hP hD hS => ?_)
                  have hP : va_P D vwCl (wM I a0 a1 a2 a3 a4 now (m_cp now (m_shK kept 3240) 3240 1080) 4 text len att num rd) H := hP
                  have hD : va_D A (wM I a0 a1 a2 a3 a4 now (m_cp now (m_shK kept 3240) 3240 1080) 4 text len att num rd) := hD
                  exact hend _ _ _ _ _ hP hD hS dX9_records_95 (by rw [m_rec, m_rns, if_neg (by omega), if_neg (by omega)]; rfl)
                · exact absurd ((nI_leI (a := 1080) (b := k) (by omega) (by omega)).mpr (by omega)) c_55
              | succ n ih =>
                intro k hk H locs ls hP hD hS hl
                refine lv_iload_n hx hb dX9_records_51 rfl (lv_at hl 1 rfl) ?_
                refine lv_sipush (v := 1080) hx hb dX9_records_52 (by decide) ?_
                refine lv_icmp_ge (tgt := 85) hx hb dX9_records_55 (by decide) (fun c_55 => ?_) (fun c_55 => ?_)
                · exact absurd ((nI_leI (a := 1080) (b := k) (by omega) (by omega)).mp c_55) (by omega)
                · refine lv_aload_n hx hb dX9_records_58 rfl (lv_at hl 0 rfl) ?_
                  refine va_get (D := D) (ci := 9) (v := .ref a2) (C := RX9) (T := TX9) (N := 8) hx hb hts u9 hown hK hP 0 rfl rfl 1 (by decide) k1 (fun _ h9 => h9) rfl dX9_records_59 ?_
                  refine lv_aload_n hx hb dX9_records_62 rfl (lv_at hl 0 rfl) ?_
                  refine va_get (D := D) (ci := 9) (v := .int 3) (C := RX9) (T := TX9) (N := 8) hx hb hts u9 hown hK hP 0 rfl rfl 2 (by decide) k0 (fun _ h9 => h9) rfl dX9_records_63 ?_
                  refine lv_sipush (v := 1080) hx hb dX9_records_66 (by decide) ?_
                  refine k_imul (v := 3240) hx hb dX9_records_69 (k_mul 3 1080) ?_
                  refine lv_iload_n hx hb dX9_records_70 rfl (lv_at hl 1 rfl) ?_
                  refine k_iadd (v := nI (3240 + k)) hx hb dX9_records_71 (nI_add 3240 k) ?_
                  refine lv_aload_n hx hb dX9_records_72 rfl (lv_at hl 0 rfl) ?_
                  refine va_get (D := D) (ci := 9) (v := .ref a1) (C := RX9) (T := TX9) (N := 8) hx hb hts u9 hown hK hP 0 rfl rfl 0 (by decide) k2 (fun _ h9 => h9) rfl dX9_records_73 ?_
                  refine lv_iload_n hx hb dX9_records_76 rfl (lv_at hl 1 rfl) ?_
                  refine k_iald (j := k) (v := (now k)) hx hb hK hP 1 0 rfl rfl rfl (by omega) (by decide) rfl dX9_records_77 ?_
                  refine k_iast (j := 3240 + k) hx hb hK hP hD hS 2 0 rfl rfl rfl (by omega) (by decide) dX9_records_78 (fun H locs hP hD hS => ?_)
                  have hP : va_P D vwCl (wM I a0 a1 a2 a3 a4 now (upd (m_cp now (m_shK kept 3240) 3240 k) (3240 + k) (now k)) 3 text len att num rd) H := hP
                  have hD : va_D A (wM I a0 a1 a2 a3 a4 now (upd (m_cp now (m_shK kept 3240) 3240 k) (3240 + k) (now k)) 3 text len att num rd) := hD
                  refine lv_iinc (v := nI (k + 1)) (lv' := [(1, .int (nI (k + 1))), (0, .ref a0)]) hx hb dX9_records_79 hl (k := 1) rfl (nI_inc k) (by decide) rfl (fun ls hl => ?_)
                  refine lv_goto (tgt := 51) hx hb dX9_records_82 (by decide) ?_
                  rw [show (upd (m_cp now (m_shK kept 3240) 3240 k) (3240 + k) (now k)) = (m_cp now (m_shK kept 3240) 3240 (k + 1)) from m_cp_s now (m_shK kept 3240) 3240 k] at hP hD
                  exact ih (k + 1) (by omega) _ _ _ hP hD hS (lv_sub hl [1, 0] rfl) 
            rw [← m_cp_0 now (m_shK kept 3240) 3240] at hP hD
            exact loop51 1080 0 (by omega) _ _ _ hP hD hS (lv_sub hl [1, 0] rfl) 
          · exact absurd ((nI_leI (a := 3240) (b := k) (by omega) (by omega)).mpr (by omega)) c_14
        | succ n ih =>
          intro k hk H locs ls hP hD hS hl
          refine lv_iload_n hx hb dX9_records_10 rfl (lv_at hl 1 rfl) ?_
          refine lv_sipush (v := 3240) hx hb dX9_records_11 (by decide) ?_
          refine lv_icmp_ge (tgt := 39) hx hb dX9_records_14 (by decide) (fun c_14 => ?_) (fun c_14 => ?_)
          · exact absurd ((nI_leI (a := 3240) (b := k) (by omega) (by omega)).mp c_14) (by omega)
          · refine lv_aload_n hx hb dX9_records_17 rfl (lv_at hl 0 rfl) ?_
            refine va_get (D := D) (ci := 9) (v := .ref a2) (C := RX9) (T := TX9) (N := 8) hx hb hts u9 hown hK hP 0 rfl rfl 1 (by decide) k1 (fun _ h9 => h9) rfl dX9_records_18 ?_
            refine lv_iload_n hx hb dX9_records_21 rfl (lv_at hl 1 rfl) ?_
            refine lv_aload_n hx hb dX9_records_22 rfl (lv_at hl 0 rfl) ?_
            refine va_get (D := D) (ci := 9) (v := .ref a2) (C := RX9) (T := TX9) (N := 8) hx hb hts u9 hown hK hP 0 rfl rfl 1 (by decide) k1 (fun _ h9 => h9) rfl dX9_records_23 ?_
            refine lv_iload_n hx hb dX9_records_26 rfl (lv_at hl 1 rfl) ?_
            refine lv_sipush (v := 1080) hx hb dX9_records_27 (by decide) ?_
            refine k_iadd (v := nI (k + 1080)) hx hb dX9_records_30 (nI_add k 1080) ?_
            refine k_iald (j := k + 1080) (v := ((m_shK kept k) (k + 1080))) hx hb hK hP 2 0 rfl rfl rfl (by omega) (by decide) rfl dX9_records_31 ?_
            refine k_iast (j := k) hx hb hK hP hD hS 2 0 rfl rfl rfl (by omega) (by decide) dX9_records_32 (fun H locs hP hD hS => ?_)
            have hP : va_P D vwCl (wM I a0 a1 a2 a3 a4 now (upd (m_shK kept k) k ((m_shK kept k) (k + 1080))) 4 text len att num rd) H := hP
            have hD : va_D A (wM I a0 a1 a2 a3 a4 now (upd (m_shK kept k) k ((m_shK kept k) (k + 1080))) 4 text len att num rd) := hD
            refine lv_iinc (v := nI (k + 1)) (lv' := [(1, .int (nI (k + 1))), (0, .ref a0)]) hx hb dX9_records_33 hl (k := 1) rfl (nI_inc k) (by decide) rfl (fun ls hl => ?_)
            refine lv_goto (tgt := 10) hx hb dX9_records_36 (by decide) ?_
            rw [show (upd (m_shK kept k) k ((m_shK kept k) (k + 1080))) = (m_shK kept (k + 1)) from m_shK_s kept k] at hP hD
            exact ih (k + 1) (by omega) _ _ _ hP hD hS (lv_sub hl [1, 0] rfl) 
      rw [← m_shK_0 kept] at hP hD
      exact loop10 3240 0 (by omega) _ _ _ hP hD hS (lv_sub hl [1, 0] rfl) 
set_option maxHeartbeats 400000 in
set_option maxRecDepth 100000 in
theorem c_X9_undo (l : Launch) (D : va_G) (I C Q : ClassId) (a0 a1 a2 a3 a4 : Nat) (now : Nat → Int32) (kept : Nat → Int32) (ns : Nat) (text : Nat → Int32) (len : Int32) (att : Int32) (num : Int32) (rd : Nat → Int32) (hns : ns ≤ 4) : KI l D (tyL I C Q) yX9_undo wsX9_undo { frames := 0, cells := 0, slots := 0, locals := 0 } [.ref a0] (wM I a0 a1 a2 a3 a4 now kept (nI ns) text len att num rd) (wM I a0 a1 a2 a3 a4 (if ns = 0 then now else m_un kept now ((ns - 1) * 1080) 1080) kept (nI (ns - 1)) text len att num rd) (if ns = 0 then -1000002 else nI (ns - 1)) := by
  refine KI.of (cc := cX9_undo) (maxL := 2) (rt := .int) (own := RX9) (by decide) rfl rfl (Nat.le_of_ble_eq_true rfl) ?_
  intro p e s m below meth c A Q0 ls hx hb hml hown hts hE hA hP hD hS hl hend
  have hK := hE.1
  have hF : CallFix p m c cX9_undo 2 s [.ref a0].toArray wsX9_undo RX9 := ⟨hx, hb, hml, hown, hts⟩
  have k0 := hts (.fieldLink RX9 22 "LateExcusesModel" "states" "I") (List.mem_of_getElem? (i := 1) rfl)
  have k1 := hts (.fieldLink RX9 7 "LateExcusesModel" "now" "[I") (List.mem_of_getElem? (i := 3) rfl)
  have k2 := hts (.fieldLink RX9 13 "LateExcusesModel" "kept" "[I") (List.mem_of_getElem? (i := 4) rfl)
  have k3 := hts (.constant RX9 26 (-1000002)) (List.mem_of_getElem? (i := 2) rfl)
  have u9 : ∀ w ∈ u_ws RX9 TX9 8, w ∈ wsX9_undo := by decide +kernel
  have hl : lv_has ls 2 [(0, .ref a0)] := hl
  refine lv_aload_n hx hb dX9_undo_0 rfl (lv_at hl 0 rfl) ?_
  refine va_get (D := D) (ci := 9) (v := .int (nI ns)) (C := RX9) (T := TX9) (N := 8) hx hb hts u9 hown hK hP 0 rfl rfl 2 (by decide) k0 (fun _ h9 => h9) rfl dX9_undo_1 ?_
  refine lv_if_ne (tgt := 10) hx hb dX9_undo_4 (by decide) (fun c_4 => ?_) (fun c_4 => ?_)
  · have hn0 : ¬ ns = 0 := fun h => c_4 (by rw [h]; rfl)
    refine lv_aload_n hx hb dX9_undo_10 rfl (lv_at hl 0 rfl) ?_
    refine lv_dup hx hb dX9_undo_11 rfl ?_
    refine va_get (D := D) (ci := 9) (v := .int (nI ns)) (C := RX9) (T := TX9) (N := 8) hx hb hts u9 hown hK hP 0 rfl rfl 2 (by decide) k0 (fun _ h9 => h9) rfl dX9_undo_12 ?_
    refine lv_iconst (v := 1) hx hb dX9_undo_15 (by decide) ?_
    refine k_isub (v := nI (ns - 1)) hx hb dX9_undo_16 (pk_sub (a := ns) (b := 1) (by omega)) ?_
    refine va_put (D := D) (ci := 9) (v := .int (nI (ns - 1))) (ty := .int) (C := RX9) (T := TX9) (N := 8) hx hb hts u9 tyX9 tyX9_ok nmX9 hown hK hP hD hS 0 rfl rfl 2 (by decide) k0 (fun _ h9 => h9) rfl (by decide +kernel) rfl rfl (Nat.le_of_ble_eq_true rfl) dX9_undo_17 (fun H locs hP hD hS => ?_)
    have hP : va_P D vwCl (wM I a0 a1 a2 a3 a4 now kept (nI (ns - 1)) text len att num rd) H := hP
    have hD : va_D A (wM I a0 a1 a2 a3 a4 now kept (nI (ns - 1)) text len att num rd) := hD
    refine lv_iconst (v := 0) hx hb dX9_undo_20 (by decide) ?_
    refine lv_istore_n (lv' := [(1, .int 0), (0, .ref a0)]) hx hb dX9_undo_21 rfl hl (by decide) rfl (fun ls hl => ?_)
    have loop22 : ∀ (n : Nat) (k : Nat), (k + n = 1080) → ∀ (H : Heap) (locs : List Loc) (ls : Array Slot), va_P D vwCl (wM I a0 a1 a2 a3 a4 (m_un kept now ((ns - 1) * 1080) k) kept (nI (ns - 1)) text len att num rd) H → va_D A (wM I a0 a1 a2 a3 a4 (m_un kept now ((ns - 1) * 1080) k) kept (nI (ns - 1)) text len att num rd) → va_S A s.heap H locs → lv_has ls 2 [(0, .ref a0), (1, .int (nI k))] → W p l e ({ frames := 0, cells := 0, slots := 0, locals := 0 } : Room) s m [.ref a0].toArray below meth c H locs 0 0 Q0 (F0 m 22 ls []) := by
      intro n
      induction n with
      | zero =>
        intro k hk H locs ls hP hD hS hl
        refine lv_iload_n hx hb dX9_undo_22 rfl (lv_at hl 1 rfl) ?_
        refine lv_sipush (v := 1080) hx hb dX9_undo_23 (by decide) ?_
        refine lv_icmp_ge (tgt := 56) hx hb dX9_undo_26 (by decide) (fun c_26 => ?_) (fun c_26 => ?_)
        · have hk8 : k = 1080 := by omega
          rw [hk8] at hP hD
          refine lv_aload_n hx hb dX9_undo_56 rfl (lv_at hl 0 rfl) ?_
          refine va_get (D := D) (ci := 9) (v := .int (nI (ns - 1))) (C := RX9) (T := TX9) (N := 8) hx hb hts u9 hown hK hP 0 rfl rfl 2 (by decide) k0 (fun _ h9 => h9) rfl dX9_undo_57 ?_
          exact hend _ _ _ _ _ _ hP hD hS dX9_undo_60 rfl (by rw [if_neg hn0]) (by rw [if_neg hn0])
        · exact absurd ((nI_leI (a := 1080) (b := k) (by omega) (by omega)).mpr (by omega)) c_26
      | succ n ih =>
        intro k hk H locs ls hP hD hS hl
        refine lv_iload_n hx hb dX9_undo_22 rfl (lv_at hl 1 rfl) ?_
        refine lv_sipush (v := 1080) hx hb dX9_undo_23 (by decide) ?_
        refine lv_icmp_ge (tgt := 56) hx hb dX9_undo_26 (by decide) (fun c_26 => ?_) (fun c_26 => ?_)
        · exact absurd ((nI_leI (a := 1080) (b := k) (by omega) (by omega)).mp c_26) (by omega)
        · refine lv_aload_n hx hb dX9_undo_29 rfl (lv_at hl 0 rfl) ?_
          refine va_get (D := D) (ci := 9) (v := .ref a1) (C := RX9) (T := TX9) (N := 8) hx hb hts u9 hown hK hP 0 rfl rfl 0 (by decide) k1 (fun _ h9 => h9) rfl dX9_undo_30 ?_
          refine lv_iload_n hx hb dX9_undo_33 rfl (lv_at hl 1 rfl) ?_
          refine lv_aload_n hx hb dX9_undo_34 rfl (lv_at hl 0 rfl) ?_
          refine va_get (D := D) (ci := 9) (v := .ref a2) (C := RX9) (T := TX9) (N := 8) hx hb hts u9 hown hK hP 0 rfl rfl 1 (by decide) k2 (fun _ h9 => h9) rfl dX9_undo_35 ?_
          refine lv_aload_n hx hb dX9_undo_38 rfl (lv_at hl 0 rfl) ?_
          refine va_get (D := D) (ci := 9) (v := .int (nI (ns - 1))) (C := RX9) (T := TX9) (N := 8) hx hb hts u9 hown hK hP 0 rfl rfl 2 (by decide) k0 (fun _ h9 => h9) rfl dX9_undo_39 ?_
          refine lv_sipush (v := 1080) hx hb dX9_undo_42 (by decide) ?_
          refine k_imul (v := nI ((ns - 1) * 1080)) hx hb dX9_undo_45 (k_mul (ns - 1) 1080) ?_
          refine lv_iload_n hx hb dX9_undo_46 rfl (lv_at hl 1 rfl) ?_
          refine k_iadd (v := nI ((ns - 1) * 1080 + k)) hx hb dX9_undo_47 (nI_add ((ns - 1) * 1080) k) ?_
          refine k_iald (j := (ns - 1) * 1080 + k) (v := (kept ((ns - 1) * 1080 + k))) hx hb hK hP 2 0 rfl rfl rfl (by omega) (by decide) rfl dX9_undo_48 ?_
          refine k_iast (j := k) hx hb hK hP hD hS 1 0 rfl rfl rfl (by omega) (by decide) dX9_undo_49 (fun H locs hP hD hS => ?_)
          have hP : va_P D vwCl (wM I a0 a1 a2 a3 a4 (upd (m_un kept now ((ns - 1) * 1080) k) k (kept ((ns - 1) * 1080 + k))) kept (nI (ns - 1)) text len att num rd) H := hP
          have hD : va_D A (wM I a0 a1 a2 a3 a4 (upd (m_un kept now ((ns - 1) * 1080) k) k (kept ((ns - 1) * 1080 + k))) kept (nI (ns - 1)) text len att num rd) := hD
          refine lv_iinc (v := nI (k + 1)) (lv' := [(1, .int (nI (k + 1))), (0, .ref a0)]) hx hb dX9_undo_50 hl (k := 1) rfl (nI_inc k) (by decide) rfl (fun ls hl => ?_)
          refine lv_goto (tgt := 22) hx hb dX9_undo_53 (by decide) ?_
          rw [show (upd (m_un kept now ((ns - 1) * 1080) k) k (kept ((ns - 1) * 1080 + k))) = (m_un kept now ((ns - 1) * 1080) (k + 1)) from m_un_s kept now ((ns - 1) * 1080) k] at hP hD
          exact ih (k + 1) (by omega) _ _ _ hP hD hS (lv_sub hl [1, 0] rfl) 
    rw [← m_un_0 kept now ((ns - 1) * 1080)] at hP hD
    exact loop22 1080 0 (by omega) _ _ _ hP hD hS (lv_sub hl [1, 0] rfl) 
  · have hz : ns = 0 := (nI_eq (a := ns) (b := 0) (by omega) (by omega)).mp c_4
    refine lv_ldc (v := (-1000002)) hx hb hown k3 dX9_undo_7 ?_
    exact hend _ _ _ _ _ _ hP hD hS dX9_undo_9 rfl (by rw [if_pos hz, hz]) (by rw [if_pos hz])
