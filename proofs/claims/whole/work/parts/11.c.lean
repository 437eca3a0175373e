set_option maxHeartbeats 400000 in
set_option maxRecDepth 100000 in
theorem c_X9_says (l : Launch) (D : va_G) (I C Q : ClassId) (a0 a1 a2 a3 a4 : Nat) (now : Nat → Int32) (kept : Nat → Int32) (st : Int32) (text : Nat → Int32) (len : Int32) (att : Int32) (num : Int32) (rd : Nat → Int32) (w : Nat) (so : Int32) (pa : Int32) (ma : Int32) (su : Int32) (hw : now 9 = nI w) (hw40 : w ≤ 40) : KV l D (tyL I C Q) yX9_says wsX9_says { frames := 0, cells := 0, slots := 0, locals := 0 } [.ref a0, .int so, .int pa, .int ma, .int su] (wM I a0 a1 a2 a3 a4 now kept st text len att num rd) (wM I a0 a1 a2 a3 a4 (m_says now w so pa ma su) kept st text len att num rd) := by
  refine KV.of (cc := cX9_says) (maxL := 6) (own := RX9) (by decide) rfl rfl (Nat.le_of_ble_eq_true rfl) ?_
  intro p e s m below meth c A Q0 ls hx hb hml hown hts hE hA hP hD hS hl hend
  have hK := hE.1
  have hF : CallFix p m c cX9_says 6 s [.ref a0, .int so, .int pa, .int ma, .int su].toArray wsX9_says RX9 := ⟨hx, hb, hml, hown, hts⟩
  have k0 := hts (.fieldLink RX9 7 "LateExcusesModel" "now" "[I") (List.mem_of_getElem? (i := 1) rfl)
  have u9 : ∀ w ∈ u_ws RX9 TX9 8, w ∈ wsX9_says := by decide +kernel
  have hl : lv_has ls 6 [(0, .ref a0), (1, .int so), (2, .int pa), (3, .int ma), (4, .int su)] := hl
  rcases Nat.lt_or_ge w 40 with hwl | hwl
  · have hws := hwl
    refine lv_aload_n hx hb dX9_says_0 rfl (lv_at hl 0 rfl) ?_
    refine va_get (D := D) (ci := 9) (v := .ref a1) (C := RX9) (T := TX9) (N := 8) hx hb hts u9 hown hK hP 0 rfl rfl 0 (by decide) k0 (fun _ h9 => h9) rfl dX9_says_1 ?_
    refine lv_bipush (v := 9) hx hb dX9_says_4 (by decide) ?_
    refine k_iald (j := 9) (v := (nI w)) hx hb hK hP 1 0 rfl rfl rfl (by decide) (by decide) hw dX9_says_6 ?_
    refine lv_bipush (v := 40) hx hb dX9_says_7 (by decide) ?_
    refine lv_icmp_ne (tgt := 70) hx hb dX9_says_9 (by decide) (fun c_9 => ?_) (fun c_9 => ?_)
    · refine lv_sipush (v := 908) hx hb dX9_says_70 (by decide) ?_
      refine lv_iconst (v := 4) hx hb dX9_says_73 (by decide) ?_
      refine lv_aload_n hx hb dX9_says_74 rfl (lv_at hl 0 rfl) ?_
      refine va_get (D := D) (ci := 9) (v := .ref a1) (C := RX9) (T := TX9) (N := 8) hx hb hts u9 hown hK hP 0 rfl rfl 0 (by decide) k0 (fun _ h9 => h9) rfl dX9_says_75 ?_
      refine lv_bipush (v := 9) hx hb dX9_says_78 (by decide) ?_
      refine k_iald (j := 9) (v := (nI w)) hx hb hK hP 1 0 rfl rfl rfl (by decide) (by decide) hw dX9_says_80 ?_
      refine k_imul (v := nI (4 * w)) hx hb dX9_says_81 (k_mul 4 w) ?_
      refine k_iadd (v := nI (908 + 4 * w)) hx hb dX9_says_82 (nI_add 908 (4 * w)) ?_
      refine lv_istore (lv' := [(5, .int (nI (908 + 4 * w))), (0, .ref a0), (1, .int so), (2, .int pa), (3, .int ma), (4, .int su)]) hx hb dX9_says_83 hl (by decide) rfl (fun ls hl => ?_)
      refine lv_aload_n hx hb dX9_says_85 rfl (lv_at hl 1 rfl) ?_
      refine va_get (D := D) (ci := 9) (v := .ref a1) (C := RX9) (T := TX9) (N := 8) hx hb hts u9 hown hK hP 0 rfl rfl 0 (by decide) k0 (fun _ h9 => h9) rfl dX9_says_86 ?_
      refine lv_iload hx hb dX9_says_89 (lv_at hl 0 rfl) ?_
      refine lv_iload_n hx hb dX9_says_91 rfl (lv_at hl 2 rfl) ?_
      refine k_iast (j := 908 + 4 * w) hx hb hK hP hD hS 1 0 rfl rfl rfl (by omega) (by decide) dX9_says_92 (fun H locs hP hD hS => ?_)
      have hP : va_P D vwCl (wM I a0 a1 a2 a3 a4 (upd now (908 + 4 * w) so) kept st text len att num rd) H := hP
      have hD : va_D A (wM I a0 a1 a2 a3 a4 (upd now (908 + 4 * w) so) kept st text len att num rd) := hD
      refine lv_aload_n hx hb dX9_says_93 rfl (lv_at hl 1 rfl) ?_
      refine va_get (D := D) (ci := 9) (v := .ref a1) (C := RX9) (T := TX9) (N := 8) hx hb hts u9 hown hK hP 0 rfl rfl 0 (by decide) k0 (fun _ h9 => h9) rfl dX9_says_94 ?_
      refine lv_iload hx hb dX9_says_97 (lv_at hl 0 rfl) ?_
      refine lv_iconst (v := 1) hx hb dX9_says_99 (by decide) ?_
      refine k_iadd (v := nI (908 + 4 * w + 1)) hx hb dX9_says_100 (nI_add (908 + 4 * w) 1) ?_
      refine lv_iload_n hx hb dX9_says_101 rfl (lv_at hl 3 rfl) ?_
      refine k_iast (j := 908 + 4 * w + 1) hx hb hK hP hD hS 1 0 rfl rfl rfl (by omega) (by decide) dX9_says_102 (fun H locs hP hD hS => ?_)
      have hP : va_P D vwCl (wM I a0 a1 a2 a3 a4 (upd (upd now (908 + 4 * w) so) (908 + 4 * w + 1) pa) kept st text len att num rd) H := hP
      have hD : va_D A (wM I a0 a1 a2 a3 a4 (upd (upd now (908 + 4 * w) so) (908 + 4 * w + 1) pa) kept st text len att num rd) := hD
      refine lv_aload_n hx hb dX9_says_103 rfl (lv_at hl 1 rfl) ?_
      refine va_get (D := D) (ci := 9) (v := .ref a1) (C := RX9) (T := TX9) (N := 8) hx hb hts u9 hown hK hP 0 rfl rfl 0 (by decide) k0 (fun _ h9 => h9) rfl dX9_says_104 ?_
      refine lv_iload hx hb dX9_says_107 (lv_at hl 0 rfl) ?_
      refine lv_iconst (v := 2) hx hb dX9_says_109 (by decide) ?_
      refine k_iadd (v := nI (908 + 4 * w + 2)) hx hb dX9_says_110 (nI_add (908 + 4 * w) 2) ?_
      refine lv_iload_n hx hb dX9_says_111 rfl (lv_at hl 4 rfl) ?_
      refine k_iast (j := 908 + 4 * w + 2) hx hb hK hP hD hS 1 0 rfl rfl rfl (by omega) (by decide) dX9_says_112 (fun H locs hP hD hS => ?_)
      have hP : va_P D vwCl (wM I a0 a1 a2 a3 a4 (upd (upd (upd now (908 + 4 * w) so) (908 + 4 * w + 1) pa) (908 + 4 * w + 2) ma) kept st text len att num rd) H := hP
      have hD : va_D A (wM I a0 a1 a2 a3 a4 (upd (upd (upd now (908 + 4 * w) so) (908 + 4 * w + 1) pa) (908 + 4 * w + 2) ma) kept st text len att num rd) := hD
      refine lv_aload_n hx hb dX9_says_113 rfl (lv_at hl 1 rfl) ?_
      refine va_get (D := D) (ci := 9) (v := .ref a1) (C := RX9) (T := TX9) (N := 8) hx hb hts u9 hown hK hP 0 rfl rfl 0 (by decide) k0 (fun _ h9 => h9) rfl dX9_says_114 ?_
      refine lv_iload hx hb dX9_says_117 (lv_at hl 0 rfl) ?_
      refine lv_iconst (v := 3) hx hb dX9_says_119 (by decide) ?_
      refine k_iadd (v := nI (908 + 4 * w + 3)) hx hb dX9_says_120 (nI_add (908 + 4 * w) 3) ?_
      refine lv_iload hx hb dX9_says_121 (lv_at hl 5 rfl) ?_
      refine k_iast (j := 908 + 4 * w + 3) hx hb hK hP hD hS 1 0 rfl rfl rfl (by omega) (by decide) dX9_says_123 (fun H locs hP hD hS => ?_)
      have hP : va_P D vwCl (wM I a0 a1 a2 a3 a4 (upd (upd (upd (upd now (908 + 4 * w) so) (908 + 4 * w + 1) pa) (908 + 4 * w + 2) ma) (908 + 4 * w + 3) su) kept st text len att num rd) H := hP
      have hD : va_D A (wM I a0 a1 a2 a3 a4 (upd (upd (upd (upd now (908 + 4 * w) so) (908 + 4 * w + 1) pa) (908 + 4 * w + 2) ma) (908 + 4 * w + 3) su) kept st text len att num rd) := hD
      refine lv_aload_n hx hb dX9_says_124 rfl (lv_at hl 1 rfl) ?_
      refine va_get (D := D) (ci := 9) (v := .ref a1) (C := RX9) (T := TX9) (N := 8) hx hb hts u9 hown hK hP 0 rfl rfl 0 (by decide) k0 (fun _ h9 => h9) rfl dX9_says_125 ?_
      refine lv_bipush (v := 9) hx hb dX9_says_128 (by decide) ?_
      refine lv_dup2_11 hx hb dX9_says_130 rfl rfl ?_
      refine k_iald (j := 9) (v := (nI w)) hx hb hK hP 1 0 rfl rfl rfl (by decide) (by decide) (Eq.trans ((pk_un (by omega)).trans ((pk_un (by omega)).trans ((pk_un (by omega)).trans (pk_un (by omega))))) hw) dX9_says_131 ?_
      refine lv_iconst (v := 1) hx hb dX9_says_132 (by decide) ?_
      refine k_iadd (v := nI (w + 1)) hx hb dX9_says_133 (nI_add w 1) ?_
      refine k_iast (j := 9) hx hb hK hP hD hS 1 0 rfl rfl rfl (by decide) (by decide) dX9_says_134 (fun H locs hP hD hS => ?_)
      have hP : va_P D vwCl (wM I a0 a1 a2 a3 a4 (upd (upd (upd (upd (upd now (908 + 4 * w) so) (908 + 4 * w + 1) pa) (908 + 4 * w + 2) ma) (908 + 4 * w + 3) su) 9 (nI (w + 1))) kept st text len att num rd) H := hP
      have hD : va_D A (wM I a0 a1 a2 a3 a4 (upd (upd (upd (upd (upd now (908 + 4 * w) so) (908 + 4 * w + 1) pa) (908 + 4 * w + 2) ma) (908 + 4 * w + 3) su) 9 (nI (w + 1))) kept st text len att num rd) := hD
      exact hend _ _ _ _ _ hP hD hS dX9_says_135 (by rw [m_says, if_pos hws])
    · exact absurd ((nI_eq (a := w) (b := 40) (by omega) (by omega)).mp c_9) (by omega)
  · have hw9 : now 9 = 40 := by rw [hw, show w = 40 by omega]; rfl
    refine lv_aload_n hx hb dX9_says_0 rfl (lv_at hl 0 rfl) ?_
    refine va_get (D := D) (ci := 9) (v := .ref a1) (C := RX9) (T := TX9) (N := 8) hx hb hts u9 hown hK hP 0 rfl rfl 0 (by decide) k0 (fun _ h9 => h9) rfl dX9_says_1 ?_
    refine lv_bipush (v := 9) hx hb dX9_says_4 (by decide) ?_
    refine k_iald (j := 9) (v := 40) hx hb hK hP 1 0 rfl rfl rfl (by decide) (by decide) hw9 dX9_says_6 ?_
    refine lv_bipush (v := 40) hx hb dX9_says_7 (by decide) ?_
    refine lv_icmp_ne (tgt := 70) hx hb dX9_says_9 (by decide) (fun c_9 => ?_) (fun c_9 => ?_)
    · exact absurd rfl c_9
    · refine lv_aload_n hx hb dX9_says_12 rfl (lv_at hl 0 rfl) ?_
      refine va_get (D := D) (ci := 9) (v := .ref a1) (C := RX9) (T := TX9) (N := 8) hx hb hts u9 hown hK hP 0 rfl rfl 0 (by decide) k0 (fun _ h9 => h9) rfl dX9_says_13 ?_
      refine lv_bipush (v := 9) hx hb dX9_says_16 (by decide) ?_
      refine lv_dup2_11 hx hb dX9_says_18 rfl rfl ?_
      refine k_iald (j := 9) (v := 40) hx hb hK hP 1 0 rfl rfl rfl (by decide) (by decide) hw9 dX9_says_19 ?_
      refine lv_iconst (v := 1) hx hb dX9_says_20 (by decide) ?_
      refine k_isub (v := 39) hx hb dX9_says_21 (by decide) ?_
      refine k_iast (j := 9) hx hb hK hP hD hS 1 0 rfl rfl rfl (by decide) (by decide) dX9_says_22 (fun H locs hP hD hS => ?_)
      have hP : va_P D vwCl (wM I a0 a1 a2 a3 a4 (upd now 9 39) kept st text len att num rd) H := hP
      have hD : va_D A (wM I a0 a1 a2 a3 a4 (upd now 9 39) kept st text len att num rd) := hD
      refine lv_iconst (v := 0) hx hb dX9_says_23 (by decide) ?_
      refine lv_istore (lv' := [(5, .int 0), (0, .ref a0), (1, .int so), (2, .int pa), (3, .int ma), (4, .int su)]) hx hb dX9_says_24 hl (by decide) rfl (fun ls hl => ?_)
      have loop26 : ∀ (n : Nat) (k : Nat), (k + n = 156) → ∀ (H : Heap) (locs : List Loc) (ls : Array Slot), va_P D vwCl (wM I a0 a1 a2 a3 a4 (m_shW now k) kept st text len att num rd) H → va_D A (wM I a0 a1 a2 a3 a4 (m_shW now k) kept st text len att num rd) → va_S A s.heap H locs → lv_has ls 6 [(0, .ref a0), (1, .int so), (2, .int pa), (3, .int ma), (4, .int su), (5, .int (nI k))] → W p l e ({ frames := 0, cells := 0, slots := 0, locals := 0 } : Room) s m [.ref a0, .int so, .int pa, .int ma, .int su].toArray below meth c H locs 0 0 Q0 (F0 m 26 ls []) := by
        intro n
        induction n with
        | zero =>
          intro k hk H locs ls hP hD hS hl
          refine lv_iload hx hb dX9_says_26 (lv_at hl 5 rfl) ?_
          refine lv_iconst (v := 4) hx hb dX9_says_28 (by decide) ?_
          refine lv_aload_n hx hb dX9_says_29 rfl (lv_at hl 0 rfl) ?_
          refine va_get (D := D) (ci := 9) (v := .ref a1) (C := RX9) (T := TX9) (N := 8) hx hb hts u9 hown hK hP 0 rfl rfl 0 (by decide) k0 (fun _ h9 => h9) rfl dX9_says_30 ?_
          refine lv_bipush (v := 9) hx hb dX9_says_33 (by decide) ?_
          refine k_iald (j := 9) (v := 39) hx hb hK hP 1 0 rfl rfl rfl (by decide) (by decide) (m_shW_9 now k) dX9_says_35 ?_
          refine k_imul (v := 156) hx hb dX9_says_36 (k_mul 4 39) ?_
          refine lv_icmp_ge (tgt := 70) hx hb dX9_says_37 (by decide) (fun c_37 => ?_) (fun c_37 => ?_)
          · have hk9 : k = 156 := by omega
            rw [hk9] at hP hD
            refine lv_sipush (v := 908) hx hb dX9_says_70 (by decide) ?_
            refine lv_iconst (v := 4) hx hb dX9_says_73 (by decide) ?_
            refine lv_aload_n hx hb dX9_says_74 rfl (lv_at hl 0 rfl) ?_
            refine va_get (D := D) (ci := 9) (v := .ref a1) (C := RX9) (T := TX9) (N := 8) hx hb hts u9 hown hK hP 0 rfl rfl 0 (by decide) k0 (fun _ h9 => h9) rfl dX9_says_75 ?_
            refine lv_bipush (v := 9) hx hb dX9_says_78 (by decide) ?_
            refine k_iald (j := 9) (v := 39) hx hb hK hP 1 0 rfl rfl rfl (by decide) (by decide) (m_shW_9 now 156) dX9_says_80 ?_
            refine k_imul (v := 156) hx hb dX9_says_81 (k_mul 4 39) ?_
            refine k_iadd (v := 1064) hx hb dX9_says_82 (nI_add 908 156) ?_
            refine lv_istore (lv' := [(5, .int 1064), (0, .ref a0), (1, .int so), (2, .int pa), (3, .int ma), (4, .int su)]) hx hb dX9_says_83 hl (by decide) rfl (fun ls hl => ?_)
            refine lv_aload_n hx hb dX9_says_85 rfl (lv_at hl 1 rfl) ?_
            refine va_get (D := D) (ci := 9) (v := .ref a1) (C := RX9) (T := TX9) (N := 8) hx hb hts u9 hown hK hP 0 rfl rfl 0 (by decide) k0 (fun _ h9 => h9) rfl dX9_says_86 ?_
            refine lv_iload hx hb dX9_says_89 (lv_at hl 0 rfl) ?_
            refine lv_iload_n hx hb dX9_says_91 rfl (lv_at hl 2 rfl) ?_
            refine k_iast (j := 1064) hx hb hK hP hD hS 1 0 rfl rfl rfl (by decide) (by decide) dX9_says_92 (fun H locs hP hD hS => ?_)
            have hP : va_P D vwCl (wM I a0 a1 a2 a3 a4 (upd (m_shW now 156) 1064 so) kept st text len att num rd) H := hP
            have hD : va_D A (wM I a0 a1 a2 a3 a4 (upd (m_shW now 156) 1064 so) kept st text len att num rd) := hD
            refine lv_aload_n hx hb dX9_says_93 rfl (lv_at hl 1 rfl) ?_
            refine va_get (D := D) (ci := 9) (v := .ref a1) (C := RX9) (T := TX9) (N := 8) hx hb hts u9 hown hK hP 0 rfl rfl 0 (by decide) k0 (fun _ h9 => h9) rfl dX9_says_94 ?_
            refine lv_iload hx hb dX9_says_97 (lv_at hl 0 rfl) ?_
            refine lv_iconst (v := 1) hx hb dX9_says_99 (by decide) ?_
            refine k_iadd (v := 1065) hx hb dX9_says_100 (nI_add 1064 1) ?_
            refine lv_iload_n hx hb dX9_says_101 rfl (lv_at hl 3 rfl) ?_
            refine k_iast (j := 1065) hx hb hK hP hD hS 1 0 rfl rfl rfl (by decide) (by decide) dX9_says_102 (fun H locs hP hD hS => ?_)
            have hP : va_P D vwCl (wM I a0 a1 a2 a3 a4 (upd (upd (m_shW now 156) 1064 so) 1065 pa) kept st text len att num rd) H := hP
            have hD : va_D A (wM I a0 a1 a2 a3 a4 (upd (upd (m_shW now 156) 1064 so) 1065 pa) kept st text len att num rd) := hD
            refine lv_aload_n hx hb dX9_says_103 rfl (lv_at hl 1 rfl) ?_
            refine va_get (D := D) (ci := 9) (v := .ref a1) (C := RX9) (T := TX9) (N := 8) hx hb hts u9 hown hK hP 0 rfl rfl 0 (by decide) k0 (fun _ h9 => h9) rfl dX9_says_104 ?_
            refine lv_iload hx hb dX9_says_107 (lv_at hl 0 rfl) ?_
            refine lv_iconst (v := 2) hx hb dX9_says_109 (by decide) ?_
            refine k_iadd (v := 1066) hx hb dX9_says_110 (nI_add 1064 2) ?_
            refine lv_iload_n hx hb dX9_says_111 rfl (lv_at hl 4 rfl) ?_
            refine k_iast (j := 1066) hx hb hK hP hD hS 1 0 rfl rfl rfl (by decide) (by decide) dX9_says_112 (fun H locs hP hD hS => ?_)
            have hP : va_P D vwCl (wM I a0 a1 a2 a3 a4 (upd (upd (upd (m_shW now 156) 1064 so) 1065 pa) 1066 ma) kept st text len att num rd) H := hP
            have hD : va_D A (wM I a0 a1 a2 a3 a4 (upd (upd (upd (m_shW now 156) 1064 so) 1065 pa) 1066 ma) kept st text len att num rd) := hD
            refine lv_aload_n hx hb dX9_says_113 rfl (lv_at hl 1 rfl) ?_
            refine va_get (D := D) (ci := 9) (v := .ref a1) (C := RX9) (T := TX9) (N := 8) hx hb hts u9 hown hK hP 0 rfl rfl 0 (by decide) k0 (fun _ h9 => h9) rfl dX9_says_114 ?_
            refine lv_iload hx hb dX9_says_117 (lv_at hl 0 rfl) ?_
            refine lv_iconst (v := 3) hx hb dX9_says_119 (by decide) ?_
            refine k_iadd (v := 1067) hx hb dX9_says_120 (nI_add 1064 3) ?_
            refine lv_iload hx hb dX9_says_121 (lv_at hl 5 rfl) ?_
            refine k_iast (j := 1067) hx hb hK hP hD hS 1 0 rfl rfl rfl (by decide) (by decide) dX9_says_123 (fun H locs hP hD hS => ?_)
            have hP : va_P D vwCl (wM I a0 a1 a2 a3 a4 (upd (upd (upd (upd (m_shW now 156) 1064 so) 1065 pa) 1066 ma) 1067 su) kept st text len att num rd) H := hP
            have hD : va_D A (wM I a0 a1 a2 a3 a4 (upd (upd (upd (upd (m_shW now 156) 1064 so) 1065 pa) 1066 ma) 1067 su) kept st text len att num rd) := hD
            refine lv_aload_n hx hb dX9_says_124 rfl (lv_at hl 1 rfl) ?_
            refine va_get (D := D) (ci := 9) (v := .ref a1) (C := RX9) (T := TX9) (N := 8) hx hb hts u9 hown hK hP 0 rfl rfl 0 (by decide) k0 (fun _ h9 => h9) rfl dX9_says_125 ?_
            refine lv_bipush (v := 9) hx hb dX9_says_128 (by decide) ?_
            refine lv_dup2_11 hx hb dX9_says_130 rfl rfl ?_
            refine k_iald (j := 9) (v := 39) hx hb hK hP 1 0 rfl rfl rfl (by decide) (by decide) (Eq.trans ((pk_un (by omega)).trans ((pk_un (by omega)).trans ((pk_un (by omega)).trans (pk_un (by omega))))) (m_shW_9 now 156)) dX9_says_131 ?_
            refine lv_iconst (v := 1) hx hb dX9_says_132 (by decide) ?_
            refine k_iadd (v := 40) hx hb dX9_says_133 (nI_add 39 1) ?_
            refine k_iast (j := 9) hx hb hK hP hD hS 1 0 rfl rfl rfl (by decide) (by decide) dX9_says_134 (fun H locs hP hD hS => ?_)
            have hP : va_P D vwCl (wM I a0 a1 a2 a3 a4 (upd (upd (upd (upd (upd (m_shW now 156) 1064 so) 1065 pa) 1066 ma) 1067 su) 9 40) kept st text len att num rd) H := hP
            have hD : va_D A (wM I a0 a1 a2 a3 a4 (upd (upd (upd (upd (upd (m_shW now 156) 1064 so) 1065 pa) 1066 ma) 1067 su) 9 40) kept st text len att num rd) := hD
            exact hend _ _ _ _ _ hP hD hS dX9_says_135 (by rw [m_says, if_neg (by omega)])
          · exact absurd ((nI_leI (a := 156) (b := k) (by omega) (by omega)).mpr (by omega)) c_37
        | succ n ih =>
          intro k hk H locs ls hP hD hS hl
          refine lv_iload hx hb dX9_says_26 (lv_at hl 5 rfl) ?_
          refine lv_iconst (v := 4) hx hb dX9_says_28 (by decide) ?_
          refine lv_aload_n hx hb dX9_says_29 rfl (lv_at hl 0 rfl) ?_
          refine va_get (D := D) (ci := 9) (v := .ref a1) (C := RX9) (T := TX9) (N := 8) hx hb hts u9 hown hK hP 0 rfl rfl 0 (by decide) k0 (fun _ h9 => h9) rfl dX9_says_30 ?_
          refine lv_bipush (v := 9) hx hb dX9_says_33 (by decide) ?_
          refine k_iald (j := 9) (v := 39) hx hb hK hP 1 0 rfl rfl rfl (by decide) (by decide) (m_shW_9 now k) dX9_says_35 ?_
          refine k_imul (v := 156) hx hb dX9_says_36 (k_mul 4 39) ?_
          refine lv_icmp_ge (tgt := 70) hx hb dX9_says_37 (by decide) (fun c_37 => ?_) (fun c_37 => ?_)
          · exact absurd ((nI_leI (a := 156) (b := k) (by omega) (by omega)).mp c_37) (by omega)
          · refine lv_aload_n hx hb dX9_says_40 rfl (lv_at hl 0 rfl) ?_
            refine va_get (D := D) (ci := 9) (v := .ref a1) (C := RX9) (T := TX9) (N := 8) hx hb hts u9 hown hK hP 0 rfl rfl 0 (by decide) k0 (fun _ h9 => h9) rfl dX9_says_41 ?_
            refine lv_sipush (v := 908) hx hb dX9_says_44 (by decide) ?_
            refine lv_iload hx hb dX9_says_47 (lv_at hl 5 rfl) ?_
            refine k_iadd (v := nI (908 + k)) hx hb dX9_says_49 (nI_add 908 k) ?_
            refine lv_aload_n hx hb dX9_says_50 rfl (lv_at hl 0 rfl) ?_
            refine va_get (D := D) (ci := 9) (v := .ref a1) (C := RX9) (T := TX9) (N := 8) hx hb hts u9 hown hK hP 0 rfl rfl 0 (by decide) k0 (fun _ h9 => h9) rfl dX9_says_51 ?_
            refine lv_sipush (v := 908) hx hb dX9_says_54 (by decide) ?_
            refine lv_iload hx hb dX9_says_57 (lv_at hl 5 rfl) ?_
            refine k_iadd (v := nI (908 + k)) hx hb dX9_says_59 (nI_add 908 k) ?_
            refine lv_iconst (v := 4) hx hb dX9_says_60 (by decide) ?_
            refine k_iadd (v := nI (908 + k + 4)) hx hb dX9_says_61 (nI_add (908 + k) 4) ?_
            refine k_iald (j := 908 + k + 4) (v := ((m_shW now k) (908 + k + 4))) hx hb hK hP 1 0 rfl rfl rfl (by omega) (by decide) rfl dX9_says_62 ?_
            refine k_iast (j := 908 + k) hx hb hK hP hD hS 1 0 rfl rfl rfl (by omega) (by decide) dX9_says_63 (fun H locs hP hD hS => ?_)
            have hP : va_P D vwCl (wM I a0 a1 a2 a3 a4 (upd (m_shW now k) (908 + k) ((m_shW now k) (908 + k + 4))) kept st text len att num rd) H := hP
            have hD : va_D A (wM I a0 a1 a2 a3 a4 (upd (m_shW now k) (908 + k) ((m_shW now k) (908 + k + 4))) kept st text len att num rd) := hD
            refine lv_iinc (v := nI (k + 1)) (lv' := [(5, .int (nI (k + 1))), (0, .ref a0), (1, .int so), (2, .int pa), (3, .int ma), (4, .int su)]) hx hb dX9_says_64 hl (k := 5) rfl (nI_inc k) (by decide) rfl (fun ls hl => ?_)
            refine lv_goto (tgt := 26) hx hb dX9_says_67 (by decide) ?_
            rw [show (upd (m_shW now k) (908 + k) ((m_shW now k) (908 + k + 4))) = (m_shW now (k + 1)) from m_shW_s now k] at hP hD
            exact ih (k + 1) (by omega) _ _ _ hP hD hS (lv_sub hl [1, 2, 3, 4, 5, 0] rfl) 
      rw [m_shW_0] at hP hD
      exact loop26 156 0 (by omega) _ _ _ hP hD hS (lv_sub hl [1, 2, 3, 4, 5, 0] rfl) 
set_option maxHeartbeats 400000 in
set_option maxRecDepth 100000 in
theorem c_X9_tells (l : Launch) (D : va_G) (I C Q : ClassId) (a0 a1 a2 a3 a4 : Nat) (now : Nat → Int32) (kept : Nat → Int32) (st : Int32) (text : Nat → Int32) (len : Int32) (att : Int32) (num : Int32) (rd : Nat → Int32) (sz : Nat) (k : Nat) (hsz : now 6 = nI sz) (hs0 : 0 < sz) (hs1 : sz ≤ 100) (hwk : wOk now) (hk6 : k < 64) : KV l D (tyL I C Q) yX9_tells wsX9_tells { frames := 3, cells := 0, slots := 0, locals := 69 } [.ref a0, .int (nI k)] (wM I a0 a1 a2 a3 a4 now kept st text len att num rd) (wM I a0 a1 a2 a3 a4 (m_tells now k sz) kept st text len att num rd) := by
  refine KV.of (cc := cX9_tells) (maxL := 4) (own := RX9) (by decide) rfl rfl (Nat.le_of_ble_eq_true rfl) ?_
  intro p e s m below meth c A Q0 ls hx hb hml hown hts hE hA hP hD hS hl hend
  have hK := hE.1
  have hF : CallFix p m c cX9_tells 4 s [.ref a0, .int (nI k)].toArray wsX9_tells RX9 := ⟨hx, hb, hml, hown, hts⟩
  have k0 := hts (.fieldLink RX9 7 "LateExcusesModel" "now" "[I") (List.mem_of_getElem? (i := 1) rfl)
  have u9 : ∀ w ∈ u_ws RX9 TX9 8, w ∈ wsX9_tells := by decide +kernel
  have hl : lv_has ls 4 [(0, .ref a0), (1, .int (nI k))] := hl
  refine lv_aload_n hx hb dX9_tells_0 rfl (lv_at hl 0 rfl) ?_
  refine lv_iload_n hx hb dX9_tells_1 rfl (lv_at hl 1 rfl) ?_
  refine lv_iconst (v := 0) hx hb dX9_tells_2 (by decide) ?_
  refine k_iF (va_runV (As := [.int (nI k), .int 0]) (rest := []) hF (c_X9_ofP l D I C Q a0 a1 a2 a3 a4 now kept st text len att num rd k 0 hk6 (by omega) _) (cwV 2 hts gX9_tells_X9_ofP rfl rfl rfl (by decide +kernel) ⟨Nat.le_of_ble_eq_true rfl, Nat.le_of_ble_eq_true rfl⟩) (kPreV hE hP hD (ci := 9) (q0 := 0) rfl rfl) rfl rfl hl.1 rfl (lv_room (Nat.le_of_ble_eq_true rfl)) dX9_tells_3 ⟨Nat.zero_le _, Nat.zero_le _⟩) hD hS hA (fun H locs hP hD hS => ?_)
  refine lv_istore_n (lv' := [(2, .int (now (396 + 8 * k + 0))), (0, .ref a0), (1, .int (nI k))]) hx hb dX9_tells_6 rfl hl (by decide) rfl (fun ls hl => ?_)
  refine lv_aload_n hx hb dX9_tells_7 rfl (lv_at hl 1 rfl) ?_
  refine lv_iload_n hx hb dX9_tells_8 rfl (lv_at hl 0 rfl) ?_
  refine lv_iconst (v := 0) hx hb dX9_tells_9 (by decide) ?_
  refine k_iF (va_runV (As := [.int (now (396 + 8 * k + 0)), .int 0]) (rest := []) hF (c_X9_sumOf l D I C Q a0 a1 a2 a3 a4 now kept st text len att num rd sz (now (396 + 8 * k + 0)) 0 hsz hs0 hs1 _) (cwV 2 hts gX9_tells_X9_sumOf rfl rfl rfl (by decide +kernel) ⟨Nat.le_of_ble_eq_true rfl, Nat.le_of_ble_eq_true rfl⟩) (kPreV hE hP hD (ci := 9) (q0 := 0) rfl rfl) rfl rfl hl.1 rfl (lv_room (Nat.le_of_ble_eq_true rfl)) dX9_tells_10 ⟨Nat.zero_le _, Nat.zero_le _⟩) hD hS hA (fun H locs hP hD hS => ?_)
  refine k_top (y := m_num now sz (now (396 + 8 * k + 0))) (m_sumOf_0 _ _ _) ?_
  refine lv_istore_n (lv' := [(3, .int (m_num now sz (now (396 + 8 * k + 0)))), (2, .int (now (396 + 8 * k + 0))), (0, .ref a0), (1, .int (nI k))]) hx hb dX9_tells_13 rfl hl (by decide) rfl (fun ls hl => ?_)
  refine lv_iload_n hx hb dX9_tells_14 rfl (lv_at hl 0 rfl) ?_
  refine lv_if_le (tgt := 84) hx hb dX9_tells_15 (by decide) (fun c_15 => ?_) (fun c_15 => ?_)
  · exact hend _ _ _ _ _ hP hD hS dX9_tells_84 (by rw [m_tells, if_pos c_15])
  · refine lv_aload_n hx hb dX9_tells_18 rfl (lv_at hl 2 rfl) ?_
    refine lv_iload_n hx hb dX9_tells_19 rfl (lv_at hl 3 rfl) ?_
    refine lv_iconst (v := 5) hx hb dX9_tells_20 (by decide) ?_
    refine lv_iconst (v := 1) hx hb dX9_tells_21 (by decide) ?_
    refine k_vF (va_runV (As := [.int (nI k), .int 5, .int 1]) (rest := []) hF (c_X9_setsP l D I C Q a0 a1 a2 a3 a4 now kept st text len att num rd k 5 1 hk6 (by omega) _) (cwV 3 hts gX9_tells_X9_setsP rfl rfl rfl (by decide +kernel) ⟨Nat.le_of_ble_eq_true rfl, Nat.le_of_ble_eq_true rfl⟩) (kPreV hE hP hD (ci := 9) (q0 := 0) rfl rfl) rfl rfl hl.1 rfl (lv_room (Nat.le_of_ble_eq_true rfl)) dX9_tells_22 ⟨Nat.zero_le _, Nat.zero_le _⟩) hD hS hA (fun H locs hP hD hS => ?_)
    have hP : va_P D vwCl (wM I a0 a1 a2 a3 a4 (upd now (396 + 8 * k + 5) 1) kept st text len att num rd) H := hP
    have hD : va_D A (wM I a0 a1 a2 a3 a4 (upd now (396 + 8 * k + 5) 1) kept st text len att num rd) := hD
    refine lv_aload_n hx hb dX9_tells_25 rfl (lv_at hl 2 rfl) ?_
    refine lv_iload_n hx hb dX9_tells_26 rfl (lv_at hl 3 rfl) ?_
    refine lv_bipush (v := 6) hx hb dX9_tells_27 (by decide) ?_
    refine lv_iload_n hx hb dX9_tells_29 rfl (lv_at hl 0 rfl) ?_
    refine k_vF (va_runV (As := [.int (nI k), .int 6, .int (m_num now sz (now (396 + 8 * k + 0)))]) (rest := []) hF (c_X9_setsP l D I C Q a0 a1 a2 a3 a4 (upd now (396 + 8 * k + 5) 1) kept st text len att num rd k 6 (m_num now sz (now (396 + 8 * k + 0))) hk6 (by omega) _) (cwV 3 hts gX9_tells_X9_setsP rfl rfl rfl (by decide +kernel) ⟨Nat.le_of_ble_eq_true rfl, Nat.le_of_ble_eq_true rfl⟩) (kPreV hE hP hD (ci := 9) (q0 := 0) rfl rfl) rfl rfl hl.1 rfl (lv_room (Nat.le_of_ble_eq_true rfl)) dX9_tells_30 ⟨Nat.zero_le _, Nat.zero_le _⟩) hD hS hA (fun H locs hP hD hS => ?_)
    have hP : va_P D vwCl (wM I a0 a1 a2 a3 a4 (upd (upd now (396 + 8 * k + 5) 1) (396 + 8 * k + 6) (m_num now sz (now (396 + 8 * k + 0)))) kept st text len att num rd) H := hP
    have hD : va_D A (wM I a0 a1 a2 a3 a4 (upd (upd now (396 + 8 * k + 5) 1) (396 + 8 * k + 6) (m_num now sz (now (396 + 8 * k + 0)))) kept st text len att num rd) := hD
    refine lv_aload_n hx hb dX9_tells_33 rfl (lv_at hl 2 rfl) ?_
    refine lv_iload_n hx hb dX9_tells_34 rfl (lv_at hl 3 rfl) ?_
    refine lv_bipush (v := 7) hx hb dX9_tells_35 (by decide) ?_
    refine lv_aload_n hx hb dX9_tells_37 rfl (lv_at hl 2 rfl) ?_
    refine lv_iload_n hx hb dX9_tells_38 rfl (lv_at hl 1 rfl) ?_
    refine lv_iconst (v := 1) hx hb dX9_tells_39 (by decide) ?_
    refine k_iF (va_runV (As := [.int (now (396 + 8 * k + 0)), .int 1]) (rest := [.int 7, .int (nI k), .ref a0]) hF (c_X9_sumOf l D I C Q a0 a1 a2 a3 a4 (upd (upd now (396 + 8 * k + 5) 1) (396 + 8 * k + 6) (m_num now sz (now (396 + 8 * k + 0)))) kept st text len att num rd sz (now (396 + 8 * k + 0)) 1 (Eq.trans ((pk_un (by omega)).trans (pk_un (by omega))) hsz) hs0 hs1 _) (cwV 2 hts gX9_tells_X9_sumOf rfl rfl rfl (by decide +kernel) ⟨Nat.le_of_ble_eq_true rfl, Nat.le_of_ble_eq_true rfl⟩) (kPreV hE hP hD (ci := 9) (q0 := 0) rfl rfl) rfl rfl hl.1 rfl (lv_room (Nat.le_of_ble_eq_true rfl)) dX9_tells_40 ⟨Nat.zero_le _, Nat.zero_le _⟩) hD hS hA (fun H locs hP hD hS => ?_)
    refine k_top (y := m_sum now sz (now (396 + 8 * k + 0))) ((m_sumOf_1 _ _ _).trans (m_sum_tl _ _ _ _ _ _)) ?_
    refine k_vF (va_runV (As := [.int (nI k), .int 7, .int (m_sum now sz (now (396 + 8 * k + 0)))]) (rest := []) hF (c_X9_setsP l D I C Q a0 a1 a2 a3 a4 (upd (upd now (396 + 8 * k + 5) 1) (396 + 8 * k + 6) (m_num now sz (now (396 + 8 * k + 0)))) kept st text len att num rd k 7 (m_sum now sz (now (396 + 8 * k + 0))) hk6 (by omega) _) (cwV 3 hts gX9_tells_X9_setsP rfl rfl rfl (by decide +kernel) ⟨Nat.le_of_ble_eq_true rfl, Nat.le_of_ble_eq_true rfl⟩) (kPreV hE hP hD (ci := 9) (q0 := 0) rfl rfl) rfl rfl hl.1 rfl (lv_room (Nat.le_of_ble_eq_true rfl)) dX9_tells_43 ⟨Nat.zero_le _, Nat.zero_le _⟩) hD hS hA (fun H locs hP hD hS => ?_)
    have hP : va_P D vwCl (wM I a0 a1 a2 a3 a4 (upd (upd (upd now (396 + 8 * k + 5) 1) (396 + 8 * k + 6) (m_num now sz (now (396 + 8 * k + 0)))) (396 + 8 * k + 7) (m_sum now sz (now (396 + 8 * k + 0)))) kept st text len att num rd) H := hP
    have hD : va_D A (wM I a0 a1 a2 a3 a4 (upd (upd (upd now (396 + 8 * k + 5) 1) (396 + 8 * k + 6) (m_num now sz (now (396 + 8 * k + 0)))) (396 + 8 * k + 7) (m_sum now sz (now (396 + 8 * k + 0)))) kept st text len att num rd) := hD
    refine lv_aload_n hx hb dX9_tells_46 rfl (lv_at hl 2 rfl) ?_
    refine lv_iload_n hx hb dX9_tells_47 rfl (lv_at hl 3 rfl) ?_
    refine lv_iconst (v := 3) hx hb dX9_tells_48 (by decide) ?_
    refine lv_aload_n hx hb dX9_tells_49 rfl (lv_at hl 2 rfl) ?_
    refine lv_iload_n hx hb dX9_tells_50 rfl (lv_at hl 3 rfl) ?_
    refine lv_iconst (v := 3) hx hb dX9_tells_51 (by decide) ?_
    refine k_iF (va_runV (As := [.int (nI k), .int 3]) (rest := [.int 3, .int (nI k), .ref a0]) hF (c_X9_ofP l D I C Q a0 a1 a2 a3 a4 (upd (upd (upd now (396 + 8 * k + 5) 1) (396 + 8 * k + 6) (m_num now sz (now (396 + 8 * k + 0)))) (396 + 8 * k + 7) (m_sum now sz (now (396 + 8 * k + 0)))) kept st text len att num rd k 3 hk6 (by omega) _) (cwV 2 hts gX9_tells_X9_ofP rfl rfl rfl (by decide +kernel) ⟨Nat.le_of_ble_eq_true rfl, Nat.le_of_ble_eq_true rfl⟩) (kPreV hE hP hD (ci := 9) (q0 := 0) rfl rfl) rfl rfl hl.1 rfl (lv_room (Nat.le_of_ble_eq_true rfl)) dX9_tells_52 ⟨Nat.zero_le _, Nat.zero_le _⟩) hD hS hA (fun H locs hP hD hS => ?_)
    refine k_top (y := now (396 + 8 * k + 3)) ((pk_un (by omega)).trans ((pk_un (by omega)).trans (pk_un (by omega)))) ?_
    refine lv_iconst (v := 1) hx hb dX9_tells_55 (by decide) ?_
    refine lv_iadd hx hb dX9_tells_56 ?_
    refine k_vF (va_runV (As := [.int (nI k), .int 3, .int ((now (396 + 8 * k + 3)) + 1)]) (rest := []) hF (c_X9_setsP l D I C Q a0 a1 a2 a3 a4 (upd (upd (upd now (396 + 8 * k + 5) 1) (396 + 8 * k + 6) (m_num now sz (now (396 + 8 * k + 0)))) (396 + 8 * k + 7) (m_sum now sz (now (396 + 8 * k + 0)))) kept st text len att num rd k 3 ((now (396 + 8 * k + 3)) + 1) hk6 (by omega) _) (cwV 3 hts gX9_tells_X9_setsP rfl rfl rfl (by decide +kernel) ⟨Nat.le_of_ble_eq_true rfl, Nat.le_of_ble_eq_true rfl⟩) (kPreV hE hP hD (ci := 9) (q0 := 0) rfl rfl) rfl rfl hl.1 rfl (lv_room (Nat.le_of_ble_eq_true rfl)) dX9_tells_57 ⟨Nat.zero_le _, Nat.zero_le _⟩) hD hS hA (fun H locs hP hD hS => ?_)
    have hP : va_P D vwCl (wM I a0 a1 a2 a3 a4 (upd (upd (upd (upd now (396 + 8 * k + 5) 1) (396 + 8 * k + 6) (m_num now sz (now (396 + 8 * k + 0)))) (396 + 8 * k + 7) (m_sum now sz (now (396 + 8 * k + 0)))) (396 + 8 * k + 3) ((now (396 + 8 * k + 3)) + 1)) kept st text len att num rd) H := hP
    have hD : va_D A (wM I a0 a1 a2 a3 a4 (upd (upd (upd (upd now (396 + 8 * k + 5) 1) (396 + 8 * k + 6) (m_num now sz (now (396 + 8 * k + 0)))) (396 + 8 * k + 7) (m_sum now sz (now (396 + 8 * k + 0)))) (396 + 8 * k + 3) ((now (396 + 8 * k + 3)) + 1)) kept st text len att num rd) := hD
    refine lv_aload_n hx hb dX9_tells_60 rfl (lv_at hl 2 rfl) ?_
    refine va_get (D := D) (ci := 9) (v := .ref a1) (C := RX9) (T := TX9) (N := 8) hx hb hts u9 hown hK hP 0 rfl rfl 0 (by decide) k0 (fun _ h9 => h9) rfl dX9_tells_61 ?_
    refine lv_iconst (v := 3) hx hb dX9_tells_64 (by decide) ?_
    refine lv_dup2_11 hx hb dX9_tells_65 rfl rfl ?_
    refine k_iald (j := 3) (v := (now 3)) hx hb hK hP 1 0 rfl rfl rfl (by decide) (by decide) ((pk_un (by omega)).trans ((pk_un (by omega)).trans ((pk_un (by omega)).trans (pk_un (by omega))))) dX9_tells_66 ?_
    refine lv_iconst (v := 1) hx hb dX9_tells_67 (by decide) ?_
    refine lv_iadd hx hb dX9_tells_68 ?_
    refine k_iast (j := 3) hx hb hK hP hD hS 1 0 rfl rfl rfl (by decide) (by decide) dX9_tells_69 (fun H locs hP hD hS => ?_)
    have hP : va_P D vwCl (wM I a0 a1 a2 a3 a4 (upd (upd (upd (upd (upd now (396 + 8 * k + 5) 1) (396 + 8 * k + 6) (m_num now sz (now (396 + 8 * k + 0)))) (396 + 8 * k + 7) (m_sum now sz (now (396 + 8 * k + 0)))) (396 + 8 * k + 3) ((now (396 + 8 * k + 3)) + 1)) 3 ((now 3) + 1)) kept st text len att num rd) H := hP
    have hD : va_D A (wM I a0 a1 a2 a3 a4 (upd (upd (upd (upd (upd now (396 + 8 * k + 5) 1) (396 + 8 * k + 6) (m_num now sz (now (396 + 8 * k + 0)))) (396 + 8 * k + 7) (m_sum now sz (now (396 + 8 * k + 0)))) (396 + 8 * k + 3) ((now (396 + 8 * k + 3)) + 1)) 3 ((now 3) + 1)) kept st text len att num rd) := hD
    refine lv_aload_n hx hb dX9_tells_70 rfl (lv_at hl 2 rfl) ?_
    refine lv_iconst (v := 0) hx hb dX9_tells_71 (by decide) ?_
    refine lv_iload_n hx hb dX9_tells_72 rfl (lv_at hl 1 rfl) ?_
    refine lv_iload_n hx hb dX9_tells_73 rfl (lv_at hl 0 rfl) ?_
    refine lv_aload_n hx hb dX9_tells_74 rfl (lv_at hl 2 rfl) ?_
    refine lv_iload_n hx hb dX9_tells_75 rfl (lv_at hl 3 rfl) ?_
    refine lv_bipush (v := 7) hx hb dX9_tells_76 (by decide) ?_
    refine k_iF (va_runV (As := [.int (nI k), .int 7]) (rest := [.int (m_num now sz (now (396 + 8 * k + 0))), .int (now (396 + 8 * k + 0)), .int 0, .ref a0]) hF (c_X9_ofP l D I C Q a0 a1 a2 a3 a4 (upd (upd (upd (upd (upd now (396 + 8 * k + 5) 1) (396 + 8 * k + 6) (m_num now sz (now (396 + 8 * k + 0)))) (396 + 8 * k + 7) (m_sum now sz (now (396 + 8 * k + 0)))) (396 + 8 * k + 3) ((now (396 + 8 * k + 3)) + 1)) 3 ((now 3) + 1)) kept st text len att num rd k 7 hk6 (by omega) _) (cwV 2 hts gX9_tells_X9_ofP rfl rfl rfl (by decide +kernel) ⟨Nat.le_of_ble_eq_true rfl, Nat.le_of_ble_eq_true rfl⟩) (kPreV hE hP hD (ci := 9) (q0 := 0) rfl rfl) rfl rfl hl.1 rfl (lv_room (Nat.le_of_ble_eq_true rfl)) dX9_tells_78 ⟨Nat.zero_le _, Nat.zero_le _⟩) hD hS hA (fun H locs hP hD hS => ?_)
    refine k_top (y := m_sum now sz (now (396 + 8 * k + 0))) ((pk_un (by omega)).trans ((pk_un (by omega)).trans pk_us)) ?_
    refine k_vF (va_runV (As := [.int 0, .int (now (396 + 8 * k + 0)), .int (m_num now sz (now (396 + 8 * k + 0))), .int (m_sum now sz (now (396 + 8 * k + 0)))]) (rest := []) hF (c_X9_says l D I C Q a0 a1 a2 a3 a4 (upd (upd (upd (upd (upd now (396 + 8 * k + 5) 1) (396 + 8 * k + 6) (m_num now sz (now (396 + 8 * k + 0)))) (396 + 8 * k + 7) (m_sum now sz (now (396 + 8 * k + 0)))) (396 + 8 * k + 3) ((now (396 + 8 * k + 3)) + 1)) 3 ((now 3) + 1)) kept st text len att num rd (wN now) 0 (now (396 + 8 * k + 0)) (m_num now sz (now (396 + 8 * k + 0))) (m_sum now sz (now (396 + 8 * k + 0))) (Eq.trans ((pk_un (by omega)).trans ((pk_un (by omega)).trans ((pk_un (by omega)).trans ((pk_un (by omega)).trans (pk_un (by omega)))))) hwk.1) hwk.2 _) (cwV 4 hts gX9_tells_X9_says rfl rfl rfl (by decide +kernel) ⟨Nat.le_of_ble_eq_true rfl, Nat.le_of_ble_eq_true rfl⟩) (kPreV hE hP hD (ci := 9) (q0 := 0) rfl rfl) rfl rfl hl.1 rfl (lv_room (Nat.le_of_ble_eq_true rfl)) dX9_tells_81 ⟨Nat.zero_le _, Nat.zero_le _⟩) hD hS hA (fun H locs hP hD hS => ?_)
    have hP : va_P D vwCl (wM I a0 a1 a2 a3 a4 (m_says (upd (upd (upd (upd (upd now (396 + 8 * k + 5) 1) (396 + 8 * k + 6) (m_num now sz (now (396 + 8 * k + 0)))) (396 + 8 * k + 7) (m_sum now sz (now (396 + 8 * k + 0)))) (396 + 8 * k + 3) ((now (396 + 8 * k + 3)) + 1)) 3 ((now 3) + 1)) (wN now) 0 (now (396 + 8 * k + 0)) (m_num now sz (now (396 + 8 * k + 0))) (m_sum now sz (now (396 + 8 * k + 0)))) kept st text len att num rd) H := hP
    have hD : va_D A (wM I a0 a1 a2 a3 a4 (m_says (upd (upd (upd (upd (upd now (396 + 8 * k + 5) 1) (396 + 8 * k + 6) (m_num now sz (now (396 + 8 * k + 0)))) (396 + 8 * k + 7) (m_sum now sz (now (396 + 8 * k + 0)))) (396 + 8 * k + 3) ((now (396 + 8 * k + 3)) + 1)) 3 ((now 3) + 1)) (wN now) 0 (now (396 + 8 * k + 0)) (m_num now sz (now (396 + 8 * k + 0))) (m_sum now sz (now (396 + 8 * k + 0)))) kept st text len att num rd) := hD
    exact hend _ _ _ _ _ hP hD hS dX9_tells_84 (by rw [m_tells, if_neg c_15])
set_option maxHeartbeats 400000 in
set_option maxRecDepth 100000 in
theorem c_X9_takesBack (l : Launch) (D : va_G) (I C Q : ClassId) (a0 a1 a2 a3 a4 : Nat) (now : Nat → Int32) (kept : Nat → Int32) (st : Int32) (text : Nat → Int32) (len : Int32) (att : Int32) (num : Int32) (rd : Nat → Int32) (k : Nat) (hwk : wOk now) (hk6 : k < 64) : KV l D (tyL I C Q) yX9_takesBack wsX9_takesBack { frames := 1, cells := 0, slots := 0, locals := 25 } [.ref a0, .int (nI k)] (wM I a0 a1 a2 a3 a4 now kept st text len att num rd) (wM I a0 a1 a2 a3 a4 (m_takes now k) kept st text len att num rd) := by
  refine KV.of (cc := cX9_takesBack) (maxL := 2) (own := RX9) (by decide) rfl rfl (Nat.le_of_ble_eq_true rfl) ?_
  intro p e s m below meth c A Q0 ls hx hb hml hown hts hE hA hP hD hS hl hend
  have hK := hE.1
  have hF : CallFix p m c cX9_takesBack 2 s [.ref a0, .int (nI k)].toArray wsX9_takesBack RX9 := ⟨hx, hb, hml, hown, hts⟩
  have k0 := hts (.fieldLink RX9 7 "LateExcusesModel" "now" "[I") (List.mem_of_getElem? (i := 1) rfl)
  have u9 : ∀ w ∈ u_ws RX9 TX9 8, w ∈ wsX9_takesBack := by decide +kernel
  have hl : lv_has ls 2 [(0, .ref a0), (1, .int (nI k))] := hl
  refine lv_aload_n hx hb dX9_takesBack_0 rfl (lv_at hl 0 rfl) ?_
  refine lv_iload_n hx hb dX9_takesBack_1 rfl (lv_at hl 1 rfl) ?_
  refine lv_iconst (v := 5) hx hb dX9_takesBack_2 (by decide) ?_
  refine k_iF (va_runV (As := [.int (nI k), .int 5]) (rest := []) hF (c_X9_ofP l D I C Q a0 a1 a2 a3 a4 now kept st text len att num rd k 5 hk6 (by omega) _) (cwV 2 hts gX9_takesBack_X9_ofP rfl rfl rfl (by decide +kernel) ⟨Nat.le_of_ble_eq_true rfl, Nat.le_of_ble_eq_true rfl⟩) (kPreV hE hP hD (ci := 9) (q0 := 0) rfl rfl) rfl rfl hl.1 rfl (lv_room (Nat.le_of_ble_eq_true rfl)) dX9_takesBack_3 ⟨Nat.zero_le _, Nat.zero_le _⟩) hD hS hA (fun H locs hP hD hS => ?_)
  refine lv_iconst (v := 1) hx hb dX9_takesBack_6 (by decide) ?_
  refine lv_icmp_ne (tgt := 66) hx hb dX9_takesBack_7 (by decide) (fun c_7 => ?_) (fun c_7 => ?_)
  · exact hend _ _ _ _ _ hP hD hS dX9_takesBack_66 (by simp only [m_takes, if_pos, if_neg, c_7, not_true_eq_false, not_false_eq_true, if_false, if_true])
  · refine lv_aload_n hx hb dX9_takesBack_10 rfl (lv_at hl 0 rfl) ?_
    refine lv_iload_n hx hb dX9_takesBack_11 rfl (lv_at hl 1 rfl) ?_
    refine lv_iconst (v := 5) hx hb dX9_takesBack_12 (by decide) ?_
    refine lv_iconst (v := 0) hx hb dX9_takesBack_13 (by decide) ?_
    refine k_vF (va_runV (As := [.int (nI k), .int 5, .int 0]) (rest := []) hF (c_X9_setsP l D I C Q a0 a1 a2 a3 a4 now kept st text len att num rd k 5 0 hk6 (by omega) _) (cwV 3 hts gX9_takesBack_X9_setsP rfl rfl rfl (by decide +kernel) ⟨Nat.le_of_ble_eq_true rfl, Nat.le_of_ble_eq_true rfl⟩) (kPreV hE hP hD (ci := 9) (q0 := 0) rfl rfl) rfl rfl hl.1 rfl (lv_room (Nat.le_of_ble_eq_true rfl)) dX9_takesBack_14 ⟨Nat.zero_le _, Nat.zero_le _⟩) hD hS hA (fun H locs hP hD hS => ?_)
    have hP : va_P D vwCl (wM I a0 a1 a2 a3 a4 (upd now (396 + 8 * k + 5) 0) kept st text len att num rd) H := hP
    have hD : va_D A (wM I a0 a1 a2 a3 a4 (upd now (396 + 8 * k + 5) 0) kept st text len att num rd) := hD
    refine lv_aload_n hx hb dX9_takesBack_17 rfl (lv_at hl 0 rfl) ?_
    refine lv_iload_n hx hb dX9_takesBack_18 rfl (lv_at hl 1 rfl) ?_
    refine lv_iconst (v := 4) hx hb dX9_takesBack_19 (by decide) ?_
    refine lv_aload_n hx hb dX9_takesBack_20 rfl (lv_at hl 0 rfl) ?_
    refine lv_iload_n hx hb dX9_takesBack_21 rfl (lv_at hl 1 rfl) ?_
    refine lv_iconst (v := 4) hx hb dX9_takesBack_22 (by decide) ?_
    refine k_iF (va_runV (As := [.int (nI k), .int 4]) (rest := [.int 4, .int (nI k), .ref a0]) hF (c_X9_ofP l D I C Q a0 a1 a2 a3 a4 (upd now (396 + 8 * k + 5) 0) kept st text len att num rd k 4 hk6 (by omega) _) (cwV 2 hts gX9_takesBack_X9_ofP rfl rfl rfl (by decide +kernel) ⟨Nat.le_of_ble_eq_true rfl, Nat.le_of_ble_eq_true rfl⟩) (kPreV hE hP hD (ci := 9) (q0 := 0) rfl rfl) rfl rfl hl.1 rfl (lv_room (Nat.le_of_ble_eq_true rfl)) dX9_takesBack_23 ⟨Nat.zero_le _, Nat.zero_le _⟩) hD hS hA (fun H locs hP hD hS => ?_)
    refine k_top (y := now (396 + 8 * k + 4)) (pk_un (by omega)) ?_
    refine lv_iconst (v := 1) hx hb dX9_takesBack_26 (by decide) ?_
    refine lv_iadd hx hb dX9_takesBack_27 ?_
    refine k_vF (va_runV (As := [.int (nI k), .int 4, .int ((now (396 + 8 * k + 4)) + 1)]) (rest := []) hF (c_X9_setsP l D I C Q a0 a1 a2 a3 a4 (upd now (396 + 8 * k + 5) 0) kept st text len att num rd k 4 ((now (396 + 8 * k + 4)) + 1) hk6 (by omega) _) (cwV 3 hts gX9_takesBack_X9_setsP rfl rfl rfl (by decide +kernel) ⟨Nat.le_of_ble_eq_true rfl, Nat.le_of_ble_eq_true rfl⟩) (kPreV hE hP hD (ci := 9) (q0 := 0) rfl rfl) rfl rfl hl.1 rfl (lv_room (Nat.le_of_ble_eq_true rfl)) dX9_takesBack_28 ⟨Nat.zero_le _, Nat.zero_le _⟩) hD hS hA (fun H locs hP hD hS => ?_)
    have hP : va_P D vwCl (wM I a0 a1 a2 a3 a4 (upd (upd now (396 + 8 * k + 5) 0) (396 + 8 * k + 4) ((now (396 + 8 * k + 4)) + 1)) kept st text len att num rd) H := hP
    have hD : va_D A (wM I a0 a1 a2 a3 a4 (upd (upd now (396 + 8 * k + 5) 0) (396 + 8 * k + 4) ((now (396 + 8 * k + 4)) + 1)) kept st text len att num rd) := hD
    refine lv_aload_n hx hb dX9_takesBack_31 rfl (lv_at hl 0 rfl) ?_
    refine va_get (D := D) (ci := 9) (v := .ref a1) (C := RX9) (T := TX9) (N := 8) hx hb hts u9 hown hK hP 0 rfl rfl 0 (by decide) k0 (fun _ h9 => h9) rfl dX9_takesBack_32 ?_
    refine lv_iconst (v := 4) hx hb dX9_takesBack_35 (by decide) ?_
    refine lv_dup2_11 hx hb dX9_takesBack_36 rfl rfl ?_
    refine k_iald (j := 4) (v := (now 4)) hx hb hK hP 1 0 rfl rfl rfl (by decide) (by decide) ((pk_un (by omega)).trans (pk_un (by omega))) dX9_takesBack_37 ?_
    refine lv_iconst (v := 1) hx hb dX9_takesBack_38 (by decide) ?_
    refine lv_iadd hx hb dX9_takesBack_39 ?_
    refine k_iast (j := 4) hx hb hK hP hD hS 1 0 rfl rfl rfl (by decide) (by decide) dX9_takesBack_40 (fun H locs hP hD hS => ?_)
    have hP : va_P D vwCl (wM I a0 a1 a2 a3 a4 (upd (upd (upd now (396 + 8 * k + 5) 0) (396 + 8 * k + 4) ((now (396 + 8 * k + 4)) + 1)) 4 ((now 4) + 1)) kept st text len att num rd) H := hP
    have hD : va_D A (wM I a0 a1 a2 a3 a4 (upd (upd (upd now (396 + 8 * k + 5) 0) (396 + 8 * k + 4) ((now (396 + 8 * k + 4)) + 1)) 4 ((now 4) + 1)) kept st text len att num rd) := hD
    refine lv_aload_n hx hb dX9_takesBack_41 rfl (lv_at hl 0 rfl) ?_
    refine lv_iconst (v := 1) hx hb dX9_takesBack_42 (by decide) ?_
    refine lv_aload_n hx hb dX9_takesBack_43 rfl (lv_at hl 0 rfl) ?_
    refine lv_iload_n hx hb dX9_takesBack_44 rfl (lv_at hl 1 rfl) ?_
    refine lv_iconst (v := 0) hx hb dX9_takesBack_45 (by decide) ?_
    refine k_iF (va_runV (As := [.int (nI k), .int 0]) (rest := [.int 1, .ref a0]) hF (c_X9_ofP l D I C Q a0 a1 a2 a3 a4 (upd (upd (upd now (396 + 8 * k + 5) 0) (396 + 8 * k + 4) ((now (396 + 8 * k + 4)) + 1)) 4 ((now 4) + 1)) kept st text len att num rd k 0 hk6 (by omega) _) (cwV 2 hts gX9_takesBack_X9_ofP rfl rfl rfl (by decide +kernel) ⟨Nat.le_of_ble_eq_true rfl, Nat.le_of_ble_eq_true rfl⟩) (kPreV hE hP hD (ci := 9) (q0 := 0) rfl rfl) rfl rfl hl.1 rfl (lv_room (Nat.le_of_ble_eq_true rfl)) dX9_takesBack_46 ⟨Nat.zero_le _, Nat.zero_le _⟩) hD hS hA (fun H locs hP hD hS => ?_)
    refine k_top (y := now (396 + 8 * k + 0)) ((pk_un (by omega)).trans ((pk_un (by omega)).trans (pk_un (by omega)))) ?_
    refine lv_aload_n hx hb dX9_takesBack_49 rfl (lv_at hl 0 rfl) ?_
    refine lv_iload_n hx hb dX9_takesBack_50 rfl (lv_at hl 1 rfl) ?_
    refine lv_bipush (v := 6) hx hb dX9_takesBack_51 (by decide) ?_
    refine k_iF (va_runV (As := [.int (nI k), .int 6]) (rest := [.int (now (396 + 8 * k + 0)), .int 1, .ref a0]) hF (c_X9_ofP l D I C Q a0 a1 a2 a3 a4 (upd (upd (upd now (396 + 8 * k + 5) 0) (396 + 8 * k + 4) ((now (396 + 8 * k + 4)) + 1)) 4 ((now 4) + 1)) kept st text len att num rd k 6 hk6 (by omega) _) (cwV 2 hts gX9_takesBack_X9_ofP rfl rfl rfl (by decide +kernel) ⟨Nat.le_of_ble_eq_true rfl, Nat.le_of_ble_eq_true rfl⟩) (kPreV hE hP hD (ci := 9) (q0 := 0) rfl rfl) rfl rfl hl.1 rfl (lv_room (Nat.le_of_ble_eq_true rfl)) dX9_takesBack_53 ⟨Nat.zero_le _, Nat.zero_le _⟩) hD hS hA (fun H locs hP hD hS => ?_)
    refine k_top (y := now (396 + 8 * k + 6)) ((pk_un (by omega)).trans ((pk_un (by omega)).trans (pk_un (by omega)))) ?_
    refine lv_aload_n hx hb dX9_takesBack_56 rfl (lv_at hl 0 rfl) ?_
    refine lv_iload_n hx hb dX9_takesBack_57 rfl (lv_at hl 1 rfl) ?_
    refine lv_bipush (v := 7) hx hb dX9_takesBack_58 (by decide) ?_
    refine k_iF (va_runV (As := [.int (nI k), .int 7]) (rest := [.int (now (396 + 8 * k + 6)), .int (now (396 + 8 * k + 0)), .int 1, .ref a0]) hF (c_X9_ofP l D I C Q a0 a1 a2 a3 a4 (upd (upd (upd now (396 + 8 * k + 5) 0) (396 + 8 * k + 4) ((now (396 + 8 * k + 4)) + 1)) 4 ((now 4) + 1)) kept st text len att num rd k 7 hk6 (by omega) _) (cwV 2 hts gX9_takesBack_X9_ofP rfl rfl rfl (by decide +kernel) ⟨Nat.le_of_ble_eq_true rfl, Nat.le_of_ble_eq_true rfl⟩) (kPreV hE hP hD (ci := 9) (q0 := 0) rfl rfl) rfl rfl hl.1 rfl (lv_room (Nat.le_of_ble_eq_true rfl)) dX9_takesBack_60 ⟨Nat.zero_le _, Nat.zero_le _⟩) hD hS hA (fun H locs hP hD hS => ?_)
    refine k_top (y := now (396 + 8 * k + 7)) ((pk_un (by omega)).trans ((pk_un (by omega)).trans (pk_un (by omega)))) ?_
    refine k_vF (va_runV (As := [.int 1, .int (now (396 + 8 * k + 0)), .int (now (396 + 8 * k + 6)), .int (now (396 + 8 * k + 7))]) (rest := []) hF (c_X9_says l D I C Q a0 a1 a2 a3 a4 (upd (upd (upd now (396 + 8 * k + 5) 0) (396 + 8 * k + 4) ((now (396 + 8 * k + 4)) + 1)) 4 ((now 4) + 1)) kept st text len att num rd (wN now) 1 (now (396 + 8 * k + 0)) (now (396 + 8 * k + 6)) (now (396 + 8 * k + 7)) (Eq.trans ((pk_un (by omega)).trans ((pk_un (by omega)).trans (pk_un (by omega)))) hwk.1) hwk.2 _) (cwV 4 hts gX9_takesBack_X9_says rfl rfl rfl (by decide +kernel) ⟨Nat.le_of_ble_eq_true rfl, Nat.le_of_ble_eq_true rfl⟩) (kPreV hE hP hD (ci := 9) (q0 := 0) rfl rfl) rfl rfl hl.1 rfl (lv_room (Nat.le_of_ble_eq_true rfl)) dX9_takesBack_63 ⟨Nat.zero_le _, Nat.zero_le _⟩) hD hS hA (fun H locs hP hD hS => ?_)
    have hP : va_P D vwCl (wM I a0 a1 a2 a3 a4 (m_says (upd (upd (upd now (396 + 8 * k + 5) 0) (396 + 8 * k + 4) ((now (396 + 8 * k + 4)) + 1)) 4 ((now 4) + 1)) (wN now) 1 (now (396 + 8 * k + 0)) (now (396 + 8 * k + 6)) (now (396 + 8 * k + 7))) kept st text len att num rd) H := hP
    have hD : va_D A (wM I a0 a1 a2 a3 a4 (m_says (upd (upd (upd now (396 + 8 * k + 5) 0) (396 + 8 * k + 4) ((now (396 + 8 * k + 4)) + 1)) 4 ((now 4) + 1)) (wN now) 1 (now (396 + 8 * k + 0)) (now (396 + 8 * k + 6)) (now (396 + 8 * k + 7))) kept st text len att num rd) := hD
    exact hend _ _ _ _ _ hP hD hS dX9_takesBack_66 (by simp only [m_takes, if_pos, if_neg, c_7, not_true_eq_false, not_false_eq_true, if_false, if_true])
set_option maxHeartbeats 400000 in
set_option maxRecDepth 100000 in
theorem c_X9_nextKept (l : Launch) (D : va_G) (I C Q : ClassId) (a0 a1 a2 a3 a4 : Nat) (now : Nat → Int32) (kept : Nat → Int32) (st : Int32) (text : Nat → Int32) (len : Int32) (att : Int32) (num : Int32) (rd : Nat → Int32) (np : Nat) (ab : Int32) (hnp : now 10 = nI np) (hn64 : np ≤ 64) : KI l D (tyL I C Q) yX9_nextKept wsX9_nextKept { frames := 1, cells := 0, slots := 0, locals := 22 } [.ref a0, .int ab] (wM I a0 a1 a2 a3 a4 now kept st text len att num rd) (wM I a0 a1 a2 a3 a4 now kept st text len att num rd) (m_oI (m_nb now ab np)) := by
  refine KI.of (cc := cX9_nextKept) (maxL := 4) (rt := .int) (own := RX9) (by decide) rfl rfl (Nat.le_of_ble_eq_true rfl) ?_
  intro p e s m below meth c A Q0 ls hx hb hml hown hts hE hA hP hD hS hl hend
  have hK := hE.1
  have hF : CallFix p m c cX9_nextKept 4 s [.ref a0, .int ab].toArray wsX9_nextKept RX9 := ⟨hx, hb, hml, hown, hts⟩
  have k0 := hts (.fieldLink RX9 7 "LateExcusesModel" "now" "[I") (List.mem_of_getElem? (i := 1) rfl)
  have u9 : ∀ w ∈ u_ws RX9 TX9 8, w ∈ wsX9_nextKept := by decide +kernel
  have hl : lv_has ls 4 [(0, .ref a0), (1, .int ab)] := hl
  refine lv_iconst (v := (-1)) hx hb dX9_nextKept_0 (by decide) ?_
  refine lv_istore_n (lv' := [(2, .int (-1)), (0, .ref a0), (1, .int ab)]) hx hb dX9_nextKept_1 rfl hl (by decide) rfl (fun ls hl => ?_)
  refine lv_iconst (v := 0) hx hb dX9_nextKept_2 (by decide) ?_
  refine lv_istore_n (lv' := [(3, .int 0), (2, .int (-1)), (0, .ref a0), (1, .int ab)]) hx hb dX9_nextKept_3 rfl hl (by decide) rfl (fun ls hl => ?_)
  have loop4 : ∀ (n : Nat) (k : Nat), (k + n = np) → ∀ (H : Heap) (locs : List Loc) (ls : Array Slot), va_P D vwCl (wM I a0 a1 a2 a3 a4 now kept st text len att num rd) H → va_D A (wM I a0 a1 a2 a3 a4 now kept st text len att num rd) → va_S A s.heap H locs → lv_has ls 4 [(0, .ref a0), (1, .int ab), (2, .int (m_oI (m_nb now ab k))), (3, .int (nI k))] → W p l e ({ frames := 1, cells := 0, slots := 0, locals := 22 } : Room) s m [.ref a0, .int ab].toArray below meth c H locs 0 0 Q0 (F0 m 4 ls []) := by
    intro n
    induction n with
    | zero =>
      intro k hk H locs ls hP hD hS hl
      refine lv_iload_n hx hb dX9_nextKept_4 rfl (lv_at hl 3 rfl) ?_
      refine lv_aload_n hx hb dX9_nextKept_5 rfl (lv_at hl 0 rfl) ?_
      refine va_get (D := D) (ci := 9) (v := .ref a1) (C := RX9) (T := TX9) (N := 8) hx hb hts u9 hown hK hP 0 rfl rfl 0 (by decide) k0 (fun _ h9 => h9) rfl dX9_nextKept_6 ?_
      refine lv_bipush (v := 10) hx hb dX9_nextKept_9 (by decide) ?_
      refine k_iald (j := 10) (v := (nI np)) hx hb hK hP 1 0 rfl rfl rfl (by decide) (by decide) hnp dX9_nextKept_11 ?_
      refine lv_icmp_ge (tgt := 56) hx hb dX9_nextKept_12 (by decide) (fun c_12 => ?_) (fun c_12 => ?_)
      · refine lv_iload_n hx hb dX9_nextKept_56 rfl (lv_at hl 2 rfl) ?_
        exact hend _ _ _ _ _ _ hP hD hS dX9_nextKept_57 rfl rfl (by rw [show k = np by omega])
      · exact absurd ((nI_leI (a := np) (b := k) (by omega) (by omega)).mpr (by omega)) c_12
    | succ n ih =>
      intro k hk H locs ls hP hD hS hl
      refine lv_iload_n hx hb dX9_nextKept_4 rfl (lv_at hl 3 rfl) ?_
      refine lv_aload_n hx hb dX9_nextKept_5 rfl (lv_at hl 0 rfl) ?_
      refine va_get (D := D) (ci := 9) (v := .ref a1) (C := RX9) (T := TX9) (N := 8) hx hb hts u9 hown hK hP 0 rfl rfl 0 (by decide) k0 (fun _ h9 => h9) rfl dX9_nextKept_6 ?_
      refine lv_bipush (v := 10) hx hb dX9_nextKept_9 (by decide) ?_
      refine k_iald (j := 10) (v := (nI np)) hx hb hK hP 1 0 rfl rfl rfl (by decide) (by decide) hnp dX9_nextKept_11 ?_
      refine lv_icmp_ge (tgt := 56) hx hb dX9_nextKept_12 (by decide) (fun c_12 => ?_) (fun c_12 => ?_)
      · exact absurd ((nI_leI (a := np) (b := k) (by omega) (by omega)).mp c_12) (by omega)
      · refine lv_aload_n hx hb dX9_nextKept_15 rfl (lv_at hl 0 rfl) ?_
        refine lv_iload_n hx hb dX9_nextKept_16 rfl (lv_at hl 3 rfl) ?_
        refine lv_iconst (v := 0) hx hb dX9_nextKept_17 (by decide) ?_
        refine k_iF (va_runV (As := [.int (nI k), .int 0]) (rest := []) hF (c_X9_ofP l D I C Q a0 a1 a2 a3 a4 now kept st text len att num rd k 0 (by omega) (by omega) _) (cwV 2 hts gX9_nextKept_X9_ofP rfl rfl rfl (by decide +kernel) ⟨Nat.le_of_ble_eq_true rfl, Nat.le_of_ble_eq_true rfl⟩) (kPreV hE hP hD (ci := 9) (q0 := 0) rfl rfl) rfl rfl hl.1 rfl (lv_room (Nat.le_of_ble_eq_true rfl)) dX9_nextKept_18 ⟨Nat.zero_le _, Nat.zero_le _⟩) hD hS hA (fun H locs hP hD hS => ?_)
        refine lv_iload_n hx hb dX9_nextKept_21 rfl (lv_at hl 1 rfl) ?_
        refine lv_icmp_le (tgt := 48) hx hb dX9_nextKept_22 (by decide) (fun c_22 => ?_) (fun c_22 => ?_)
        · refine lv_iload_n hx hb dX9_nextKept_48 rfl (lv_at hl 2 rfl) ?_
          refine lv_istore_n (lv' := [(2, .int (m_oI (m_nb now ab k))), (0, .ref a0), (1, .int ab), (3, .int (nI k))]) hx hb dX9_nextKept_49 rfl hl (by decide) rfl (fun ls hl => ?_)
          refine lv_iinc (v := nI (k + 1)) (lv' := [(3, .int (nI (k + 1))), (2, .int (m_oI (m_nb now ab k))), (0, .ref a0), (1, .int ab)]) hx hb dX9_nextKept_50 hl (k := 3) rfl (nI_inc k) (by decide) rfl (fun ls hl => ?_)
          refine lv_goto (tgt := 4) hx hb dX9_nextKept_53 (by decide) ?_
          have hl9 : lv_has ls 4 [(0, .ref a0), (1, .int ab), (2, .int (m_oI (m_nb now ab k))), (3, .int (nI (k + 1)))] := lv_sub hl [2, 3, 1, 0] rfl
          rw [show (m_oI (m_nb now ab k)) = (m_oI (m_nb now ab (k + 1))) from by simp +decide only [m_nb, m_oI, c_12, c_22, if_true, if_false, not_true_eq_false, not_false_eq_true, and_self, and_true, true_and, and_false, false_and, kn01, kn10, kn02, kn20, kn12, kn21, eq_self]] at hl9
          exact ih (k + 1) (by omega) _ _ _ hP hD hS hl9 
        · rcases hnb : m_nb now ab k with _ | b
          · have hl : lv_has ls 4 [(0, .ref a0), (1, .int ab), (2, .int (-1)), (3, .int (nI k))] := by rw [hnb] at hl; exact hl
            refine lv_iload_n hx hb dX9_nextKept_25 rfl (lv_at hl 2 rfl) ?_
            refine lv_if_lt (tgt := 44) hx hb dX9_nextKept_26 (by decide) (fun c_26 => ?_) (fun c_26 => ?_)
            · refine lv_iload_n hx hb dX9_nextKept_44 rfl (lv_at hl 3 rfl) ?_
              refine lv_goto (tgt := 49) hx hb dX9_nextKept_45 (by decide) ?_
              refine lv_istore_n (lv' := [(2, .int (nI k)), (0, .ref a0), (1, .int ab), (3, .int (nI k))]) hx hb dX9_nextKept_49 rfl hl (by decide) rfl (fun ls hl => ?_)
              refine lv_iinc (v := nI (k + 1)) (lv' := [(3, .int (nI (k + 1))), (2, .int (nI k)), (0, .ref a0), (1, .int ab)]) hx hb dX9_nextKept_50 hl (k := 3) rfl (nI_inc k) (by decide) rfl (fun ls hl => ?_)
              refine lv_goto (tgt := 4) hx hb dX9_nextKept_53 (by decide) ?_
              have hl9 : lv_has ls 4 [(0, .ref a0), (1, .int ab), (2, .int (nI k)), (3, .int (nI (k + 1)))] := lv_sub hl [2, 3, 1, 0] rfl
              rw [show (nI k) = (m_oI (m_nb now ab (k + 1))) from by simp +decide only [m_nb, m_oI, hnb, c_12, c_22, c_26, if_true, if_false, not_true_eq_false, not_false_eq_true, and_self, and_true, true_and, and_false, false_and, kn01, kn10, kn02, kn20, kn12, kn21, eq_self]] at hl9
              exact ih (k + 1) (by omega) _ _ _ hP hD hS hl9 
            · exact (c_26 (by decide)).elim
          · have hl : lv_has ls 4 [(0, .ref a0), (1, .int ab), (2, .int (nI b)), (3, .int (nI k))] := by rw [hnb] at hl; exact hl
            have hbk := (m_nb_lt hnb).1
            refine lv_iload_n hx hb dX9_nextKept_25 rfl (lv_at hl 2 rfl) ?_
            refine lv_if_lt (tgt := 44) hx hb dX9_nextKept_26 (by decide) (fun c_26 => ?_) (fun c_26 => ?_)
            · exact absurd c_26 (nI_pos (by omega))
            · refine lv_aload_n hx hb dX9_nextKept_29 rfl (lv_at hl 0 rfl) ?_
              refine lv_iload_n hx hb dX9_nextKept_30 rfl (lv_at hl 3 rfl) ?_
              refine lv_iconst (v := 0) hx hb dX9_nextKept_31 (by decide) ?_
              refine k_iF (va_runV (As := [.int (nI k), .int 0]) (rest := []) hF (c_X9_ofP l D I C Q a0 a1 a2 a3 a4 now kept st text len att num rd k 0 (by omega) (by omega) _) (cwV 2 hts gX9_nextKept_X9_ofP rfl rfl rfl (by decide +kernel) ⟨Nat.le_of_ble_eq_true rfl, Nat.le_of_ble_eq_true rfl⟩) (kPreV hE hP hD (ci := 9) (q0 := 0) rfl rfl) rfl rfl hl.1 rfl (lv_room (Nat.le_of_ble_eq_true rfl)) dX9_nextKept_32 ⟨Nat.zero_le _, Nat.zero_le _⟩) hD hS hA (fun H locs hP hD hS => ?_)
              refine lv_aload_n hx hb dX9_nextKept_35 rfl (lv_at hl 0 rfl) ?_
              refine lv_iload_n hx hb dX9_nextKept_36 rfl (lv_at hl 2 rfl) ?_
              refine lv_iconst (v := 0) hx hb dX9_nextKept_37 (by decide) ?_
              refine k_iF (va_runV (As := [.int (nI b), .int 0]) (rest := [.int (now (396 + 8 * k + 0))]) hF (c_X9_ofP l D I C Q a0 a1 a2 a3 a4 now kept st text len att num rd b 0 (by omega) (by omega) _) (cwV 2 hts gX9_nextKept_X9_ofP rfl rfl rfl (by decide +kernel) ⟨Nat.le_of_ble_eq_true rfl, Nat.le_of_ble_eq_true rfl⟩) (kPreV hE hP hD (ci := 9) (q0 := 0) rfl rfl) rfl rfl hl.1 rfl (lv_room (Nat.le_of_ble_eq_true rfl)) dX9_nextKept_38 ⟨Nat.zero_le _, Nat.zero_le _⟩) hD hS hA (fun H locs hP hD hS => ?_)
              refine lv_icmp_ge (tgt := 48) hx hb dX9_nextKept_41 (by decide) (fun c_41 => ?_) (fun c_41 => ?_)
              · refine lv_iload_n hx hb dX9_nextKept_48 rfl (lv_at hl 2 rfl) ?_
                refine lv_istore_n (lv' := [(2, .int (nI b)), (0, .ref a0), (1, .int ab), (3, .int (nI k))]) hx hb dX9_nextKept_49 rfl hl (by decide) rfl (fun ls hl => ?_)
                refine lv_iinc (v := nI (k + 1)) (lv' := [(3, .int (nI (k + 1))), (2, .int (nI b)), (0, .ref a0), (1, .int ab)]) hx hb dX9_nextKept_50 hl (k := 3) rfl (nI_inc k) (by decide) rfl (fun ls hl => ?_)
                refine lv_goto (tgt := 4) hx hb dX9_nextKept_53 (by decide) ?_
                have hl9 : lv_has ls 4 [(0, .ref a0), (1, .int ab), (2, .int (nI b)), (3, .int (nI (k + 1)))] := lv_sub hl [2, 3, 1, 0] rfl
                rw [show (nI b) = (m_oI (m_nb now ab (k + 1))) from by simp +decide only [m_nb, m_oI, hnb, c_12, c_22, c_26, c_41, if_true, if_false, not_true_eq_false, not_false_eq_true, and_self, and_true, true_and, and_false, false_and, kn01, kn10, kn02, kn20, kn12, kn21, eq_self]] at hl9
                exact ih (k + 1) (by omega) _ _ _ hP hD hS hl9 
              · refine lv_iload_n hx hb dX9_nextKept_44 rfl (lv_at hl 3 rfl) ?_
                refine lv_goto (tgt := 49) hx hb dX9_nextKept_45 (by decide) ?_
                refine lv_istore_n (lv' := [(2, .int (nI k)), (0, .ref a0), (1, .int ab), (3, .int (nI k))]) hx hb dX9_nextKept_49 rfl hl (by decide) rfl (fun ls hl => ?_)
                refine lv_iinc (v := nI (k + 1)) (lv' := [(3, .int (nI (k + 1))), (2, .int (nI k)), (0, .ref a0), (1, .int ab)]) hx hb dX9_nextKept_50 hl (k := 3) rfl (nI_inc k) (by decide) rfl (fun ls hl => ?_)
                refine lv_goto (tgt := 4) hx hb dX9_nextKept_53 (by decide) ?_
                have hl9 : lv_has ls 4 [(0, .ref a0), (1, .int ab), (2, .int (nI k)), (3, .int (nI (k + 1)))] := lv_sub hl [2, 3, 1, 0] rfl
                rw [show (nI k) = (m_oI (m_nb now ab (k + 1))) from by simp +decide only [m_nb, m_oI, hnb, c_12, c_22, c_26, c_41, if_true, if_false, not_true_eq_false, not_false_eq_true, and_self, and_true, true_and, and_false, false_and, kn01, kn10, kn02, kn20, kn12, kn21, eq_self]] at hl9
                exact ih (k + 1) (by omega) _ _ _ hP hD hS hl9 
  exact loop4 np 0 (by omega) _ _ _ hP hD hS (lv_sub hl [2, 3, 1, 0] rfl) 
