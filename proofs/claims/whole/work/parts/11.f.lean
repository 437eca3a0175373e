set_option maxHeartbeats 400000 in
set_option maxRecDepth 100000 in
theorem c_X9_comes (l : Launch) (D : va_G) (I C Q : ClassId) (a0 a1 a2 a3 a4 : Nat) (now : Nat → Int32) (kept : Nat → Int32) (st : Int32) (text : Nat → Int32) (len : Int32) (att : Int32) (num : Int32) (rd : Nat → Int32) (np : Nat) (sz : Nat) (i : Nat) (t : Nat) (key : Int32) (am : Int32) (x : Nat) (hnp : now 10 = nI np) (hn64 : np ≤ 64) (hsz : now 6 = nI sz) (hs0 : 0 < sz) (hs1 : sz ≤ 100) (hwk : wOk now) (hnk : nOk now np) (ht : t < 2000) (hi : i < 64) (hx3 : x ≤ 3) (hcap : ¬ now (12 + 6 * i + 0) = 1 → np < 64) : KI l D (tyL I C Q) yX9_comes wsX9_comes { frames := 5, cells := 0, slots := 0, locals := 116 } [.ref a0, .int (nI i), .int (nI t), .int key, .int am, .int (nI x)] (wM I a0 a1 a2 a3 a4 now kept st text len att num rd) (wM I a0 a1 a2 a3 a4 ((m_come now i t key am x np sz).2) kept st text len att num rd) ((m_come now i t key am x np sz).1) := by
  have htz : t / sz ≤ t := Nat.div_le_self _ _
  refine KI.of (cc := cX9_comes) (maxL := 9) (rt := .int) (own := RX9) (by decide) rfl rfl (Nat.le_of_ble_eq_true rfl) ?_
  intro p e s m below meth c A Q0 ls hx hb hml hown hts hE hA hP hD hS hl hend
  have hK := hE.1
  have hF : CallFix p m c cX9_comes 9 s [.ref a0, .int (nI i), .int (nI t), .int key, .int am, .int (nI x)].toArray wsX9_comes RX9 := ⟨hx, hb, hml, hown, hts⟩
  have k0 := hts (.fieldLink RX9 7 "LateExcusesModel" "now" "[I") (List.mem_of_getElem? (i := 1) rfl)
  have u9 : ∀ w ∈ u_ws RX9 TX9 8, w ∈ wsX9_comes := by decide +kernel
  have hl : lv_has ls 9 [(0, .ref a0), (1, .int (nI i)), (2, .int (nI t)), (3, .int key), (4, .int am), (5, .int (nI x))] := hl
  refine lv_aload_n hx hb dX9_comes_0 rfl (lv_at hl 0 rfl) ?_
  refine va_get (D := D) (ci := 9) (v := .ref a1) (C := RX9) (T := TX9) (N := 8) hx hb hts u9 hown hK hP 0 rfl rfl 0 (by decide) k0 (fun _ h9 => h9) rfl dX9_comes_1 ?_
  refine lv_bipush (v := 11) hx hb dX9_comes_4 (by decide) ?_
  refine lv_iconst (v := 1) hx hb dX9_comes_6 (by decide) ?_
  refine k_iast (j := 11) hx hb hK hP hD hS 1 0 rfl rfl rfl (by decide) (by decide) dX9_comes_7 (fun H locs hP hD hS => ?_)
  have hP : va_P D vwCl (wM I a0 a1 a2 a3 a4 (upd now 11 1) kept st text len att num rd) H := hP
  have hD : va_D A (wM I a0 a1 a2 a3 a4 (upd now 11 1) kept st text len att num rd) := hD
  refine lv_aload_n hx hb dX9_comes_8 rfl (lv_at hl 0 rfl) ?_
  refine lv_iload_n hx hb dX9_comes_9 rfl (lv_at hl 1 rfl) ?_
  refine lv_iconst (v := 0) hx hb dX9_comes_10 (by decide) ?_
  refine k_iF (va_runV (As := [.int (nI i), .int 0]) (rest := []) hF (c_X9_ofE l D I C Q a0 a1 a2 a3 a4 (upd now 11 1) kept st text len att num rd i 0 hi (by omega) _) (cwV 2 hts gX9_comes_X9_ofE rfl rfl rfl (by decide +kernel) ⟨Nat.le_of_ble_eq_true rfl, Nat.le_of_ble_eq_true rfl⟩) (kPreV hE hP hD (ci := 9) (q0 := 0) rfl rfl) rfl rfl hl.1 rfl (lv_room (Nat.le_of_ble_eq_true rfl)) dX9_comes_11 ⟨Nat.zero_le _, Nat.zero_le _⟩) hD hS hA (fun H locs hP hD hS => ?_)
  refine k_top (y := now (12 + 6 * i + 0)) (pk_un (by omega)) ?_
  refine lv_iconst (v := 1) hx hb dX9_comes_14 (by decide) ?_
  refine lv_icmp_ne (tgt := 30) hx hb dX9_comes_15 (by decide) (fun c_15 => ?_) (fun c_15 => ?_)
  · have hK1 : (upd now 11 1) 10 = nI np := (pk_un (by omega)).trans hnp
    refine lv_aload_n hx hb dX9_comes_30 rfl (lv_at hl 0 rfl) ?_
    refine lv_iload_n hx hb dX9_comes_31 rfl (lv_at hl 2 rfl) ?_
    refine lv_iload_n hx hb dX9_comes_32 rfl (lv_at hl 3 rfl) ?_
    refine lv_iload hx hb dX9_comes_33 (lv_at hl 5 rfl) ?_
    refine k_iF (va_runV (As := [.int (nI t), .int key, .int (nI x)]) (rest := []) hF (c_X9_judgeOf l D I C Q a0 a1 a2 a3 a4 (upd now 11 1) kept st text len att num rd np sz t key x (Eq.trans (pk_un (by omega)) hnp) hn64 (Eq.trans (pk_un (by omega)) hsz) hs0 hs1 ht hx3 _) (cwV 3 hts gX9_comes_X9_judgeOf rfl rfl rfl (by decide +kernel) ⟨Nat.le_of_ble_eq_true rfl, Nat.le_of_ble_eq_true rfl⟩) (kPreV hE hP hD (ci := 9) (q0 := 0) rfl rfl) rfl rfl hl.1 rfl (lv_room (Nat.le_of_ble_eq_true rfl)) dX9_comes_35 ⟨Nat.zero_le _, Nat.zero_le _⟩) hD hS hA (fun H locs hP hD hS => ?_)
    refine lv_istore (lv' := [(6, .int (m_judge (upd now 11 1) t key x np sz)), (0, .ref a0), (1, .int (nI i)), (2, .int (nI t)), (3, .int key), (4, .int am), (5, .int (nI x))]) hx hb dX9_comes_38 hl (by decide) rfl (fun ls hl => ?_)
    refine lv_aload_n hx hb dX9_comes_40 rfl (lv_at hl 1 rfl) ?_
    refine lv_aload_n hx hb dX9_comes_41 rfl (lv_at hl 1 rfl) ?_
    refine lv_iload_n hx hb dX9_comes_42 rfl (lv_at hl 3 rfl) ?_
    refine k_iF (va_runV (As := [.int (nI t)]) (rest := [.ref a0]) hF (c_X9_paneAtN l D I C Q a0 a1 a2 a3 a4 (upd now 11 1) kept st text len att num rd sz t (Eq.trans (pk_un (by omega)) hsz) hs0 hs1 ht _) (cwV 1 hts gX9_comes_X9_paneAt rfl rfl rfl (by decide +kernel) ⟨Nat.le_of_ble_eq_true rfl, Nat.le_of_ble_eq_true rfl⟩) (kPreV hE hP hD (ci := 9) (q0 := 0) rfl rfl) rfl rfl hl.1 rfl (lv_room (Nat.le_of_ble_eq_true rfl)) dX9_comes_43 ⟨Nat.zero_le _, Nat.zero_le _⟩) hD hS hA (fun H locs hP hD hS => ?_)
    by_cases hf : m_fk (upd now 11 1) (nI (t / sz)) np < np
    · have hwN : wOk (upd now 11 1) := wOk_upd hwk (by omega)
      refine k_iF (va_runV (As := [.int (nI (t / sz))]) (rest := []) hF (c_X9_keepsO l D I C Q a0 a1 a2 a3 a4 (upd now 11 1) kept st text len att num rd np (nI (t / sz)) (Eq.trans (pk_un (by omega)) hnp) hn64 hf _) (cwV 1 hts gX9_comes_X9_keeps rfl rfl rfl (by decide +kernel) ⟨Nat.le_of_ble_eq_true rfl, Nat.le_of_ble_eq_true rfl⟩) (kPreV hE hP hD (ci := 9) (q0 := 0) rfl rfl) rfl rfl hl.1 rfl (lv_room (Nat.le_of_ble_eq_true rfl)) dX9_comes_46 ⟨Nat.zero_le _, Nat.zero_le _⟩) hD hS hA (fun H locs hP hD hS => ?_)
      refine lv_istore (lv' := [(7, .int (nI (m_fk (upd now 11 1) (nI (t / sz)) np))), (6, .int (m_judge (upd now 11 1) t key x np sz)), (0, .ref a0), (1, .int (nI i)), (2, .int (nI t)), (3, .int key), (4, .int am), (5, .int (nI x))]) hx hb dX9_comes_49 hl (by decide) rfl (fun ls hl => ?_)
      refine lv_iload hx hb dX9_comes_51 (lv_at hl 1 rfl) ?_
      refine lv_iconst (v := 1) hx hb dX9_comes_53 (by decide) ?_
      refine lv_icmp_ne (tgt := 108) hx hb dX9_comes_54 (by decide) (fun c_54 => ?_) (fun c_54 => ?_)
      · refine lv_bipush (v := 12) hx hb dX9_comes_108 (by decide) ?_
        refine lv_bipush (v := 6) hx hb dX9_comes_110 (by decide) ?_
        refine lv_iload_n hx hb dX9_comes_112 rfl (lv_at hl 3 rfl) ?_
        refine k_imul (v := nI (6 * i)) hx hb dX9_comes_113 (k_mul 6 i) ?_
        refine k_iadd (v := nI (12 + 6 * i)) hx hb dX9_comes_114 (nI_add 12 (6 * i)) ?_
        refine lv_istore (lv' := [(8, .int (nI (12 + 6 * i))), (7, .int (nI (m_fk (upd now 11 1) (nI (t / sz)) np))), (6, .int (m_judge (upd now 11 1) t key x np sz)), (0, .ref a0), (1, .int (nI i)), (2, .int (nI t)), (3, .int key), (4, .int am), (5, .int (nI x))]) hx hb dX9_comes_115 hl (by decide) rfl (fun ls hl => ?_)
        refine lv_aload_n hx hb dX9_comes_117 rfl (lv_at hl 3 rfl) ?_
        refine va_get (D := D) (ci := 9) (v := .ref a1) (C := RX9) (T := TX9) (N := 8) hx hb hts u9 hown hK hP 0 rfl rfl 0 (by decide) k0 (fun _ h9 => h9) rfl dX9_comes_118 ?_
        refine lv_iload hx hb dX9_comes_121 (lv_at hl 0 rfl) ?_
        refine lv_iconst (v := 0) hx hb dX9_comes_123 (by decide) ?_
        refine k_iadd (v := nI (12 + 6 * i + 0)) hx hb dX9_comes_124 (nI_add (12 + 6 * i) 0) ?_
        refine lv_iconst (v := 1) hx hb dX9_comes_125 (by decide) ?_
        refine k_iast (j := 12 + 6 * i + 0) hx hb hK hP hD hS 1 0 rfl rfl rfl (by omega) (by decide) dX9_comes_126 (fun H locs hP hD hS => ?_)
        have hP : va_P D vwCl (wM I a0 a1 a2 a3 a4 (upd (upd now 11 1) (12 + 6 * i + 0) 1) kept st text len att num rd) H := hP
        have hD : va_D A (wM I a0 a1 a2 a3 a4 (upd (upd now 11 1) (12 + 6 * i + 0) 1) kept st text len att num rd) := hD
        refine lv_aload_n hx hb dX9_comes_127 rfl (lv_at hl 3 rfl) ?_
        refine va_get (D := D) (ci := 9) (v := .ref a1) (C := RX9) (T := TX9) (N := 8) hx hb hts u9 hown hK hP 0 rfl rfl 0 (by decide) k0 (fun _ h9 => h9) rfl dX9_comes_128 ?_
        refine lv_iload hx hb dX9_comes_131 (lv_at hl 0 rfl) ?_
        refine lv_iconst (v := 1) hx hb dX9_comes_133 (by decide) ?_
        refine k_iadd (v := nI (12 + 6 * i + 1)) hx hb dX9_comes_134 (nI_add (12 + 6 * i) 1) ?_
        refine lv_iload_n hx hb dX9_comes_135 rfl (lv_at hl 5 rfl) ?_
        refine k_iast (j := 12 + 6 * i + 1) hx hb hK hP hD hS 1 0 rfl rfl rfl (by omega) (by decide) dX9_comes_136 (fun H locs hP hD hS => ?_)
        have hP : va_P D vwCl (wM I a0 a1 a2 a3 a4 (upd (upd (upd now 11 1) (12 + 6 * i + 0) 1) (12 + 6 * i + 1) (nI t)) kept st text len att num rd) H := hP
        have hD : va_D A (wM I a0 a1 a2 a3 a4 (upd (upd (upd now 11 1) (12 + 6 * i + 0) 1) (12 + 6 * i + 1) (nI t)) kept st text len att num rd) := hD
        refine lv_aload_n hx hb dX9_comes_137 rfl (lv_at hl 3 rfl) ?_
        refine va_get (D := D) (ci := 9) (v := .ref a1) (C := RX9) (T := TX9) (N := 8) hx hb hts u9 hown hK hP 0 rfl rfl 0 (by decide) k0 (fun _ h9 => h9) rfl dX9_comes_138 ?_
        refine lv_iload hx hb dX9_comes_141 (lv_at hl 0 rfl) ?_
        refine lv_iconst (v := 2) hx hb dX9_comes_143 (by decide) ?_
        refine k_iadd (v := nI (12 + 6 * i + 2)) hx hb dX9_comes_144 (nI_add (12 + 6 * i) 2) ?_
        refine lv_iload_n hx hb dX9_comes_145 rfl (lv_at hl 6 rfl) ?_
        refine k_iast (j := 12 + 6 * i + 2) hx hb hK hP hD hS 1 0 rfl rfl rfl (by omega) (by decide) dX9_comes_146 (fun H locs hP hD hS => ?_)
        have hP : va_P D vwCl (wM I a0 a1 a2 a3 a4 (upd (upd (upd (upd now 11 1) (12 + 6 * i + 0) 1) (12 + 6 * i + 1) (nI t)) (12 + 6 * i + 2) key) kept st text len att num rd) H := hP
        have hD : va_D A (wM I a0 a1 a2 a3 a4 (upd (upd (upd (upd now 11 1) (12 + 6 * i + 0) 1) (12 + 6 * i + 1) (nI t)) (12 + 6 * i + 2) key) kept st text len att num rd) := hD
        refine lv_aload_n hx hb dX9_comes_147 rfl (lv_at hl 3 rfl) ?_
        refine va_get (D := D) (ci := 9) (v := .ref a1) (C := RX9) (T := TX9) (N := 8) hx hb hts u9 hown hK hP 0 rfl rfl 0 (by decide) k0 (fun _ h9 => h9) rfl dX9_comes_148 ?_
        refine lv_iload hx hb dX9_comes_151 (lv_at hl 0 rfl) ?_
        refine lv_iconst (v := 3) hx hb dX9_comes_153 (by decide) ?_
        refine k_iadd (v := nI (12 + 6 * i + 3)) hx hb dX9_comes_154 (nI_add (12 + 6 * i) 3) ?_
        refine lv_iload hx hb dX9_comes_155 (lv_at hl 7 rfl) ?_
        refine k_iast (j := 12 + 6 * i + 3) hx hb hK hP hD hS 1 0 rfl rfl rfl (by omega) (by decide) dX9_comes_157 (fun H locs hP hD hS => ?_)
        have hP : va_P D vwCl (wM I a0 a1 a2 a3 a4 (upd (upd (upd (upd (upd now 11 1) (12 + 6 * i + 0) 1) (12 + 6 * i + 1) (nI t)) (12 + 6 * i + 2) key) (12 + 6 * i + 3) am) kept st text len att num rd) H := hP
        have hD : va_D A (wM I a0 a1 a2 a3 a4 (upd (upd (upd (upd (upd now 11 1) (12 + 6 * i + 0) 1) (12 + 6 * i + 1) (nI t)) (12 + 6 * i + 2) key) (12 + 6 * i + 3) am) kept st text len att num rd) := hD
        refine lv_aload_n hx hb dX9_comes_158 rfl (lv_at hl 3 rfl) ?_
        refine va_get (D := D) (ci := 9) (v := .ref a1) (C := RX9) (T := TX9) (N := 8) hx hb hts u9 hown hK hP 0 rfl rfl 0 (by decide) k0 (fun _ h9 => h9) rfl dX9_comes_159 ?_
        refine lv_iload hx hb dX9_comes_162 (lv_at hl 0 rfl) ?_
        refine lv_iconst (v := 4) hx hb dX9_comes_164 (by decide) ?_
        refine k_iadd (v := nI (12 + 6 * i + 4)) hx hb dX9_comes_165 (nI_add (12 + 6 * i) 4) ?_
        refine lv_iload hx hb dX9_comes_166 (lv_at hl 8 rfl) ?_
        refine k_iast (j := 12 + 6 * i + 4) hx hb hK hP hD hS 1 0 rfl rfl rfl (by omega) (by decide) dX9_comes_168 (fun H locs hP hD hS => ?_)
        have hP : va_P D vwCl (wM I a0 a1 a2 a3 a4 (upd (upd (upd (upd (upd (upd now 11 1) (12 + 6 * i + 0) 1) (12 + 6 * i + 1) (nI t)) (12 + 6 * i + 2) key) (12 + 6 * i + 3) am) (12 + 6 * i + 4) (nI x)) kept st text len att num rd) H := hP
        have hD : va_D A (wM I a0 a1 a2 a3 a4 (upd (upd (upd (upd (upd (upd now 11 1) (12 + 6 * i + 0) 1) (12 + 6 * i + 1) (nI t)) (12 + 6 * i + 2) key) (12 + 6 * i + 3) am) (12 + 6 * i + 4) (nI x)) kept st text len att num rd) := hD
        refine lv_aload_n hx hb dX9_comes_169 rfl (lv_at hl 3 rfl) ?_
        refine va_get (D := D) (ci := 9) (v := .ref a1) (C := RX9) (T := TX9) (N := 8) hx hb hts u9 hown hK hP 0 rfl rfl 0 (by decide) k0 (fun _ h9 => h9) rfl dX9_comes_170 ?_
        refine lv_iload hx hb dX9_comes_173 (lv_at hl 0 rfl) ?_
        refine lv_iconst (v := 5) hx hb dX9_comes_175 (by decide) ?_
        refine k_iadd (v := nI (12 + 6 * i + 5)) hx hb dX9_comes_176 (nI_add (12 + 6 * i) 5) ?_
        refine lv_iload hx hb dX9_comes_177 (lv_at hl 2 rfl) ?_
        refine k_iast (j := 12 + 6 * i + 5) hx hb hK hP hD hS 1 0 rfl rfl rfl (by omega) (by decide) dX9_comes_179 (fun H locs hP hD hS => ?_)
        have hP : va_P D vwCl (wM I a0 a1 a2 a3 a4 (upd (upd (upd (upd (upd (upd (upd now 11 1) (12 + 6 * i + 0) 1) (12 + 6 * i + 1) (nI t)) (12 + 6 * i + 2) key) (12 + 6 * i + 3) am) (12 + 6 * i + 4) (nI x)) (12 + 6 * i + 5) (m_judge (upd now 11 1) t key x np sz)) kept st text len att num rd) H := hP
        have hD : va_D A (wM I a0 a1 a2 a3 a4 (upd (upd (upd (upd (upd (upd (upd now 11 1) (12 + 6 * i + 0) 1) (12 + 6 * i + 1) (nI t)) (12 + 6 * i + 2) key) (12 + 6 * i + 3) am) (12 + 6 * i + 4) (nI x)) (12 + 6 * i + 5) (m_judge (upd now 11 1) t key x np sz)) kept st text len att num rd) := hD
        have hP : va_P D vwCl (wM I a0 a1 a2 a3 a4 (m_put (upd now 11 1) i (nI t) key am (nI x) (m_judge (upd now 11 1) t key x np sz)) kept st text len att num rd) H := hP
        have hD : va_D A (wM I a0 a1 a2 a3 a4 (m_put (upd now 11 1) i (nI t) key am (nI x) (m_judge (upd now 11 1) t key x np sz)) kept st text len att num rd) := hD
        refine lv_iload_n hx hb dX9_comes_180 rfl (lv_at hl 5 rfl) ?_
        refine lv_aload_n hx hb dX9_comes_181 rfl (lv_at hl 3 rfl) ?_
        refine va_get (D := D) (ci := 9) (v := .ref a1) (C := RX9) (T := TX9) (N := 8) hx hb hts u9 hown hK hP 0 rfl rfl 0 (by decide) k0 (fun _ h9 => h9) rfl dX9_comes_182 ?_
        refine lv_iconst (v := 1) hx hb dX9_comes_185 (by decide) ?_
        refine k_iald (j := 1) (v := (now 1)) hx hb hK hP 1 0 rfl rfl rfl (by decide) (by decide) ((m_put_o (by omega)).trans (pk_un (by omega))) dX9_comes_186 ?_
        refine lv_icmp_le (tgt := 228) hx hb dX9_comes_187 (by decide) (fun c_187 => ?_) (fun c_187 => ?_)
        · refine lv_iload hx hb dX9_comes_228 (lv_at hl 2 rfl) ?_
          exact hend _ _ _ _ _ _ hP hD hS dX9_comes_230 rfl (by have e1 : (m_come now i t key am x np sz).2 = m_late (m_put (upd now 11 1) i (nI t) key am (nI x) (m_judge (upd now 11 1) t key x np sz)) t np sz := (by simp only [m_come, if_neg c_15, m_come1, m_n3, m_n2, m_k2, m_p2, if_pos hf, if_neg c_54, show upd now 11 1 0 = now 0 from rfl, show upd now 11 1 8 = now 8 from rfl]); rw [e1, m_late, show (m_put (upd now 11 1) i (nI t) key am (nI x) (m_judge (upd now 11 1) t key x np sz)) 1 = now 1 from ((m_put_o (by omega)).trans (pk_un (by omega))), show (m_put (upd now 11 1) i (nI t) key am (nI x) (m_judge (upd now 11 1) t key x np sz)) 7 = now 7 from ((m_put_o (by omega)).trans (pk_un (by omega))), show (m_put (upd now 11 1) i (nI t) key am (nI x) (m_judge (upd now 11 1) t key x np sz)) 0 = now 0 from ((m_put_o (by omega)).trans (pk_un (by omega))), if_pos c_187]) (by rw [m_come, if_neg c_15, m_come1])
        · refine lv_aload_n hx hb dX9_comes_190 rfl (lv_at hl 3 rfl) ?_
          refine va_get (D := D) (ci := 9) (v := .ref a1) (C := RX9) (T := TX9) (N := 8) hx hb hts u9 hown hK hP 0 rfl rfl 0 (by decide) k0 (fun _ h9 => h9) rfl dX9_comes_191 ?_
          refine lv_iconst (v := 1) hx hb dX9_comes_194 (by decide) ?_
          refine lv_iload_n hx hb dX9_comes_195 rfl (lv_at hl 5 rfl) ?_
          refine k_iast (j := 1) hx hb hK hP hD hS 1 0 rfl rfl rfl (by decide) (by decide) dX9_comes_196 (fun H locs hP hD hS => ?_)
          have hP : va_P D vwCl (wM I a0 a1 a2 a3 a4 (upd (m_put (upd now 11 1) i (nI t) key am (nI x) (m_judge (upd now 11 1) t key x np sz)) 1 (nI t)) kept st text len att num rd) H := hP
          have hD : va_D A (wM I a0 a1 a2 a3 a4 (upd (m_put (upd now 11 1) i (nI t) key am (nI x) (m_judge (upd now 11 1) t key x np sz)) 1 (nI t)) kept st text len att num rd) := hD
          refine lv_iload_n hx hb dX9_comes_197 rfl (lv_at hl 5 rfl) ?_
          refine lv_aload_n hx hb dX9_comes_198 rfl (lv_at hl 3 rfl) ?_
          refine va_get (D := D) (ci := 9) (v := .ref a1) (C := RX9) (T := TX9) (N := 8) hx hb hts u9 hown hK hP 0 rfl rfl 0 (by decide) k0 (fun _ h9 => h9) rfl dX9_comes_199 ?_
          refine lv_bipush (v := 7) hx hb dX9_comes_202 (by decide) ?_
          refine k_iald (j := 7) (v := (now 7)) hx hb hK hP 1 0 rfl rfl rfl (by decide) (by decide) ((pk_un (by omega)).trans ((m_put_o (by omega)).trans (pk_un (by omega)))) dX9_comes_204 ?_
          refine lv_isub hx hb dX9_comes_205 ?_
          refine lv_aload_n hx hb dX9_comes_206 rfl (lv_at hl 3 rfl) ?_
          refine va_get (D := D) (ci := 9) (v := .ref a1) (C := RX9) (T := TX9) (N := 8) hx hb hts u9 hown hK hP 0 rfl rfl 0 (by decide) k0 (fun _ h9 => h9) rfl dX9_comes_207 ?_
          refine lv_iconst (v := 0) hx hb dX9_comes_210 (by decide) ?_
          refine k_iald (j := 0) (v := (now 0)) hx hb hK hP 1 0 rfl rfl rfl (by decide) (by decide) ((pk_un (by omega)).trans ((m_put_o (by omega)).trans (pk_un (by omega)))) dX9_comes_211 ?_
          refine lv_icmp_le (tgt := 228) hx hb dX9_comes_212 (by decide) (fun c_212 => ?_) (fun c_212 => ?_)
          · refine lv_iload hx hb dX9_comes_228 (lv_at hl 2 rfl) ?_
            exact hend _ _ _ _ _ _ hP hD hS dX9_comes_230 rfl (by have e1 : (m_come now i t key am x np sz).2 = m_late (m_put (upd now 11 1) i (nI t) key am (nI x) (m_judge (upd now 11 1) t key x np sz)) t np sz := (by simp only [m_come, if_neg c_15, m_come1, m_n3, m_n2, m_k2, m_p2, if_pos hf, if_neg c_54, show upd now 11 1 0 = now 0 from rfl, show upd now 11 1 8 = now 8 from rfl]); rw [e1, m_late, show (m_put (upd now 11 1) i (nI t) key am (nI x) (m_judge (upd now 11 1) t key x np sz)) 1 = now 1 from ((m_put_o (by omega)).trans (pk_un (by omega))), show (m_put (upd now 11 1) i (nI t) key am (nI x) (m_judge (upd now 11 1) t key x np sz)) 7 = now 7 from ((m_put_o (by omega)).trans (pk_un (by omega))), show (m_put (upd now 11 1) i (nI t) key am (nI x) (m_judge (upd now 11 1) t key x np sz)) 0 = now 0 from ((m_put_o (by omega)).trans (pk_un (by omega))), if_neg c_187, if_pos c_212]) (by rw [m_come, if_neg c_15, m_come1])
          · refine lv_aload_n hx hb dX9_comes_215 rfl (lv_at hl 3 rfl) ?_
            refine lv_iload_n hx hb dX9_comes_216 rfl (lv_at hl 5 rfl) ?_
            refine lv_aload_n hx hb dX9_comes_217 rfl (lv_at hl 3 rfl) ?_
            refine va_get (D := D) (ci := 9) (v := .ref a1) (C := RX9) (T := TX9) (N := 8) hx hb hts u9 hown hK hP 0 rfl rfl 0 (by decide) k0 (fun _ h9 => h9) rfl dX9_comes_218 ?_
            refine lv_bipush (v := 7) hx hb dX9_comes_221 (by decide) ?_
            refine k_iald (j := 7) (v := (now 7)) hx hb hK hP 1 0 rfl rfl rfl (by decide) (by decide) ((pk_un (by omega)).trans ((m_put_o (by omega)).trans (pk_un (by omega)))) dX9_comes_223 ?_
            refine lv_isub hx hb dX9_comes_224 ?_
            refine k_vF (va_runV (As := [.int ((nI t) - (now 7))]) (rest := []) hF (c_X9_rises l D I C Q a0 a1 a2 a3 a4 (upd (m_put (upd now 11 1) i (nI t) key am (nI x) (m_judge (upd now 11 1) t key x np sz)) 1 (nI t)) kept st text len att num rd np sz ((nI t) - (now 7)) (Eq.trans ((pk_un (by omega)).trans ((m_put_o (by omega)).trans (pk_un (by omega)))) hnp) (by omega) (Eq.trans ((pk_un (by omega)).trans ((m_put_o (by omega)).trans (pk_un (by omega)))) hsz) hs0 hs1 (wOk_upd (wOk_put (wOk_upd hwk (by omega))) (by omega)) (nOk_upd (by omega) (nOk_put (by omega) (nOk_upd (by omega) hnk))) _) (cwV 1 hts gX9_comes_X9_rises rfl rfl rfl (by decide +kernel) ⟨Nat.le_of_ble_eq_true rfl, Nat.le_of_ble_eq_true rfl⟩) (kPreV hE hP hD (ci := 9) (q0 := 0) rfl rfl) rfl rfl hl.1 rfl (lv_room (Nat.le_of_ble_eq_true rfl)) dX9_comes_225 ⟨Nat.zero_le _, Nat.zero_le _⟩) hD hS hA (fun H locs hP hD hS => ?_)
            have hP : va_P D vwCl (wM I a0 a1 a2 a3 a4 (m_rises (upd (m_put (upd now 11 1) i (nI t) key am (nI x) (m_judge (upd now 11 1) t key x np sz)) 1 (nI t)) ((nI t) - (now 7)) np sz) kept st text len att num rd) H := hP
            have hD : va_D A (wM I a0 a1 a2 a3 a4 (m_rises (upd (m_put (upd now 11 1) i (nI t) key am (nI x) (m_judge (upd now 11 1) t key x np sz)) 1 (nI t)) ((nI t) - (now 7)) np sz) kept st text len att num rd) := hD
            refine lv_iload hx hb dX9_comes_228 (lv_at hl 2 rfl) ?_
            exact hend _ _ _ _ _ _ hP hD hS dX9_comes_230 rfl (by have e1 : (m_come now i t key am x np sz).2 = m_late (m_put (upd now 11 1) i (nI t) key am (nI x) (m_judge (upd now 11 1) t key x np sz)) t np sz := (by simp only [m_come, if_neg c_15, m_come1, m_n3, m_n2, m_k2, m_p2, if_pos hf, if_neg c_54, show upd now 11 1 0 = now 0 from rfl, show upd now 11 1 8 = now 8 from rfl]); rw [e1, m_late, show (m_put (upd now 11 1) i (nI t) key am (nI x) (m_judge (upd now 11 1) t key x np sz)) 1 = now 1 from ((m_put_o (by omega)).trans (pk_un (by omega))), show (m_put (upd now 11 1) i (nI t) key am (nI x) (m_judge (upd now 11 1) t key x np sz)) 7 = now 7 from ((m_put_o (by omega)).trans (pk_un (by omega))), show (m_put (upd now 11 1) i (nI t) key am (nI x) (m_judge (upd now 11 1) t key x np sz)) 0 = now 0 from ((m_put_o (by omega)).trans (pk_un (by omega))), if_neg c_187, if_neg c_212]) (by rw [m_come, if_neg c_15, m_come1])
      · refine lv_aload_n hx hb dX9_comes_57 rfl (lv_at hl 2 rfl) ?_
        refine va_get (D := D) (ci := 9) (v := .ref a1) (C := RX9) (T := TX9) (N := 8) hx hb hts u9 hown hK hP 0 rfl rfl 0 (by decide) k0 (fun _ h9 => h9) rfl dX9_comes_58 ?_
        refine lv_aload_n hx hb dX9_comes_61 rfl (lv_at hl 2 rfl) ?_
        refine lv_iload hx hb dX9_comes_62 (lv_at hl 7 rfl) ?_
        have hpb := m_pfN_lt (upd now 11 1) (x := x) (m_judge_x1 c_54)
        have hp0 : ¬ m_pfN (upd now 11 1) x = 0 := m_judge_pf c_54
        refine k_iF (va_runV (As := [.int (nI x)]) (rest := [.ref a1]) hF (c_X9_placeFor l D I C Q a0 a1 a2 a3 a4 (upd now 11 1) kept st text len att num rd x (m_judge_x1 c_54) hx3 _) (cwV 1 hts gX9_comes_X9_placeFor rfl rfl rfl (by decide +kernel) ⟨Nat.le_of_ble_eq_true rfl, Nat.le_of_ble_eq_true rfl⟩) (kPreV hE hP hD (ci := 9) (q0 := 0) rfl rfl) rfl rfl hl.1 rfl (lv_room (Nat.le_of_ble_eq_true rfl)) dX9_comes_64 ⟨Nat.zero_le _, Nat.zero_le _⟩) hD hS hA (fun H locs hP hD hS => ?_)
        refine k_top (y := nI (m_pfN (upd now 11 1) x)) (if_neg hp0) ?_
        refine lv_iload_n hx hb dX9_comes_67 rfl (lv_at hl 3 rfl) ?_
        refine lv_iconst (v := 1) hx hb dX9_comes_68 (by decide) ?_
        refine k_iadd (v := nI (i + 1)) hx hb dX9_comes_69 (nI_add i 1) ?_
        refine k_iast (j := m_pfN (upd now 11 1) x) hx hb hK hP hD hS 1 0 rfl rfl rfl (by omega) (by decide) dX9_comes_70 (fun H locs hP hD hS => ?_)
        have hP : va_P D vwCl (wM I a0 a1 a2 a3 a4 (upd (upd now 11 1) (m_pfN (upd now 11 1) x) (nI (i + 1))) kept st text len att num rd) H := hP
        have hD : va_D A (wM I a0 a1 a2 a3 a4 (upd (upd now 11 1) (m_pfN (upd now 11 1) x) (nI (i + 1))) kept st text len att num rd) := hD
        refine lv_aload_n hx hb dX9_comes_71 rfl (lv_at hl 2 rfl) ?_
        refine lv_iload hx hb dX9_comes_72 (lv_at hl 0 rfl) ?_
        refine k_vF (va_runV (As := [.int (nI (m_fk (upd now 11 1) (nI (t / sz)) np))]) (rest := []) hF (c_X9_takesBack l D I C Q a0 a1 a2 a3 a4 (upd (upd now 11 1) (m_pfN (upd now 11 1) x) (nI (i + 1))) kept st text len att num rd (m_fk (upd now 11 1) (nI (t / sz)) np) (wOk_upd hwN (by omega)) (by omega) _) (cwV 1 hts gX9_comes_X9_takesBack rfl rfl rfl (by decide +kernel) ⟨Nat.le_of_ble_eq_true rfl, Nat.le_of_ble_eq_true rfl⟩) (kPreV hE hP hD (ci := 9) (q0 := 0) rfl rfl) rfl rfl hl.1 rfl (lv_room (Nat.le_of_ble_eq_true rfl)) dX9_comes_74 ⟨Nat.zero_le _, Nat.zero_le _⟩) hD hS hA (fun H locs hP hD hS => ?_)
        have hP : va_P D vwCl (wM I a0 a1 a2 a3 a4 (m_takes (upd (upd now 11 1) (m_pfN (upd now 11 1) x) (nI (i + 1))) (m_fk (upd now 11 1) (nI (t / sz)) np)) kept st text len att num rd) H := hP
        have hD : va_D A (wM I a0 a1 a2 a3 a4 (m_takes (upd (upd now 11 1) (m_pfN (upd now 11 1) x) (nI (i + 1))) (m_fk (upd now 11 1) (nI (t / sz)) np)) kept st text len att num rd) := hD
        refine lv_aload_n hx hb dX9_comes_77 rfl (lv_at hl 2 rfl) ?_
        refine lv_iload hx hb dX9_comes_78 (lv_at hl 0 rfl) ?_
        refine lv_iconst (v := 1) hx hb dX9_comes_80 (by decide) ?_
        refine lv_iconst (v := 1) hx hb dX9_comes_81 (by decide) ?_
        refine k_vF (va_runV (As := [.int (nI (m_fk (upd now 11 1) (nI (t / sz)) np)), .int 1, .int 1]) (rest := []) hF (c_X9_setsP l D I C Q a0 a1 a2 a3 a4 (m_takes (upd (upd now 11 1) (m_pfN (upd now 11 1) x) (nI (i + 1))) (m_fk (upd now 11 1) (nI (t / sz)) np)) kept st text len att num rd (m_fk (upd now 11 1) (nI (t / sz)) np) 1 1 (by omega) (by omega) _) (cwV 3 hts gX9_comes_X9_setsP rfl rfl rfl (by decide +kernel) ⟨Nat.le_of_ble_eq_true rfl, Nat.le_of_ble_eq_true rfl⟩) (kPreV hE hP hD (ci := 9) (q0 := 0) rfl rfl) rfl rfl hl.1 rfl (lv_room (Nat.le_of_ble_eq_true rfl)) dX9_comes_82 ⟨Nat.zero_le _, Nat.zero_le _⟩) hD hS hA (fun H locs hP hD hS => ?_)
        have hP : va_P D vwCl (wM I a0 a1 a2 a3 a4 (upd (m_takes (upd (upd now 11 1) (m_pfN (upd now 11 1) x) (nI (i + 1))) (m_fk (upd now 11 1) (nI (t / sz)) np)) (396 + 8 * (m_fk (upd now 11 1) (nI (t / sz)) np) + 1) 1) kept st text len att num rd) H := hP
        have hD : va_D A (wM I a0 a1 a2 a3 a4 (upd (m_takes (upd (upd now 11 1) (m_pfN (upd now 11 1) x) (nI (i + 1))) (m_fk (upd now 11 1) (nI (t / sz)) np)) (396 + 8 * (m_fk (upd now 11 1) (nI (t / sz)) np) + 1) 1) kept st text len att num rd) := hD
        refine lv_aload_n hx hb dX9_comes_85 rfl (lv_at hl 2 rfl) ?_
        refine lv_iload hx hb dX9_comes_86 (lv_at hl 0 rfl) ?_
        refine lv_iconst (v := 2) hx hb dX9_comes_88 (by decide) ?_
        refine lv_aload_n hx hb dX9_comes_89 rfl (lv_at hl 2 rfl) ?_
        refine va_get (D := D) (ci := 9) (v := .ref a1) (C := RX9) (T := TX9) (N := 8) hx hb hts u9 hown hK hP 0 rfl rfl 0 (by decide) k0 (fun _ h9 => h9) rfl dX9_comes_90 ?_
        refine lv_iconst (v := 0) hx hb dX9_comes_93 (by decide) ?_
        refine k_iald (j := 0) (v := (now 0)) hx hb hK hP 1 0 rfl rfl rfl (by decide) (by decide) ((pk_un (by omega)).trans ((m_takes_o (wOk_upd hwN (by omega)) (by omega) (by omega) (by omega) (by omega)).trans ((pk_un (by omega)).trans (pk_un (by omega))))) dX9_comes_94 ?_
        refine lv_aload_n hx hb dX9_comes_95 rfl (lv_at hl 2 rfl) ?_
        refine va_get (D := D) (ci := 9) (v := .ref a1) (C := RX9) (T := TX9) (N := 8) hx hb hts u9 hown hK hP 0 rfl rfl 0 (by decide) k0 (fun _ h9 => h9) rfl dX9_comes_96 ?_
        refine lv_bipush (v := 8) hx hb dX9_comes_99 (by decide) ?_
        refine k_iald (j := 8) (v := (now 8)) hx hb hK hP 1 0 rfl rfl rfl (by decide) (by decide) ((pk_un (by omega)).trans ((m_takes_o (wOk_upd hwN (by omega)) (by omega) (by omega) (by omega) (by omega)).trans ((pk_un (by omega)).trans (pk_un (by omega))))) dX9_comes_101 ?_
        refine lv_iadd hx hb dX9_comes_102 ?_
        refine lv_iconst (v := 1) hx hb dX9_comes_103 (by decide) ?_
        refine lv_iadd hx hb dX9_comes_104 ?_
        refine k_vF (va_runV (As := [.int (nI (m_fk (upd now 11 1) (nI (t / sz)) np)), .int 2, .int (((now 0) + (now 8)) + 1)]) (rest := []) hF (c_X9_setsP l D I C Q a0 a1 a2 a3 a4 (upd (m_takes (upd (upd now 11 1) (m_pfN (upd now 11 1) x) (nI (i + 1))) (m_fk (upd now 11 1) (nI (t / sz)) np)) (396 + 8 * (m_fk (upd now 11 1) (nI (t / sz)) np) + 1) 1) kept st text len att num rd (m_fk (upd now 11 1) (nI (t / sz)) np) 2 (((now 0) + (now 8)) + 1) (by omega) (by omega) _) (cwV 3 hts gX9_comes_X9_setsP rfl rfl rfl (by decide +kernel) ⟨Nat.le_of_ble_eq_true rfl, Nat.le_of_ble_eq_true rfl⟩) (kPreV hE hP hD (ci := 9) (q0 := 0) rfl rfl) rfl rfl hl.1 rfl (lv_room (Nat.le_of_ble_eq_true rfl)) dX9_comes_105 ⟨Nat.zero_le _, Nat.zero_le _⟩) hD hS hA (fun H locs hP hD hS => ?_)
        have hP : va_P D vwCl (wM I a0 a1 a2 a3 a4 (upd (upd (m_takes (upd (upd now 11 1) (m_pfN (upd now 11 1) x) (nI (i + 1))) (m_fk (upd now 11 1) (nI (t / sz)) np)) (396 + 8 * (m_fk (upd now 11 1) (nI (t / sz)) np) + 1) 1) (396 + 8 * (m_fk (upd now 11 1) (nI (t / sz)) np) + 2) (((now 0) + (now 8)) + 1)) kept st text len att num rd) H := hP
        have hD : va_D A (wM I a0 a1 a2 a3 a4 (upd (upd (m_takes (upd (upd now 11 1) (m_pfN (upd now 11 1) x) (nI (i + 1))) (m_fk (upd now 11 1) (nI (t / sz)) np)) (396 + 8 * (m_fk (upd now 11 1) (nI (t / sz)) np) + 1) 1) (396 + 8 * (m_fk (upd now 11 1) (nI (t / sz)) np) + 2) (((now 0) + (now 8)) + 1)) kept st text len att num rd) := hD
        have hP : va_P D vwCl (wM I a0 a1 a2 a3 a4 (m_reop (upd now 11 1) (m_fk (upd now 11 1) (nI (t / sz)) np) i (m_pfN (upd now 11 1) x) (now 0 + now 8 + 1)) kept st text len att num rd) H := hP
        have hD : va_D A (wM I a0 a1 a2 a3 a4 (m_reop (upd now 11 1) (m_fk (upd now 11 1) (nI (t / sz)) np) i (m_pfN (upd now 11 1) x) (now 0 + now 8 + 1)) kept st text len att num rd) := hD
        have hwM : wOk (m_reop (upd now 11 1) (m_fk (upd now 11 1) (nI (t / sz)) np) i (m_pfN (upd now 11 1) x) (now 0 + now 8 + 1)) := wOk_reop hwN (by omega)
        refine lv_bipush (v := 12) hx hb dX9_comes_108 (by decide) ?_
        refine lv_bipush (v := 6) hx hb dX9_comes_110 (by decide) ?_
        refine lv_iload_n hx hb dX9_comes_112 rfl (lv_at hl 3 rfl) ?_
        refine k_imul (v := nI (6 * i)) hx hb dX9_comes_113 (k_mul 6 i) ?_
        refine k_iadd (v := nI (12 + 6 * i)) hx hb dX9_comes_114 (nI_add 12 (6 * i)) ?_
        refine lv_istore (lv' := [(8, .int (nI (12 + 6 * i))), (7, .int (nI (m_fk (upd now 11 1) (nI (t / sz)) np))), (6, .int (m_judge (upd now 11 1) t key x np sz)), (0, .ref a0), (1, .int (nI i)), (2, .int (nI t)), (3, .int key), (4, .int am), (5, .int (nI x))]) hx hb dX9_comes_115 hl (by decide) rfl (fun ls hl => ?_)
        refine lv_aload_n hx hb dX9_comes_117 rfl (lv_at hl 3 rfl) ?_
        refine va_get (D := D) (ci := 9) (v := .ref a1) (C := RX9) (T := TX9) (N := 8) hx hb hts u9 hown hK hP 0 rfl rfl 0 (by decide) k0 (fun _ h9 => h9) rfl dX9_comes_118 ?_
        refine lv_iload hx hb dX9_comes_121 (lv_at hl 0 rfl) ?_
        refine lv_iconst (v := 0) hx hb dX9_comes_123 (by decide) ?_
        refine k_iadd (v := nI (12 + 6 * i + 0)) hx hb dX9_comes_124 (nI_add (12 + 6 * i) 0) ?_
        refine lv_iconst (v := 1) hx hb dX9_comes_125 (by decide) ?_
        refine k_iast (j := 12 + 6 * i + 0) hx hb hK hP hD hS 1 0 rfl rfl rfl (by omega) (by decide) dX9_comes_126 (fun H locs hP hD hS => ?_)
        have hP : va_P D vwCl (wM I a0 a1 a2 a3 a4 (upd (m_reop (upd now 11 1) (m_fk (upd now 11 1) (nI (t / sz)) np) i (m_pfN (upd now 11 1) x) (now 0 + now 8 + 1)) (12 + 6 * i + 0) 1) kept st text len att num rd) H := hP
        have hD : va_D A (wM I a0 a1 a2 a3 a4 (upd (m_reop (upd now 11 1) (m_fk (upd now 11 1) (nI (t / sz)) np) i (m_pfN (upd now 11 1) x) (now 0 + now 8 + 1)) (12 + 6 * i + 0) 1) kept st text len att num rd) := hD
        refine lv_aload_n hx hb dX9_comes_127 rfl (lv_at hl 3 rfl) ?_
        refine va_get (D := D) (ci := 9) (v := .ref a1) (C := RX9) (T := TX9) (N := 8) hx hb hts u9 hown hK hP 0 rfl rfl 0 (by decide) k0 (fun _ h9 => h9) rfl dX9_comes_128 ?_
        refine lv_iload hx hb dX9_comes_131 (lv_at hl 0 rfl) ?_
        refine lv_iconst (v := 1) hx hb dX9_comes_133 (by decide) ?_
        refine k_iadd (v := nI (12 + 6 * i + 1)) hx hb dX9_comes_134 (nI_add (12 + 6 * i) 1) ?_
        refine lv_iload_n hx hb dX9_comes_135 rfl (lv_at hl 5 rfl) ?_
        refine k_iast (j := 12 + 6 * i + 1) hx hb hK hP hD hS 1 0 rfl rfl rfl (by omega) (by decide) dX9_comes_136 (fun H locs hP hD hS => ?_)
        have hP : va_P D vwCl (wM I a0 a1 a2 a3 a4 (upd (upd (m_reop (upd now 11 1) (m_fk (upd now 11 1) (nI (t / sz)) np) i (m_pfN (upd now 11 1) x) (now 0 + now 8 + 1)) (12 + 6 * i + 0) 1) (12 + 6 * i + 1) (nI t)) kept st text len att num rd) H := hP
        have hD : va_D A (wM I a0 a1 a2 a3 a4 (upd (upd (m_reop (upd now 11 1) (m_fk (upd now 11 1) (nI (t / sz)) np) i (m_pfN (upd now 11 1) x) (now 0 + now 8 + 1)) (12 + 6 * i + 0) 1) (12 + 6 * i + 1) (nI t)) kept st text len att num rd) := hD
        refine lv_aload_n hx hb dX9_comes_137 rfl (lv_at hl 3 rfl) ?_
        refine va_get (D := D) (ci := 9) (v := .ref a1) (C := RX9) (T := TX9) (N := 8) hx hb hts u9 hown hK hP 0 rfl rfl 0 (by decide) k0 (fun _ h9 => h9) rfl dX9_comes_138 ?_
        refine lv_iload hx hb dX9_comes_141 (lv_at hl 0 rfl) ?_
        refine lv_iconst (v := 2) hx hb dX9_comes_143 (by decide) ?_
        refine k_iadd (v := nI (12 + 6 * i + 2)) hx hb dX9_comes_144 (nI_add (12 + 6 * i) 2) ?_
        refine lv_iload_n hx hb dX9_comes_145 rfl (lv_at hl 6 rfl) ?_
        refine k_iast (j := 12 + 6 * i + 2) hx hb hK hP hD hS 1 0 rfl rfl rfl (by omega) (by decide) dX9_comes_146 (fun H locs hP hD hS => ?_)
        have hP : va_P D vwCl (wM I a0 a1 a2 a3 a4 (upd (upd (upd (m_reop (upd now 11 1) (m_fk (upd now 11 1) (nI (t / sz)) np) i (m_pfN (upd now 11 1) x) (now 0 + now 8 + 1)) (12 + 6 * i + 0) 1) (12 + 6 * i + 1) (nI t)) (12 + 6 * i + 2) key) kept st text len att num rd) H := hP
        have hD : va_D A (wM I a0 a1 a2 a3 a4 (upd (upd (upd (m_reop (upd now 11 1) (m_fk (upd now 11 1) (nI (t / sz)) np) i (m_pfN (upd now 11 1) x) (now 0 + now 8 + 1)) (12 + 6 * i + 0) 1) (12 + 6 * i + 1) (nI t)) (12 + 6 * i + 2) key) kept st text len att num rd) := hD
        refine lv_aload_n hx hb dX9_comes_147 rfl (lv_at hl 3 rfl) ?_
        refine va_get (D := D) (ci := 9) (v := .ref a1) (C := RX9) (T := TX9) (N := 8) hx hb hts u9 hown hK hP 0 rfl rfl 0 (by decide) k0 (fun _ h9 => h9) rfl dX9_comes_148 ?_
        refine lv_iload hx hb dX9_comes_151 (lv_at hl 0 rfl) ?_
        refine lv_iconst (v := 3) hx hb dX9_comes_153 (by decide) ?_
        refine k_iadd (v := nI (12 + 6 * i + 3)) hx hb dX9_comes_154 (nI_add (12 + 6 * i) 3) ?_
        refine lv_iload hx hb dX9_comes_155 (lv_at hl 7 rfl) ?_
        refine k_iast (j := 12 + 6 * i + 3) hx hb hK hP hD hS 1 0 rfl rfl rfl (by omega) (by decide) dX9_comes_157 (fun H locs hP hD hS => ?_)
        have hP : va_P D vwCl (wM I a0 a1 a2 a3 a4 (upd (upd (upd (upd (m_reop (upd now 11 1) (m_fk (upd now 11 1) (nI (t / sz)) np) i (m_pfN (upd now 11 1) x) (now 0 + now 8 + 1)) (12 + 6 * i + 0) 1) (12 + 6 * i + 1) (nI t)) (12 + 6 * i + 2) key) (12 + 6 * i + 3) am) kept st text len att num rd) H := hP
        have hD : va_D A (wM I a0 a1 a2 a3 a4 (upd (upd (upd (upd (m_reop (upd now 11 1) (m_fk (upd now 11 1) (nI (t / sz)) np) i (m_pfN (upd now 11 1) x) (now 0 + now 8 + 1)) (12 + 6 * i + 0) 1) (12 + 6 * i + 1) (nI t)) (12 + 6 * i + 2) key) (12 + 6 * i + 3) am) kept st text len att num rd) := hD
        refine lv_aload_n hx hb dX9_comes_158 rfl (lv_at hl 3 rfl) ?_
        refine va_get (D := D) (ci := 9) (v := .ref a1) (C := RX9) (T := TX9) (N := 8) hx hb hts u9 hown hK hP 0 rfl rfl 0 (by decide) k0 (fun _ h9 => h9) rfl dX9_comes_159 ?_
        refine lv_iload hx hb dX9_comes_162 (lv_at hl 0 rfl) ?_
        refine lv_iconst (v := 4) hx hb dX9_comes_164 (by decide) ?_
        refine k_iadd (v := nI (12 + 6 * i + 4)) hx hb dX9_comes_165 (nI_add (12 + 6 * i) 4) ?_
        refine lv_iload hx hb dX9_comes_166 (lv_at hl 8 rfl) ?_
        refine k_iast (j := 12 + 6 * i + 4) hx hb hK hP hD hS 1 0 rfl rfl rfl (by omega) (by decide) dX9_comes_168 (fun H locs hP hD hS => ?_)
        have hP : va_P D vwCl (wM I a0 a1 a2 a3 a4 (upd (upd (upd (upd (upd (m_reop (upd now 11 1) (m_fk (upd now 11 1) (nI (t / sz)) np) i (m_pfN (upd now 11 1) x) (now 0 + now 8 + 1)) (12 + 6 * i + 0) 1) (12 + 6 * i + 1) (nI t)) (12 + 6 * i + 2) key) (12 + 6 * i + 3) am) (12 + 6 * i + 4) (nI x)) kept st text len att num rd) H := hP
        have hD : va_D A (wM I a0 a1 a2 a3 a4 (upd (upd (upd (upd (upd (m_reop (upd now 11 1) (m_fk (upd now 11 1) (nI (t / sz)) np) i (m_pfN (upd now 11 1) x) (now 0 + now 8 + 1)) (12 + 6 * i + 0) 1) (12 + 6 * i + 1) (nI t)) (12 + 6 * i + 2) key) (12 + 6 * i + 3) am) (12 + 6 * i + 4) (nI x)) kept st text len att num rd) := hD
        refine lv_aload_n hx hb dX9_comes_169 rfl (lv_at hl 3 rfl) ?_
        refine va_get (D := D) (ci := 9) (v := .ref a1) (C := RX9) (T := TX9) (N := 8) hx hb hts u9 hown hK hP 0 rfl rfl 0 (by decide) k0 (fun _ h9 => h9) rfl dX9_comes_170 ?_
        refine lv_iload hx hb dX9_comes_173 (lv_at hl 0 rfl) ?_
        refine lv_iconst (v := 5) hx hb dX9_comes_175 (by decide) ?_
        refine k_iadd (v := nI (12 + 6 * i + 5)) hx hb dX9_comes_176 (nI_add (12 + 6 * i) 5) ?_
        refine lv_iload hx hb dX9_comes_177 (lv_at hl 2 rfl) ?_
        refine k_iast (j := 12 + 6 * i + 5) hx hb hK hP hD hS 1 0 rfl rfl rfl (by omega) (by decide) dX9_comes_179 (fun H locs hP hD hS => ?_)
        have hP : va_P D vwCl (wM I a0 a1 a2 a3 a4 (upd (upd (upd (upd (upd (upd (m_reop (upd now 11 1) (m_fk (upd now 11 1) (nI (t / sz)) np) i (m_pfN (upd now 11 1) x) (now 0 + now 8 + 1)) (12 + 6 * i + 0) 1) (12 + 6 * i + 1) (nI t)) (12 + 6 * i + 2) key) (12 + 6 * i + 3) am) (12 + 6 * i + 4) (nI x)) (12 + 6 * i + 5) (m_judge (upd now 11 1) t key x np sz)) kept st text len att num rd) H := hP
        have hD : va_D A (wM I a0 a1 a2 a3 a4 (upd (upd (upd (upd (upd (upd (m_reop (upd now 11 1) (m_fk (upd now 11 1) (nI (t / sz)) np) i (m_pfN (upd now 11 1) x) (now 0 + now 8 + 1)) (12 + 6 * i + 0) 1) (12 + 6 * i + 1) (nI t)) (12 + 6 * i + 2) key) (12 + 6 * i + 3) am) (12 + 6 * i + 4) (nI x)) (12 + 6 * i + 5) (m_judge (upd now 11 1) t key x np sz)) kept st text len att num rd) := hD
        have hP : va_P D vwCl (wM I a0 a1 a2 a3 a4 (m_put (m_reop (upd now 11 1) (m_fk (upd now 11 1) (nI (t / sz)) np) i (m_pfN (upd now 11 1) x) (now 0 + now 8 + 1)) i (nI t) key am (nI x) (m_judge (upd now 11 1) t key x np sz)) kept st text len att num rd) H := hP
        have hD : va_D A (wM I a0 a1 a2 a3 a4 (m_put (m_reop (upd now 11 1) (m_fk (upd now 11 1) (nI (t / sz)) np) i (m_pfN (upd now 11 1) x) (now 0 + now 8 + 1)) i (nI t) key am (nI x) (m_judge (upd now 11 1) t key x np sz)) kept st text len att num rd) := hD
        refine lv_iload_n hx hb dX9_comes_180 rfl (lv_at hl 5 rfl) ?_
        refine lv_aload_n hx hb dX9_comes_181 rfl (lv_at hl 3 rfl) ?_
        refine va_get (D := D) (ci := 9) (v := .ref a1) (C := RX9) (T := TX9) (N := 8) hx hb hts u9 hown hK hP 0 rfl rfl 0 (by decide) k0 (fun _ h9 => h9) rfl dX9_comes_182 ?_
        refine lv_iconst (v := 1) hx hb dX9_comes_185 (by decide) ?_
        refine k_iald (j := 1) (v := (now 1)) hx hb hK hP 1 0 rfl rfl rfl (by decide) (by decide) ((m_put_o (by omega)).trans ((m_reop_o hwN (by omega) (by omega) (by omega) (by omega) (by omega)).trans (pk_un (by omega)))) dX9_comes_186 ?_
        refine lv_icmp_le (tgt := 228) hx hb dX9_comes_187 (by decide) (fun c_187 => ?_) (fun c_187 => ?_)
        · refine lv_iload hx hb dX9_comes_228 (lv_at hl 2 rfl) ?_
          exact hend _ _ _ _ _ _ hP hD hS dX9_comes_230 rfl (by have e1 : (m_come now i t key am x np sz).2 = m_late (m_put (m_reop (upd now 11 1) (m_fk (upd now 11 1) (nI (t / sz)) np) i (m_pfN (upd now 11 1) x) (now 0 + now 8 + 1)) i (nI t) key am (nI x) (m_judge (upd now 11 1) t key x np sz)) t np sz := (by simp only [m_come, if_neg c_15, m_come1, m_n3, m_n2, m_k2, m_p2, if_pos hf, if_pos c_54, show upd now 11 1 0 = now 0 from rfl, show upd now 11 1 8 = now 8 from rfl]); rw [e1, m_late, show (m_put (m_reop (upd now 11 1) (m_fk (upd now 11 1) (nI (t / sz)) np) i (m_pfN (upd now 11 1) x) (now 0 + now 8 + 1)) i (nI t) key am (nI x) (m_judge (upd now 11 1) t key x np sz)) 1 = now 1 from ((m_put_o (by omega)).trans ((m_reop_o hwN (by omega) (by omega) (by omega) (by omega) (by omega)).trans (pk_un (by omega)))), show (m_put (m_reop (upd now 11 1) (m_fk (upd now 11 1) (nI (t / sz)) np) i (m_pfN (upd now 11 1) x) (now 0 + now 8 + 1)) i (nI t) key am (nI x) (m_judge (upd now 11 1) t key x np sz)) 7 = now 7 from ((m_put_o (by omega)).trans ((m_reop_o hwN (by omega) (by omega) (by omega) (by omega) (by omega)).trans (pk_un (by omega)))), show (m_put (m_reop (upd now 11 1) (m_fk (upd now 11 1) (nI (t / sz)) np) i (m_pfN (upd now 11 1) x) (now 0 + now 8 + 1)) i (nI t) key am (nI x) (m_judge (upd now 11 1) t key x np sz)) 0 = now 0 from ((m_put_o (by omega)).trans ((m_reop_o hwN (by omega) (by omega) (by omega) (by omega) (by omega)).trans (pk_un (by omega)))), if_pos c_187]) (by rw [m_come, if_neg c_15, m_come1])
        · refine lv_aload_n hx hb dX9_comes_190 rfl (lv_at hl 3 rfl) ?_
          refine va_get (D := D) (ci := 9) (v := .ref a1) (C := RX9) (T := TX9) (N := 8) hx hb hts u9 hown hK hP 0 rfl rfl 0 (by decide) k0 (fun _ h9 => h9) rfl dX9_comes_191 ?_
          refine lv_iconst (v := 1) hx hb dX9_comes_194 (by decide) ?_
          refine lv_iload_n hx hb dX9_comes_195 rfl (lv_at hl 5 rfl) ?_
          refine k_iast (j := 1) hx hb hK hP hD hS 1 0 rfl rfl rfl (by decide) (by decide) dX9_comes_196 (fun H locs hP hD hS => ?_)
          have hP : va_P D vwCl (wM I a0 a1 a2 a3 a4 (upd (m_put (m_reop (upd now 11 1) (m_fk (upd now 11 1) (nI (t / sz)) np) i (m_pfN (upd now 11 1) x) (now 0 + now 8 + 1)) i (nI t) key am (nI x) (m_judge (upd now 11 1) t key x np sz)) 1 (nI t)) kept st text len att num rd) H := hP
          have hD : va_D A (wM I a0 a1 a2 a3 a4 (upd (m_put (m_reop (upd now 11 1) (m_fk (upd now 11 1) (nI (t / sz)) np) i (m_pfN (upd now 11 1) x) (now 0 + now 8 + 1)) i (nI t) key am (nI x) (m_judge (upd now 11 1) t key x np sz)) 1 (nI t)) kept st text len att num rd) := hD
          refine lv_iload_n hx hb dX9_comes_197 rfl (lv_at hl 5 rfl) ?_
          refine lv_aload_n hx hb dX9_comes_198 rfl (lv_at hl 3 rfl) ?_
          refine va_get (D := D) (ci := 9) (v := .ref a1) (C := RX9) (T := TX9) (N := 8) hx hb hts u9 hown hK hP 0 rfl rfl 0 (by decide) k0 (fun _ h9 => h9) rfl dX9_comes_199 ?_
          refine lv_bipush (v := 7) hx hb dX9_comes_202 (by decide) ?_
          refine k_iald (j := 7) (v := (now 7)) hx hb hK hP 1 0 rfl rfl rfl (by decide) (by decide) ((pk_un (by omega)).trans ((m_put_o (by omega)).trans ((m_reop_o hwN (by omega) (by omega) (by omega) (by omega) (by omega)).trans (pk_un (by omega))))) dX9_comes_204 ?_
          refine lv_isub hx hb dX9_comes_205 ?_
          refine lv_aload_n hx hb dX9_comes_206 rfl (lv_at hl 3 rfl) ?_
          refine va_get (D := D) (ci := 9) (v := .ref a1) (C := RX9) (T := TX9) (N := 8) hx hb hts u9 hown hK hP 0 rfl rfl 0 (by decide) k0 (fun _ h9 => h9) rfl dX9_comes_207 ?_
          refine lv_iconst (v := 0) hx hb dX9_comes_210 (by decide) ?_
          refine k_iald (j := 0) (v := (now 0)) hx hb hK hP 1 0 rfl rfl rfl (by decide) (by decide) ((pk_un (by omega)).trans ((m_put_o (by omega)).trans ((m_reop_o hwN (by omega) (by omega) (by omega) (by omega) (by omega)).trans (pk_un (by omega))))) dX9_comes_211 ?_
          refine lv_icmp_le (tgt := 228) hx hb dX9_comes_212 (by decide) (fun c_212 => ?_) (fun c_212 => ?_)
          · refine lv_iload hx hb dX9_comes_228 (lv_at hl 2 rfl) ?_
            exact hend _ _ _ _ _ _ hP hD hS dX9_comes_230 rfl (by have e1 : (m_come now i t key am x np sz).2 = m_late (m_put (m_reop (upd now 11 1) (m_fk (upd now 11 1) (nI (t / sz)) np) i (m_pfN (upd now 11 1) x) (now 0 + now 8 + 1)) i (nI t) key am (nI x) (m_judge (upd now 11 1) t key x np sz)) t np sz := (by simp only [m_come, if_neg c_15, m_come1, m_n3, m_n2, m_k2, m_p2, if_pos hf, if_pos c_54, show upd now 11 1 0 = now 0 from rfl, show upd now 11 1 8 = now 8 from rfl]); rw [e1, m_late, show (m_put (m_reop (upd now 11 1) (m_fk (upd now 11 1) (nI (t / sz)) np) i (m_pfN (upd now 11 1) x) (now 0 + now 8 + 1)) i (nI t) key am (nI x) (m_judge (upd now 11 1) t key x np sz)) 1 = now 1 from ((m_put_o (by omega)).trans ((m_reop_o hwN (by omega) (by omega) (by omega) (by omega) (by omega)).trans (pk_un (by omega)))), show (m_put (m_reop (upd now 11 1) (m_fk (upd now 11 1) (nI (t / sz)) np) i (m_pfN (upd now 11 1) x) (now 0 + now 8 + 1)) i (nI t) key am (nI x) (m_judge (upd now 11 1) t key x np sz)) 7 = now 7 from ((m_put_o (by omega)).trans ((m_reop_o hwN (by omega) (by omega) (by omega) (by omega) (by omega)).trans (pk_un (by omega)))), show (m_put (m_reop (upd now 11 1) (m_fk (upd now 11 1) (nI (t / sz)) np) i (m_pfN (upd now 11 1) x) (now 0 + now 8 + 1)) i (nI t) key am (nI x) (m_judge (upd now 11 1) t key x np sz)) 0 = now 0 from ((m_put_o (by omega)).trans ((m_reop_o hwN (by omega) (by omega) (by omega) (by omega) (by omega)).trans (pk_un (by omega)))), if_neg c_187, if_pos c_212]) (by rw [m_come, if_neg c_15, m_come1])
          · refine lv_aload_n hx hb dX9_comes_215 rfl (lv_at hl 3 rfl) ?_
            refine lv_iload_n hx hb dX9_comes_216 rfl (lv_at hl 5 rfl) ?_
            refine lv_aload_n hx hb dX9_comes_217 rfl (lv_at hl 3 rfl) ?_
            refine va_get (D := D) (ci := 9) (v := .ref a1) (C := RX9) (T := TX9) (N := 8) hx hb hts u9 hown hK hP 0 rfl rfl 0 (by decide) k0 (fun _ h9 => h9) rfl dX9_comes_218 ?_
            refine lv_bipush (v := 7) hx hb dX9_comes_221 (by decide) ?_
            refine k_iald (j := 7) (v := (now 7)) hx hb hK hP 1 0 rfl rfl rfl (by decide) (by decide) ((pk_un (by omega)).trans ((m_put_o (by omega)).trans ((m_reop_o hwN (by omega) (by omega) (by omega) (by omega) (by omega)).trans (pk_un (by omega))))) dX9_comes_223 ?_
            refine lv_isub hx hb dX9_comes_224 ?_
            refine k_vF (va_runV (As := [.int ((nI t) - (now 7))]) (rest := []) hF (c_X9_rises l D I C Q a0 a1 a2 a3 a4 (upd (m_put (m_reop (upd now 11 1) (m_fk (upd now 11 1) (nI (t / sz)) np) i (m_pfN (upd now 11 1) x) (now 0 + now 8 + 1)) i (nI t) key am (nI x) (m_judge (upd now 11 1) t key x np sz)) 1 (nI t)) kept st text len att num rd np sz ((nI t) - (now 7)) (Eq.trans ((pk_un (by omega)).trans ((m_put_o (by omega)).trans ((m_reop_o hwN (by omega) (by omega) (by omega) (by omega) (by omega)).trans (pk_un (by omega))))) hnp) (by omega) (Eq.trans ((pk_un (by omega)).trans ((m_put_o (by omega)).trans ((m_reop_o hwN (by omega) (by omega) (by omega) (by omega) (by omega)).trans (pk_un (by omega))))) hsz) hs0 hs1 (wOk_upd (wOk_put (wOk_reop (wOk_upd hwk (by omega)) (by omega))) (by omega)) (nOk_upd (by omega) (nOk_put (by omega) (nOk_reop (wOk_upd hwk (by omega)) (by omega) (by omega) (nOk_upd (by omega) hnk)))) _) (cwV 1 hts gX9_comes_X9_rises rfl rfl rfl (by decide +kernel) ⟨Nat.le_of_ble_eq_true rfl, Nat.le_of_ble_eq_true rfl⟩) (kPreV hE hP hD (ci := 9) (q0 := 0) rfl rfl) rfl rfl hl.1 rfl (lv_room (Nat.le_of_ble_eq_true rfl)) dX9_comes_225 ⟨Nat.zero_le _, Nat.zero_le _⟩) hD hS hA (fun H locs hP hD hS => ?_)
            have hP : va_P D vwCl (wM I a0 a1 a2 a3 a4 (m_rises (upd (m_put (m_reop (upd now 11 1) (m_fk (upd now 11 1) (nI (t / sz)) np) i (m_pfN (upd now 11 1) x) (now 0 + now 8 + 1)) i (nI t) key am (nI x) (m_judge (upd now 11 1) t key x np sz)) 1 (nI t)) ((nI t) - (now 7)) np sz) kept st text len att num rd) H := hP
            have hD : va_D A (wM I a0 a1 a2 a3 a4 (m_rises (upd (m_put (m_reop (upd now 11 1) (m_fk (upd now 11 1) (nI (t / sz)) np) i (m_pfN (upd now 11 1) x) (now 0 + now 8 + 1)) i (nI t) key am (nI x) (m_judge (upd now 11 1) t key x np sz)) 1 (nI t)) ((nI t) - (now 7)) np sz) kept st text len att num rd) := hD
            refine lv_iload hx hb dX9_comes_228 (lv_at hl 2 rfl) ?_
            exact hend _ _ _ _ _ _ hP hD hS dX9_comes_230 rfl (by have e1 : (m_come now i t key am x np sz).2 = m_late (m_put (m_reop (upd now 11 1) (m_fk (upd now 11 1) (nI (t / sz)) np) i (m_pfN (upd now 11 1) x) (now 0 + now 8 + 1)) i (nI t) key am (nI x) (m_judge (upd now 11 1) t key x np sz)) t np sz := (by simp only [m_come, if_neg c_15, m_come1, m_n3, m_n2, m_k2, m_p2, if_pos hf, if_pos c_54, show upd now 11 1 0 = now 0 from rfl, show upd now 11 1 8 = now 8 from rfl]); rw [e1, m_late, show (m_put (m_reop (upd now 11 1) (m_fk (upd now 11 1) (nI (t / sz)) np) i (m_pfN (upd now 11 1) x) (now 0 + now 8 + 1)) i (nI t) key am (nI x) (m_judge (upd now 11 1) t key x np sz)) 1 = now 1 from ((m_put_o (by omega)).trans ((m_reop_o hwN (by omega) (by omega) (by omega) (by omega) (by omega)).trans (pk_un (by omega)))), show (m_put (m_reop (upd now 11 1) (m_fk (upd now 11 1) (nI (t / sz)) np) i (m_pfN (upd now 11 1) x) (now 0 + now 8 + 1)) i (nI t) key am (nI x) (m_judge (upd now 11 1) t key x np sz)) 7 = now 7 from ((m_put_o (by omega)).trans ((m_reop_o hwN (by omega) (by omega) (by omega) (by omega) (by omega)).trans (pk_un (by omega)))), show (m_put (m_reop (upd now 11 1) (m_fk (upd now 11 1) (nI (t / sz)) np) i (m_pfN (upd now 11 1) x) (now 0 + now 8 + 1)) i (nI t) key am (nI x) (m_judge (upd now 11 1) t key x np sz)) 0 = now 0 from ((m_put_o (by omega)).trans ((m_reop_o hwN (by omega) (by omega) (by omega) (by omega) (by omega)).trans (pk_un (by omega)))), if_neg c_187, if_neg c_212]) (by rw [m_come, if_neg c_15, m_come1])
    · have hwN : wOk (m_keep (upd now 11 1) (nI (t / sz)) np) := wOk_keep (wOk_upd hwk (by omega))
      have hnpN := hcap c_15
      refine k_iF (va_runV (As := [.int (nI (t / sz))]) (rest := []) hF (c_X9_keepsN l D I C Q a0 a1 a2 a3 a4 (upd now 11 1) kept st text len att num rd np (nI (t / sz)) (Eq.trans (pk_un (by omega)) hnp) hn64 hf hnpN _) (cwV 1 hts gX9_comes_X9_keeps rfl rfl rfl (by decide +kernel) ⟨Nat.le_of_ble_eq_true rfl, Nat.le_of_ble_eq_true rfl⟩) (kPreV hE hP hD (ci := 9) (q0 := 0) rfl rfl) rfl rfl hl.1 rfl (lv_room (Nat.le_of_ble_eq_true rfl)) dX9_comes_46 ⟨Nat.zero_le _, Nat.zero_le _⟩) hD hS hA (fun H locs hP hD hS => ?_)
      have hP : va_P D vwCl (wM I a0 a1 a2 a3 a4 (m_keep (upd now 11 1) (nI (t / sz)) np) kept st text len att num rd) H := hP
      have hD : va_D A (wM I a0 a1 a2 a3 a4 (m_keep (upd now 11 1) (nI (t / sz)) np) kept st text len att num rd) := hD
      refine lv_istore (lv' := [(7, .int (nI np)), (6, .int (m_judge (upd now 11 1) t key x np sz)), (0, .ref a0), (1, .int (nI i)), (2, .int (nI t)), (3, .int key), (4, .int am), (5, .int (nI x))]) hx hb dX9_comes_49 hl (by decide) rfl (fun ls hl => ?_)
      refine lv_iload hx hb dX9_comes_51 (lv_at hl 1 rfl) ?_
      refine lv_iconst (v := 1) hx hb dX9_comes_53 (by decide) ?_
      refine lv_icmp_ne (tgt := 108) hx hb dX9_comes_54 (by decide) (fun c_54 => ?_) (fun c_54 => ?_)
      · refine lv_bipush (v := 12) hx hb dX9_comes_108 (by decide) ?_
        refine lv_bipush (v := 6) hx hb dX9_comes_110 (by decide) ?_
        refine lv_iload_n hx hb dX9_comes_112 rfl (lv_at hl 3 rfl) ?_
        refine k_imul (v := nI (6 * i)) hx hb dX9_comes_113 (k_mul 6 i) ?_
        refine k_iadd (v := nI (12 + 6 * i)) hx hb dX9_comes_114 (nI_add 12 (6 * i)) ?_
        refine lv_istore (lv' := [(8, .int (nI (12 + 6 * i))), (7, .int (nI np)), (6, .int (m_judge (upd now 11 1) t key x np sz)), (0, .ref a0), (1, .int (nI i)), (2, .int (nI t)), (3, .int key), (4, .int am), (5, .int (nI x))]) hx hb dX9_comes_115 hl (by decide) rfl (fun ls hl => ?_)
        refine lv_aload_n hx hb dX9_comes_117 rfl (lv_at hl 3 rfl) ?_
        refine va_get (D := D) (ci := 9) (v := .ref a1) (C := RX9) (T := TX9) (N := 8) hx hb hts u9 hown hK hP 0 rfl rfl 0 (by decide) k0 (fun _ h9 => h9) rfl dX9_comes_118 ?_
        refine lv_iload hx hb dX9_comes_121 (lv_at hl 0 rfl) ?_
        refine lv_iconst (v := 0) hx hb dX9_comes_123 (by decide) ?_
        refine k_iadd (v := nI (12 + 6 * i + 0)) hx hb dX9_comes_124 (nI_add (12 + 6 * i) 0) ?_
        refine lv_iconst (v := 1) hx hb dX9_comes_125 (by decide) ?_
        refine k_iast (j := 12 + 6 * i + 0) hx hb hK hP hD hS 1 0 rfl rfl rfl (by omega) (by decide) dX9_comes_126 (fun H locs hP hD hS => ?_)
        have hP : va_P D vwCl (wM I a0 a1 a2 a3 a4 (upd (m_keep (upd now 11 1) (nI (t / sz)) np) (12 + 6 * i + 0) 1) kept st text len att num rd) H := hP
        have hD : va_D A (wM I a0 a1 a2 a3 a4 (upd (m_keep (upd now 11 1) (nI (t / sz)) np) (12 + 6 * i + 0) 1) kept st text len att num rd) := hD
        refine lv_aload_n hx hb dX9_comes_127 rfl (lv_at hl 3 rfl) ?_
        refine va_get (D := D) (ci := 9) (v := .ref a1) (C := RX9) (T := TX9) (N := 8) hx hb hts u9 hown hK hP 0 rfl rfl 0 (by decide) k0 (fun _ h9 => h9) rfl dX9_comes_128 ?_
        refine lv_iload hx hb dX9_comes_131 (lv_at hl 0 rfl) ?_
        refine lv_iconst (v := 1) hx hb dX9_comes_133 (by decide) ?_
        refine k_iadd (v := nI (12 + 6 * i + 1)) hx hb dX9_comes_134 (nI_add (12 + 6 * i) 1) ?_
        refine lv_iload_n hx hb dX9_comes_135 rfl (lv_at hl 5 rfl) ?_
        refine k_iast (j := 12 + 6 * i + 1) hx hb hK hP hD hS 1 0 rfl rfl rfl (by omega) (by decide) dX9_comes_136 (fun H locs hP hD hS => ?_)
        have hP : va_P D vwCl (wM I a0 a1 a2 a3 a4 (upd (upd (m_keep (upd now 11 1) (nI (t / sz)) np) (12 + 6 * i + 0) 1) (12 + 6 * i + 1) (nI t)) kept st text len att num rd) H := hP
        have hD : va_D A (wM I a0 a1 a2 a3 a4 (upd (upd (m_keep (upd now 11 1) (nI (t / sz)) np) (12 + 6 * i + 0) 1) (12 + 6 * i + 1) (nI t)) kept st text len att num rd) := hD
        refine lv_aload_n hx hb dX9_comes_137 rfl (lv_at hl 3 rfl) ?_
        refine va_get (D := D) (ci := 9) (v := .ref a1) (C := RX9) (T := TX9) (N := 8) hx hb hts u9 hown hK hP 0 rfl rfl 0 (by decide) k0 (fun _ h9 => h9) rfl dX9_comes_138 ?_
        refine lv_iload hx hb dX9_comes_141 (lv_at hl 0 rfl) ?_
        refine lv_iconst (v := 2) hx hb dX9_comes_143 (by decide) ?_
        refine k_iadd (v := nI (12 + 6 * i + 2)) hx hb dX9_comes_144 (nI_add (12 + 6 * i) 2) ?_
        refine lv_iload_n hx hb dX9_comes_145 rfl (lv_at hl 6 rfl) ?_
        refine k_iast (j := 12 + 6 * i + 2) hx hb hK hP hD hS 1 0 rfl rfl rfl (by omega) (by decide) dX9_comes_146 (fun H locs hP hD hS => ?_)
        have hP : va_P D vwCl (wM I a0 a1 a2 a3 a4 (upd (upd (upd (m_keep (upd now 11 1) (nI (t / sz)) np) (12 + 6 * i + 0) 1) (12 + 6 * i + 1) (nI t)) (12 + 6 * i + 2) key) kept st text len att num rd) H := hP
        have hD : va_D A (wM I a0 a1 a2 a3 a4 (upd (upd (upd (m_keep (upd now 11 1) (nI (t / sz)) np) (12 + 6 * i + 0) 1) (12 + 6 * i + 1) (nI t)) (12 + 6 * i + 2) key) kept st text len att num rd) := hD
        refine lv_aload_n hx hb dX9_comes_147 rfl (lv_at hl 3 rfl) ?_
        refine va_get (D := D) (ci := 9) (v := .ref a1) (C := RX9) (T := TX9) (N := 8) hx hb hts u9 hown hK hP 0 rfl rfl 0 (by decide) k0 (fun _ h9 => h9) rfl dX9_comes_148 ?_
        refine lv_iload hx hb dX9_comes_151 (lv_at hl 0 rfl) ?_
        refine lv_iconst (v := 3) hx hb dX9_comes_153 (by decide) ?_
        refine k_iadd (v := nI (12 + 6 * i + 3)) hx hb dX9_comes_154 (nI_add (12 + 6 * i) 3) ?_
        refine lv_iload hx hb dX9_comes_155 (lv_at hl 7 rfl) ?_
        refine k_iast (j := 12 + 6 * i + 3) hx hb hK hP hD hS 1 0 rfl rfl rfl (by omega) (by decide) dX9_comes_157 (fun H locs hP hD hS => ?_)
        have hP : va_P D vwCl (wM I a0 a1 a2 a3 a4 (upd (upd (upd (upd (m_keep (upd now 11 1) (nI (t / sz)) np) (12 + 6 * i + 0) 1) (12 + 6 * i + 1) (nI t)) (12 + 6 * i + 2) key) (12 + 6 * i + 3) am) kept st text len att num rd) H := hP
        have hD : va_D A (wM I a0 a1 a2 a3 a4 (upd (upd (upd (upd (m_keep (upd now 11 1) (nI (t / sz)) np) (12 + 6 * i + 0) 1) (12 + 6 * i + 1) (nI t)) (12 + 6 * i + 2) key) (12 + 6 * i + 3) am) kept st text len att num rd) := hD
        refine lv_aload_n hx hb dX9_comes_158 rfl (lv_at hl 3 rfl) ?_
        refine va_get (D := D) (ci := 9) (v := .ref a1) (C := RX9) (T := TX9) (N := 8) hx hb hts u9 hown hK hP 0 rfl rfl 0 (by decide) k0 (fun _ h9 => h9) rfl dX9_comes_159 ?_
        refine lv_iload hx hb dX9_comes_162 (lv_at hl 0 rfl) ?_
        refine lv_iconst (v := 4) hx hb dX9_comes_164 (by decide) ?_
        refine k_iadd (v := nI (12 + 6 * i + 4)) hx hb dX9_comes_165 (nI_add (12 + 6 * i) 4) ?_
        refine lv_iload hx hb dX9_comes_166 (lv_at hl 8 rfl) ?_
        refine k_iast (j := 12 + 6 * i + 4) hx hb hK hP hD hS 1 0 rfl rfl rfl (by omega) (by decide) dX9_comes_168 (fun H locs hP hD hS => ?_)
        have hP : va_P D vwCl (wM I a0 a1 a2 a3 a4 (upd (upd (upd (upd (upd (m_keep (upd now 11 1) (nI (t / sz)) np) (12 + 6 * i + 0) 1) (12 + 6 * i + 1) (nI t)) (12 + 6 * i + 2) key) (12 + 6 * i + 3) am) (12 + 6 * i + 4) (nI x)) kept st text len att num rd) H := hP
        have hD : va_D A (wM I a0 a1 a2 a3 a4 (upd (upd (upd (upd (upd (m_keep (upd now 11 1) (nI (t / sz)) np) (12 + 6 * i + 0) 1) (12 + 6 * i + 1) (nI t)) (12 + 6 * i + 2) key) (12 + 6 * i + 3) am) (12 + 6 * i + 4) (nI x)) kept st text len att num rd) := hD
        refine lv_aload_n hx hb dX9_comes_169 rfl (lv_at hl 3 rfl) ?_
        refine va_get (D := D) (ci := 9) (v := .ref a1) (C := RX9) (T := TX9) (N := 8) hx hb hts u9 hown hK hP 0 rfl rfl 0 (by decide) k0 (fun _ h9 => h9) rfl dX9_comes_170 ?_
        refine lv_iload hx hb dX9_comes_173 (lv_at hl 0 rfl) ?_
        refine lv_iconst (v := 5) hx hb dX9_comes_175 (by decide) ?_
        refine k_iadd (v := nI (12 + 6 * i + 5)) hx hb dX9_comes_176 (nI_add (12 + 6 * i) 5) ?_
        refine lv_iload hx hb dX9_comes_177 (lv_at hl 2 rfl) ?_
        refine k_iast (j := 12 + 6 * i + 5) hx hb hK hP hD hS 1 0 rfl rfl rfl (by omega) (by decide) dX9_comes_179 (fun H locs hP hD hS => ?_)
        have hP : va_P D vwCl (wM I a0 a1 a2 a3 a4 (upd (upd (upd (upd (upd (upd (m_keep (upd now 11 1) (nI (t / sz)) np) (12 + 6 * i + 0) 1) (12 + 6 * i + 1) (nI t)) (12 + 6 * i + 2) key) (12 + 6 * i + 3) am) (12 + 6 * i + 4) (nI x)) (12 + 6 * i + 5) (m_judge (upd now 11 1) t key x np sz)) kept st text len att num rd) H := hP
        have hD : va_D A (wM I a0 a1 a2 a3 a4 (upd (upd (upd (upd (upd (upd (m_keep (upd now 11 1) (nI (t / sz)) np) (12 + 6 * i + 0) 1) (12 + 6 * i + 1) (nI t)) (12 + 6 * i + 2) key) (12 + 6 * i + 3) am) (12 + 6 * i + 4) (nI x)) (12 + 6 * i + 5) (m_judge (upd now 11 1) t key x np sz)) kept st text len att num rd) := hD
        have hP : va_P D vwCl (wM I a0 a1 a2 a3 a4 (m_put (m_keep (upd now 11 1) (nI (t / sz)) np) i (nI t) key am (nI x) (m_judge (upd now 11 1) t key x np sz)) kept st text len att num rd) H := hP
        have hD : va_D A (wM I a0 a1 a2 a3 a4 (m_put (m_keep (upd now 11 1) (nI (t / sz)) np) i (nI t) key am (nI x) (m_judge (upd now 11 1) t key x np sz)) kept st text len att num rd) := hD
        refine lv_iload_n hx hb dX9_comes_180 rfl (lv_at hl 5 rfl) ?_
        refine lv_aload_n hx hb dX9_comes_181 rfl (lv_at hl 3 rfl) ?_
        refine va_get (D := D) (ci := 9) (v := .ref a1) (C := RX9) (T := TX9) (N := 8) hx hb hts u9 hown hK hP 0 rfl rfl 0 (by decide) k0 (fun _ h9 => h9) rfl dX9_comes_182 ?_
        refine lv_iconst (v := 1) hx hb dX9_comes_185 (by decide) ?_
        refine k_iald (j := 1) (v := (now 1)) hx hb hK hP 1 0 rfl rfl rfl (by decide) (by decide) ((m_put_o (by omega)).trans ((m_keep_o (by omega) (by omega)).trans (pk_un (by omega)))) dX9_comes_186 ?_
        refine lv_icmp_le (tgt := 228) hx hb dX9_comes_187 (by decide) (fun c_187 => ?_) (fun c_187 => ?_)
        · refine lv_iload hx hb dX9_comes_228 (lv_at hl 2 rfl) ?_
          exact hend _ _ _ _ _ _ hP hD hS dX9_comes_230 rfl (by have e1 : (m_come now i t key am x np sz).2 = m_late (m_put (m_keep (upd now 11 1) (nI (t / sz)) np) i (nI t) key am (nI x) (m_judge (upd now 11 1) t key x np sz)) t (np + 1) sz := (by simp only [m_come, if_neg c_15, m_come1, m_n3, m_n2, m_k2, m_p2, if_neg hf, if_neg c_54, show upd now 11 1 0 = now 0 from rfl, show upd now 11 1 8 = now 8 from rfl]); rw [e1, m_late, show (m_put (m_keep (upd now 11 1) (nI (t / sz)) np) i (nI t) key am (nI x) (m_judge (upd now 11 1) t key x np sz)) 1 = now 1 from ((m_put_o (by omega)).trans ((m_keep_o (by omega) (by omega)).trans (pk_un (by omega)))), show (m_put (m_keep (upd now 11 1) (nI (t / sz)) np) i (nI t) key am (nI x) (m_judge (upd now 11 1) t key x np sz)) 7 = now 7 from ((m_put_o (by omega)).trans ((m_keep_o (by omega) (by omega)).trans (pk_un (by omega)))), show (m_put (m_keep (upd now 11 1) (nI (t / sz)) np) i (nI t) key am (nI x) (m_judge (upd now 11 1) t key x np sz)) 0 = now 0 from ((m_put_o (by omega)).trans ((m_keep_o (by omega) (by omega)).trans (pk_un (by omega)))), if_pos c_187]) (by rw [m_come, if_neg c_15, m_come1])
        · refine lv_aload_n hx hb dX9_comes_190 rfl (lv_at hl 3 rfl) ?_
          refine va_get (D := D) (ci := 9) (v := .ref a1) (C := RX9) (T := TX9) (N := 8) hx hb hts u9 hown hK hP 0 rfl rfl 0 (by decide) k0 (fun _ h9 => h9) rfl dX9_comes_191 ?_
          refine lv_iconst (v := 1) hx hb dX9_comes_194 (by decide) ?_
          refine lv_iload_n hx hb dX9_comes_195 rfl (lv_at hl 5 rfl) ?_
          refine k_iast (j := 1) hx hb hK hP hD hS 1 0 rfl rfl rfl (by decide) (by decide) dX9_comes_196 (fun H locs hP hD hS => ?_)
          have hP : va_P D vwCl (wM I a0 a1 a2 a3 a4 (upd (m_put (m_keep (upd now 11 1) (nI (t / sz)) np) i (nI t) key am (nI x) (m_judge (upd now 11 1) t key x np sz)) 1 (nI t)) kept st text len att num rd) H := hP
          have hD : va_D A (wM I a0 a1 a2 a3 a4 (upd (m_put (m_keep (upd now 11 1) (nI (t / sz)) np) i (nI t) key am (nI x) (m_judge (upd now 11 1) t key x np sz)) 1 (nI t)) kept st text len att num rd) := hD
          refine lv_iload_n hx hb dX9_comes_197 rfl (lv_at hl 5 rfl) ?_
          refine lv_aload_n hx hb dX9_comes_198 rfl (lv_at hl 3 rfl) ?_
          refine va_get (D := D) (ci := 9) (v := .ref a1) (C := RX9) (T := TX9) (N := 8) hx hb hts u9 hown hK hP 0 rfl rfl 0 (by decide) k0 (fun _ h9 => h9) rfl dX9_comes_199 ?_
          refine lv_bipush (v := 7) hx hb dX9_comes_202 (by decide) ?_
          refine k_iald (j := 7) (v := (now 7)) hx hb hK hP 1 0 rfl rfl rfl (by decide) (by decide) ((pk_un (by omega)).trans ((m_put_o (by omega)).trans ((m_keep_o (by omega) (by omega)).trans (pk_un (by omega))))) dX9_comes_204 ?_
          refine lv_isub hx hb dX9_comes_205 ?_
          refine lv_aload_n hx hb dX9_comes_206 rfl (lv_at hl 3 rfl) ?_
          refine va_get (D := D) (ci := 9) (v := .ref a1) (C := RX9) (T := TX9) (N := 8) hx hb hts u9 hown hK hP 0 rfl rfl 0 (by decide) k0 (fun _ h9 => h9) rfl dX9_comes_207 ?_
          refine lv_iconst (v := 0) hx hb dX9_comes_210 (by decide) ?_
          refine k_iald (j := 0) (v := (now 0)) hx hb hK hP 1 0 rfl rfl rfl (by decide) (by decide) ((pk_un (by omega)).trans ((m_put_o (by omega)).trans ((m_keep_o (by omega) (by omega)).trans (pk_un (by omega))))) dX9_comes_211 ?_
          refine lv_icmp_le (tgt := 228) hx hb dX9_comes_212 (by decide) (fun c_212 => ?_) (fun c_212 => ?_)
          · refine lv_iload hx hb dX9_comes_228 (lv_at hl 2 rfl) ?_
            exact hend _ _ _ _ _ _ hP hD hS dX9_comes_230 rfl (by have e1 : (m_come now i t key am x np sz).2 = m_late (m_put (m_keep (upd now 11 1) (nI (t / sz)) np) i (nI t) key am (nI x) (m_judge (upd now 11 1) t key x np sz)) t (np + 1) sz := (by simp only [m_come, if_neg c_15, m_come1, m_n3, m_n2, m_k2, m_p2, if_neg hf, if_neg c_54, show upd now 11 1 0 = now 0 from rfl, show upd now 11 1 8 = now 8 from rfl]); rw [e1, m_late, show (m_put (m_keep (upd now 11 1) (nI (t / sz)) np) i (nI t) key am (nI x) (m_judge (upd now 11 1) t key x np sz)) 1 = now 1 from ((m_put_o (by omega)).trans ((m_keep_o (by omega) (by omega)).trans (pk_un (by omega)))), show (m_put (m_keep (upd now 11 1) (nI (t / sz)) np) i (nI t) key am (nI x) (m_judge (upd now 11 1) t key x np sz)) 7 = now 7 from ((m_put_o (by omega)).trans ((m_keep_o (by omega) (by omega)).trans (pk_un (by omega)))), show (m_put (m_keep (upd now 11 1) (nI (t / sz)) np) i (nI t) key am (nI x) (m_judge (upd now 11 1) t key x np sz)) 0 = now 0 from ((m_put_o (by omega)).trans ((m_keep_o (by omega) (by omega)).trans (pk_un (by omega)))), if_neg c_187, if_pos c_212]) (by rw [m_come, if_neg c_15, m_come1])
          · refine lv_aload_n hx hb dX9_comes_215 rfl (lv_at hl 3 rfl) ?_
            refine lv_iload_n hx hb dX9_comes_216 rfl (lv_at hl 5 rfl) ?_
            refine lv_aload_n hx hb dX9_comes_217 rfl (lv_at hl 3 rfl) ?_
            refine va_get (D := D) (ci := 9) (v := .ref a1) (C := RX9) (T := TX9) (N := 8) hx hb hts u9 hown hK hP 0 rfl rfl 0 (by decide) k0 (fun _ h9 => h9) rfl dX9_comes_218 ?_
            refine lv_bipush (v := 7) hx hb dX9_comes_221 (by decide) ?_
            refine k_iald (j := 7) (v := (now 7)) hx hb hK hP 1 0 rfl rfl rfl (by decide) (by decide) ((pk_un (by omega)).trans ((m_put_o (by omega)).trans ((m_keep_o (by omega) (by omega)).trans (pk_un (by omega))))) dX9_comes_223 ?_
            refine lv_isub hx hb dX9_comes_224 ?_
            refine k_vF (va_runV (As := [.int ((nI t) - (now 7))]) (rest := []) hF (c_X9_rises l D I C Q a0 a1 a2 a3 a4 (upd (m_put (m_keep (upd now 11 1) (nI (t / sz)) np) i (nI t) key am (nI x) (m_judge (upd now 11 1) t key x np sz)) 1 (nI t)) kept st text len att num rd (np + 1) sz ((nI t) - (now 7)) (Eq.trans ((pk_un (by omega)).trans (m_put_o (by omega))) (m_keep_10 _ _ _)) (by omega) (Eq.trans ((pk_un (by omega)).trans ((m_put_o (by omega)).trans ((m_keep_o (by omega) (by omega)).trans (pk_un (by omega))))) hsz) hs0 hs1 (wOk_upd (wOk_put (wOk_keep (wOk_upd hwk (by omega)))) (by omega)) (nOk_upd (by omega) (nOk_put (by omega) (nOk_keep (by omega) (nOk_upd (by omega) hnk)))) _) (cwV 1 hts gX9_comes_X9_rises rfl rfl rfl (by decide +kernel) ⟨Nat.le_of_ble_eq_true rfl, Nat.le_of_ble_eq_true rfl⟩) (kPreV hE hP hD (ci := 9) (q0 := 0) rfl rfl) rfl rfl hl.1 rfl (lv_room (Nat.le_of_ble_eq_true rfl)) dX9_comes_225 ⟨Nat.zero_le _, Nat.zero_le _⟩) hD hS hA (fun H locs hP hD hS => ?_)
            have hP : va_P D vwCl (wM I a0 a1 a2 a3 a4 (m_rises (upd (m_put (m_keep (upd now 11 1) (nI (t / sz)) np) i (nI t) key am (nI x) (m_judge (upd now 11 1) t key x np sz)) 1 (nI t)) ((nI t) - (now 7)) (np + 1) sz) kept st text len att num rd) H := hP
            have hD : va_D A (wM I a0 a1 a2 a3 a4 (m_rises (upd (m_put (m_keep (upd now 11 1) (nI (t / sz)) np) i (nI t) key am (nI x) (m_judge (upd now 11 1) t key x np sz)) 1 (nI t)) ((nI t) - (now 7)) (np + 1) sz) kept st text len att num rd) := hD
            refine lv_iload hx hb dX9_comes_228 (lv_at hl 2 rfl) ?_
            exact hend _ _ _ _ _ _ hP hD hS dX9_comes_230 rfl (by have e1 : (m_come now i t key am x np sz).2 = m_late (m_put (m_keep (upd now 11 1) (nI (t / sz)) np) i (nI t) key am (nI x) (m_judge (upd now 11 1) t key x np sz)) t (np + 1) sz := (by simp only [m_come, if_neg c_15, m_come1, m_n3, m_n2, m_k2, m_p2, if_neg hf, if_neg c_54, show upd now 11 1 0 = now 0 from rfl, show upd now 11 1 8 = now 8 from rfl]); rw [e1, m_late, show (m_put (m_keep (upd now 11 1) (nI (t / sz)) np) i (nI t) key am (nI x) (m_judge (upd now 11 1) t key x np sz)) 1 = now 1 from ((m_put_o (by omega)).trans ((m_keep_o (by omega) (by omega)).trans (pk_un (by omega)))), show (m_put (m_keep (upd now 11 1) (nI (t / sz)) np) i (nI t) key am (nI x) (m_judge (upd now 11 1) t key x np sz)) 7 = now 7 from ((m_put_o (by omega)).trans ((m_keep_o (by omega) (by omega)).trans (pk_un (by omega)))), show (m_put (m_keep (upd now 11 1) (nI (t / sz)) np) i (nI t) key am (nI x) (m_judge (upd now 11 1) t key x np sz)) 0 = now 0 from ((m_put_o (by omega)).trans ((m_keep_o (by omega) (by omega)).trans (pk_un (by omega)))), if_neg c_187, if_neg c_212]) (by rw [m_come, if_neg c_15, m_come1])
      · refine lv_aload_n hx hb dX9_comes_57 rfl (lv_at hl 2 rfl) ?_
        refine va_get (D := D) (ci := 9) (v := .ref a1) (C := RX9) (T := TX9) (N := 8) hx hb hts u9 hown hK hP 0 rfl rfl 0 (by decide) k0 (fun _ h9 => h9) rfl dX9_comes_58 ?_
        refine lv_aload_n hx hb dX9_comes_61 rfl (lv_at hl 2 rfl) ?_
        refine lv_iload hx hb dX9_comes_62 (lv_at hl 7 rfl) ?_
        have hpb := m_pfN_lt (m_keep (upd now 11 1) (nI (t / sz)) np) (x := x) (m_judge_x1 c_54)
        have hp0 : ¬ m_pfN (m_keep (upd now 11 1) (nI (t / sz)) np) x = 0 := m_judge_pfK hnpN c_54
        refine k_iF (va_runV (As := [.int (nI x)]) (rest := [.ref a1]) hF (c_X9_placeFor l D I C Q a0 a1 a2 a3 a4 (m_keep (upd now 11 1) (nI (t / sz)) np) kept st text len att num rd x (m_judge_x1 c_54) hx3 _) (cwV 1 hts gX9_comes_X9_placeFor rfl rfl rfl (by decide +kernel) ⟨Nat.le_of_ble_eq_true rfl, Nat.le_of_ble_eq_true rfl⟩) (kPreV hE hP hD (ci := 9) (q0 := 0) rfl rfl) rfl rfl hl.1 rfl (lv_room (Nat.le_of_ble_eq_true rfl)) dX9_comes_64 ⟨Nat.zero_le _, Nat.zero_le _⟩) hD hS hA (fun H locs hP hD hS => ?_)
        refine k_top (y := nI (m_pfN (m_keep (upd now 11 1) (nI (t / sz)) np) x)) (if_neg hp0) ?_
        refine lv_iload_n hx hb dX9_comes_67 rfl (lv_at hl 3 rfl) ?_
        refine lv_iconst (v := 1) hx hb dX9_comes_68 (by decide) ?_
        refine k_iadd (v := nI (i + 1)) hx hb dX9_comes_69 (nI_add i 1) ?_
        refine k_iast (j := m_pfN (m_keep (upd now 11 1) (nI (t / sz)) np) x) hx hb hK hP hD hS 1 0 rfl rfl rfl (by omega) (by decide) dX9_comes_70 (fun H locs hP hD hS => ?_)
        have hP : va_P D vwCl (wM I a0 a1 a2 a3 a4 (upd (m_keep (upd now 11 1) (nI (t / sz)) np) (m_pfN (m_keep (upd now 11 1) (nI (t / sz)) np) x) (nI (i + 1))) kept st text len att num rd) H := hP
        have hD : va_D A (wM I a0 a1 a2 a3 a4 (upd (m_keep (upd now 11 1) (nI (t / sz)) np) (m_pfN (m_keep (upd now 11 1) (nI (t / sz)) np) x) (nI (i + 1))) kept st text len att num rd) := hD
        refine lv_aload_n hx hb dX9_comes_71 rfl (lv_at hl 2 rfl) ?_
        refine lv_iload hx hb dX9_comes_72 (lv_at hl 0 rfl) ?_
        refine k_vF (va_runV (As := [.int (nI np)]) (rest := []) hF (c_X9_takesBack l D I C Q a0 a1 a2 a3 a4 (upd (m_keep (upd now 11 1) (nI (t / sz)) np) (m_pfN (m_keep (upd now 11 1) (nI (t / sz)) np) x) (nI (i + 1))) kept st text len att num rd np (wOk_upd hwN (by omega)) (by omega) _) (cwV 1 hts gX9_comes_X9_takesBack rfl rfl rfl (by decide +kernel) ⟨Nat.le_of_ble_eq_true rfl, Nat.le_of_ble_eq_true rfl⟩) (kPreV hE hP hD (ci := 9) (q0 := 0) rfl rfl) rfl rfl hl.1 rfl (lv_room (Nat.le_of_ble_eq_true rfl)) dX9_comes_74 ⟨Nat.zero_le _, Nat.zero_le _⟩) hD hS hA (fun H locs hP hD hS => ?_)
        have hP : va_P D vwCl (wM I a0 a1 a2 a3 a4 (m_takes (upd (m_keep (upd now 11 1) (nI (t / sz)) np) (m_pfN (m_keep (upd now 11 1) (nI (t / sz)) np) x) (nI (i + 1))) np) kept st text len att num rd) H := hP
        have hD : va_D A (wM I a0 a1 a2 a3 a4 (m_takes (upd (m_keep (upd now 11 1) (nI (t / sz)) np) (m_pfN (m_keep (upd now 11 1) (nI (t / sz)) np) x) (nI (i + 1))) np) kept st text len att num rd) := hD
        refine lv_aload_n hx hb dX9_comes_77 rfl (lv_at hl 2 rfl) ?_
        refine lv_iload hx hb dX9_comes_78 (lv_at hl 0 rfl) ?_
        refine lv_iconst (v := 1) hx hb dX9_comes_80 (by decide) ?_
        refine lv_iconst (v := 1) hx hb dX9_comes_81 (by decide) ?_
        refine k_vF (va_runV (As := [.int (nI np), .int 1, .int 1]) (rest := []) hF (c_X9_setsP l D I C Q a0 a1 a2 a3 a4 (m_takes (upd (m_keep (upd now 11 1) (nI (t / sz)) np) (m_pfN (m_keep (upd now 11 1) (nI (t / sz)) np) x) (nI (i + 1))) np) kept st text len att num rd np 1 1 (by omega) (by omega) _) (cwV 3 hts gX9_comes_X9_setsP rfl rfl rfl (by decide +kernel) ⟨Nat.le_of_ble_eq_true rfl, Nat.le_of_ble_eq_true rfl⟩) (kPreV hE hP hD (ci := 9) (q0 := 0) rfl rfl) rfl rfl hl.1 rfl (lv_room (Nat.le_of_ble_eq_true rfl)) dX9_comes_82 ⟨Nat.zero_le _, Nat.zero_le _⟩) hD hS hA (fun H locs hP hD hS => ?_)
        have hP : va_P D vwCl (wM I a0 a1 a2 a3 a4 (upd (m_takes (upd (m_keep (upd now 11 1) (nI (t / sz)) np) (m_pfN (m_keep (upd now 11 1) (nI (t / sz)) np) x) (nI (i + 1))) np) (396 + 8 * np + 1) 1) kept st text len att num rd) H := hP
        have hD : va_D A (wM I a0 a1 a2 a3 a4 (upd (m_takes (upd (m_keep (upd now 11 1) (nI (t / sz)) np) (m_pfN (m_keep (upd now 11 1) (nI (t / sz)) np) x) (nI (i + 1))) np) (396 + 8 * np + 1) 1) kept st text len att num rd) := hD
        refine lv_aload_n hx hb dX9_comes_85 rfl (lv_at hl 2 rfl) ?_
        refine lv_iload hx hb dX9_comes_86 (lv_at hl 0 rfl) ?_
        refine lv_iconst (v := 2) hx hb dX9_comes_88 (by decide) ?_
        refine lv_aload_n hx hb dX9_comes_89 rfl (lv_at hl 2 rfl) ?_
        refine va_get (D := D) (ci := 9) (v := .ref a1) (C := RX9) (T := TX9) (N := 8) hx hb hts u9 hown hK hP 0 rfl rfl 0 (by decide) k0 (fun _ h9 => h9) rfl dX9_comes_90 ?_
        refine lv_iconst (v := 0) hx hb dX9_comes_93 (by decide) ?_
        refine k_iald (j := 0) (v := (now 0)) hx hb hK hP 1 0 rfl rfl rfl (by decide) (by decide) ((pk_un (by omega)).trans ((m_takes_o (wOk_upd hwN (by omega)) (by omega) (by omega) (by omega) (by omega)).trans ((pk_un (by omega)).trans ((m_keep_o (by omega) (by omega)).trans (pk_un (by omega)))))) dX9_comes_94 ?_
        refine lv_aload_n hx hb dX9_comes_95 rfl (lv_at hl 2 rfl) ?_
        refine va_get (D := D) (ci := 9) (v := .ref a1) (C := RX9) (T := TX9) (N := 8) hx hb hts u9 hown hK hP 0 rfl rfl 0 (by decide) k0 (fun _ h9 => h9) rfl dX9_comes_96 ?_
        refine lv_bipush (v := 8) hx hb dX9_comes_99 (by decide) ?_
        refine k_iald (j := 8) (v := (now 8)) hx hb hK hP 1 0 rfl rfl rfl (by decide) (by decide) ((pk_un (by omega)).trans ((m_takes_o (wOk_upd hwN (by omega)) (by omega) (by omega) (by omega) (by omega)).trans ((pk_un (by omega)).trans ((m_keep_o (by omega) (by omega)).trans (pk_un (by omega)))))) dX9_comes_101 ?_
        refine lv_iadd hx hb dX9_comes_102 ?_
        refine lv_iconst (v := 1) hx hb dX9_comes_103 (by decide) ?_
        refine lv_iadd hx hb dX9_comes_104 ?_
        refine k_vF (va_runV (As := [.int (nI np), .int 2, .int (((now 0) + (now 8)) + 1)]) (rest := []) hF (c_X9_setsP l D I C Q a0 a1 a2 a3 a4 (upd (m_takes (upd (m_keep (upd now 11 1) (nI (t / sz)) np) (m_pfN (m_keep (upd now 11 1) (nI (t / sz)) np) x) (nI (i + 1))) np) (396 + 8 * np + 1) 1) kept st text len att num rd np 2 (((now 0) + (now 8)) + 1) (by omega) (by omega) _) (cwV 3 hts gX9_comes_X9_setsP rfl rfl rfl (by decide +kernel) ⟨Nat.le_of_ble_eq_true rfl, Nat.le_of_ble_eq_true rfl⟩) (kPreV hE hP hD (ci := 9) (q0 := 0) rfl rfl) rfl rfl hl.1 rfl (lv_room (Nat.le_of_ble_eq_true rfl)) dX9_comes_105 ⟨Nat.zero_le _, Nat.zero_le _⟩) hD hS hA (fun H locs hP hD hS => ?_)
        have hP : va_P D vwCl (wM I a0 a1 a2 a3 a4 (upd (upd (m_takes (upd (m_keep (upd now 11 1) (nI (t / sz)) np) (m_pfN (m_keep (upd now 11 1) (nI (t / sz)) np) x) (nI (i + 1))) np) (396 + 8 * np + 1) 1) (396 + 8 * np + 2) (((now 0) + (now 8)) + 1)) kept st text len att num rd) H := hP
        have hD : va_D A (wM I a0 a1 a2 a3 a4 (upd (upd (m_takes (upd (m_keep (upd now 11 1) (nI (t / sz)) np) (m_pfN (m_keep (upd now 11 1) (nI (t / sz)) np) x) (nI (i + 1))) np) (396 + 8 * np + 1) 1) (396 + 8 * np + 2) (((now 0) + (now 8)) + 1)) kept st text len att num rd) := hD
        have hP : va_P D vwCl (wM I a0 a1 a2 a3 a4 (m_reop (m_keep (upd now 11 1) (nI (t / sz)) np) np i (m_pfN (m_keep (upd now 11 1) (nI (t / sz)) np) x) (now 0 + now 8 + 1)) kept st text len att num rd) H := hP
        have hD : va_D A (wM I a0 a1 a2 a3 a4 (m_reop (m_keep (upd now 11 1) (nI (t / sz)) np) np i (m_pfN (m_keep (upd now 11 1) (nI (t / sz)) np) x) (now 0 + now 8 + 1)) kept st text len att num rd) := hD
        have hwM : wOk (m_reop (m_keep (upd now 11 1) (nI (t / sz)) np) np i (m_pfN (m_keep (upd now 11 1) (nI (t / sz)) np) x) (now 0 + now 8 + 1)) := wOk_reop hwN (by omega)
        refine lv_bipush (v := 12) hx hb dX9_comes_108 (by decide) ?_
        refine lv_bipush (v := 6) hx hb dX9_comes_110 (by decide) ?_
        refine lv_iload_n hx hb dX9_comes_112 rfl (lv_at hl 3 rfl) ?_
        refine k_imul (v := nI (6 * i)) hx hb dX9_comes_113 (k_mul 6 i) ?_
        refine k_iadd (v := nI (12 + 6 * i)) hx hb dX9_comes_114 (nI_add 12 (6 * i)) ?_
        refine lv_istore (lv' := [(8, .int (nI (12 + 6 * i))), (7, .int (nI np)), (6, .int (m_judge (upd now 11 1) t key x np sz)), (0, .ref a0), (1, .int (nI i)), (2, .int (nI t)), (3, .int key), (4, .int am), (5, .int (nI x))]) hx hb dX9_comes_115 hl (by decide) rfl (fun ls hl => ?_)
        refine lv_aload_n hx hb dX9_comes_117 rfl (lv_at hl 3 rfl) ?_
        refine va_get (D := D) (ci := 9) (v := .ref a1) (C := RX9) (T := TX9) (N := 8) hx hb hts u9 hown hK hP 0 rfl rfl 0 (by decide) k0 (fun _ h9 => h9) rfl dX9_comes_118 ?_
        refine lv_iload hx hb dX9_comes_121 (lv_at hl 0 rfl) ?_
        refine lv_iconst (v := 0) hx hb dX9_comes_123 (by decide) ?_
        refine k_iadd (v := nI (12 + 6 * i + 0)) hx hb dX9_comes_124 (nI_add (12 + 6 * i) 0) ?_
        refine lv_iconst (v := 1) hx hb dX9_comes_125 (by decide) ?_
        refine k_iast (j := 12 + 6 * i + 0) hx hb hK hP hD hS 1 0 rfl rfl rfl (by omega) (by decide) dX9_comes_126 (fun H locs hP hD hS => ?_)
        have hP : va_P D vwCl (wM I a0 a1 a2 a3 a4 (upd (m_reop (m_keep (upd now 11 1) (nI (t / sz)) np) np i (m_pfN (m_keep (upd now 11 1) (nI (t / sz)) np) x) (now 0 + now 8 + 1)) (12 + 6 * i + 0) 1) kept st text len att num rd) H := hP
        have hD : va_D A (wM I a0 a1 a2 a3 a4 (upd (m_reop (m_keep (upd now 11 1) (nI (t / sz)) np) np i (m_pfN (m_keep (upd now 11 1) (nI (t / sz)) np) x) (now 0 + now 8 + 1)) (12 + 6 * i + 0) 1) kept st text len att num rd) := hD
        refine lv_aload_n hx hb dX9_comes_127 rfl (lv_at hl 3 rfl) ?_
        refine va_get (D := D) (ci := 9) (v := .ref a1) (C := RX9) (T := TX9) (N := 8) hx hb hts u9 hown hK hP 0 rfl rfl 0 (by decide) k0 (fun _ h9 => h9) rfl dX9_comes_128 ?_
        refine lv_iload hx hb dX9_comes_131 (lv_at hl 0 rfl) ?_
        refine lv_iconst (v := 1) hx hb dX9_comes_133 (by decide) ?_
        refine k_iadd (v := nI (12 + 6 * i + 1)) hx hb dX9_comes_134 (nI_add (12 + 6 * i) 1) ?_
        refine lv_iload_n hx hb dX9_comes_135 rfl (lv_at hl 5 rfl) ?_
        refine k_iast (j := 12 + 6 * i + 1) hx hb hK hP hD hS 1 0 rfl rfl rfl (by omega) (by decide) dX9_comes_136 (fun H locs hP hD hS => ?_)
        have hP : va_P D vwCl (wM I a0 a1 a2 a3 a4 (upd (upd (m_reop (m_keep (upd now 11 1) (nI (t / sz)) np) np i (m_pfN (m_keep (upd now 11 1) (nI (t / sz)) np) x) (now 0 + now 8 + 1)) (12 + 6 * i + 0) 1) (12 + 6 * i + 1) (nI t)) kept st text len att num rd) H := hP
        have hD : va_D A (wM I a0 a1 a2 a3 a4 (upd (upd (m_reop (m_keep (upd now 11 1) (nI (t / sz)) np) np i (m_pfN (m_keep (upd now 11 1) (nI (t / sz)) np) x) (now 0 + now 8 + 1)) (12 + 6 * i + 0) 1) (12 + 6 * i + 1) (nI t)) kept st text len att num rd) := hD
        refine lv_aload_n hx hb dX9_comes_137 rfl (lv_at hl 3 rfl) ?_
        refine va_get (D := D) (ci := 9) (v := .ref a1) (C := RX9) (T := TX9) (N := 8) hx hb hts u9 hown hK hP 0 rfl rfl 0 (by decide) k0 (fun _ h9 => h9) rfl dX9_comes_138 ?_
        refine lv_iload hx hb dX9_comes_141 (lv_at hl 0 rfl) ?_
        refine lv_iconst (v := 2) hx hb dX9_comes_143 (by decide) ?_
        refine k_iadd (v := nI (12 + 6 * i + 2)) hx hb dX9_comes_144 (nI_add (12 + 6 * i) 2) ?_
        refine lv_iload_n hx hb dX9_comes_145 rfl (lv_at hl 6 rfl) ?_
        refine k_iast (j := 12 + 6 * i + 2) hx hb hK hP hD hS 1 0 rfl rfl rfl (by omega) (by decide) dX9_comes_146 (fun H locs hP hD hS => ?_)
        have hP : va_P D vwCl (wM I a0 a1 a2 a3 a4 (upd (upd (upd (m_reop (m_keep (upd now 11 1) (nI (t / sz)) np) np i (m_pfN (m_keep (upd now 11 1) (nI (t / sz)) np) x) (now 0 + now 8 + 1)) (12 + 6 * i + 0) 1) (12 + 6 * i + 1) (nI t)) (12 + 6 * i + 2) key) kept st text len att num rd) H := hP
        have hD : va_D A (wM I a0 a1 a2 a3 a4 (upd (upd (upd (m_reop (m_keep (upd now 11 1) (nI (t / sz)) np) np i (m_pfN (m_keep (upd now 11 1) (nI (t / sz)) np) x) (now 0 + now 8 + 1)) (12 + 6 * i + 0) 1) (12 + 6 * i + 1) (nI t)) (12 + 6 * i + 2) key) kept st text len att num rd) := hD
        refine lv_aload_n hx hb dX9_comes_147 rfl (lv_at hl 3 rfl) ?_
        refine va_get (D := D) (ci := 9) (v := .ref a1) (C := RX9) (T := TX9) (N := 8) hx hb hts u9 hown hK hP 0 rfl rfl 0 (by decide) k0 (fun _ h9 => h9) rfl dX9_comes_148 ?_
        refine lv_iload hx hb dX9_comes_151 (lv_at hl 0 rfl) ?_
        refine lv_iconst (v := 3) hx hb dX9_comes_153 (by decide) ?_
        refine k_iadd (v := nI (12 + 6 * i + 3)) hx hb dX9_comes_154 (nI_add (12 + 6 * i) 3) ?_
        refine lv_iload hx hb dX9_comes_155 (lv_at hl 7 rfl) ?_
        refine k_iast (j := 12 + 6 * i + 3) hx hb hK hP hD hS 1 0 rfl rfl rfl (by omega) (by decide) dX9_comes_157 (fun H locs hP hD hS => ?_)
        have hP : va_P D vwCl (wM I a0 a1 a2 a3 a4 (upd (upd (upd (upd (m_reop (m_keep (upd now 11 1) (nI (t / sz)) np) np i (m_pfN (m_keep (upd now 11 1) (nI (t / sz)) np) x) (now 0 + now 8 + 1)) (12 + 6 * i + 0) 1) (12 + 6 * i + 1) (nI t)) (12 + 6 * i + 2) key) (12 + 6 * i + 3) am) kept st text len att num rd) H := hP
        have hD : va_D A (wM I a0 a1 a2 a3 a4 (upd (upd (upd (upd (m_reop (m_keep (upd now 11 1) (nI (t / sz)) np) np i (m_pfN (m_keep (upd now 11 1) (nI (t / sz)) np) x) (now 0 + now 8 + 1)) (12 + 6 * i + 0) 1) (12 + 6 * i + 1) (nI t)) (12 + 6 * i + 2) key) (12 + 6 * i + 3) am) kept st text len att num rd) := hD
        refine lv_aload_n hx hb dX9_comes_158 rfl (lv_at hl 3 rfl) ?_
        refine va_get (D := D) (ci := 9) (v := .ref a1) (C := RX9) (T := TX9) (N := 8) hx hb hts u9 hown hK hP 0 rfl rfl 0 (by decide) k0 (fun _ h9 => h9) rfl dX9_comes_159 ?_
        refine lv_iload hx hb dX9_comes_162 (lv_at hl 0 rfl) ?_
        refine lv_iconst (v := 4) hx hb dX9_comes_164 (by decide) ?_
        refine k_iadd (v := nI (12 + 6 * i + 4)) hx hb dX9_comes_165 (nI_add (12 + 6 * i) 4) ?_
        refine lv_iload hx hb dX9_comes_166 (lv_at hl 8 rfl) ?_
        refine k_iast (j := 12 + 6 * i + 4) hx hb hK hP hD hS 1 0 rfl rfl rfl (by omega) (by decide) dX9_comes_168 (fun H locs hP hD hS => ?_)
        have hP : va_P D vwCl (wM I a0 a1 a2 a3 a4 (upd (upd (upd (upd (upd (m_reop (m_keep (upd now 11 1) (nI (t / sz)) np) np i (m_pfN (m_keep (upd now 11 1) (nI (t / sz)) np) x) (now 0 + now 8 + 1)) (12 + 6 * i + 0) 1) (12 + 6 * i + 1) (nI t)) (12 + 6 * i + 2) key) (12 + 6 * i + 3) am) (12 + 6 * i + 4) (nI x)) kept st text len att num rd) H := hP
        have hD : va_D A (wM I a0 a1 a2 a3 a4 (upd (upd (upd (upd (upd (m_reop (m_keep (upd now 11 1) (nI (t / sz)) np) np i (m_pfN (m_keep (upd now 11 1) (nI (t / sz)) np) x) (now 0 + now 8 + 1)) (12 + 6 * i + 0) 1) (12 + 6 * i + 1) (nI t)) (12 + 6 * i + 2) key) (12 + 6 * i + 3) am) (12 + 6 * i + 4) (nI x)) kept st text len att num rd) := hD
        refine lv_aload_n hx hb dX9_comes_169 rfl (lv_at hl 3 rfl) ?_
        refine va_get (D := D) (ci := 9) (v := .ref a1) (C := RX9) (T := TX9) (N := 8) hx hb hts u9 hown hK hP 0 rfl rfl 0 (by decide) k0 (fun _ h9 => h9) rfl dX9_comes_170 ?_
        refine lv_iload hx hb dX9_comes_173 (lv_at hl 0 rfl) ?_
        refine lv_iconst (v := 5) hx hb dX9_comes_175 (by decide) ?_
        refine k_iadd (v := nI (12 + 6 * i + 5)) hx hb dX9_comes_176 (nI_add (12 + 6 * i) 5) ?_
        refine lv_iload hx hb dX9_comes_177 (lv_at hl 2 rfl) ?_
        refine k_iast (j := 12 + 6 * i + 5) hx hb hK hP hD hS 1 0 rfl rfl rfl (by omega) (by decide) dX9_comes_179 (fun H locs hP hD hS => ?_)
        have hP : va_P D vwCl (wM I a0 a1 a2 a3 a4 (upd (upd (upd (upd (upd (upd (m_reop (m_keep (upd now 11 1) (nI (t / sz)) np) np i (m_pfN (m_keep (upd now 11 1) (nI (t / sz)) np) x) (now 0 + now 8 + 1)) (12 + 6 * i + 0) 1) (12 + 6 * i + 1) (nI t)) (12 + 6 * i + 2) key) (12 + 6 * i + 3) am) (12 + 6 * i + 4) (nI x)) (12 + 6 * i + 5) (m_judge (upd now 11 1) t key x np sz)) kept st text len att num rd) H := hP
        have hD : va_D A (wM I a0 a1 a2 a3 a4 (upd (upd (upd (upd (upd (upd (m_reop (m_keep (upd now 11 1) (nI (t / sz)) np) np i (m_pfN (m_keep (upd now 11 1) (nI (t / sz)) np) x) (now 0 + now 8 + 1)) (12 + 6 * i + 0) 1) (12 + 6 * i + 1) (nI t)) (12 + 6 * i + 2) key) (12 + 6 * i + 3) am) (12 + 6 * i + 4) (nI x)) (12 + 6 * i + 5) (m_judge (upd now 11 1) t key x np sz)) kept st text len att num rd) := hD
        have hP : va_P D vwCl (wM I a0 a1 a2 a3 a4 (m_put (m_reop (m_keep (upd now 11 1) (nI (t / sz)) np) np i (m_pfN (m_keep (upd now 11 1) (nI (t / sz)) np) x) (now 0 + now 8 + 1)) i (nI t) key am (nI x) (m_judge (upd now 11 1) t key x np sz)) kept st text len att num rd) H := hP
        have hD : va_D A (wM I a0 a1 a2 a3 a4 (m_put (m_reop (m_keep (upd now 11 1) (nI (t / sz)) np) np i (m_pfN (m_keep (upd now 11 1) (nI (t / sz)) np) x) (now 0 + now 8 + 1)) i (nI t) key am (nI x) (m_judge (upd now 11 1) t key x np sz)) kept st text len att num rd) := hD
        refine lv_iload_n hx hb dX9_comes_180 rfl (lv_at hl 5 rfl) ?_
        refine lv_aload_n hx hb dX9_comes_181 rfl (lv_at hl 3 rfl) ?_
        refine va_get (D := D) (ci := 9) (v := .ref a1) (C := RX9) (T := TX9) (N := 8) hx hb hts u9 hown hK hP 0 rfl rfl 0 (by decide) k0 (fun _ h9 => h9) rfl dX9_comes_182 ?_
        refine lv_iconst (v := 1) hx hb dX9_comes_185 (by decide) ?_
        refine k_iald (j := 1) (v := (now 1)) hx hb hK hP 1 0 rfl rfl rfl (by decide) (by decide) ((m_put_o (by omega)).trans ((m_reop_o hwN (by omega) (by omega) (by omega) (by omega) (by omega)).trans ((m_keep_o (by omega) (by omega)).trans (pk_un (by omega))))) dX9_comes_186 ?_
        refine lv_icmp_le (tgt := 228) hx hb dX9_comes_187 (by decide) (fun c_187 => ?_) (fun c_187 => ?_)
        · refine lv_iload hx hb dX9_comes_228 (lv_at hl 2 rfl) ?_
          exact hend _ _ _ _ _ _ hP hD hS dX9_comes_230 rfl (by have e1 : (m_come now i t key am x np sz).2 = m_late (m_put (m_reop (m_keep (upd now 11 1) (nI (t / sz)) np) np i (m_pfN (m_keep (upd now 11 1) (nI (t / sz)) np) x) (now 0 + now 8 + 1)) i (nI t) key am (nI x) (m_judge (upd now 11 1) t key x np sz)) t (np + 1) sz := (by simp only [m_come, if_neg c_15, m_come1, m_n3, m_n2, m_k2, m_p2, if_neg hf, if_pos c_54, show upd now 11 1 0 = now 0 from rfl, show upd now 11 1 8 = now 8 from rfl]); rw [e1, m_late, show (m_put (m_reop (m_keep (upd now 11 1) (nI (t / sz)) np) np i (m_pfN (m_keep (upd now 11 1) (nI (t / sz)) np) x) (now 0 + now 8 + 1)) i (nI t) key am (nI x) (m_judge (upd now 11 1) t key x np sz)) 1 = now 1 from ((m_put_o (by omega)).trans ((m_reop_o hwN (by omega) (by omega) (by omega) (by omega) (by omega)).trans ((m_keep_o (by omega) (by omega)).trans (pk_un (by omega))))), show (m_put (m_reop (m_keep (upd now 11 1) (nI (t / sz)) np) np i (m_pfN (m_keep (upd now 11 1) (nI (t / sz)) np) x) (now 0 + now 8 + 1)) i (nI t) key am (nI x) (m_judge (upd now 11 1) t key x np sz)) 7 = now 7 from ((m_put_o (by omega)).trans ((m_reop_o hwN (by omega) (by omega) (by omega) (by omega) (by omega)).trans ((m_keep_o (by omega) (by omega)).trans (pk_un (by omega))))), show (m_put (m_reop (m_keep (upd now 11 1) (nI (t / sz)) np) np i (m_pfN (m_keep (upd now 11 1) (nI (t / sz)) np) x) (now 0 + now 8 + 1)) i (nI t) key am (nI x) (m_judge (upd now 11 1) t key x np sz)) 0 = now 0 from ((m_put_o (by omega)).trans ((m_reop_o hwN (by omega) (by omega) (by omega) (by omega) (by omega)).trans ((m_keep_o (by omega) (by omega)).trans (pk_un (by omega))))), if_pos c_187]) (by rw [m_come, if_neg c_15, m_come1])
        · refine lv_aload_n hx hb dX9_comes_190 rfl (lv_at hl 3 rfl) ?_
          refine va_get (D := D) (ci := 9) (v := .ref a1) (C := RX9) (T := TX9) (N := 8) hx hb hts u9 hown hK hP 0 rfl rfl 0 (by decide) k0 (fun _ h9 => h9) rfl dX9_comes_191 ?_
          refine lv_iconst (v := 1) hx hb dX9_comes_194 (by decide) ?_
          refine lv_iload_n hx hb dX9_comes_195 rfl (lv_at hl 5 rfl) ?_
          refine k_iast (j := 1) hx hb hK hP hD hS 1 0 rfl rfl rfl (by decide) (by decide) dX9_comes_196 (fun H locs hP hD hS => ?_)
          have hP : va_P D vwCl (wM I a0 a1 a2 a3 a4 (upd (m_put (m_reop (m_keep (upd now 11 1) (nI (t / sz)) np) np i (m_pfN (m_keep (upd now 11 1) (nI (t / sz)) np) x) (now 0 + now 8 + 1)) i (nI t) key am (nI x) (m_judge (upd now 11 1) t key x np sz)) 1 (nI t)) kept st text len att num rd) H := hP
          have hD : va_D A (wM I a0 a1 a2 a3 a4 (upd (m_put (m_reop (m_keep (upd now 11 1) (nI (t / sz)) np) np i (m_pfN (m_keep (upd now 11 1) (nI (t / sz)) np) x) (now 0 + now 8 + 1)) i (nI t) key am (nI x) (m_judge (upd now 11 1) t key x np sz)) 1 (nI t)) kept st text len att num rd) := hD
          refine lv_iload_n hx hb dX9_comes_197 rfl (lv_at hl 5 rfl) ?_
          refine lv_aload_n hx hb dX9_comes_198 rfl (lv_at hl 3 rfl) ?_
          refine va_get (D := D) (ci := 9) (v := .ref a1) (C := RX9) (T := TX9) (N := 8) hx hb hts u9 hown hK hP 0 rfl rfl 0 (by decide) k0 (fun _ h9 => h9) rfl dX9_comes_199 ?_
          refine lv_bipush (v := 7) hx hb dX9_comes_202 (by decide) ?_
          refine k_iald (j := 7) (v := (now 7)) hx hb hK hP 1 0 rfl rfl rfl (by decide) (by decide) ((pk_un (by omega)).trans ((m_put_o (by omega)).trans ((m_reop_o hwN (by omega) (by omega) (by omega) (by omega) (by omega)).trans ((m_keep_o (by omega) (by omega)).trans (pk_un (by omega)))))) dX9_comes_204 ?_
          refine lv_isub hx hb dX9_comes_205 ?_
          refine lv_aload_n hx hb dX9_comes_206 rfl (lv_at hl 3 rfl) ?_
          refine va_get (D := D) (ci := 9) (v := .ref a1) (C := RX9) (T := TX9) (N := 8) hx hb hts u9 hown hK hP 0 rfl rfl 0 (by decide) k0 (fun _ h9 => h9) rfl dX9_comes_207 ?_
          refine lv_iconst (v := 0) hx hb dX9_comes_210 (by decide) ?_
          refine k_iald (j := 0) (v := (now 0)) hx hb hK hP 1 0 rfl rfl rfl (by decide) (by decide) ((pk_un (by omega)).trans ((m_put_o (by omega)).trans ((m_reop_o hwN (by omega) (by omega) (by omega) (by omega) (by omega)).trans ((m_keep_o (by omega) (by omega)).trans (pk_un (by omega)))))) dX9_comes_211 ?_
          refine lv_icmp_le (tgt := 228) hx hb dX9_comes_212 (by decide) (fun c_212 => ?_) (fun c_212 => ?_)
          · refine lv_iload hx hb dX9_comes_228 (lv_at hl 2 rfl) ?_
            exact hend _ _ _ _ _ _ hP hD hS dX9_comes_230 rfl (by have e1 : (m_come now i t key am x np sz).2 = m_late (m_put (m_reop (m_keep (upd now 11 1) (nI (t / sz)) np) np i (m_pfN (m_keep (upd now 11 1) (nI (t / sz)) np) x) (now 0 + now 8 + 1)) i (nI t) key am (nI x) (m_judge (upd now 11 1) t key x np sz)) t (np + 1) sz := (by simp only [m_come, if_neg c_15, m_come1, m_n3, m_n2, m_k2, m_p2, if_neg hf, if_pos c_54, show upd now 11 1 0 = now 0 from rfl, show upd now 11 1 8 = now 8 from rfl]); rw [e1, m_late, show (m_put (m_reop (m_keep (upd now 11 1) (nI (t / sz)) np) np i (m_pfN (m_keep (upd now 11 1) (nI (t / sz)) np) x) (now 0 + now 8 + 1)) i (nI t) key am (nI x) (m_judge (upd now 11 1) t key x np sz)) 1 = now 1 from ((m_put_o (by omega)).trans ((m_reop_o hwN (by omega) (by omega) (by omega) (by omega) (by omega)).trans ((m_keep_o (by omega) (by omega)).trans (pk_un (by omega))))), show (m_put (m_reop (m_keep (upd now 11 1) (nI (t / sz)) np) np i (m_pfN (m_keep (upd now 11 1) (nI (t / sz)) np) x) (now 0 + now 8 + 1)) i (nI t) key am (nI x) (m_judge (upd now 11 1) t key x np sz)) 7 = now 7 from ((m_put_o (by omega)).trans ((m_reop_o hwN (by omega) (by omega) (by omega) (by omega) (by omega)).trans ((m_keep_o (by omega) (by omega)).trans (pk_un (by omega))))), show (m_put (m_reop (m_keep (upd now 11 1) (nI (t / sz)) np) np i (m_pfN (m_keep (upd now 11 1) (nI (t / sz)) np) x) (now 0 + now 8 + 1)) i (nI t) key am (nI x) (m_judge (upd now 11 1) t key x np sz)) 0 = now 0 from ((m_put_o (by omega)).trans ((m_reop_o hwN (by omega) (by omega) (by omega) (by omega) (by omega)).trans ((m_keep_o (by omega) (by omega)).trans (pk_un (by omega))))), if_neg c_187, if_pos c_212]) (by rw [m_come, if_neg c_15, m_come1])
          · refine lv_aload_n hx hb dX9_comes_215 rfl (lv_at hl 3 rfl) ?_
            refine lv_iload_n hx hb dX9_comes_216 rfl (lv_at hl 5 rfl) ?_
            refine lv_aload_n hx hb dX9_comes_217 rfl (lv_at hl 3 rfl) ?_
            refine va_get (D := D) (ci := 9) (v := .ref a1) (C := RX9) (T := TX9) (N := 8) hx hb hts u9 hown hK hP 0 rfl rfl 0 (by decide) k0 (fun _ h9 => h9) rfl dX9_comes_218 ?_
            refine lv_bipush (v := 7) hx hb dX9_comes_221 (by decide) ?_
            refine k_iald (j := 7) (v := (now 7)) hx hb hK hP 1 0 rfl rfl rfl (by decide) (by decide) ((pk_un (by omega)).trans ((m_put_o (by omega)).trans ((m_reop_o hwN (by omega) (by omega) (by omega) (by omega) (by omega)).trans ((m_keep_o (by omega) (by omega)).trans (pk_un (by omega)))))) dX9_comes_223 ?_
            refine lv_isub hx hb dX9_comes_224 ?_
            refine k_vF (va_runV (As := [.int ((nI t) - (now 7))]) (rest := []) hF (c_X9_rises l D I C Q a0 a1 a2 a3 a4 (upd (m_put (m_reop (m_keep (upd now 11 1) (nI (t / sz)) np) np i (m_pfN (m_keep (upd now 11 1) (nI (t / sz)) np) x) (now 0 + now 8 + 1)) i (nI t) key am (nI x) (m_judge (upd now 11 1) t key x np sz)) 1 (nI t)) kept st text len att num rd (np + 1) sz ((nI t) - (now 7)) (Eq.trans ((pk_un (by omega)).trans ((m_put_o (by omega)).trans (m_reop_o hwN (by omega) (by omega) (by omega) (by omega) (by omega)))) (m_keep_10 _ _ _)) (by omega) (Eq.trans ((pk_un (by omega)).trans ((m_put_o (by omega)).trans ((m_reop_o hwN (by omega) (by omega) (by omega) (by omega) (by omega)).trans ((m_keep_o (by omega) (by omega)).trans (pk_un (by omega)))))) hsz) hs0 hs1 (wOk_upd (wOk_put (wOk_reop (wOk_keep (wOk_upd hwk (by omega))) (by omega))) (by omega)) (nOk_upd (by omega) (nOk_put (by omega) (nOk_reop (wOk_keep (wOk_upd hwk (by omega))) (by omega) (by omega) (nOk_keep (by omega) (nOk_upd (by omega) hnk))))) _) (cwV 1 hts gX9_comes_X9_rises rfl rfl rfl (by decide +kernel) ⟨Nat.le_of_ble_eq_true rfl, Nat.le_of_ble_eq_true rfl⟩) (kPreV hE hP hD (ci := 9) (q0 := 0) rfl rfl) rfl rfl hl.1 rfl (lv_room (Nat.le_of_ble_eq_true rfl)) dX9_comes_225 ⟨Nat.zero_le _, Nat.zero_le _⟩) hD hS hA (fun H locs hP hD hS => ?_)
            have hP : va_P D vwCl (wM I a0 a1 a2 a3 a4 (m_rises (upd (m_put (m_reop (m_keep (upd now 11 1) (nI (t / sz)) np) np i (m_pfN (m_keep (upd now 11 1) (nI (t / sz)) np) x) (now 0 + now 8 + 1)) i (nI t) key am (nI x) (m_judge (upd now 11 1) t key x np sz)) 1 (nI t)) ((nI t) - (now 7)) (np + 1) sz) kept st text len att num rd) H := hP
            have hD : va_D A (wM I a0 a1 a2 a3 a4 (m_rises (upd (m_put (m_reop (m_keep (upd now 11 1) (nI (t / sz)) np) np i (m_pfN (m_keep (upd now 11 1) (nI (t / sz)) np) x) (now 0 + now 8 + 1)) i (nI t) key am (nI x) (m_judge (upd now 11 1) t key x np sz)) 1 (nI t)) ((nI t) - (now 7)) (np + 1) sz) kept st text len att num rd) := hD
            refine lv_iload hx hb dX9_comes_228 (lv_at hl 2 rfl) ?_
            exact hend _ _ _ _ _ _ hP hD hS dX9_comes_230 rfl (by have e1 : (m_come now i t key am x np sz).2 = m_late (m_put (m_reop (m_keep (upd now 11 1) (nI (t / sz)) np) np i (m_pfN (m_keep (upd now 11 1) (nI (t / sz)) np) x) (now 0 + now 8 + 1)) i (nI t) key am (nI x) (m_judge (upd now 11 1) t key x np sz)) t (np + 1) sz := (by simp only [m_come, if_neg c_15, m_come1, m_n3, m_n2, m_k2, m_p2, if_neg hf, if_pos c_54, show upd now 11 1 0 = now 0 from rfl, show upd now 11 1 8 = now 8 from rfl]); rw [e1, m_late, show (m_put (m_reop (m_keep (upd now 11 1) (nI (t / sz)) np) np i (m_pfN (m_keep (upd now 11 1) (nI (t / sz)) np) x) (now 0 + now 8 + 1)) i (nI t) key am (nI x) (m_judge (upd now 11 1) t key x np sz)) 1 = now 1 from ((m_put_o (by omega)).trans ((m_reop_o hwN (by omega) (by omega) (by omega) (by omega) (by omega)).trans ((m_keep_o (by omega) (by omega)).trans (pk_un (by omega))))), show (m_put (m_reop (m_keep (upd now 11 1) (nI (t / sz)) np) np i (m_pfN (m_keep (upd now 11 1) (nI (t / sz)) np) x) (now 0 + now 8 + 1)) i (nI t) key am (nI x) (m_judge (upd now 11 1) t key x np sz)) 7 = now 7 from ((m_put_o (by omega)).trans ((m_reop_o hwN (by omega) (by omega) (by omega) (by omega) (by omega)).trans ((m_keep_o (by omega) (by omega)).trans (pk_un (by omega))))), show (m_put (m_reop (m_keep (upd now 11 1) (nI (t / sz)) np) np i (m_pfN (m_keep (upd now 11 1) (nI (t / sz)) np) x) (now 0 + now 8 + 1)) i (nI t) key am (nI x) (m_judge (upd now 11 1) t key x np sz)) 0 = now 0 from ((m_put_o (by omega)).trans ((m_reop_o hwN (by omega) (by omega) (by omega) (by omega) (by omega)).trans ((m_keep_o (by omega) (by omega)).trans (pk_un (by omega))))), if_neg c_187, if_neg c_212]) (by rw [m_come, if_neg c_15, m_come1])
  · refine lv_aload_n hx hb dX9_comes_18 rfl (lv_at hl 0 rfl) ?_
    refine va_get (D := D) (ci := 9) (v := .ref a1) (C := RX9) (T := TX9) (N := 8) hx hb hts u9 hown hK hP 0 rfl rfl 0 (by decide) k0 (fun _ h9 => h9) rfl dX9_comes_19 ?_
    refine lv_iconst (v := 5) hx hb dX9_comes_22 (by decide) ?_
    refine lv_dup2_11 hx hb dX9_comes_23 rfl rfl ?_
    refine k_iald (j := 5) (v := (now 5)) hx hb hK hP 1 0 rfl rfl rfl (by decide) (by decide) (pk_un (by omega)) dX9_comes_24 ?_
    refine lv_iconst (v := 1) hx hb dX9_comes_25 (by decide) ?_
    refine lv_iadd hx hb dX9_comes_26 ?_
    refine k_iast (j := 5) hx hb hK hP hD hS 1 0 rfl rfl rfl (by decide) (by decide) dX9_comes_27 (fun H locs hP hD hS => ?_)
    have hP : va_P D vwCl (wM I a0 a1 a2 a3 a4 (upd (upd now 11 1) 5 ((now 5) + 1)) kept st text len att num rd) H := hP
    have hD : va_D A (wM I a0 a1 a2 a3 a4 (upd (upd now 11 1) 5 ((now 5) + 1)) kept st text len att num rd) := hD
    refine lv_iconst (v := 4) hx hb dX9_comes_28 (by decide) ?_
    exact hend _ _ _ _ _ _ hP hD hS dX9_comes_29 rfl (by rw [m_come, if_pos c_15]) (by rw [m_come, if_pos c_15])
