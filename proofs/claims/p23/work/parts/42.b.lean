abbrev rmV : Room := { frames := 9, cells := 0, slots := 0, locals := 240 }
/-- row by row: f's values of each -/
def q_g (f : Nat → Nat → Int32) (m : Nat) : Nat → Nat → Int64 → Int64
  | 0, _, a => a
  | n + 1, i, a => q_g f m n (i + 1) (q_f (f i) m 0 a)
noncomputable def q_vP (v : CV) : Nat → Nat → Int64 → Int64
  | 0, _, a => a
  | n + 1, r, a => q_vP v n (r + 1) (31 * (31 * q_f (q_pof v r) 7 0 a + (q_mea v r).toInt64) + (q_std v r 1).toInt64)
noncomputable def q_view (v : CV) : Int64 := q_vP v (q_u v) 0 (q_f (fun k => q_fil v (k / 4) (k % 4)) 12 0 (q_g (q_wrd v) 4 (aW (cS v)) 0 (q_g (q_evo v) 6 64 0 (q_f (q_cnt v) 3 20 (q_f (q_cnt v) 12 0 7)))))
theorem k_shr2 : ∀ k : Fin 12, nI k.val >>> (nI 2 &&& 31) = nI (k.val / 4) ∧ nI k.val &&& nI 3 = nI (k.val % 4) := by decide +kernel
theorem uG_rows {x : LV} (h : uG x) : sOk (aPn (cS x.2.1)) (q_u x.2.1) ∧ q_u x.2.1 ≤ 64 ∧ aW (cS x.2.1) ≤ 40 := by
  obtain ⟨⟨now, np, hA⟩, hX, -⟩ := h.1
  obtain ⟨-, -, -, u64, w40⟩ := uB hA
  exact ⟨hX.1, u64, w40⟩
set_option maxHeartbeats 4000000 in
set_option maxRecDepth 100000 in
/-- all that can be asked for, as a sum -/
theorem c_L_view (l : Launch) (D : va_G) (I C Q : ClassId) (y0 : Nat) {xx : LV} (hG : uG xx) : KL l D (tyL I C Q) yL_view wsL_view rmV [.ref y0] (uX I C Q y0 xx) (uX I C Q y0 xx) (q_view xx.2.1) := by
  refine KL.of (cc := cL_view) (maxL := 5) (own := RL) (by decide) rfl rfl (Nat.le_of_ble_eq_true rfl) ?_
  intro p e s m below meth c A Q0 ls hx hb hml hown hts hE hA hP hD hS hl hend
  have hF : CallFix p m c cL_view 5 s ([.ref y0] : List Value).toArray wsL_view RL := ⟨hx, hb, hml, hown, hts⟩
  obtain ⟨fs, h0⟩ := uX_0 I C Q y0 xx
  have hcs : 0 ≤ (rmV).cells ∧ 0 ≤ (rmV).slots := ⟨Nat.zero_le _, Nat.zero_le _⟩
  obtain ⟨hs, hu64, hw40⟩ := uG_rows hG
  have hl : lv_has ls 5 [(0, .ref y0)] := hl
  have L6 : ∀ (n k : Nat) (a : Int64) (H : Heap) (locs : List Loc) (ls : Array Slot), k + n = 12 → va_P D vwCl (uX I C Q y0 xx) H → va_D A (uX I C Q y0 xx) → va_S A s.heap H locs → lv_has ls 5 [(3, .int (nI k)), (1, .long a), (0, .ref y0)] → (∀ (H : Heap) (locs : List Loc) (ls : Array Slot), va_P D vwCl (uX I C Q y0 xx) H → va_D A (uX I C Q y0 xx) → va_S A s.heap H locs → lv_has ls 5 [(1, .long (q_f (q_cnt xx.2.1) n k a)), (0, .ref y0)] → W p l e rmV s m ([.ref y0] : List Value).toArray below meth c H locs 0 0 Q0 (F0 m 31 ls [])) → W p l e rmV s m ([.ref y0] : List Value).toArray below meth c H locs 0 0 Q0 (F0 m 6 ls []) := by
    intro n
    induction n with
    | zero =>
      intro k a H locs ls hk hP hD hS hl kx
      refine lv_iload_n hx hb dL_view_6 rfl (lv_at hl 0 rfl) ?_
      refine lv_bipush (v := nI 12) hx hb dL_view_7 (by decide) ?_
      refine lv_icmp_ge (tgt := 31) hx hb dL_view_9 (by decide) (fun c_9 => ?_) (fun c_9 => ?_)
      · exact kx H locs ls hP hD hS (lv_sub hl [1, 2] rfl)
      · exact absurd ((nI_leI (a := 12) (b := k) (by omega) (by omega)).mpr (by omega)) c_9
    | succ n ih =>
      intro k a H locs ls hk hP hD hS hl kx
      refine lv_iload_n hx hb dL_view_6 rfl (lv_at hl 0 rfl) ?_
      refine lv_bipush (v := nI 12) hx hb dL_view_7 (by decide) ?_
      refine lv_icmp_ge (tgt := 31) hx hb dL_view_9 (by decide) (fun c_9 => ?_) (fun c_9 => ?_)
      · exact absurd ((nI_leI (a := 12) (b := k) (by omega) (by omega)).mp c_9) (by omega)
      · refine lv_ldc2 hx hb hown (hts (.constantLong RL 11 (31)) (List.mem_of_getElem? (i := 2) rfl)) dL_view_12 ?_
        refine lv_lload_n hx hb dL_view_15 rfl (lv_at hl 1 rfl) ?_
        refine lv_lmul hx hb dL_view_16 ?_
        refine lv_aload_n hx hb dL_view_17 rfl (lv_at hl 2 rfl) ?_
        refine lv_iload_n hx hb dL_view_18 rfl (lv_at hl 0 rfl) ?_
        refine L_rd (as := [.int (nI k)]) (rest := [.long (31 * a)]) hF hE hA hP hD hS h0 hl.1 (rd_count l D I C Q y0 k hG (by omega)) (cwV 1 hts gL_view_X8_count rfl rfl rfl (by decide +kernel) ⟨Nat.le_of_ble_eq_true rfl, Nat.le_of_ble_eq_true rfl⟩) rfl rfl (Nat.le_of_ble_eq_true rfl) dL_view_19 hcs (fun H locs hP hD hS => ?_)
        refine lv_i2l (v := (q_cnt xx.2.1 k).toInt64) hx hb dL_view_22 rfl ?_
        refine lv_ladd hx hb dL_view_23 ?_
        refine lv_lstore_n (lv' := [(1, .long ((31 * a) + ((q_cnt xx.2.1 k).toInt64))), (3, .int (nI k)), (0, .ref y0)]) hx hb dL_view_24 rfl hl (by decide) rfl (fun ls hl => ?_)
        refine lv_iinc (v := nI (k + 1)) (lv' := [(3, .int (nI (k + 1))), (1, .long ((31 * a) + ((q_cnt xx.2.1 k).toInt64))), (0, .ref y0)]) hx hb dL_view_25 hl (k := 1) rfl (nI_inc k) (by decide) rfl (fun ls hl => ?_)
        refine lv_goto (tgt := 6) hx hb dL_view_28 (by decide) ?_
        exact ih (k + 1) _ H locs ls (by omega) hP hD hS (lv_sub hl [0, 1, 2] rfl) kx
  have L34 : ∀ (n k : Nat) (a : Int64) (H : Heap) (locs : List Loc) (ls : Array Slot), k + n = 23 ∧ 20 ≤ k → va_P D vwCl (uX I C Q y0 xx) H → va_D A (uX I C Q y0 xx) → va_S A s.heap H locs → lv_has ls 5 [(3, .int (nI k)), (1, .long a), (0, .ref y0)] → (∀ (H : Heap) (locs : List Loc) (ls : Array Slot), va_P D vwCl (uX I C Q y0 xx) H → va_D A (uX I C Q y0 xx) → va_S A s.heap H locs → lv_has ls 5 [(1, .long (q_f (q_cnt xx.2.1) n k a)), (0, .ref y0)] → W p l e rmV s m ([.ref y0] : List Value).toArray below meth c H locs 0 0 Q0 (F0 m 59 ls [])) → W p l e rmV s m ([.ref y0] : List Value).toArray below meth c H locs 0 0 Q0 (F0 m 34 ls []) := by
    intro n
    induction n with
    | zero =>
      intro k a H locs ls hk hP hD hS hl kx
      refine lv_iload_n hx hb dL_view_34 rfl (lv_at hl 0 rfl) ?_
      refine lv_bipush (v := nI 23) hx hb dL_view_35 (by decide) ?_
      refine lv_icmp_ge (tgt := 59) hx hb dL_view_37 (by decide) (fun c_37 => ?_) (fun c_37 => ?_)
      · exact kx H locs ls hP hD hS (lv_sub hl [1, 2] rfl)
      · exact absurd ((nI_leI (a := 23) (b := k) (by omega) (by omega)).mpr (by omega)) c_37
    | succ n ih =>
      intro k a H locs ls hk hP hD hS hl kx
      refine lv_iload_n hx hb dL_view_34 rfl (lv_at hl 0 rfl) ?_
      refine lv_bipush (v := nI 23) hx hb dL_view_35 (by decide) ?_
      refine lv_icmp_ge (tgt := 59) hx hb dL_view_37 (by decide) (fun c_37 => ?_) (fun c_37 => ?_)
      · exact absurd ((nI_leI (a := 23) (b := k) (by omega) (by omega)).mp c_37) (by omega)
      · refine lv_ldc2 hx hb hown (hts (.constantLong RL 11 (31)) (List.mem_of_getElem? (i := 2) rfl)) dL_view_40 ?_
        refine lv_lload_n hx hb dL_view_43 rfl (lv_at hl 1 rfl) ?_
        refine lv_lmul hx hb dL_view_44 ?_
        refine lv_aload_n hx hb dL_view_45 rfl (lv_at hl 2 rfl) ?_
        refine lv_iload_n hx hb dL_view_46 rfl (lv_at hl 0 rfl) ?_
        refine L_rd (as := [.int (nI k)]) (rest := [.long (31 * a)]) hF hE hA hP hD hS h0 hl.1 (rd_count l D I C Q y0 k hG (by omega)) (cwV 1 hts gL_view_X8_count rfl rfl rfl (by decide +kernel) ⟨Nat.le_of_ble_eq_true rfl, Nat.le_of_ble_eq_true rfl⟩) rfl rfl (Nat.le_of_ble_eq_true rfl) dL_view_47 hcs (fun H locs hP hD hS => ?_)
        refine lv_i2l (v := (q_cnt xx.2.1 k).toInt64) hx hb dL_view_50 rfl ?_
        refine lv_ladd hx hb dL_view_51 ?_
        refine lv_lstore_n (lv' := [(1, .long ((31 * a) + ((q_cnt xx.2.1 k).toInt64))), (3, .int (nI k)), (0, .ref y0)]) hx hb dL_view_52 rfl hl (by decide) rfl (fun ls hl => ?_)
        refine lv_iinc (v := nI (k + 1)) (lv' := [(3, .int (nI (k + 1))), (1, .long ((31 * a) + ((q_cnt xx.2.1 k).toInt64))), (0, .ref y0)]) hx hb dL_view_53 hl (k := 1) rfl (nI_inc k) (by decide) rfl (fun ls hl => ?_)
        refine lv_goto (tgt := 34) hx hb dL_view_56 (by decide) ?_
        exact ih (k + 1) _ H locs ls (by omega) hP hD hS (lv_sub hl [0, 1, 2] rfl) kx
  have L61i : ∀ (i : Nat), i < 64 → ∀ (n k : Nat) (a : Int64) (H : Heap) (locs : List Loc) (ls : Array Slot), k + n = 6 → va_P D vwCl (uX I C Q y0 xx) H → va_D A (uX I C Q y0 xx) → va_S A s.heap H locs → lv_has ls 5 [(4, .int (nI k)), (1, .long a), (3, .int (nI i)), (0, .ref y0)] → (∀ (H : Heap) (locs : List Loc) (ls : Array Slot), va_P D vwCl (uX I C Q y0 xx) H → va_D A (uX I C Q y0 xx) → va_S A s.heap H locs → lv_has ls 5 [(1, .long (q_f ((q_evo xx.2.1) i) n k a)), (3, .int (nI i)), (0, .ref y0)] → W p l e rmV s m ([.ref y0] : List Value).toArray below meth c H locs 0 0 Q0 (F0 m 98 ls [])) → W p l e rmV s m ([.ref y0] : List Value).toArray below meth c H locs 0 0 Q0 (F0 m 70 ls []) := by
    intro i hi
    intro n
    induction n with
    | zero =>
      intro k a H locs ls hk hP hD hS hl kx
      refine lv_iload hx hb dL_view_70 (lv_at hl 0 rfl) ?_
      refine lv_bipush (v := nI 6) hx hb dL_view_72 (by decide) ?_
      refine lv_icmp_ge (tgt := 98) hx hb dL_view_74 (by decide) (fun c_74 => ?_) (fun c_74 => ?_)
      · exact kx H locs ls hP hD hS (lv_sub hl [1, 2, 3] rfl)
      · exact absurd ((nI_leI (a := 6) (b := k) (by omega) (by omega)).mpr (by omega)) c_74
    | succ n ih =>
      intro k a H locs ls hk hP hD hS hl kx
      refine lv_iload hx hb dL_view_70 (lv_at hl 0 rfl) ?_
      refine lv_bipush (v := nI 6) hx hb dL_view_72 (by decide) ?_
      refine lv_icmp_ge (tgt := 98) hx hb dL_view_74 (by decide) (fun c_74 => ?_) (fun c_74 => ?_)
      · exact absurd ((nI_leI (a := 6) (b := k) (by omega) (by omega)).mp c_74) (by omega)
      · refine lv_ldc2 hx hb hown (hts (.constantLong RL 11 (31)) (List.mem_of_getElem? (i := 2) rfl)) dL_view_77 ?_
        refine lv_lload_n hx hb dL_view_80 rfl (lv_at hl 1 rfl) ?_
        refine lv_lmul hx hb dL_view_81 ?_
        refine lv_aload_n hx hb dL_view_82 rfl (lv_at hl 3 rfl) ?_
        refine lv_iload_n hx hb dL_view_83 rfl (lv_at hl 2 rfl) ?_
        refine lv_iload hx hb dL_view_84 (lv_at hl 0 rfl) ?_
        refine L_rd (as := [.int (nI i), .int (nI k)]) (rest := [.long (31 * a)]) hF hE hA hP hD hS h0 hl.1 (rd_eventOf l D I C Q y0 i k hG (by omega) (by omega)) (cwV 2 hts gL_view_X8_eventOf rfl rfl rfl (by decide +kernel) ⟨Nat.le_of_ble_eq_true rfl, Nat.le_of_ble_eq_true rfl⟩) rfl rfl (Nat.le_of_ble_eq_true rfl) dL_view_86 hcs (fun H locs hP hD hS => ?_)
        refine lv_i2l (v := (q_evo xx.2.1 i k).toInt64) hx hb dL_view_89 rfl ?_
        refine lv_ladd hx hb dL_view_90 ?_
        refine lv_lstore_n (lv' := [(1, .long ((31 * a) + ((q_evo xx.2.1 i k).toInt64))), (4, .int (nI k)), (3, .int (nI i)), (0, .ref y0)]) hx hb dL_view_91 rfl hl (by decide) rfl (fun ls hl => ?_)
        refine lv_iinc (v := nI (k + 1)) (lv' := [(4, .int (nI (k + 1))), (1, .long ((31 * a) + ((q_evo xx.2.1 i k).toInt64))), (3, .int (nI i)), (0, .ref y0)]) hx hb dL_view_92 hl (k := 1) rfl (nI_inc k) (by decide) rfl (fun ls hl => ?_)
        refine lv_goto (tgt := 70) hx hb dL_view_95 (by decide) ?_
        exact ih (k + 1) _ H locs ls (by omega) hP hD hS (lv_sub hl [0, 1, 2, 3] rfl) kx
  have L61 : ∀ (n k : Nat) (a : Int64) (H : Heap) (locs : List Loc) (ls : Array Slot), k + n = 64 → va_P D vwCl (uX I C Q y0 xx) H → va_D A (uX I C Q y0 xx) → va_S A s.heap H locs → lv_has ls 5 [(3, .int (nI k)), (1, .long a), (0, .ref y0)] → (∀ (H : Heap) (locs : List Loc) (ls : Array Slot), va_P D vwCl (uX I C Q y0 xx) H → va_D A (uX I C Q y0 xx) → va_S A s.heap H locs → lv_has ls 5 [(1, .long (q_g (q_evo xx.2.1) 6 n k a)), (0, .ref y0)] → W p l e rmV s m ([.ref y0] : List Value).toArray below meth c H locs 0 0 Q0 (F0 m 104 ls [])) → W p l e rmV s m ([.ref y0] : List Value).toArray below meth c H locs 0 0 Q0 (F0 m 61 ls []) := by
    intro n
    induction n with
    | zero =>
      intro k a H locs ls hk hP hD hS hl kx
      refine lv_iload_n hx hb dL_view_61 rfl (lv_at hl 0 rfl) ?_
      refine lv_bipush (v := nI 64) hx hb dL_view_62 (by decide) ?_
      refine lv_icmp_ge (tgt := 104) hx hb dL_view_64 (by decide) (fun c_64 => ?_) (fun c_64 => ?_)
      · exact kx H locs ls hP hD hS (lv_sub hl [1, 2] rfl)
      · exact absurd ((nI_leI (a := 64) (b := k) (by omega) (by omega)).mpr (by omega)) c_64
    | succ n ih =>
      intro k a H locs ls hk hP hD hS hl kx
      refine lv_iload_n hx hb dL_view_61 rfl (lv_at hl 0 rfl) ?_
      refine lv_bipush (v := nI 64) hx hb dL_view_62 (by decide) ?_
      refine lv_icmp_ge (tgt := 104) hx hb dL_view_64 (by decide) (fun c_64 => ?_) (fun c_64 => ?_)
      · exact absurd ((nI_leI (a := 64) (b := k) (by omega) (by omega)).mp c_64) (by omega)
      · refine lv_iconst (v := nI 0) hx hb dL_view_67 (by decide) ?_
        refine lv_istore (lv' := [(4, .int (nI 0)), (3, .int (nI k)), (1, .long a), (0, .ref y0)]) hx hb dL_view_68 hl (by decide) rfl (fun ls hl => ?_)
        refine L61i k (by omega) 6 0 a H locs ls (by omega) hP hD hS (lv_sub hl [0, 2, 1, 3] rfl) (fun H locs ls hP hD hS hl => ?_)
        refine lv_iinc (v := nI (k + 1)) (lv' := [(3, .int (nI (k + 1))), (1, .long (q_f ((q_evo xx.2.1) k) 6 0 a)), (0, .ref y0)]) hx hb dL_view_98 hl (k := 1) rfl (nI_inc k) (by decide) rfl (fun ls hl => ?_)
        refine lv_goto (tgt := 61) hx hb dL_view_101 (by decide) ?_
        exact ih (k + 1) _ H locs ls (by omega) hP hD hS (lv_sub hl [0, 1, 2] rfl) kx
  have L106i : ∀ (i : Nat), i < aW (cS xx.2.1) → ∀ (n k : Nat) (a : Int64) (H : Heap) (locs : List Loc) (ls : Array Slot), k + n = 4 → va_P D vwCl (uX I C Q y0 xx) H → va_D A (uX I C Q y0 xx) → va_S A s.heap H locs → lv_has ls 5 [(4, .int (nI k)), (1, .long a), (3, .int (nI i)), (0, .ref y0)] → (∀ (H : Heap) (locs : List Loc) (ls : Array Slot), va_P D vwCl (uX I C Q y0 xx) H → va_D A (uX I C Q y0 xx) → va_S A s.heap H locs → lv_has ls 5 [(1, .long (q_f ((q_wrd xx.2.1) i) n k a)), (3, .int (nI i)), (0, .ref y0)] → W p l e rmV s m ([.ref y0] : List Value).toArray below meth c H locs 0 0 Q0 (F0 m 146 ls [])) → W p l e rmV s m ([.ref y0] : List Value).toArray below meth c H locs 0 0 Q0 (F0 m 119 ls []) := by
    intro i hi
    intro n
    induction n with
    | zero =>
      intro k a H locs ls hk hP hD hS hl kx
      refine lv_iload hx hb dL_view_119 (lv_at hl 0 rfl) ?_
      refine lv_iconst (v := nI 4) hx hb dL_view_121 (by decide) ?_
      refine lv_icmp_ge (tgt := 146) hx hb dL_view_122 (by decide) (fun c_122 => ?_) (fun c_122 => ?_)
      · exact kx H locs ls hP hD hS (lv_sub hl [1, 2, 3] rfl)
      · exact absurd ((nI_leI (a := 4) (b := k) (by omega) (by omega)).mpr (by omega)) c_122
    | succ n ih =>
      intro k a H locs ls hk hP hD hS hl kx
      refine lv_iload hx hb dL_view_119 (lv_at hl 0 rfl) ?_
      refine lv_iconst (v := nI 4) hx hb dL_view_121 (by decide) ?_
      refine lv_icmp_ge (tgt := 146) hx hb dL_view_122 (by decide) (fun c_122 => ?_) (fun c_122 => ?_)
      · exact absurd ((nI_leI (a := 4) (b := k) (by omega) (by omega)).mp c_122) (by omega)
      · refine lv_ldc2 hx hb hown (hts (.constantLong RL 11 (31)) (List.mem_of_getElem? (i := 2) rfl)) dL_view_125 ?_
        refine lv_lload_n hx hb dL_view_128 rfl (lv_at hl 1 rfl) ?_
        refine lv_lmul hx hb dL_view_129 ?_
        refine lv_aload_n hx hb dL_view_130 rfl (lv_at hl 3 rfl) ?_
        refine lv_iload_n hx hb dL_view_131 rfl (lv_at hl 2 rfl) ?_
        refine lv_iload hx hb dL_view_132 (lv_at hl 0 rfl) ?_
        refine L_rd (as := [.int (nI i), .int (nI k)]) (rest := [.long (31 * a)]) hF hE hA hP hD hS h0 hl.1 (rd_wordAt l D I C Q y0 i k hG (by omega) (by omega)) (cwV 2 hts gL_view_X8_wordAt rfl rfl rfl (by decide +kernel) ⟨Nat.le_of_ble_eq_true rfl, Nat.le_of_ble_eq_true rfl⟩) rfl rfl (Nat.le_of_ble_eq_true rfl) dL_view_134 hcs (fun H locs hP hD hS => ?_)
        refine lv_i2l (v := (q_wrd xx.2.1 i k).toInt64) hx hb dL_view_137 rfl ?_
        refine lv_ladd hx hb dL_view_138 ?_
        refine lv_lstore_n (lv' := [(1, .long ((31 * a) + ((q_wrd xx.2.1 i k).toInt64))), (4, .int (nI k)), (3, .int (nI i)), (0, .ref y0)]) hx hb dL_view_139 rfl hl (by decide) rfl (fun ls hl => ?_)
        refine lv_iinc (v := nI (k + 1)) (lv' := [(4, .int (nI (k + 1))), (1, .long ((31 * a) + ((q_wrd xx.2.1 i k).toInt64))), (3, .int (nI i)), (0, .ref y0)]) hx hb dL_view_140 hl (k := 1) rfl (nI_inc k) (by decide) rfl (fun ls hl => ?_)
        refine lv_goto (tgt := 119) hx hb dL_view_143 (by decide) ?_
        exact ih (k + 1) _ H locs ls (by omega) hP hD hS (lv_sub hl [0, 1, 2, 3] rfl) kx
  have L106 : ∀ (n k : Nat) (a : Int64) (H : Heap) (locs : List Loc) (ls : Array Slot), k + n = aW (cS xx.2.1) → va_P D vwCl (uX I C Q y0 xx) H → va_D A (uX I C Q y0 xx) → va_S A s.heap H locs → lv_has ls 5 [(3, .int (nI k)), (1, .long a), (0, .ref y0)] → (∀ (H : Heap) (locs : List Loc) (ls : Array Slot), va_P D vwCl (uX I C Q y0 xx) H → va_D A (uX I C Q y0 xx) → va_S A s.heap H locs → lv_has ls 5 [(1, .long (q_g (q_wrd xx.2.1) 4 n k a)), (0, .ref y0)] → W p l e rmV s m ([.ref y0] : List Value).toArray below meth c H locs 0 0 Q0 (F0 m 152 ls [])) → W p l e rmV s m ([.ref y0] : List Value).toArray below meth c H locs 0 0 Q0 (F0 m 106 ls []) := by
    intro n
    induction n with
    | zero =>
      intro k a H locs ls hk hP hD hS hl kx
      refine lv_iload_n hx hb dL_view_106 rfl (lv_at hl 0 rfl) ?_
      refine lv_aload_n hx hb dL_view_107 rfl (lv_at hl 2 rfl) ?_
      refine lv_bipush (v := nI 7) hx hb dL_view_108 (by decide) ?_
      refine L_rd (as := [.int (nI 7)]) (rest := [.int (nI k)]) hF hE hA hP hD hS h0 hl.1 (rd_count l D I C Q y0 7 hG (by omega)) (cwV 1 hts gL_view_X8_count rfl rfl rfl (by decide +kernel) ⟨Nat.le_of_ble_eq_true rfl, Nat.le_of_ble_eq_true rfl⟩) rfl rfl (Nat.le_of_ble_eq_true rfl) dL_view_110 hcs (fun H locs hP hD hS => ?_)
      refine k_top (y := nI (aW (cS xx.2.1))) (rfl) ?_
      refine lv_icmp_ge (tgt := 152) hx hb dL_view_113 (by decide) (fun c_113 => ?_) (fun c_113 => ?_)
      · exact kx H locs ls hP hD hS (lv_sub hl [1, 2] rfl)
      · exact absurd ((nI_leI (a := (aW (cS xx.2.1))) (b := k) (by omega) (by omega)).mpr (by omega)) c_113
    | succ n ih =>
      intro k a H locs ls hk hP hD hS hl kx
      refine lv_iload_n hx hb dL_view_106 rfl (lv_at hl 0 rfl) ?_
      refine lv_aload_n hx hb dL_view_107 rfl (lv_at hl 2 rfl) ?_
      refine lv_bipush (v := nI 7) hx hb dL_view_108 (by decide) ?_
      refine L_rd (as := [.int (nI 7)]) (rest := [.int (nI k)]) hF hE hA hP hD hS h0 hl.1 (rd_count l D I C Q y0 7 hG (by omega)) (cwV 1 hts gL_view_X8_count rfl rfl rfl (by decide +kernel) ⟨Nat.le_of_ble_eq_true rfl, Nat.le_of_ble_eq_true rfl⟩) rfl rfl (Nat.le_of_ble_eq_true rfl) dL_view_110 hcs (fun H locs hP hD hS => ?_)
      refine k_top (y := nI (aW (cS xx.2.1))) (rfl) ?_
      refine lv_icmp_ge (tgt := 152) hx hb dL_view_113 (by decide) (fun c_113 => ?_) (fun c_113 => ?_)
      · exact absurd ((nI_leI (a := (aW (cS xx.2.1))) (b := k) (by omega) (by omega)).mp c_113) (by omega)
      · refine lv_iconst (v := nI 0) hx hb dL_view_116 (by decide) ?_
        refine lv_istore (lv' := [(4, .int (nI 0)), (3, .int (nI k)), (1, .long a), (0, .ref y0)]) hx hb dL_view_117 hl (by decide) rfl (fun ls hl => ?_)
        refine L106i k (by omega) 4 0 a H locs ls (by omega) hP hD hS (lv_sub hl [0, 2, 1, 3] rfl) (fun H locs ls hP hD hS hl => ?_)
        refine lv_iinc (v := nI (k + 1)) (lv' := [(3, .int (nI (k + 1))), (1, .long (q_f ((q_wrd xx.2.1) k) 4 0 a)), (0, .ref y0)]) hx hb dL_view_146 hl (k := 1) rfl (nI_inc k) (by decide) rfl (fun ls hl => ?_)
        refine lv_goto (tgt := 106) hx hb dL_view_149 (by decide) ?_
        exact ih (k + 1) _ H locs ls (by omega) hP hD hS (lv_sub hl [0, 1, 2] rfl) kx
  have L154 : ∀ (n k : Nat) (a : Int64) (H : Heap) (locs : List Loc) (ls : Array Slot), k + n = 12 → va_P D vwCl (uX I C Q y0 xx) H → va_D A (uX I C Q y0 xx) → va_S A s.heap H locs → lv_has ls 5 [(3, .int (nI k)), (1, .long a), (0, .ref y0)] → (∀ (H : Heap) (locs : List Loc) (ls : Array Slot), va_P D vwCl (uX I C Q y0 xx) H → va_D A (uX I C Q y0 xx) → va_S A s.heap H locs → lv_has ls 5 [(1, .long (q_f (fun k => q_fil xx.2.1 (k / 4) (k % 4)) n k a)), (0, .ref y0)] → W p l e rmV s m ([.ref y0] : List Value).toArray below meth c H locs 0 0 Q0 (F0 m 184 ls [])) → W p l e rmV s m ([.ref y0] : List Value).toArray below meth c H locs 0 0 Q0 (F0 m 154 ls []) := by
    intro n
    induction n with
    | zero =>
      intro k a H locs ls hk hP hD hS hl kx
      refine lv_iload_n hx hb dL_view_154 rfl (lv_at hl 0 rfl) ?_
      refine lv_bipush (v := nI 12) hx hb dL_view_155 (by decide) ?_
      refine lv_icmp_ge (tgt := 184) hx hb dL_view_157 (by decide) (fun c_157 => ?_) (fun c_157 => ?_)
      · exact kx H locs ls hP hD hS (lv_sub hl [1, 2] rfl)
      · exact absurd ((nI_leI (a := 12) (b := k) (by omega) (by omega)).mpr (by omega)) c_157
    | succ n ih =>
      intro k a H locs ls hk hP hD hS hl kx
      refine lv_iload_n hx hb dL_view_154 rfl (lv_at hl 0 rfl) ?_
      refine lv_bipush (v := nI 12) hx hb dL_view_155 (by decide) ?_
      refine lv_icmp_ge (tgt := 184) hx hb dL_view_157 (by decide) (fun c_157 => ?_) (fun c_157 => ?_)
      · exact absurd ((nI_leI (a := 12) (b := k) (by omega) (by omega)).mp c_157) (by omega)
      · refine lv_ldc2 hx hb hown (hts (.constantLong RL 11 (31)) (List.mem_of_getElem? (i := 2) rfl)) dL_view_160 ?_
        refine lv_lload_n hx hb dL_view_163 rfl (lv_at hl 1 rfl) ?_
        refine lv_lmul hx hb dL_view_164 ?_
        refine lv_aload_n hx hb dL_view_165 rfl (lv_at hl 2 rfl) ?_
        refine lv_iload_n hx hb dL_view_166 rfl (lv_at hl 0 rfl) ?_
        refine lv_iconst (v := nI 2) hx hb dL_view_167 (by decide) ?_
        refine lv_ishr hx hb dL_view_168 ?_
        refine k_top (y := nI (k / 4)) ((k_shr2 ⟨k, by omega⟩).1) ?_
        refine lv_iload_n hx hb dL_view_169 rfl (lv_at hl 0 rfl) ?_
        refine lv_iconst (v := nI 3) hx hb dL_view_170 (by decide) ?_
        refine lv_iand hx hb dL_view_171 ?_
        refine k_top (y := nI (k % 4)) ((k_shr2 ⟨k, by omega⟩).2) ?_
        refine L_rd (as := [.int (nI (k / 4)), .int (nI (k % 4))]) (rest := [.long (31 * a)]) hF hE hA hP hD hS h0 hl.1 (rd_filed l D I C Q y0 (k / 4) (k % 4) hG (by omega) (by omega)) (cwV 2 hts gL_view_X8_filed rfl rfl rfl (by decide +kernel) ⟨Nat.le_of_ble_eq_true rfl, Nat.le_of_ble_eq_true rfl⟩) rfl rfl (Nat.le_of_ble_eq_true rfl) dL_view_172 hcs (fun H locs hP hD hS => ?_)
        refine lv_i2l (v := (q_fil xx.2.1 (k / 4) (k % 4)).toInt64) hx hb dL_view_175 rfl ?_
        refine lv_ladd hx hb dL_view_176 ?_
        refine lv_lstore_n (lv' := [(1, .long ((31 * a) + ((q_fil xx.2.1 (k / 4) (k % 4)).toInt64))), (3, .int (nI k)), (0, .ref y0)]) hx hb dL_view_177 rfl hl (by decide) rfl (fun ls hl => ?_)
        refine lv_iinc (v := nI (k + 1)) (lv' := [(3, .int (nI (k + 1))), (1, .long ((31 * a) + ((q_fil xx.2.1 (k / 4) (k % 4)).toInt64))), (0, .ref y0)]) hx hb dL_view_178 hl (k := 1) rfl (nI_inc k) (by decide) rfl (fun ls hl => ?_)
        refine lv_goto (tgt := 154) hx hb dL_view_181 (by decide) ?_
        exact ih (k + 1) _ H locs ls (by omega) hP hD hS (lv_sub hl [0, 1, 2] rfl) kx
  have L197 : ∀ (r : Nat), r < q_u xx.2.1 → ∀ (n k : Nat) (a : Int64) (H : Heap) (locs : List Loc) (ls : Array Slot), k + n = 7 → va_P D vwCl (uX I C Q y0 xx) H → va_D A (uX I C Q y0 xx) → va_S A s.heap H locs → lv_has ls 5 [(4, .int (nI k)), (1, .long a), (3, .int (q_pn xx.2.1 r)), (0, .ref y0)] → (∀ (H : Heap) (locs : List Loc) (ls : Array Slot), va_P D vwCl (uX I C Q y0 xx) H → va_D A (uX I C Q y0 xx) → va_S A s.heap H locs → lv_has ls 5 [(1, .long (q_f (q_pof xx.2.1 r) n k a)), (3, .int (q_pn xx.2.1 r)), (0, .ref y0)] → W p l e rmV s m ([.ref y0] : List Value).toArray below meth c H locs 0 0 Q0 (F0 m 225 ls [])) → W p l e rmV s m ([.ref y0] : List Value).toArray below meth c H locs 0 0 Q0 (F0 m 197 ls []) := by
    intro r hru
    intro n
    induction n with
    | zero =>
      intro k a H locs ls hk hP hD hS hl kx
      refine lv_iload hx hb dL_view_197 (lv_at hl 0 rfl) ?_
      refine lv_bipush (v := nI 7) hx hb dL_view_199 (by decide) ?_
      refine lv_icmp_ge (tgt := 225) hx hb dL_view_201 (by decide) (fun c_201 => ?_) (fun c_201 => ?_)
      · exact kx H locs ls hP hD hS (lv_sub hl [1, 2, 3] rfl)
      · exact absurd ((nI_leI (a := 7) (b := k) (by omega) (by omega)).mpr (by omega)) c_201
    | succ n ih =>
      intro k a H locs ls hk hP hD hS hl kx
      refine lv_iload hx hb dL_view_197 (lv_at hl 0 rfl) ?_
      refine lv_bipush (v := nI 7) hx hb dL_view_199 (by decide) ?_
      refine lv_icmp_ge (tgt := 225) hx hb dL_view_201 (by decide) (fun c_201 => ?_) (fun c_201 => ?_)
      · exact absurd ((nI_leI (a := 7) (b := k) (by omega) (by omega)).mp c_201) (by omega)
      · refine lv_ldc2 hx hb hown (hts (.constantLong RL 11 (31)) (List.mem_of_getElem? (i := 2) rfl)) dL_view_204 ?_
        refine lv_lload_n hx hb dL_view_207 rfl (lv_at hl 1 rfl) ?_
        refine lv_lmul hx hb dL_view_208 ?_
        refine lv_aload_n hx hb dL_view_209 rfl (lv_at hl 3 rfl) ?_
        refine lv_iload_n hx hb dL_view_210 rfl (lv_at hl 2 rfl) ?_
        refine lv_iload hx hb dL_view_211 (lv_at hl 0 rfl) ?_
        refine L_rd (as := [.int (q_pn xx.2.1 r), .int (nI k)]) (rest := [.long (31 * a)]) hF hE hA hP hD hS h0 hl.1 (rd_paneOf l D I C Q y0 r k hG hru (by omega)) (cwV 2 hts gL_view_X8_paneOf rfl rfl rfl (by decide +kernel) ⟨Nat.le_of_ble_eq_true rfl, Nat.le_of_ble_eq_true rfl⟩) rfl rfl (Nat.le_of_ble_eq_true rfl) dL_view_213 hcs (fun H locs hP hD hS => ?_)
        refine lv_i2l (v := (q_pof xx.2.1 r k).toInt64) hx hb dL_view_216 rfl ?_
        refine lv_ladd hx hb dL_view_217 ?_
        refine lv_lstore_n (lv' := [(1, .long ((31 * a) + ((q_pof xx.2.1 r k).toInt64))), (4, .int (nI k)), (3, .int (q_pn xx.2.1 r)), (0, .ref y0)]) hx hb dL_view_218 rfl hl (by decide) rfl (fun ls hl => ?_)
        refine lv_iinc (v := nI (k + 1)) (lv' := [(4, .int (nI (k + 1))), (1, .long ((31 * a) + ((q_pof xx.2.1 r k).toInt64))), (3, .int (q_pn xx.2.1 r)), (0, .ref y0)]) hx hb dL_view_219 hl (k := 1) rfl (nI_inc k) (by decide) rfl (fun ls hl => ?_)
        refine lv_goto (tgt := 197) hx hb dL_view_222 (by decide) ?_
        exact ih (k + 1) _ H locs ls (by omega) hP hD hS (lv_sub hl [0, 1, 2, 3] rfl) kx
  have L190 : ∀ (n r : Nat) (a : Int64) (H : Heap) (locs : List Loc) (ls : Array Slot), r + n = q_u xx.2.1 → va_P D vwCl (uX I C Q y0 xx) H → va_D A (uX I C Q y0 xx) → va_S A s.heap H locs → lv_has ls 5 [(3, .int (q_nx (aPn (cS xx.2.1)) (q_u xx.2.1) r)), (1, .long a), (0, .ref y0)] → (∀ (H : Heap) (locs : List Loc) (ls : Array Slot), va_P D vwCl (uX I C Q y0 xx) H → va_D A (uX I C Q y0 xx) → va_S A s.heap H locs → lv_has ls 5 [(1, .long (q_vP xx.2.1 n r a)), (0, .ref y0)] → W p l e rmV s m ([.ref y0] : List Value).toArray below meth c H locs 0 0 Q0 (F0 m 259 ls [])) → W p l e rmV s m ([.ref y0] : List Value).toArray below meth c H locs 0 0 Q0 (F0 m 190 ls []) := by
    intro n
    induction n with
    | zero =>
      intro r a H locs ls hk hP hD hS hl kx
      have hnx := nx_neg (r := r) hs
      refine lv_iload_n hx hb dL_view_190 rfl (lv_at hl 0 rfl) ?_
      refine lv_if_lt (tgt := 259) hx hb dL_view_191 (by decide) (fun c_191 => ?_) (fun c_191 => ?_)
      · exact kx H locs ls hP hD hS (lv_sub hl [1, 2] rfl)
      · exact absurd (hnx.resolve_left (fun h => c_191 h.1)).2.1 (by omega)
    | succ n ih =>
      intro r a H locs ls hk hP hD hS hl kx
      have hnx := nx_neg (r := r) hs
      refine lv_iload_n hx hb dL_view_190 rfl (lv_at hl 0 rfl) ?_
      refine lv_if_lt (tgt := 259) hx hb dL_view_191 (by decide) (fun c_191 => ?_) (fun c_191 => ?_)
      · exact absurd (hnx.resolve_right (fun h => h.1 c_191)).2 (by omega)
      · obtain ⟨-, hru, hq9⟩ := hnx.resolve_left (fun h => c_191 h.1)
        rw [hq9] at hl
        refine lv_iconst (v := nI 0) hx hb dL_view_194 (by decide) ?_
        refine lv_istore (lv' := [(4, .int (nI 0)), (3, .int (q_pn xx.2.1 r)), (1, .long a), (0, .ref y0)]) hx hb dL_view_195 hl (by decide) rfl (fun ls hl => ?_)
        refine L197 r hru 7 0 a H locs ls (by omega) hP hD hS (lv_sub hl [0, 2, 1, 3] rfl) (fun H locs ls hP hD hS hl => ?_)
        refine lv_ldc2 hx hb hown (hts (.constantLong RL 11 (31)) (List.mem_of_getElem? (i := 2) rfl)) dL_view_225 ?_
        refine lv_ldc2 hx hb hown (hts (.constantLong RL 11 (31)) (List.mem_of_getElem? (i := 2) rfl)) dL_view_228 ?_
        refine lv_lload_n hx hb dL_view_231 rfl (lv_at hl 0 rfl) ?_
        refine lv_lmul hx hb dL_view_232 ?_
        refine lv_aload_n hx hb dL_view_233 rfl (lv_at hl 2 rfl) ?_
        refine lv_iload_n hx hb dL_view_234 rfl (lv_at hl 1 rfl) ?_
        refine L_rd (as := [.int (q_pn xx.2.1 r)]) (rest := [.long (31 * (q_f (q_pof xx.2.1 r) 7 0 a)), .long 31]) hF hE hA hP hD hS h0 hl.1 (rd_mean l D I C Q y0 r hG hru) (cwV 1 hts gL_view_X8_mean rfl rfl rfl (by decide +kernel) ⟨Nat.le_of_ble_eq_true rfl, Nat.le_of_ble_eq_true rfl⟩) rfl rfl (Nat.le_of_ble_eq_true rfl) dL_view_235 hcs (fun H locs hP hD hS => ?_)
        refine lv_i2l (v := (q_mea xx.2.1 r).toInt64) hx hb dL_view_238 rfl ?_
        refine lv_ladd hx hb dL_view_239 ?_
        refine lv_lmul hx hb dL_view_240 ?_
        refine lv_aload_n hx hb dL_view_241 rfl (lv_at hl 2 rfl) ?_
        refine lv_iload_n hx hb dL_view_242 rfl (lv_at hl 1 rfl) ?_
        refine lv_iconst (v := nI 1) hx hb dL_view_243 (by decide) ?_
        refine L_rd (as := [.int (q_pn xx.2.1 r), .int (nI 1)]) (rest := [.long (31 * ((31 * (q_f (q_pof xx.2.1 r) 7 0 a)) + ((q_mea xx.2.1 r).toInt64)))]) hF hE hA hP hD hS h0 hl.1 (rd_standing l D I C Q y0 r 1 hG hru (by omega)) (cwV 2 hts gL_view_X8_standing rfl rfl rfl (by decide +kernel) ⟨Nat.le_of_ble_eq_true rfl, Nat.le_of_ble_eq_true rfl⟩) rfl rfl (Nat.le_of_ble_eq_true rfl) dL_view_244 hcs (fun H locs hP hD hS => ?_)
        refine lv_i2l (v := (q_std xx.2.1 r 1).toInt64) hx hb dL_view_247 rfl ?_
        refine lv_ladd hx hb dL_view_248 ?_
        refine lv_lstore_n (lv' := [(1, .long ((31 * ((31 * (q_f (q_pof xx.2.1 r) 7 0 a)) + ((q_mea xx.2.1 r).toInt64))) + ((q_std xx.2.1 r 1).toInt64))), (3, .int (q_pn xx.2.1 r)), (0, .ref y0)]) hx hb dL_view_249 rfl hl (by decide) rfl (fun ls hl => ?_)
        refine lv_aload_n hx hb dL_view_250 rfl (lv_at hl 2 rfl) ?_
        refine lv_iload_n hx hb dL_view_251 rfl (lv_at hl 1 rfl) ?_
        refine L_rd (as := [.int (q_pn xx.2.1 r)]) (rest := []) hF hE hA hP hD hS h0 hl.1 (rd_nextP l D I C Q y0 r hG hru) (cwV 1 hts gL_view_X8_nextPane rfl rfl rfl (by decide +kernel) ⟨Nat.le_of_ble_eq_true rfl, Nat.le_of_ble_eq_true rfl⟩) rfl rfl (Nat.le_of_ble_eq_true rfl) dL_view_252 hcs (fun H locs hP hD hS => ?_)
        refine lv_istore_n (lv' := [(3, .int (q_nx (aPn (cS xx.2.1)) (q_u xx.2.1) (r + 1))), (1, .long ((31 * ((31 * (q_f (q_pof xx.2.1 r) 7 0 a)) + ((q_mea xx.2.1 r).toInt64))) + ((q_std xx.2.1 r 1).toInt64))), (0, .ref y0)]) hx hb dL_view_255 rfl hl (by decide) rfl (fun ls hl => ?_)
        refine lv_goto (tgt := 190) hx hb dL_view_256 (by decide) ?_
        exact ih (r + 1) _ H locs ls (by omega) hP hD hS (lv_sub hl [0, 1, 2] rfl) kx
  refine lv_ldc2 hx hb hown (hts (.constantLong RL 9 (7)) (List.mem_of_getElem? (i := 1) rfl)) dL_view_0 ?_
  refine lv_lstore_n (lv' := [(1, .long 7), (0, .ref y0)]) hx hb dL_view_3 rfl hl (by decide) rfl (fun ls hl => ?_)
  refine lv_iconst (v := nI 0) hx hb dL_view_4 (by decide) ?_
  refine lv_istore_n (lv' := [(3, .int (nI 0)), (1, .long 7), (0, .ref y0)]) hx hb dL_view_5 rfl hl (by decide) rfl (fun ls hl => ?_)
  refine L6 12 0 _ _ _ ls (by omega) hP hD hS (lv_sub hl [0, 1, 2] rfl) (fun H locs ls hP hD hS hl => ?_)
  refine lv_bipush (v := nI 20) hx hb dL_view_31 (by decide) ?_
  refine lv_istore_n (lv' := [(3, .int (nI 20)), (1, .long (q_f (q_cnt xx.2.1) 12 0 7)), (0, .ref y0)]) hx hb dL_view_33 rfl hl (by decide) rfl (fun ls hl => ?_)
  refine L34 3 20 _ H locs ls (by omega) hP hD hS (lv_sub hl [0, 1, 2] rfl) (fun H locs ls hP hD hS hl => ?_)
  refine lv_iconst (v := nI 0) hx hb dL_view_59 (by decide) ?_
  refine lv_istore_n (lv' := [(3, .int (nI 0)), (1, .long (q_f (q_cnt xx.2.1) 3 20 (q_f (q_cnt xx.2.1) 12 0 7))), (0, .ref y0)]) hx hb dL_view_60 rfl hl (by decide) rfl (fun ls hl => ?_)
  refine L61 64 0 _ H locs ls (by omega) hP hD hS (lv_sub hl [0, 1, 2] rfl) (fun H locs ls hP hD hS hl => ?_)
  refine lv_iconst (v := nI 0) hx hb dL_view_104 (by decide) ?_
  refine lv_istore_n (lv' := [(3, .int (nI 0)), (1, .long (q_g (q_evo xx.2.1) 6 64 0 (q_f (q_cnt xx.2.1) 3 20 (q_f (q_cnt xx.2.1) 12 0 7)))), (0, .ref y0)]) hx hb dL_view_105 rfl hl (by decide) rfl (fun ls hl => ?_)
  refine L106 (aW (cS xx.2.1)) 0 _ H locs ls (by omega) hP hD hS (lv_sub hl [0, 1, 2] rfl) (fun H locs ls hP hD hS hl => ?_)
  refine lv_iconst (v := nI 0) hx hb dL_view_152 (by decide) ?_
  refine lv_istore_n (lv' := [(3, .int (nI 0)), (1, .long (q_g (q_wrd xx.2.1) 4 (aW (cS xx.2.1)) 0 (q_g (q_evo xx.2.1) 6 64 0 (q_f (q_cnt xx.2.1) 3 20 (q_f (q_cnt xx.2.1) 12 0 7))))), (0, .ref y0)]) hx hb dL_view_153 rfl hl (by decide) rfl (fun ls hl => ?_)
  refine L154 12 0 _ H locs ls (by omega) hP hD hS (lv_sub hl [0, 1, 2] rfl) (fun H locs ls hP hD hS hl => ?_)
  refine lv_aload_n hx hb dL_view_184 rfl (lv_at hl 1 rfl) ?_
  refine lv_iconst (v := (-1 : Int32)) hx hb dL_view_185 (by decide) ?_
  refine L_rd (as := [.int (-1)]) (rest := []) hF hE hA hP hD hS h0 hl.1 (rd_next0 l D I C Q y0 hG) (cwV 1 hts gL_view_X8_nextPane rfl rfl rfl (by decide +kernel) ⟨Nat.le_of_ble_eq_true rfl, Nat.le_of_ble_eq_true rfl⟩) rfl rfl (Nat.le_of_ble_eq_true rfl) dL_view_186 hcs (fun H locs hP hD hS => ?_)
  refine lv_istore_n (lv' := [(3, .int (q_nx (aPn (cS xx.2.1)) (q_u xx.2.1) 0)), (1, .long (q_f (fun k => q_fil xx.2.1 (k / 4) (k % 4)) 12 0 (q_g (q_wrd xx.2.1) 4 (aW (cS xx.2.1)) 0 (q_g (q_evo xx.2.1) 6 64 0 (q_f (q_cnt xx.2.1) 3 20 (q_f (q_cnt xx.2.1) 12 0 7)))))), (0, .ref y0)]) hx hb dL_view_189 rfl hl (by decide) rfl (fun ls hl => ?_)
  refine L190 (q_u xx.2.1) 0 _ H locs ls (by omega) hP hD hS (lv_sub hl [0, 1, 2] rfl) (fun H locs ls hP hD hS hl => ?_)
  refine lv_lload_n hx hb dL_view_259 rfl (lv_at hl 0 rfl) ?_
  exact hend _ _ _ _ _ _ hP hD hS dL_view_260 rfl rfl
