/-! the law's call of a turn, as a function of the court's value -/
def uRp (I C Q : ClassId) (y0 : Nat) (x : LV) (R : FR) : Int32 → va_W → Prop := fun r9 w9 => r9 = R.1 ∧ ∃ x', w9 = uX I C Q y0 x' ∧ u_st x R.2 x'
def f_any (v : CV) (a b : Int32) : FR :=
  if b &&& nI 3 = nI 0 then f_set v a b else if b &&& nI 3 = nI 1 then f_evt v a b a b a else if b &&& nI 3 = nI 2 then f_mov v a
  else f_evt v (b &&& nI 63) a (b &&& nI 7) a (b >>> (nI 3 &&& 31))
def f_t0 (v : CV) (a b : Int32) : Int32 :=
  if ¬ a &&& nI 7 = 0 then (if 0 ≤ q_cnt v 6 then (if ¬ a &&& nI 24 = 0 then q_cnt v 6 + nI (u_p b 24) - nI 8 else q_cnt v 6 + nI (u_p b 24) - nI 60) else nI (u_p b 60)) else nI (u_p b 400)
def f_tm (v : CV) (a b : Int32) : Int32 := if 0 ≤ f_t0 v a b then (if f_t0 v a b ≤ nI 1999 then f_t0 v a b else nI 1999) else nI 0
def f_ev (v : CV) (a b : Int32) : FR := f_evt v (nI (u_p (a >>> (nI 5 &&& 31)) 64)) (f_tm v a b) (nI (u_p (a >>> (nI 11 &&& 31)) 6)) (nI (u_p (b >>> (nI 5 &&& 31)) 201) - nI 100) (nI (u_p (a >>> (nI 14 &&& 31)) 4))
def f_turn (v : CV) (w a b : Int32) : FR :=
  if w = nI 0 then f_set v (nI (u_p a 3)) (nI (u_p b (if ¬ a &&& nI 4 = 0 then 101 else 30)))
  else if w = nI 1 then f_mov v (nI 1 + nI (u_p b 100)) else if w = nI 2 then f_any v a b else f_ev v a b
theorem f_any_good {v : CV} (h : g_ok v) (a b : Int32) : f_good v (f_any v a b) := by
  rw [f_any]
  split
  · exact f_set_good h _ _
  · split
    · exact f_evt_good h _ _ _ _ _
    · split
      · exact f_mov_good h _
      · exact f_evt_good h _ _ _ _ _
theorem f_turn_good {v : CV} (h : g_ok v) (w a b : Int32) : f_good v (f_turn v w a b) := by
  rw [f_turn]
  split
  · exact f_set_good h _ _
  · split
    · exact f_mov_good h _
    · split
      · exact f_any_good h _ _
      · exact f_evt_good h _ _ _ _ _
abbrev rmA : Room := { frames := 9, cells := 13, slots := 1166, locals := 230 }
abbrev rmT : Room := { frames := 10, cells := 13, slots := 1166, locals := 260 }
theorem i_sw {x : Int32} (h : ¬ (x.toInt < 0 ∨ 2 < x.toInt)) : x = nI 0 ∨ x = nI 1 ∨ x = nI 2 := by
  have h3 : x.toInt = 0 ∨ x.toInt = 1 ∨ x.toInt = 2 := by omega
  rcases h3 with h3 | h3 | h3
  · exact Or.inl (by rw [← Int32.toInt_inj, h3]; decide)
  · exact Or.inr (Or.inl (by rw [← Int32.toInt_inj, h3]; decide))
  · exact Or.inr (Or.inr (by rw [← Int32.toInt_inj, h3]; decide))
theorem i_swo {x : Int32} (h : x.toInt < 0 ∨ 2 < x.toInt) : ¬ x = nI 0 ∧ ¬ x = nI 1 ∧ ¬ x = nI 2 := by
  refine ⟨fun e => ?_, fun e => ?_, fun e => ?_⟩
  · rw [e, show (nI 0).toInt = 0 by decide] at h; omega
  · rw [e, show (nI 1).toInt = 1 by decide] at h; omega
  · rw [e, show (nI 2).toInt = 2 by decide] at h; omega
set_option maxHeartbeats 4000000 in
set_option maxRecDepth 100000 in
theorem c_L_any (l : Launch) (D : va_G) (I C Q : ClassId) (y0 : Nat) (a b : Int32) {xx : LV} (hG : uG xx) : KIe l D (tyL I C Q) yL_any wsL_any rmA [.ref y0, .int a, .int b] (uX I C Q y0 xx) 13 1166 (uRp I C Q y0 xx (f_any xx.2.1 a b)) := by
  refine KIe.of (cc := cL_any) (maxL := 3) (rt := .int) (own := RL) (by decide) rfl rfl (Nat.le_of_ble_eq_true rfl) ?_
  intro p e s m below meth c A Q0 ls hx hb hml hown hts hE hA hP hD hS hl hend
  have hF : CallFix p m c cL_any 3 s ([.ref y0, .int a, .int b] : List Value).toArray wsL_any RL := ⟨hx, hb, hml, hown, hts⟩
  obtain ⟨fs, h0⟩ := uX_0 I C Q y0 xx
  have hcs : 0 ≤ (rmA).cells ∧ 0 ≤ (rmA).slots := ⟨Nat.zero_le _, Nat.zero_le _⟩
  have hcs13 : 0 + 13 ≤ (rmA).cells ∧ 0 + 1166 ≤ (rmA).slots := ⟨Nat.le_of_ble_eq_true rfl, Nat.le_of_ble_eq_true rfl⟩
  have hl : lv_has ls 3 [(0, .ref y0), (1, .int a), (2, .int b)] := hl
  refine lv_iload_n hx hb dL_any_0 rfl (lv_at hl 2 rfl) ?_
  refine lv_iconst (v := nI 3) hx hb dL_any_1 (by decide) ?_
  refine lv_iand hx hb dL_any_2 ?_
  by_cases hsw : (b &&& nI 3).toInt < 0 ∨ 2 < (b &&& nI 3).toInt
  · obtain ⟨n0, n1, n2⟩ := i_swo hsw
    refine lv_tableOut (tgt := 51) hx hb dL_any_3 hsw (by decide) ?_
    refine lv_aload_n hx hb dL_any_51 rfl (lv_at hl 0 rfl) ?_
    refine lv_iload_n hx hb dL_any_52 rfl (lv_at hl 2 rfl) ?_
    refine lv_bipush (v := nI 63) hx hb dL_any_53 (by decide) ?_
    refine lv_iand hx hb dL_any_55 ?_
    refine lv_iload_n hx hb dL_any_56 rfl (lv_at hl 1 rfl) ?_
    refine lv_iload_n hx hb dL_any_57 rfl (lv_at hl 2 rfl) ?_
    refine lv_bipush (v := nI 7) hx hb dL_any_58 (by decide) ?_
    refine lv_iand hx hb dL_any_60 ?_
    refine lv_iload_n hx hb dL_any_61 rfl (lv_at hl 1 rfl) ?_
    refine lv_iload_n hx hb dL_any_62 rfl (lv_at hl 2 rfl) ?_
    refine lv_iconst (v := nI 3) hx hb dL_any_63 (by decide) ?_
    refine lv_ishr hx hb dL_any_64 ?_
    refine L_ch (as := [.int (b &&& (nI 63)), .int a, .int (b &&& (nI 7)), .int a, .int (b >>> ((nI 3) &&& 31))]) (rest := []) hF hE hA hP hD hS h0 hl.1 (uY_event l D I C Q y0 (b &&& (nI 63)) a (b &&& (nI 7)) a (b >>> ((nI 3) &&& 31)) hG) (cwV 5 hts gL_any_X8_event rfl rfl rfl (by decide +kernel) ⟨Nat.le_of_ble_eq_true rfl, Nat.le_of_ble_eq_true rfl⟩) rfl rfl (Nat.le_of_ble_eq_true rfl) dL_any_65 hcs13 (fun H locs r w1 hr hP hD hS => ?_)
    exact hend _ _ _ _ _ w1 hP hD hS dL_any_68 rfl (by rw [f_any, if_neg n0, if_neg n1, if_neg n2]; exact hr)
  · rcases i_sw hsw with e9 | e9 | e9
    · refine lv_tableIn (off := 25) (tgt := 28) hx hb dL_any_3 (by rw [e9]; decide) (by rw [e9]; decide) (by rw [e9]; decide) (by decide) ?_
      refine lv_aload_n hx hb dL_any_28 rfl (lv_at hl 0 rfl) ?_
      refine lv_iload_n hx hb dL_any_29 rfl (lv_at hl 1 rfl) ?_
      refine lv_iload_n hx hb dL_any_30 rfl (lv_at hl 2 rfl) ?_
      refine L_ch (as := [.int a, .int b]) (rest := []) hF hE hA hP hD hS h0 hl.1 (uY_set l D I C Q y0 a b hG) (cwV 2 hts gL_any_X8_set rfl rfl rfl (by decide +kernel) ⟨Nat.le_of_ble_eq_true rfl, Nat.le_of_ble_eq_true rfl⟩) rfl rfl (Nat.le_of_ble_eq_true rfl) dL_any_31 hcs13 (fun H locs r w1 hr hP hD hS => ?_)
      exact hend _ _ _ _ _ w1 hP hD hS dL_any_34 rfl (by rw [f_any, if_pos e9]; exact hr)
    · refine lv_tableIn (off := 32) (tgt := 35) hx hb dL_any_3 (by rw [e9]; decide) (by rw [e9]; decide) (by rw [e9]; decide) (by decide) ?_
      refine lv_aload_n hx hb dL_any_35 rfl (lv_at hl 0 rfl) ?_
      refine lv_iload_n hx hb dL_any_36 rfl (lv_at hl 1 rfl) ?_
      refine lv_iload_n hx hb dL_any_37 rfl (lv_at hl 2 rfl) ?_
      refine lv_iload_n hx hb dL_any_38 rfl (lv_at hl 1 rfl) ?_
      refine lv_iload_n hx hb dL_any_39 rfl (lv_at hl 2 rfl) ?_
      refine lv_iload_n hx hb dL_any_40 rfl (lv_at hl 1 rfl) ?_
      refine L_ch (as := [.int a, .int b, .int a, .int b, .int a]) (rest := []) hF hE hA hP hD hS h0 hl.1 (uY_event l D I C Q y0 a b a b a hG) (cwV 5 hts gL_any_X8_event rfl rfl rfl (by decide +kernel) ⟨Nat.le_of_ble_eq_true rfl, Nat.le_of_ble_eq_true rfl⟩) rfl rfl (Nat.le_of_ble_eq_true rfl) dL_any_41 hcs13 (fun H locs r w1 hr hP hD hS => ?_)
      exact hend _ _ _ _ _ w1 hP hD hS dL_any_44 rfl (by rw [f_any, if_neg (fun h => absurd (e9.symm.trans h) (by decide)), if_pos e9]; exact hr)
    · refine lv_tableIn (off := 42) (tgt := 45) hx hb dL_any_3 (by rw [e9]; decide) (by rw [e9]; decide) (by rw [e9]; decide) (by decide) ?_
      refine lv_aload_n hx hb dL_any_45 rfl (lv_at hl 0 rfl) ?_
      refine lv_iload_n hx hb dL_any_46 rfl (lv_at hl 1 rfl) ?_
      refine L_ch (as := [.int a]) (rest := []) hF hE hA hP hD hS h0 hl.1 (uY_move l D I C Q y0 a hG) (cwV 1 hts gL_any_X8_move rfl rfl rfl (by decide +kernel) ⟨Nat.le_of_ble_eq_true rfl, Nat.le_of_ble_eq_true rfl⟩) rfl rfl (Nat.le_of_ble_eq_true rfl) dL_any_47 hcs13 (fun H locs r w1 hr hP hD hS => ?_)
      exact hend _ _ _ _ _ w1 hP hD hS dL_any_50 rfl (by rw [f_any, if_neg (fun h => absurd (e9.symm.trans h) (by decide)), if_neg (fun h => absurd (e9.symm.trans h) (by decide)), if_pos e9]; exact hr)
set_option maxHeartbeats 4000000 in
set_option maxRecDepth 100000 in
theorem c_L_event (l : Launch) (D : va_G) (I C Q : ClassId) (y0 : Nat) (a b : Int32) {xx : LV} (hG : uG xx) : KIe l D (tyL I C Q) yL_event wsL_event rmA [.ref y0, .int a, .int b] (uX I C Q y0 xx) 13 1166 (uRp I C Q y0 xx (f_ev xx.2.1 a b)) := by
  refine KIe.of (cc := cL_event) (maxL := 4) (rt := .int) (own := RL) (by decide) rfl rfl (Nat.le_of_ble_eq_true rfl) ?_
  intro p e s m below meth c A Q0 ls hx hb hml hown hts hE hA hP hD hS hl hend
  have hF : CallFix p m c cL_event 4 s ([.ref y0, .int a, .int b] : List Value).toArray wsL_event RL := ⟨hx, hb, hml, hown, hts⟩
  obtain ⟨fs, h0⟩ := uX_0 I C Q y0 xx
  have hcs : 0 ≤ (rmA).cells ∧ 0 ≤ (rmA).slots := ⟨Nat.zero_le _, Nat.zero_le _⟩
  have hcs13 : 0 + 13 ≤ (rmA).cells ∧ 0 + 1166 ≤ (rmA).slots := ⟨Nat.le_of_ble_eq_true rfl, Nat.le_of_ble_eq_true rfl⟩
  have hl : lv_has ls 4 [(0, .ref y0), (1, .int a), (2, .int b)] := hl
  have K87 : ∀ (H : Heap) (locs : List Loc) (ls : Array Slot), va_P D vwCl (uX I C Q y0 xx) H → va_D A (uX I C Q y0 xx) → va_S A s.heap H locs → lv_has ls 4 [(3, .int (f_tm xx.2.1 a b)), (0, .ref y0), (1, .int a), (2, .int b)] → W p l e rmA s m ([.ref y0, .int a, .int b] : List Value).toArray below meth c H locs 0 0 Q0 (F0 m 87 ls []) := by
    intro H locs ls hP hD hS hl
    refine lv_aload_n hx hb dL_event_87 rfl (lv_at hl 1 rfl) ?_
    refine lv_iload_n hx hb dL_event_88 rfl (lv_at hl 2 rfl) ?_
    refine lv_iconst (v := nI 5) hx hb dL_event_89 (by decide) ?_
    refine lv_ishr hx hb dL_event_90 ?_
    refine lv_bipush (v := nI 64) hx hb dL_event_91 (by decide) ?_
    refine L_s0 (as := [.int (a >>> ((nI 5) &&& 31)), .int (nI 64)]) (rest := [.ref y0]) hF hE hA hP hS hl.1 (c_L_up l D (tyL I C Q) (a >>> ((nI 5) &&& 31)) 64 (by decide) (by decide)) (va_cwS 2 hts gL_event_L_up rfl rfl rfl (by decide +kernel) ⟨Nat.le_of_ble_eq_true rfl, Nat.le_of_ble_eq_true rfl⟩) rfl rfl (Nat.le_of_ble_eq_true rfl) dL_event_93 hcs (fun H locs hP hS => ?_)
    refine lv_iload_n hx hb dL_event_96 rfl (lv_at hl 0 rfl) ?_
    refine lv_iload_n hx hb dL_event_97 rfl (lv_at hl 2 rfl) ?_
    refine lv_bipush (v := nI 11) hx hb dL_event_98 (by decide) ?_
    refine lv_ishr hx hb dL_event_100 ?_
    refine lv_bipush (v := nI 6) hx hb dL_event_101 (by decide) ?_
    refine L_s0 (as := [.int (a >>> ((nI 11) &&& 31)), .int (nI 6)]) (rest := [.int (f_tm xx.2.1 a b), .int (nI (u_p (a >>> ((nI 5) &&& 31)) 64)), .ref y0]) hF hE hA hP hS hl.1 (c_L_up l D (tyL I C Q) (a >>> ((nI 11) &&& 31)) 6 (by decide) (by decide)) (va_cwS 2 hts gL_event_L_up rfl rfl rfl (by decide +kernel) ⟨Nat.le_of_ble_eq_true rfl, Nat.le_of_ble_eq_true rfl⟩) rfl rfl (Nat.le_of_ble_eq_true rfl) dL_event_103 hcs (fun H locs hP hS => ?_)
    refine lv_iload_n hx hb dL_event_106 rfl (lv_at hl 3 rfl) ?_
    refine lv_iconst (v := nI 5) hx hb dL_event_107 (by decide) ?_
    refine lv_ishr hx hb dL_event_108 ?_
    refine lv_sipush (v := nI 201) hx hb dL_event_109 (by decide) ?_
    refine L_s0 (as := [.int (b >>> ((nI 5) &&& 31)), .int (nI 201)]) (rest := [.int (nI (u_p (a >>> ((nI 11) &&& 31)) 6)), .int (f_tm xx.2.1 a b), .int (nI (u_p (a >>> ((nI 5) &&& 31)) 64)), .ref y0]) hF hE hA hP hS hl.1 (c_L_up l D (tyL I C Q) (b >>> ((nI 5) &&& 31)) 201 (by decide) (by decide)) (va_cwS 2 hts gL_event_L_up rfl rfl rfl (by decide +kernel) ⟨Nat.le_of_ble_eq_true rfl, Nat.le_of_ble_eq_true rfl⟩) rfl rfl (Nat.le_of_ble_eq_true rfl) dL_event_112 hcs (fun H locs hP hS => ?_)
    refine lv_bipush (v := nI 100) hx hb dL_event_115 (by decide) ?_
    refine lv_isub hx hb dL_event_117 ?_
    refine lv_iload_n hx hb dL_event_118 rfl (lv_at hl 2 rfl) ?_
    refine lv_bipush (v := nI 14) hx hb dL_event_119 (by decide) ?_
    refine lv_ishr hx hb dL_event_121 ?_
    refine lv_iconst (v := nI 4) hx hb dL_event_122 (by decide) ?_
    refine L_s0 (as := [.int (a >>> ((nI 14) &&& 31)), .int (nI 4)]) (rest := [.int ((nI (u_p (b >>> ((nI 5) &&& 31)) 201)) - (nI 100)), .int (nI (u_p (a >>> ((nI 11) &&& 31)) 6)), .int (f_tm xx.2.1 a b), .int (nI (u_p (a >>> ((nI 5) &&& 31)) 64)), .ref y0]) hF hE hA hP hS hl.1 (c_L_up l D (tyL I C Q) (a >>> ((nI 14) &&& 31)) 4 (by decide) (by decide)) (va_cwS 2 hts gL_event_L_up rfl rfl rfl (by decide +kernel) ⟨Nat.le_of_ble_eq_true rfl, Nat.le_of_ble_eq_true rfl⟩) rfl rfl (Nat.le_of_ble_eq_true rfl) dL_event_123 hcs (fun H locs hP hS => ?_)
    refine L_ch (as := [.int (nI (u_p (a >>> ((nI 5) &&& 31)) 64)), .int (f_tm xx.2.1 a b), .int (nI (u_p (a >>> ((nI 11) &&& 31)) 6)), .int ((nI (u_p (b >>> ((nI 5) &&& 31)) 201)) - (nI 100)), .int (nI (u_p (a >>> ((nI 14) &&& 31)) 4))]) (rest := []) hF hE hA hP hD hS h0 hl.1 (uY_event l D I C Q y0 (nI (u_p (a >>> ((nI 5) &&& 31)) 64)) (f_tm xx.2.1 a b) (nI (u_p (a >>> ((nI 11) &&& 31)) 6)) ((nI (u_p (b >>> ((nI 5) &&& 31)) 201)) - (nI 100)) (nI (u_p (a >>> ((nI 14) &&& 31)) 4)) hG) (cwV 5 hts gL_event_X8_event rfl rfl rfl (by decide +kernel) ⟨Nat.le_of_ble_eq_true rfl, Nat.le_of_ble_eq_true rfl⟩) rfl rfl (Nat.le_of_ble_eq_true rfl) dL_event_126 hcs13 (fun H locs r w1 hr hP hD hS => ?_)
    exact hend _ _ _ _ _ w1 hP hD hS dL_event_129 rfl (by rw [f_ev]; exact hr)
  have K63 : ∀ (t : Int32), t = f_t0 xx.2.1 a b → ∀ (H : Heap) (locs : List Loc) (ls : Array Slot), va_P D vwCl (uX I C Q y0 xx) H → va_D A (uX I C Q y0 xx) → va_S A s.heap H locs → lv_has ls 4 [(0, .ref y0), (1, .int a), (2, .int b)] → W p l e rmA s m ([.ref y0, .int a, .int b] : List Value).toArray below meth c H locs 0 0 Q0 (F0 m 63 ls [.int t]) := by
    intro t ht H locs ls hP hD hS hl
    refine lv_istore_n (lv' := [(3, .int t), (0, .ref y0), (1, .int a), (2, .int b)]) hx hb dL_event_63 rfl hl (by decide) rfl (fun ls hl => ?_)
    refine lv_iload_n hx hb dL_event_64 rfl (lv_at hl 0 rfl) ?_
    refine lv_if_ge (tgt := 72) hx hb dL_event_65 (by decide) (fun c_65 => ?_) (fun c_65 => ?_)
    · refine lv_iload_n hx hb dL_event_72 rfl (lv_at hl 0 rfl) ?_
      refine lv_sipush (v := nI 1999) hx hb dL_event_73 (by decide) ?_
      refine lv_icmp_le (tgt := 85) hx hb dL_event_76 (by decide) (fun c_76 => ?_) (fun c_76 => ?_)
      · refine lv_iload_n hx hb dL_event_85 rfl (lv_at hl 0 rfl) ?_
        refine k_top (y := f_tm xx.2.1 a b) (by rw [f_tm, ← ht, if_pos c_65, if_pos c_76]) ?_
        refine lv_istore_n (lv' := [(3, .int (f_tm xx.2.1 a b)), (0, .ref y0), (1, .int a), (2, .int b)]) hx hb dL_event_86 rfl hl (by decide) rfl (fun ls hl => ?_)
        exact K87 H locs ls hP hD hS (lv_sub hl [0, 1, 2, 3] rfl)
      · refine lv_sipush (v := nI 1999) hx hb dL_event_79 (by decide) ?_
        refine lv_goto (tgt := 86) hx hb dL_event_82 (by decide) ?_
        refine k_top (y := f_tm xx.2.1 a b) (by rw [f_tm, ← ht, if_pos c_65, if_neg c_76]) ?_
        refine lv_istore_n (lv' := [(3, .int (f_tm xx.2.1 a b)), (0, .ref y0), (1, .int a), (2, .int b)]) hx hb dL_event_86 rfl hl (by decide) rfl (fun ls hl => ?_)
        exact K87 H locs ls hP hD hS (lv_sub hl [0, 1, 2, 3] rfl)
    · refine lv_iconst (v := nI 0) hx hb dL_event_68 (by decide) ?_
      refine lv_goto (tgt := 86) hx hb dL_event_69 (by decide) ?_
      refine k_top (y := f_tm xx.2.1 a b) (by rw [f_tm, ← ht, if_neg c_65]) ?_
      refine lv_istore_n (lv' := [(3, .int (f_tm xx.2.1 a b)), (0, .ref y0), (1, .int a), (2, .int b)]) hx hb dL_event_86 rfl hl (by decide) rfl (fun ls hl => ?_)
      exact K87 H locs ls hP hD hS (lv_sub hl [0, 1, 2, 3] rfl)
  refine lv_iload_n hx hb dL_event_0 rfl (lv_at hl 1 rfl) ?_
  refine lv_bipush (v := nI 7) hx hb dL_event_1 (by decide) ?_
  refine lv_iand hx hb dL_event_3 ?_
  refine lv_if_ne (tgt := 17) hx hb dL_event_4 (by decide) (fun c_4 => ?_) (fun c_4 => ?_)
  · refine lv_aload_n hx hb dL_event_17 rfl (lv_at hl 0 rfl) ?_
    refine lv_bipush (v := nI 6) hx hb dL_event_18 (by decide) ?_
    refine L_rd (as := [.int (nI 6)]) (rest := []) hF hE hA hP hD hS h0 hl.1 (rd_count l D I C Q y0 6 hG (by omega)) (cwV 1 hts gL_event_X8_count rfl rfl rfl (by decide +kernel) ⟨Nat.le_of_ble_eq_true rfl, Nat.le_of_ble_eq_true rfl⟩) rfl rfl (Nat.le_of_ble_eq_true rfl) dL_event_20 hcs (fun H locs hP hD hS => ?_)
    refine lv_if_ge (tgt := 35) hx hb dL_event_23 (by decide) (fun c_23 => ?_) (fun c_23 => ?_)
    · refine lv_aload_n hx hb dL_event_35 rfl (lv_at hl 0 rfl) ?_
      refine lv_bipush (v := nI 6) hx hb dL_event_36 (by decide) ?_
      refine L_rd (as := [.int (nI 6)]) (rest := []) hF hE hA hP hD hS h0 hl.1 (rd_count l D I C Q y0 6 hG (by omega)) (cwV 1 hts gL_event_X8_count rfl rfl rfl (by decide +kernel) ⟨Nat.le_of_ble_eq_true rfl, Nat.le_of_ble_eq_true rfl⟩) rfl rfl (Nat.le_of_ble_eq_true rfl) dL_event_38 hcs (fun H locs hP hD hS => ?_)
      refine lv_iload_n hx hb dL_event_41 rfl (lv_at hl 2 rfl) ?_
      refine lv_bipush (v := nI 24) hx hb dL_event_42 (by decide) ?_
      refine L_s0 (as := [.int b, .int (nI 24)]) (rest := [.int (q_cnt xx.2.1 6)]) hF hE hA hP hS hl.1 (c_L_up l D (tyL I C Q) b 24 (by decide) (by decide)) (va_cwS 2 hts gL_event_L_up rfl rfl rfl (by decide +kernel) ⟨Nat.le_of_ble_eq_true rfl, Nat.le_of_ble_eq_true rfl⟩) rfl rfl (Nat.le_of_ble_eq_true rfl) dL_event_44 hcs (fun H locs hP hS => ?_)
      refine lv_iadd hx hb dL_event_47 ?_
      refine lv_iload_n hx hb dL_event_48 rfl (lv_at hl 1 rfl) ?_
      refine lv_bipush (v := nI 24) hx hb dL_event_49 (by decide) ?_
      refine lv_iand hx hb dL_event_51 ?_
      refine lv_if_ne (tgt := 60) hx hb dL_event_52 (by decide) (fun c_52 => ?_) (fun c_52 => ?_)
      · refine lv_bipush (v := nI 8) hx hb dL_event_60 (by decide) ?_
        refine lv_isub hx hb dL_event_62 ?_
        exact K63 _ (by rw [f_t0, if_pos c_4, if_pos c_23, if_pos c_52]) H locs ls hP hD hS (lv_sub hl [0, 1, 2] rfl)
      · refine lv_bipush (v := nI 60) hx hb dL_event_55 (by decide) ?_
        refine lv_goto (tgt := 62) hx hb dL_event_57 (by decide) ?_
        refine lv_isub hx hb dL_event_62 ?_
        exact K63 _ (by rw [f_t0, if_pos c_4, if_pos c_23, if_neg (fun h => h c_52)]) H locs ls hP hD hS (lv_sub hl [0, 1, 2] rfl)
    · refine lv_iload_n hx hb dL_event_26 rfl (lv_at hl 2 rfl) ?_
      refine lv_bipush (v := nI 60) hx hb dL_event_27 (by decide) ?_
      refine L_s0 (as := [.int b, .int (nI 60)]) (rest := []) hF hE hA hP hS hl.1 (c_L_up l D (tyL I C Q) b 60 (by decide) (by decide)) (va_cwS 2 hts gL_event_L_up rfl rfl rfl (by decide +kernel) ⟨Nat.le_of_ble_eq_true rfl, Nat.le_of_ble_eq_true rfl⟩) rfl rfl (Nat.le_of_ble_eq_true rfl) dL_event_29 hcs (fun H locs hP hS => ?_)
      refine lv_goto (tgt := 63) hx hb dL_event_32 (by decide) ?_
      exact K63 _ (by rw [f_t0, if_pos c_4, if_neg c_23]) H locs ls hP hD hS (lv_sub hl [0, 1, 2] rfl)
  · refine lv_iload_n hx hb dL_event_7 rfl (lv_at hl 2 rfl) ?_
    refine lv_sipush (v := nI 400) hx hb dL_event_8 (by decide) ?_
    refine L_s0 (as := [.int b, .int (nI 400)]) (rest := []) hF hE hA hP hS hl.1 (c_L_up l D (tyL I C Q) b 400 (by decide) (by decide)) (va_cwS 2 hts gL_event_L_up rfl rfl rfl (by decide +kernel) ⟨Nat.le_of_ble_eq_true rfl, Nat.le_of_ble_eq_true rfl⟩) rfl rfl (Nat.le_of_ble_eq_true rfl) dL_event_11 hcs (fun H locs hP hS => ?_)
    refine lv_goto (tgt := 63) hx hb dL_event_14 (by decide) ?_
    exact K63 _ (by rw [f_t0, if_neg (fun h => h c_4)]) H locs ls hP hD hS (lv_sub hl [0, 1, 2] rfl)
set_option maxHeartbeats 4000000 in
set_option maxRecDepth 100000 in
theorem c_L_turn (l : Launch) (D : va_G) (I C Q : ClassId) (y0 : Nat) (w a b : Int32) {xx : LV} (hG : uG xx) : KIe l D (tyL I C Q) yL_turn wsL_turn rmT [.ref y0, .int w, .int a, .int b] (uX I C Q y0 xx) 13 1166 (uRp I C Q y0 xx (f_turn xx.2.1 w a b)) := by
  refine KIe.of (cc := cL_turn) (maxL := 4) (rt := .int) (own := RL) (by decide) rfl rfl (Nat.le_of_ble_eq_true rfl) ?_
  intro p e s m below meth c A Q0 ls hx hb hml hown hts hE hA hP hD hS hl hend
  have hF : CallFix p m c cL_turn 4 s ([.ref y0, .int w, .int a, .int b] : List Value).toArray wsL_turn RL := ⟨hx, hb, hml, hown, hts⟩
  obtain ⟨fs, h0⟩ := uX_0 I C Q y0 xx
  have hcs : 0 ≤ (rmT).cells ∧ 0 ≤ (rmT).slots := ⟨Nat.zero_le _, Nat.zero_le _⟩
  have hcs13 : 0 + 13 ≤ (rmT).cells ∧ 0 + 1166 ≤ (rmT).slots := ⟨Nat.le_of_ble_eq_true rfl, Nat.le_of_ble_eq_true rfl⟩
  have hl : lv_has ls 4 [(0, .ref y0), (1, .int w), (2, .int a), (3, .int b)] := hl
  refine lv_iload_n hx hb dL_turn_0 rfl (lv_at hl 1 rfl) ?_
  by_cases hsw : w.toInt < 0 ∨ 2 < w.toInt
  · obtain ⟨n0, n1, n2⟩ := i_swo hsw
    refine lv_tableOut (tgt := 75) hx hb dL_turn_1 hsw (by decide) ?_
    refine lv_aload_n hx hb dL_turn_75 rfl (lv_at hl 0 rfl) ?_
    refine lv_iload_n hx hb dL_turn_76 rfl (lv_at hl 2 rfl) ?_
    refine lv_iload_n hx hb dL_turn_77 rfl (lv_at hl 3 rfl) ?_
    refine L_sc (as := [.ref y0, .int a, .int b]) (rest := []) hF hE hA hP hD hS hl.1 (c_L_event l D I C Q y0 a b hG) (va_cwS 3 hts gL_turn_L_event rfl rfl rfl (by decide +kernel) ⟨Nat.le_of_ble_eq_true rfl, Nat.le_of_ble_eq_true rfl⟩) rfl rfl (Nat.le_of_ble_eq_true rfl) dL_turn_78 hcs13 (fun H locs r w1 hr hP hD hS => ?_)
    exact hend _ _ _ _ _ w1 hP hD hS dL_turn_81 rfl (by rw [f_turn, if_neg n0, if_neg n1, if_neg n2]; exact hr)
  · rcases i_sw hsw with e9 | e9 | e9
    · refine lv_tableIn (off := 27) (tgt := 28) hx hb dL_turn_1 (by rw [e9]; decide) (by rw [e9]; decide) (by rw [e9]; decide) (by decide) ?_
      refine lv_aload_n hx hb dL_turn_28 rfl (lv_at hl 0 rfl) ?_
      refine lv_iload_n hx hb dL_turn_29 rfl (lv_at hl 2 rfl) ?_
      refine lv_iconst (v := nI 3) hx hb dL_turn_30 (by decide) ?_
      refine L_s0 (as := [.int a, .int (nI 3)]) (rest := [.ref y0]) hF hE hA hP hS hl.1 (c_L_up l D (tyL I C Q) a 3 (by decide) (by decide)) (va_cwS 2 hts gL_turn_L_up rfl rfl rfl (by decide +kernel) ⟨Nat.le_of_ble_eq_true rfl, Nat.le_of_ble_eq_true rfl⟩) rfl rfl (Nat.le_of_ble_eq_true rfl) dL_turn_31 hcs (fun H locs hP hS => ?_)
      refine lv_iload_n hx hb dL_turn_34 rfl (lv_at hl 3 rfl) ?_
      refine lv_iload_n hx hb dL_turn_35 rfl (lv_at hl 2 rfl) ?_
      refine lv_iconst (v := nI 4) hx hb dL_turn_36 (by decide) ?_
      refine lv_iand hx hb dL_turn_37 ?_
      refine lv_if_ne (tgt := 46) hx hb dL_turn_38 (by decide) (fun c_38 => ?_) (fun c_38 => ?_)
      · refine lv_bipush (v := nI 101) hx hb dL_turn_46 (by decide) ?_
        refine L_s0 (as := [.int b, .int (nI 101)]) (rest := [.int (nI (u_p a 3)), .ref y0]) hF hE hA hP hS hl.1 (c_L_up l D (tyL I C Q) b 101 (by decide) (by decide)) (va_cwS 2 hts gL_turn_L_up rfl rfl rfl (by decide +kernel) ⟨Nat.le_of_ble_eq_true rfl, Nat.le_of_ble_eq_true rfl⟩) rfl rfl (Nat.le_of_ble_eq_true rfl) dL_turn_48 hcs (fun H locs hP hS => ?_)
        refine L_ch (as := [.int (nI (u_p a 3)), .int (nI (u_p b 101))]) (rest := []) hF hE hA hP hD hS h0 hl.1 (uY_set l D I C Q y0 (nI (u_p a 3)) (nI (u_p b 101)) hG) (cwV 2 hts gL_turn_X8_set rfl rfl rfl (by decide +kernel) ⟨Nat.le_of_ble_eq_true rfl, Nat.le_of_ble_eq_true rfl⟩) rfl rfl (Nat.le_of_ble_eq_true rfl) dL_turn_51 hcs13 (fun H locs r w1 hr hP hD hS => ?_)
        exact hend _ _ _ _ _ w1 hP hD hS dL_turn_54 rfl (by rw [f_turn, if_pos e9, if_pos c_38]; exact hr)
      · refine lv_bipush (v := nI 30) hx hb dL_turn_41 (by decide) ?_
        refine lv_goto (tgt := 48) hx hb dL_turn_43 (by decide) ?_
        refine L_s0 (as := [.int b, .int (nI 30)]) (rest := [.int (nI (u_p a 3)), .ref y0]) hF hE hA hP hS hl.1 (c_L_up l D (tyL I C Q) b 30 (by decide) (by decide)) (va_cwS 2 hts gL_turn_L_up rfl rfl rfl (by decide +kernel) ⟨Nat.le_of_ble_eq_true rfl, Nat.le_of_ble_eq_true rfl⟩) rfl rfl (Nat.le_of_ble_eq_true rfl) dL_turn_48 hcs (fun H locs hP hS => ?_)
        refine L_ch (as := [.int (nI (u_p a 3)), .int (nI (u_p b 30))]) (rest := []) hF hE hA hP hD hS h0 hl.1 (uY_set l D I C Q y0 (nI (u_p a 3)) (nI (u_p b 30)) hG) (cwV 2 hts gL_turn_X8_set rfl rfl rfl (by decide +kernel) ⟨Nat.le_of_ble_eq_true rfl, Nat.le_of_ble_eq_true rfl⟩) rfl rfl (Nat.le_of_ble_eq_true rfl) dL_turn_51 hcs13 (fun H locs r w1 hr hP hD hS => ?_)
        exact hend _ _ _ _ _ w1 hP hD hS dL_turn_54 rfl (by rw [f_turn, if_pos e9, if_neg (fun h => h c_38)]; exact hr)
    · refine lv_tableIn (off := 54) (tgt := 55) hx hb dL_turn_1 (by rw [e9]; decide) (by rw [e9]; decide) (by rw [e9]; decide) (by decide) ?_
      refine lv_aload_n hx hb dL_turn_55 rfl (lv_at hl 0 rfl) ?_
      refine lv_iconst (v := nI 1) hx hb dL_turn_56 (by decide) ?_
      refine lv_iload_n hx hb dL_turn_57 rfl (lv_at hl 3 rfl) ?_
      refine lv_bipush (v := nI 100) hx hb dL_turn_58 (by decide) ?_
      refine L_s0 (as := [.int b, .int (nI 100)]) (rest := [.int (nI 1), .ref y0]) hF hE hA hP hS hl.1 (c_L_up l D (tyL I C Q) b 100 (by decide) (by decide)) (va_cwS 2 hts gL_turn_L_up rfl rfl rfl (by decide +kernel) ⟨Nat.le_of_ble_eq_true rfl, Nat.le_of_ble_eq_true rfl⟩) rfl rfl (Nat.le_of_ble_eq_true rfl) dL_turn_60 hcs (fun H locs hP hS => ?_)
      refine lv_iadd hx hb dL_turn_63 ?_
      refine L_ch (as := [.int ((nI 1) + (nI (u_p b 100)))]) (rest := []) hF hE hA hP hD hS h0 hl.1 (uY_move l D I C Q y0 ((nI 1) + (nI (u_p b 100))) hG) (cwV 1 hts gL_turn_X8_move rfl rfl rfl (by decide +kernel) ⟨Nat.le_of_ble_eq_true rfl, Nat.le_of_ble_eq_true rfl⟩) rfl rfl (Nat.le_of_ble_eq_true rfl) dL_turn_64 hcs13 (fun H locs r w1 hr hP hD hS => ?_)
      exact hend _ _ _ _ _ w1 hP hD hS dL_turn_67 rfl (by rw [f_turn, if_neg (fun h => absurd (e9.symm.trans h) (by decide)), if_pos e9]; exact hr)
    · refine lv_tableIn (off := 67) (tgt := 68) hx hb dL_turn_1 (by rw [e9]; decide) (by rw [e9]; decide) (by rw [e9]; decide) (by decide) ?_
      refine lv_aload_n hx hb dL_turn_68 rfl (lv_at hl 0 rfl) ?_
      refine lv_iload_n hx hb dL_turn_69 rfl (lv_at hl 2 rfl) ?_
      refine lv_iload_n hx hb dL_turn_70 rfl (lv_at hl 3 rfl) ?_
      refine L_sc (as := [.ref y0, .int a, .int b]) (rest := []) hF hE hA hP hD hS hl.1 (c_L_any l D I C Q y0 a b hG) (va_cwS 3 hts gL_turn_L_any rfl rfl rfl (by decide +kernel) ⟨Nat.le_of_ble_eq_true rfl, Nat.le_of_ble_eq_true rfl⟩) rfl rfl (Nat.le_of_ble_eq_true rfl) dL_turn_71 hcs13 (fun H locs r w1 hr hP hD hS => ?_)
      exact hend _ _ _ _ _ w1 hP hD hS dL_turn_74 rfl (by rw [f_turn, if_neg (fun h => absurd (e9.symm.trans h) (by decide)), if_neg (fun h => absurd (e9.symm.trans h) (by decide)), if_pos e9]; exact hr)
