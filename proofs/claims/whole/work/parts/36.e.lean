section LAW
variable {p : Program} {l : Launch} {e : Env} {s : State} {m : MethodId} {below : List Frame} {meth : Method} {c : Code} {b L : Nat} {xs : Nat → Int32} {Q : State → Prop}
variable {H : Heap} {locs : List Loc} {cells slots : Nat} {ls : Array Slot} {D : va_G} {I C Q9 : ClassId} {y0 a0 i : Nat}
set_option maxHeartbeats 4000000 in
set_option maxRecDepth 100000 in
/-- the law's loop, from its head -/
theorem law_loop (F : lwF p s m c b L xs D I C Q9) (hL : L ≤ 3072)
    (kx : ∀ (H : Heap) (locs : List Loc) (ls : Array Slot) (cells slots : Nat), cells ≤ 600000 → slots ≤ 7302249 → va_S (lA s) s.heap H locs → W p l e room_1 s m #[Value.ref b] below meth c H locs cells slots Q (F0 m 694 ls [])) :
    ∀ (n i : Nat) (H : Heap) (locs : List Loc) (ls : Array Slot) (cells slots : Nat), i ≤ 6000 → L < i + 6 * (n + 1) → cells + 13 * n ≤ 600000 → slots + 1166 * n ≤ 7302249 → uI D I C Q9 y0 a0 (lA s) H → va_S (lA s) s.heap H locs → lv_has ls 4 (lvs b y0 a0 i) → W p l e room_1 s m #[Value.ref b] below meth c H locs cells slots Q (F0 m 18 ls []) := by
  intro n
  induction n with
  | zero =>
    intro i H locs ls cells slots hi6 hn hc hsl hI hS hl
    obtain ⟨hx, hb, hml, hown, hts, hX, hbl, hE⟩ := id F
    refine lv_iload_n hx hb dL_law_18 rfl (lv_at hl 0 rfl) ?_
    refine lv_aload_n hx hb dL_law_19 rfl (lv_at hl 3 rfl) ?_
    refine va_slen hx hb hX hbl (Nat.not_le.mpr hbl) hS dL_law_20 ?_
    refine lv_bipush (v := nI 6) hx hb dL_law_21 (by decide) ?_
    refine lv_isub hx hb dL_law_23 ?_
    refine lv_icmp_gt (tgt := 694) hx hb dL_law_24 (by decide) (fun _ => kx H locs ls cells slots (by omega) (by omega) hS) (fun h => ?_)
    refine absurd ?_ h
    have e1 : (nI L - nI 6).toInt = (L : Int) - ((6 : Nat) : Int) := pk_sub_toInt (by omega) (by omega)
    show nI L - nI 6 < nI i
    rw [Int32.lt_iff_toInt_lt, e1, nI_toInt (by omega)]
    omega
  | succ n ih =>
    intro i H locs ls cells slots hi6 hn hc hsl hI hS hl
    obtain ⟨hx, hb, hml, hown, hts, hX, hbl, hE⟩ := id F
    refine lv_iload_n hx hb dL_law_18 rfl (lv_at hl 0 rfl) ?_
    refine lv_aload_n hx hb dL_law_19 rfl (lv_at hl 3 rfl) ?_
    refine va_slen hx hb hX hbl (Nat.not_le.mpr hbl) hS dL_law_20 ?_
    refine lv_bipush (v := nI 6) hx hb dL_law_21 (by decide) ?_
    refine lv_isub hx hb dL_law_23 ?_
    refine lv_icmp_gt (tgt := 694) hx hb dL_law_24 (by decide) (fun _ => kx H locs ls cells slots (by omega) (by omega) hS) (fun h => ?_)
    have e1 : (nI L - nI 6).toInt = (L : Int) - ((6 : Nat) : Int) := pk_sub_toInt (by omega) (by omega)
    have h : ¬ nI L - nI 6 < nI i := h
    rw [Int32.lt_iff_toInt_lt, e1, nI_toInt (by omega)] at h
    have hi : i + 6 ≤ L := by omega
    refine lv_aload_n hx hb dL_law_27 rfl (lv_at hl 3 rfl) ?_
    refine lv_iload_n hx hb dL_law_28 rfl (lv_at hl 0 rfl) ?_
    refine va_sld hx hb hX hbl (Nat.not_le.mpr hbl) hS (k_vpin (j := i) rfl (by omega) (by omega)) dL_law_29 ?_
    refine lv_bipush (v := 31) hx hb dL_law_30 (by decide) ?_
    refine lv_iand hx hb dL_law_32 ?_
    refine lv_topi (fun v hv => ?_)
    clear hv
    have again : ∀ (H1 : Heap) (locs1 : List Loc), uI D I C Q9 y0 a0 (lA s) H1 → va_S (lA s) s.heap H1 locs1 → W p l e room_1 s m #[Value.ref b] below meth c H1 locs1 (cells + 13) (slots + 1166) Q (F0 m 688 ls []) := fun H1 locs1 hI1 hS1 => by
      refine lv_iinc (v := nI (i + 6)) (lv' := lvs b y0 a0 (i + 6)) hx hb dL_law_688 hl (k := 0) rfl (nI_add i 6) (by decide) rfl (fun ls1 hl1 => ?_)
      refine lv_goto (tgt := 18) hx hb dL_law_691 (by decide) ?_
      exact ih (i + 6) H1 locs1 ls1 (cells + 13) (slots + 1166) (by omega) (by omega) (by omega) (by omega) hI1 hS1 hl1
    by_cases hout : v.toInt < 0 ∨ 19 < v.toInt
    · refine lv_tableOut (tgt := 688) hx hb dL_law_33 hout (by decide) ?_
      exact W.widen (Nat.le_add_right _ _) (Nat.le_add_right _ _) (again H locs hI hS)
    · have hcs : cells + 13 ≤ 600000 ∧ slots + 1166 ≤ 7302249 := ⟨by omega, by omega⟩
      obtain ⟨q, hq, rfl⟩ : ∃ q : Nat, q < 20 ∧ v = nI q := by
        refine ⟨v.toInt.toNat, by omega, ?_⟩
        rw [← Int32.toInt_inj, nI_toInt (by omega)]
        omega
      rcases (show q = 0 ∨ q = 1 ∨ q = 2 ∨ q = 3 ∨ q = 4 ∨ q = 5 ∨ q = 6 ∨ q = 7 ∨ q = 8 ∨ q = 9 ∨ q = 10 ∨ q = 11 ∨ q = 12 ∨ q = 13 ∨ q = 14 ∨ q = 15 ∨ q = 16 ∨ q = 17 ∨ q = 18 ∨ q = 19 by omega) with rfl | rfl | rfl | rfl | rfl | rfl | rfl | rfl | rfl | rfl | rfl | rfl | rfl | rfl | rfl | rfl | rfl | rfl | rfl | rfl
      · refine lv_tableIn (off := 95) (tgt := 128) hx hb dL_law_33 (by decide) (by decide) (by decide) (by decide) ?_
        exact law_k_set F hL hi hI hS hl hcs again
      · refine lv_tableIn (off := 128) (tgt := 161) hx hb dL_law_33 (by decide) (by decide) (by decide) (by decide) ?_
        exact law_k_event F hL hi hI hS hl hcs again
      · refine lv_tableIn (off := 191) (tgt := 224) hx hb dL_law_33 (by decide) (by decide) (by decide) (by decide) ?_
        exact law_k_move F hL hi hI hS hl hcs again
      · refine lv_tableIn (off := 214) (tgt := 247) hx hb dL_law_33 (by decide) (by decide) (by decide) (by decide) ?_
        exact law_k_paneOf F hL hi hI hS hl hcs again
      · refine lv_tableIn (off := 247) (tgt := 280) hx hb dL_law_33 (by decide) (by decide) (by decide) (by decide) ?_
        exact law_k_mean F hL hi hI hS hl hcs again
      · refine lv_tableIn (off := 270) (tgt := 303) hx hb dL_law_33 (by decide) (by decide) (by decide) (by decide) ?_
        exact law_k_standing F hL hi hI hS hl hcs again
      · refine lv_tableIn (off := 303) (tgt := 336) hx hb dL_law_33 (by decide) (by decide) (by decide) (by decide) ?_
        exact law_k_nextPane F hL hi hI hS hl hcs again
      · refine lv_tableIn (off := 326) (tgt := 359) hx hb dL_law_33 (by decide) (by decide) (by decide) (by decide) ?_
        exact law_k_wordAt F hL hi hI hS hl hcs again
      · refine lv_tableIn (off := 359) (tgt := 392) hx hb dL_law_33 (by decide) (by decide) (by decide) (by decide) ?_
        exact law_k_eventOf F hL hi hI hS hl hcs again
      · refine lv_tableIn (off := 392) (tgt := 425) hx hb dL_law_33 (by decide) (by decide) (by decide) (by decide) ?_
        exact law_k_judge F hL hi hI hS hl hcs again
      · refine lv_tableIn (off := 435) (tgt := 468) hx hb dL_law_33 (by decide) (by decide) (by decide) (by decide) ?_
        exact law_k_lateness F hL hi hI hS hl hcs again
      · refine lv_tableIn (off := 458) (tgt := 491) hx hb dL_law_33 (by decide) (by decide) (by decide) (by decide) ?_
        exact law_k_latestExcused F hL hi hI hS hl hcs again
      · refine lv_tableIn (off := 491) (tgt := 524) hx hb dL_law_33 (by decide) (by decide) (by decide) (by decide) ?_
        exact law_k_filed F hL hi hI hS hl hcs again
      · refine lv_tableIn (off := 524) (tgt := 557) hx hb dL_law_33 (by decide) (by decide) (by decide) (by decide) ?_
        exact law_k_trust F hL hi hI hS hl hcs again
      · refine lv_tableIn (off := 547) (tgt := 580) hx hb dL_law_33 (by decide) (by decide) (by decide) (by decide) ?_
        exact law_k_count F hL hi hI hS hl hcs again
      · refine lv_tableIn (off := 570) (tgt := 603) hx hb dL_law_33 (by decide) (by decide) (by decide) (by decide) ?_
        exact law_k_undo F hL hi hI hS hl hcs again
      · refine lv_tableIn (off := 583) (tgt := 616) hx hb dL_law_33 (by decide) (by decide) (by decide) (by decide) ?_
        exact law_k_type F hL hi hI hS hl hcs again
      · refine lv_tableIn (off := 606) (tgt := 639) hx hb dL_law_33 (by decide) (by decide) (by decide) (by decide) ?_
        exact law_k_clearText F hL hi hI hS hl hcs again
      · refine lv_tableIn (off := 619) (tgt := 652) hx hb dL_law_33 (by decide) (by decide) (by decide) (by decide) ?_
        exact law_k_fault F hL hi hI hS hl hcs again
      · refine lv_tableIn (off := 642) (tgt := 675) hx hb dL_law_33 (by decide) (by decide) (by decide) (by decide) ?_
        exact law_k_play F hL hi hI hS hl hcs again
end LAW
