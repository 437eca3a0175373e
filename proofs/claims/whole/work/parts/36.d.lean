section LAW
variable {p : Program} {l : Launch} {e : Env} {s : State} {m : MethodId} {below : List Frame} {meth : Method} {c : Code} {b L : Nat} {xs : Nat → Int32} {Q : State → Prop}
variable {H : Heap} {locs : List Loc} {cells slots : Nat} {ls : Array Slot} {D : va_G} {I C Q9 : ClassId} {y0 a0 i : Nat}
set_option maxHeartbeats 4000000 in
set_option maxRecDepth 100000 in
theorem law_k_count (F : lwF p s m c b L xs D I C Q9) (hL : L ≤ 3072) (hi : i + 6 ≤ L) (hI : uI D I C Q9 y0 a0 (lA s) H) (hS : va_S (lA s) s.heap H locs) (hl : lv_has ls 4 (lvs b y0 a0 i)) (hcs : cells + 13 ≤ 600000 ∧ slots + 1166 ≤ 7302249) (kk : ∀ (H1 : Heap) (locs1 : List Loc), uI D I C Q9 y0 a0 (lA s) H1 → va_S (lA s) s.heap H1 locs1 → W p l e room_1 s m #[Value.ref b] below meth c H1 locs1 (cells + 13) (slots + 1166) Q (F0 m 688 ls [])) : W p l e room_1 s m #[Value.ref b] below meth c H locs cells slots Q (F0 m 580 ls []) := by
  obtain ⟨mm, x, hR, hP, hD⟩ := hI
  refine lv_aload_n F.1 F.2.1 dL_law_580 rfl (lv_at hl 2 rfl) ?_
  refine law_ld F hL hi hS hl 1 (by omega) dL_law_581 dL_law_582 dL_law_583 rfl dL_law_584 dL_law_585 ?_
  refine law_c8 F hS hl.1 hP hD (uQ_count l D I C Q9 y0 a0 _ mm x hR) (cwV 1 F.2.2.2.2.1 gL_law_X8_count rfl rfl rfl (by decide +kernel) ⟨Nat.le_of_ble_eq_true rfl, Nat.le_of_ble_eq_true rfl⟩) rfl dL_law_586 rfl hcs (fun H locs r mm1 x1 h9 hR hP hD hS => ?_)
  refine lv_aload_n F.1 F.2.1 dL_law_589 rfl (lv_at hl 1 rfl) ?_
  refine law_ld F hL hi hS hl 1 (by omega) dL_law_590 dL_law_591 dL_law_592 rfl dL_law_593 dL_law_594 ?_
  refine law_c9 F hS hl.1 hP hD h9 hR (cwV 1 F.2.2.2.2.1 gL_law_X9_count rfl rfl rfl (by decide +kernel) ⟨Nat.le_of_ble_eq_true rfl, Nat.le_of_ble_eq_true rfl⟩) rfl dL_law_595 rfl hcs (fun H locs hI hS => ?_)
  exact lv_icmp_eq (tgt := 688) F.1 F.2.1 dL_law_598 (by decide) (fun _ => kk H locs hI hS) (fun h => absurd rfl h)
set_option maxHeartbeats 4000000 in
set_option maxRecDepth 100000 in
theorem law_k_undo (F : lwF p s m c b L xs D I C Q9) (hL : L ≤ 3072) (hi : i + 6 ≤ L) (hI : uI D I C Q9 y0 a0 (lA s) H) (hS : va_S (lA s) s.heap H locs) (hl : lv_has ls 4 (lvs b y0 a0 i)) (hcs : cells + 13 ≤ 600000 ∧ slots + 1166 ≤ 7302249) (kk : ∀ (H1 : Heap) (locs1 : List Loc), uI D I C Q9 y0 a0 (lA s) H1 → va_S (lA s) s.heap H1 locs1 → W p l e room_1 s m #[Value.ref b] below meth c H1 locs1 (cells + 13) (slots + 1166) Q (F0 m 688 ls [])) : W p l e room_1 s m #[Value.ref b] below meth c H locs cells slots Q (F0 m 603 ls []) := by
  obtain ⟨mm, x, hR, hP, hD⟩ := hI
  refine lv_aload_n F.1 F.2.1 dL_law_603 rfl (lv_at hl 2 rfl) ?_
  refine law_c8 F hS hl.1 hP hD (uQ_undo l D I C Q9 y0 a0  mm x hR) (cwV 0 F.2.2.2.2.1 gL_law_X8_undo rfl rfl rfl (by decide +kernel) ⟨Nat.le_of_ble_eq_true rfl, Nat.le_of_ble_eq_true rfl⟩) rfl dL_law_604 rfl hcs (fun H locs r mm1 x1 h9 hR hP hD hS => ?_)
  refine lv_aload_n F.1 F.2.1 dL_law_607 rfl (lv_at hl 1 rfl) ?_
  refine law_c9 F hS hl.1 hP hD h9 hR (cwV 0 F.2.2.2.2.1 gL_law_X9_undo rfl rfl rfl (by decide +kernel) ⟨Nat.le_of_ble_eq_true rfl, Nat.le_of_ble_eq_true rfl⟩) rfl dL_law_608 rfl hcs (fun H locs hI hS => ?_)
  exact lv_icmp_eq (tgt := 688) F.1 F.2.1 dL_law_611 (by decide) (fun _ => kk H locs hI hS) (fun h => absurd rfl h)
set_option maxHeartbeats 4000000 in
set_option maxRecDepth 100000 in
theorem law_k_type (F : lwF p s m c b L xs D I C Q9) (hL : L ≤ 3072) (hi : i + 6 ≤ L) (hI : uI D I C Q9 y0 a0 (lA s) H) (hS : va_S (lA s) s.heap H locs) (hl : lv_has ls 4 (lvs b y0 a0 i)) (hcs : cells + 13 ≤ 600000 ∧ slots + 1166 ≤ 7302249) (kk : ∀ (H1 : Heap) (locs1 : List Loc), uI D I C Q9 y0 a0 (lA s) H1 → va_S (lA s) s.heap H1 locs1 → W p l e room_1 s m #[Value.ref b] below meth c H1 locs1 (cells + 13) (slots + 1166) Q (F0 m 688 ls [])) : W p l e room_1 s m #[Value.ref b] below meth c H locs cells slots Q (F0 m 616 ls []) := by
  obtain ⟨mm, x, hR, hP, hD⟩ := hI
  refine lv_aload_n F.1 F.2.1 dL_law_616 rfl (lv_at hl 2 rfl) ?_
  refine law_ld F hL hi hS hl 1 (by omega) dL_law_617 dL_law_618 dL_law_619 rfl dL_law_620 dL_law_621 ?_
  refine law_c8 F hS hl.1 hP hD (uQ_type l D I C Q9 y0 a0 _ mm x hR) (cwV 1 F.2.2.2.2.1 gL_law_X8_type rfl rfl rfl (by decide +kernel) ⟨Nat.le_of_ble_eq_true rfl, Nat.le_of_ble_eq_true rfl⟩) rfl dL_law_622 rfl hcs (fun H locs r mm1 x1 h9 hR hP hD hS => ?_)
  refine lv_aload_n F.1 F.2.1 dL_law_625 rfl (lv_at hl 1 rfl) ?_
  refine law_ld F hL hi hS hl 1 (by omega) dL_law_626 dL_law_627 dL_law_628 rfl dL_law_629 dL_law_630 ?_
  refine law_c9 F hS hl.1 hP hD h9 hR (cwV 1 F.2.2.2.2.1 gL_law_X9_type rfl rfl rfl (by decide +kernel) ⟨Nat.le_of_ble_eq_true rfl, Nat.le_of_ble_eq_true rfl⟩) rfl dL_law_631 rfl hcs (fun H locs hI hS => ?_)
  exact lv_icmp_eq (tgt := 688) F.1 F.2.1 dL_law_634 (by decide) (fun _ => kk H locs hI hS) (fun h => absurd rfl h)
set_option maxHeartbeats 4000000 in
set_option maxRecDepth 100000 in
theorem law_k_clearText (F : lwF p s m c b L xs D I C Q9) (hL : L ≤ 3072) (hi : i + 6 ≤ L) (hI : uI D I C Q9 y0 a0 (lA s) H) (hS : va_S (lA s) s.heap H locs) (hl : lv_has ls 4 (lvs b y0 a0 i)) (hcs : cells + 13 ≤ 600000 ∧ slots + 1166 ≤ 7302249) (kk : ∀ (H1 : Heap) (locs1 : List Loc), uI D I C Q9 y0 a0 (lA s) H1 → va_S (lA s) s.heap H1 locs1 → W p l e room_1 s m #[Value.ref b] below meth c H1 locs1 (cells + 13) (slots + 1166) Q (F0 m 688 ls [])) : W p l e room_1 s m #[Value.ref b] below meth c H locs cells slots Q (F0 m 639 ls []) := by
  obtain ⟨mm, x, hR, hP, hD⟩ := hI
  refine lv_aload_n F.1 F.2.1 dL_law_639 rfl (lv_at hl 2 rfl) ?_
  refine law_c8 F hS hl.1 hP hD (uQ_clearText l D I C Q9 y0 a0  mm x hR) (cwV 0 F.2.2.2.2.1 gL_law_X8_clearText rfl rfl rfl (by decide +kernel) ⟨Nat.le_of_ble_eq_true rfl, Nat.le_of_ble_eq_true rfl⟩) rfl dL_law_640 rfl hcs (fun H locs r mm1 x1 h9 hR hP hD hS => ?_)
  refine lv_aload_n F.1 F.2.1 dL_law_643 rfl (lv_at hl 1 rfl) ?_
  refine law_c9 F hS hl.1 hP hD h9 hR (cwV 0 F.2.2.2.2.1 gL_law_X9_clearText rfl rfl rfl (by decide +kernel) ⟨Nat.le_of_ble_eq_true rfl, Nat.le_of_ble_eq_true rfl⟩) rfl dL_law_644 rfl hcs (fun H locs hI hS => ?_)
  exact lv_icmp_eq (tgt := 688) F.1 F.2.1 dL_law_647 (by decide) (fun _ => kk H locs hI hS) (fun h => absurd rfl h)
set_option maxHeartbeats 4000000 in
set_option maxRecDepth 100000 in
theorem law_k_fault (F : lwF p s m c b L xs D I C Q9) (hL : L ≤ 3072) (hi : i + 6 ≤ L) (hI : uI D I C Q9 y0 a0 (lA s) H) (hS : va_S (lA s) s.heap H locs) (hl : lv_has ls 4 (lvs b y0 a0 i)) (hcs : cells + 13 ≤ 600000 ∧ slots + 1166 ≤ 7302249) (kk : ∀ (H1 : Heap) (locs1 : List Loc), uI D I C Q9 y0 a0 (lA s) H1 → va_S (lA s) s.heap H1 locs1 → W p l e room_1 s m #[Value.ref b] below meth c H1 locs1 (cells + 13) (slots + 1166) Q (F0 m 688 ls [])) : W p l e room_1 s m #[Value.ref b] below meth c H locs cells slots Q (F0 m 652 ls []) := by
  obtain ⟨mm, x, hR, hP, hD⟩ := hI
  refine lv_aload_n F.1 F.2.1 dL_law_652 rfl (lv_at hl 2 rfl) ?_
  refine law_ld F hL hi hS hl 1 (by omega) dL_law_653 dL_law_654 dL_law_655 rfl dL_law_656 dL_law_657 ?_
  refine law_c8 F hS hl.1 hP hD (uQ_fault l D I C Q9 y0 a0 _ mm x hR) (cwV 1 F.2.2.2.2.1 gL_law_X8_fault rfl rfl rfl (by decide +kernel) ⟨Nat.le_of_ble_eq_true rfl, Nat.le_of_ble_eq_true rfl⟩) rfl dL_law_658 rfl hcs (fun H locs r mm1 x1 h9 hR hP hD hS => ?_)
  refine lv_aload_n F.1 F.2.1 dL_law_661 rfl (lv_at hl 1 rfl) ?_
  refine law_ld F hL hi hS hl 1 (by omega) dL_law_662 dL_law_663 dL_law_664 rfl dL_law_665 dL_law_666 ?_
  refine law_c9 F hS hl.1 hP hD h9 hR (cwV 1 F.2.2.2.2.1 gL_law_X9_fault rfl rfl rfl (by decide +kernel) ⟨Nat.le_of_ble_eq_true rfl, Nat.le_of_ble_eq_true rfl⟩) rfl dL_law_667 rfl hcs (fun H locs hI hS => ?_)
  exact lv_icmp_eq (tgt := 688) F.1 F.2.1 dL_law_670 (by decide) (fun _ => kk H locs hI hS) (fun h => absurd rfl h)
set_option maxHeartbeats 4000000 in
set_option maxRecDepth 100000 in
theorem law_k_play (F : lwF p s m c b L xs D I C Q9) (hL : L ≤ 3072) (hi : i + 6 ≤ L) (hI : uI D I C Q9 y0 a0 (lA s) H) (hS : va_S (lA s) s.heap H locs) (hl : lv_has ls 4 (lvs b y0 a0 i)) (hcs : cells + 13 ≤ 600000 ∧ slots + 1166 ≤ 7302249) (kk : ∀ (H1 : Heap) (locs1 : List Loc), uI D I C Q9 y0 a0 (lA s) H1 → va_S (lA s) s.heap H1 locs1 → W p l e room_1 s m #[Value.ref b] below meth c H1 locs1 (cells + 13) (slots + 1166) Q (F0 m 688 ls [])) : W p l e room_1 s m #[Value.ref b] below meth c H locs cells slots Q (F0 m 675 ls []) := by
  obtain ⟨mm, x, hR, hP, hD⟩ := hI
  refine lv_aload_n F.1 F.2.1 dL_law_675 rfl (lv_at hl 2 rfl) ?_
  refine law_c8 F hS hl.1 hP hD (uQ_play l D I C Q9 y0 a0  mm x hR) (cwV 0 F.2.2.2.2.1 gL_law_X8_play rfl rfl rfl (by decide +kernel) ⟨Nat.le_of_ble_eq_true rfl, Nat.le_of_ble_eq_true rfl⟩) rfl dL_law_676 rfl hcs (fun H locs r mm1 x1 h9 hR hP hD hS => ?_)
  refine lv_aload_n F.1 F.2.1 dL_law_679 rfl (lv_at hl 1 rfl) ?_
  refine law_c9 F hS hl.1 hP hD h9 hR (cwV 0 F.2.2.2.2.1 gL_law_X9_play rfl rfl rfl (by decide +kernel) ⟨Nat.le_of_ble_eq_true rfl, Nat.le_of_ble_eq_true rfl⟩) rfl dL_law_680 rfl hcs (fun H locs hI hS => ?_)
  exact lv_icmp_eq (tgt := 688) F.1 F.2.1 dL_law_683 (by decide) (fun _ => kk H locs hI hS) (fun h => absurd rfl h)
end LAW
