set_option maxHeartbeats 400000 in
set_option maxRecDepth 100000 in
theorem c_X1_latestIn (l : Launch) (D : va_G) (I C Q : ClassId) (c0 e0 e1 e2 p0 p1 p2 w0 w1 w2 g0 g1 g2 : Nat) (ev : Nat → Int32) (dbl : Int32) (pn : Nat → Int32) (us : Int32) (wd : Nat → Int32) (kp : Int32) (tl : Int32) (tk : Int32) (cb : Nat → Int32) (z : Nat) (lg : Int32) (gr : Int32) (wt : Int32) (lt : Int32) (mv : Int32) (b : Nat) (key : Int32) (x : Int32) (hz0 : 0 < z) (hz1 : z ≤ 100) (hbb : b < 2000) (hbe : (b + 1) * z ≤ 2000) : KI l D (tyL I C Q) yX1_latestIn wsX1_latestIn { frames := 4, cells := 0, slots := 0, locals := 93 } [.ref c0, .int (nI b), .int key, .int x] (wC I c0 e0 e1 e2 p0 p1 p2 w0 w1 w2 g0 g1 g2 ev dbl pn us wd kp tl tk cb (nI z) lg gr wt lt mv) (wC I c0 e0 e1 e2 p0 p1 p2 w0 w1 w2 g0 g1 g2 ev dbl pn us wd kp tl tk cb (nI z) lg gr wt lt mv) (c_li ev wt z b key x) := by
  refine KI.of (cc := cX1_latestIn) (maxL := 6) (rt := .int) (own := RX1) (by decide) rfl rfl (Nat.le_of_ble_eq_true rfl) ?_
  intro p e s m below meth c A Q0 ls hx hb hml hown hts hE hA hP hD hS hl hend
  have hK := hE.1
  have hF : CallFix p m c cX1_latestIn 6 s [.ref c0, .int (nI b), .int key, .int x].toArray wsX1_latestIn RX1 := ⟨hx, hb, hml, hown, hts⟩
  have k0 := hts (.fieldLink RX1 32 "LateExcuses$Court" "size" "I") (List.mem_of_getElem? (i := 1) rfl)
  have k1 := hts (.methodLink RX1 109 Lib.Math.max.name) (List.mem_of_getElem? (i := 2) rfl)
  have k2 := hts (.static Lib.Math.max.name) (List.mem_of_getElem? (i := 3) rfl)
  have k3 := hts (.initialized "java/lang/Math") (List.mem_of_getElem? (i := 4) rfl)
  have k4 := hts (.code Lib.Math.max.name Lib.Math.max.code 2 (some .int)) (List.mem_of_getElem? (i := 5) rfl)
  have k5 := hts (.constant RX1 108 (-1000004)) (List.mem_of_getElem? (i := 6) rfl)
  have u1 : ∀ w ∈ u_ws RX1 TX1 9, w ∈ wsX1_latestIn := by decide +kernel
  have hl : lv_has ls 6 [(0, .ref c0), (1, .int (nI b)), (2, .int key), (3, .int x)] := hl
  refine lv_iload_n hx hb dX1_latestIn_0 rfl (lv_at hl 1 rfl) ?_
  refine lv_aload_n hx hb dX1_latestIn_1 rfl (lv_at hl 0 rfl) ?_
  refine va_get (D := D) (ci := 1) (v := .int (nI z)) (C := RX1) (T := TX1) (N := 9) hx hb hts u1 hown hK hP 0 rfl rfl 3 (by decide) k0 (fun _ h9 => h9) rfl dX1_latestIn_2 ?_
  refine k_imul (v := nI (b * z)) hx hb dX1_latestIn_5 (k_mul b z) ?_
  refine lv_aload_n hx hb dX1_latestIn_6 rfl (lv_at hl 0 rfl) ?_
  refine lv_iload_n hx hb dX1_latestIn_7 rfl (lv_at hl 1 rfl) ?_
  refine k_iF (va_runV (As := [.int (nI b)]) (rest := [.int (nI (b * z))]) hF (c_X1_endOfN l D I C Q c0 e0 e1 e2 p0 p1 p2 w0 w1 w2 g0 g1 g2 ev dbl pn us wd kp tl tk cb z lg gr wt lt mv b _) (cwV 1 hts gX1_latestIn_X1_endOf rfl rfl rfl (by decide +kernel) ⟨Nat.le_of_ble_eq_true rfl, Nat.le_of_ble_eq_true rfl⟩) (kPreV hE hP hD (ci := 1) (q0 := 0) rfl rfl) rfl rfl hl.1 rfl (lv_room (Nat.le_of_ble_eq_true rfl)) dX1_latestIn_8 ⟨Nat.zero_le _, Nat.zero_le _⟩) hD hS hA (fun H locs hP hD hS => ?_)
  refine lv_bipush (v := 7) hx hb dX1_latestIn_11 (by decide) ?_
  refine lv_isub hx hb dX1_latestIn_13 ?_
  refine va_mmax hx hb (hml.trans hl.1.symm) hown k1 k2 k3 k4 (Nat.le_of_ble_eq_true rfl) (Nat.le_of_ble_eq_true rfl) (Nat.zero_le _) (Nat.zero_le _) dX1_latestIn_14 ?_
  obtain ⟨F, hF7⟩ : ∃ F, F = (b + 1) * z - c_m7 z := ⟨_, rfl⟩
  have hm7 : c_m7 z ≤ (b + 1) * z := c_m7_le
  refine k_top (y := nI F) ((c_end7 hz0 hz1 hbb).trans (by rw [hF7])) ?_
  refine lv_istore (lv' := [(4, .int (nI F)), (0, .ref c0), (1, .int (nI b)), (2, .int key), (3, .int x)]) hx hb dX1_latestIn_17 hl (by decide) rfl (fun ls hl => ?_)
  refine lv_aload_n hx hb dX1_latestIn_19 rfl (lv_at hl 1 rfl) ?_
  refine lv_iload_n hx hb dX1_latestIn_20 rfl (lv_at hl 2 rfl) ?_
  refine k_iF (va_runV (As := [.int (nI b)]) (rest := []) hF (c_X1_endOfN l D I C Q c0 e0 e1 e2 p0 p1 p2 w0 w1 w2 g0 g1 g2 ev dbl pn us wd kp tl tk cb z lg gr wt lt mv b _) (cwV 1 hts gX1_latestIn_X1_endOf rfl rfl rfl (by decide +kernel) ⟨Nat.le_of_ble_eq_true rfl, Nat.le_of_ble_eq_true rfl⟩) (kPreV hE hP hD (ci := 1) (q0 := 0) rfl rfl) rfl rfl hl.1 rfl (lv_room (Nat.le_of_ble_eq_true rfl)) dX1_latestIn_21 ⟨Nat.zero_le _, Nat.zero_le _⟩) hD hS hA (fun H locs hP hD hS => ?_)
  refine lv_iconst (v := 1) hx hb dX1_latestIn_24 (by decide) ?_
  refine lv_isub hx hb dX1_latestIn_25 ?_
  refine lv_istore (lv' := [(5, .int ((nI ((b + 1) * z)) - 1)), (4, .int (nI F)), (0, .ref c0), (1, .int (nI b)), (2, .int key), (3, .int x)]) hx hb dX1_latestIn_26 hl (by decide) rfl (fun ls hl => ?_)
  have loop28 : ∀ (n : Nat), (F + n ≤ 2000) → ∀ (H : Heap) (locs : List Loc) (ls : Array Slot), va_P D vwCl (wC I c0 e0 e1 e2 p0 p1 p2 w0 w1 w2 g0 g1 g2 ev dbl pn us wd kp tl tk cb (nI z) lg gr wt lt mv) H → va_D A (wC I c0 e0 e1 e2 p0 p1 p2 w0 w1 w2 g0 g1 g2 ev dbl pn us wd kp tl tk cb (nI z) lg gr wt lt mv) → va_S A s.heap H locs → lv_has ls 6 [(0, .ref c0), (1, .int (nI b)), (2, .int key), (3, .int x), (4, .int (nI F)), (5, .int (nI (F + n) - 1))] → (c_liL ev wt z key x F n = c_li ev wt z b key x) → W p l e ({ frames := 4, cells := 0, slots := 0, locals := 93 } : Room) s m [.ref c0, .int (nI b), .int key, .int x].toArray below meth c H locs 0 0 Q0 (F0 m 28 ls []) := by
    intro n
    induction n with
    | zero =>
      intro hFn H locs ls hP hD hS hl hr
      refine lv_iload hx hb dX1_latestIn_28 (lv_at hl 5 rfl) ?_
      refine lv_iload hx hb dX1_latestIn_30 (lv_at hl 4 rfl) ?_
      refine lv_icmp_lt (tgt := 55) hx hb dX1_latestIn_32 (by decide) (fun c_32 => ?_) (fun c_32 => ?_)
      · refine lv_ldc (v := (-1000004)) hx hb hown k5 dX1_latestIn_55 ?_
        exact hend _ _ _ _ _ _ hP hD hS dX1_latestIn_57 rfl rfl (by rw [← hr]; rfl)
      · exact absurd (k_m1lt (by omega)) c_32
    | succ n ih =>
      intro hFn H locs ls hP hD hS hl hr
      have hl : lv_has ls 6 [(0, .ref c0), (1, .int (nI b)), (2, .int key), (3, .int x), (4, .int (nI F)), (5, .int (nI (F + n)))] := by rw [show nI (F + (n + 1)) - 1 = nI (F + n) from nI_pred (F + n)] at hl; exact hl
      refine lv_iload hx hb dX1_latestIn_28 (lv_at hl 5 rfl) ?_
      refine lv_iload hx hb dX1_latestIn_30 (lv_at hl 4 rfl) ?_
      refine lv_icmp_lt (tgt := 55) hx hb dX1_latestIn_32 (by decide) (fun c_32 => ?_) (fun c_32 => ?_)
      · exact absurd ((nI_ltI (a := F + n) (b := F) (by omega) (by omega)).mp c_32) (by omega)
      · refine lv_aload_n hx hb dX1_latestIn_35 rfl (lv_at hl 0 rfl) ?_
        refine lv_iload hx hb dX1_latestIn_36 (lv_at hl 5 rfl) ?_
        refine lv_iload_n hx hb dX1_latestIn_38 rfl (lv_at hl 2 rfl) ?_
        refine lv_iload_n hx hb dX1_latestIn_39 rfl (lv_at hl 3 rfl) ?_
        refine k_iF (va_runV (As := [.int (nI (F + n)), .int key, .int x]) (rest := []) hF (c_X1_isAcceptable l D I C Q c0 e0 e1 e2 p0 p1 p2 w0 w1 w2 g0 g1 g2 ev dbl pn us wd kp tl tk cb z lg gr wt lt mv (F + n) key x hz0 hz1 (by omega) _) (cwV 3 hts gX1_latestIn_X1_isAcceptable rfl rfl rfl (by decide +kernel) ⟨Nat.le_of_ble_eq_true rfl, Nat.le_of_ble_eq_true rfl⟩) (kPreV hE hP hD (ci := 1) (q0 := 0) rfl rfl) rfl rfl hl.1 rfl (lv_room (Nat.le_of_ble_eq_true rfl)) dX1_latestIn_40 ⟨Nat.zero_le _, Nat.zero_le _⟩) hD hS hA (fun H locs hP hD hS => ?_)
        refine lv_if_eq (tgt := 49) hx hb dX1_latestIn_43 (by decide) (fun c_43 => ?_) (fun c_43 => ?_)
        · refine lv_iinc (v := nI (F + n) - 1) (lv' := [(5, .int (nI (F + n) - 1)), (0, .ref c0), (1, .int (nI b)), (2, .int key), (3, .int x), (4, .int (nI F))]) hx hb dX1_latestIn_49 hl (k := 5) rfl (k_dec (F + n)) (by decide) rfl (fun ls hl => ?_)
          refine lv_goto (tgt := 28) hx hb dX1_latestIn_52 (by decide) ?_
          exact ih  (by omega) _ _ _ hP hD hS (lv_sub hl [1, 2, 3, 4, 5, 0] rfl) (by rw [← hr]; simp +decide only [c_liL, c_43, if_true, if_false, not_true_eq_false, not_false_eq_true, and_self, and_true, true_and, and_false, false_and, kn01, kn10, kn02, kn20, kn12, kn21, eq_self])
        · refine lv_iload hx hb dX1_latestIn_46 (lv_at hl 5 rfl) ?_
          exact hend _ _ _ _ _ _ hP hD hS dX1_latestIn_48 rfl rfl (by rw [← hr]; simp +decide only [c_liL, c_43, if_true, if_false, not_true_eq_false, not_false_eq_true, and_self, and_true, true_and, and_false, false_and, kn01, kn10, kn02, kn20, kn12, kn21, eq_self])
  have hFz : (b + 1) * z = F + c_m7 z := by omega
  rw [hFz] at hl
  exact loop28 (c_m7 z) (by omega) _ _ _ hP hD hS (lv_sub hl [2, 3, 4, 5, 1, 0] rfl) (by rw [c_li, ← hF7])
set_option maxHeartbeats 400000 in
set_option maxRecDepth 100000 in
theorem c_X1_latestAcceptableA (l : Launch) (D : va_G) (I C Q : ClassId) (c0 e0 e1 e2 p0 p1 p2 w0 w1 w2 g0 g1 g2 : Nat) (ev : Nat → Int32) (dbl : Int32) (pn : Nat → Int32) (u : Nat) (wd : Nat → Int32) (kp : Int32) (tl : Int32) (tk : Int32) (cb : Nat → Int32) (z : Nat) (lg : Int32) (gr : Int32) (wt : Int32) (lt : Int32) (mv : Int32) (key : Int32) (x : Int32) (hz0 : 0 < z) (hz1 : z ≤ 100) (hu64 : u ≤ 64) (hwt : wt = -1) : KI l D (tyL I C Q) yX1_latestAcceptable wsX1_latestAcceptable { frames := 1, cells := 0, slots := 0, locals := 21 } [.ref c0, .int key, .int x] (wC I c0 e0 e1 e2 p0 p1 p2 w0 w1 w2 g0 g1 g2 ev dbl pn (nI u) wd kp tl tk cb (nI z) lg gr wt lt mv) (wC I c0 e0 e1 e2 p0 p1 p2 w0 w1 w2 g0 g1 g2 ev dbl pn (nI u) wd kp tl tk cb (nI z) lg gr wt lt mv) (-1000004) := by
  refine KI.of (cc := cX1_latestAcceptable) (maxL := 5) (rt := .int) (own := RX1) (by decide) rfl rfl (Nat.le_of_ble_eq_true rfl) ?_
  intro p e s m below meth c A Q0 ls hx hb hml hown hts hE hA hP hD hS hl hend
  have hK := hE.1
  have hF : CallFix p m c cX1_latestAcceptable 5 s [.ref c0, .int key, .int x].toArray wsX1_latestAcceptable RX1 := ⟨hx, hb, hml, hown, hts⟩
  have k0 := hts (.fieldLink RX1 42 "LateExcuses$Court" "watermark" "I") (List.mem_of_getElem? (i := 1) rfl)
  have k1 := hts (.constant RX1 108 (-1000004)) (List.mem_of_getElem? (i := 2) rfl)
  have u1 : ∀ w ∈ u_ws RX1 TX1 9, w ∈ wsX1_latestAcceptable := by decide +kernel
  have hl : lv_has ls 5 [(0, .ref c0), (1, .int key), (2, .int x)] := hl
  refine lv_aload_n hx hb dX1_latestAcceptable_0 rfl (lv_at hl 0 rfl) ?_
  refine lv_aload_n hx hb dX1_latestAcceptable_1 rfl (lv_at hl 0 rfl) ?_
  refine va_get (D := D) (ci := 1) (v := .int wt) (C := RX1) (T := TX1) (N := 9) hx hb hts u1 hown hK hP 0 rfl rfl 6 (by decide) k0 (fun _ h9 => h9) rfl dX1_latestAcceptable_2 ?_
  refine k_iF (va_runV (As := [.int wt]) (rest := []) hF (c_X1_paneAt l D I C Q c0 e0 e1 e2 p0 p1 p2 w0 w1 w2 g0 g1 g2 ev dbl pn (nI u) wd kp tl tk cb z lg gr wt lt mv wt hz0 hz1 _) (cwV 1 hts gX1_latestAcceptable_X1_paneAt rfl rfl rfl (by decide +kernel) ⟨Nat.le_of_ble_eq_true rfl, Nat.le_of_ble_eq_true rfl⟩) (kPreV hE hP hD (ci := 1) (q0 := 0) rfl rfl) rfl rfl hl.1 rfl (lv_room (Nat.le_of_ble_eq_true rfl)) dX1_latestAcceptable_5 ⟨Nat.zero_le _, Nat.zero_le _⟩) hD hS hA (fun H locs hP hD hS => ?_)
  refine lv_iconst (v := 1) hx hb dX1_latestAcceptable_8 (by decide) ?_
  refine lv_isub hx hb dX1_latestAcceptable_9 ?_
  refine lv_istore_n (lv' := [(3, .int ((wt / nI z) - 1)), (0, .ref c0), (1, .int key), (2, .int x)]) hx hb dX1_latestAcceptable_10 rfl hl (by decide) rfl (fun ls hl => ?_)
  refine lv_iload_n hx hb dX1_latestAcceptable_11 rfl (lv_at hl 0 rfl) ?_
  refine lv_if_lt (tgt := 52) hx hb dX1_latestAcceptable_12 (by decide) (fun c_12 => ?_) (fun c_12 => ?_)
  · refine lv_ldc (v := (-1000004)) hx hb hown k1 dX1_latestAcceptable_52 ?_
    exact hend _ _ _ _ _ _ hP hD hS dX1_latestAcceptable_54 rfl rfl rfl
  · exact (c_12 (by rw [hwt]; exact k_m1div hz0 hz1)).elim
set_option maxHeartbeats 400000 in
set_option maxRecDepth 100000 in
theorem c_X1_latestAcceptableB (l : Launch) (D : va_G) (I C Q : ClassId) (c0 e0 e1 e2 p0 p1 p2 w0 w1 w2 g0 g1 g2 : Nat) (ev : Nat → Int32) (dbl : Int32) (pn : Nat → Int32) (u : Nat) (wd : Nat → Int32) (kp : Int32) (tl : Int32) (tk : Int32) (cb : Nat → Int32) (z : Nat) (lg : Int32) (gr : Int32) (v : Nat) (lt : Int32) (mv : Int32) (key : Int32) (x : Int32) (hz0 : 0 < z) (hz1 : z ≤ 100) (hu64 : u ≤ 64) (hv : v < 2000) : KI l D (tyL I C Q) yX1_latestAcceptable wsX1_latestAcceptable { frames := 5, cells := 0, slots := 0, locals := 118 } [.ref c0, .int key, .int x] (wC I c0 e0 e1 e2 p0 p1 p2 w0 w1 w2 g0 g1 g2 ev dbl pn (nI u) wd kp tl tk cb (nI z) lg gr (nI v) lt mv) (wC I c0 e0 e1 e2 p0 p1 p2 w0 w1 w2 g0 g1 g2 ev dbl pn (nI u) wd kp tl tk cb (nI z) lg gr (nI v) lt mv) (c_laL ev pn u (nI v) z key x (v / z)) := by
  have hvz : v / z ≤ v := Nat.div_le_self _ _
  refine KI.of (cc := cX1_latestAcceptable) (maxL := 5) (rt := .int) (own := RX1) (by decide) rfl rfl (Nat.le_of_ble_eq_true rfl) ?_
  intro p e s m below meth c A Q0 ls hx hb hml hown hts hE hA hP hD hS hl hend
  have hK := hE.1
  have hF : CallFix p m c cX1_latestAcceptable 5 s [.ref c0, .int key, .int x].toArray wsX1_latestAcceptable RX1 := ⟨hx, hb, hml, hown, hts⟩
  have k0 := hts (.fieldLink RX1 42 "LateExcuses$Court" "watermark" "I") (List.mem_of_getElem? (i := 1) rfl)
  have k1 := hts (.constant RX1 108 (-1000004)) (List.mem_of_getElem? (i := 2) rfl)
  have u1 : ∀ w ∈ u_ws RX1 TX1 9, w ∈ wsX1_latestAcceptable := by decide +kernel
  have hl : lv_has ls 5 [(0, .ref c0), (1, .int key), (2, .int x)] := hl
  refine lv_aload_n hx hb dX1_latestAcceptable_0 rfl (lv_at hl 0 rfl) ?_
  refine lv_aload_n hx hb dX1_latestAcceptable_1 rfl (lv_at hl 0 rfl) ?_
  refine va_get (D := D) (ci := 1) (v := .int (nI v)) (C := RX1) (T := TX1) (N := 9) hx hb hts u1 hown hK hP 0 rfl rfl 6 (by decide) k0 (fun _ h9 => h9) rfl dX1_latestAcceptable_2 ?_
  refine k_iF (va_runV (As := [.int (nI v)]) (rest := []) hF (c_X1_paneAtN l D I C Q c0 e0 e1 e2 p0 p1 p2 w0 w1 w2 g0 g1 g2 ev dbl pn (nI u) wd kp tl tk cb z lg gr (nI v) lt mv v hz0 hz1 hv _) (cwV 1 hts gX1_latestAcceptable_X1_paneAt rfl rfl rfl (by decide +kernel) ⟨Nat.le_of_ble_eq_true rfl, Nat.le_of_ble_eq_true rfl⟩) (kPreV hE hP hD (ci := 1) (q0 := 0) rfl rfl) rfl rfl hl.1 rfl (lv_room (Nat.le_of_ble_eq_true rfl)) dX1_latestAcceptable_5 ⟨Nat.zero_le _, Nat.zero_le _⟩) hD hS hA (fun H locs hP hD hS => ?_)
  refine lv_iconst (v := 1) hx hb dX1_latestAcceptable_8 (by decide) ?_
  refine lv_isub hx hb dX1_latestAcceptable_9 ?_
  refine lv_istore_n (lv' := [(3, .int ((nI (v / z)) - 1)), (0, .ref c0), (1, .int key), (2, .int x)]) hx hb dX1_latestAcceptable_10 rfl hl (by decide) rfl (fun ls hl => ?_)
  have loop11 : ∀ (n : Nat), (n ≤ v / z) → ∀ (H : Heap) (locs : List Loc) (ls : Array Slot), va_P D vwCl (wC I c0 e0 e1 e2 p0 p1 p2 w0 w1 w2 g0 g1 g2 ev dbl pn (nI u) wd kp tl tk cb (nI z) lg gr (nI v) lt mv) H → va_D A (wC I c0 e0 e1 e2 p0 p1 p2 w0 w1 w2 g0 g1 g2 ev dbl pn (nI u) wd kp tl tk cb (nI z) lg gr (nI v) lt mv) → va_S A s.heap H locs → lv_has ls 5 [(0, .ref c0), (1, .int key), (2, .int x), (3, .int (nI n - 1))] → (c_laL ev pn u (nI v) z key x n = c_laL ev pn u (nI v) z key x (v / z)) → W p l e ({ frames := 5, cells := 0, slots := 0, locals := 118 } : Room) s m [.ref c0, .int key, .int x].toArray below meth c H locs 0 0 Q0 (F0 m 11 ls []) := by
    intro n
    induction n with
    | zero =>
      intro hnv H locs ls hP hD hS hl hr
      have hl : lv_has ls 5 [(0, .ref c0), (1, .int key), (2, .int x), (3, .int (-1))] := by rw [show nI 0 - 1 = -1 from by decide] at hl; exact hl
      refine lv_iload_n hx hb dX1_latestAcceptable_11 rfl (lv_at hl 3 rfl) ?_
      refine lv_if_lt (tgt := 52) hx hb dX1_latestAcceptable_12 (by decide) (fun c_12 => ?_) (fun c_12 => ?_)
      · refine lv_ldc (v := (-1000004)) hx hb hown k1 dX1_latestAcceptable_52 ?_
        exact hend _ _ _ _ _ _ hP hD hS dX1_latestAcceptable_54 rfl rfl (by rw [← hr]; rfl)
      · exact (c_12 (by decide)).elim
    | succ n ih =>
      intro hnv H locs ls hP hD hS hl hr
      have hl : lv_has ls 5 [(0, .ref c0), (1, .int key), (2, .int x), (3, .int (nI n))] := by rw [nI_pred] at hl; exact hl
      have hnz : (n + 1) * z ≤ v := (Nat.le_div_iff_mul_le hz0).mp hnv
      refine lv_iload_n hx hb dX1_latestAcceptable_11 rfl (lv_at hl 3 rfl) ?_
      refine lv_if_lt (tgt := 52) hx hb dX1_latestAcceptable_12 (by decide) (fun c_12 => ?_) (fun c_12 => ?_)
      · exact absurd c_12 (nI_pos (by omega))
      · refine lv_aload_n hx hb dX1_latestAcceptable_15 rfl (lv_at hl 0 rfl) ?_
        refine lv_iload_n hx hb dX1_latestAcceptable_16 rfl (lv_at hl 3 rfl) ?_
        refine k_iF (va_runV (As := [.int (nI n)]) (rest := []) hF (c_X1_stateOf l D I C Q c0 e0 e1 e2 p0 p1 p2 w0 w1 w2 g0 g1 g2 ev dbl pn u wd kp tl tk cb z lg gr (nI v) lt mv (nI n) hu64 _) (cwV 1 hts gX1_latestAcceptable_X1_stateOf rfl rfl rfl (by decide +kernel) ⟨Nat.le_of_ble_eq_true rfl, Nat.le_of_ble_eq_true rfl⟩) (kPreV hE hP hD (ci := 1) (q0 := 0) rfl rfl) rfl rfl hl.1 rfl (lv_room (Nat.le_of_ble_eq_true rfl)) dX1_latestAcceptable_17 ⟨Nat.zero_le _, Nat.zero_le _⟩) hD hS hA (fun H locs hP hD hS => ?_)
        refine lv_iconst (v := 1) hx hb dX1_latestAcceptable_20 (by decide) ?_
        refine lv_icmp_ne (tgt := 46) hx hb dX1_latestAcceptable_21 (by decide) (fun c_21 => ?_) (fun c_21 => ?_)
        · refine lv_iinc (v := nI n - 1) (lv' := [(3, .int (nI n - 1)), (0, .ref c0), (1, .int key), (2, .int x)]) hx hb dX1_latestAcceptable_46 hl (k := 3) rfl (k_dec n) (by decide) rfl (fun ls hl => ?_)
          refine lv_goto (tgt := 11) hx hb dX1_latestAcceptable_49 (by decide) ?_
          exact ih  (by omega) _ _ _ hP hD hS (lv_sub hl [1, 2, 3, 0] rfl) (by rw [← hr]; simp +decide only [c_laL, c_21, if_true, if_false, not_true_eq_false, not_false_eq_true, and_self, and_true, true_and, and_false, false_and, kn01, kn10, kn02, kn20, kn12, kn21, eq_self])
        · refine lv_aload_n hx hb dX1_latestAcceptable_24 rfl (lv_at hl 0 rfl) ?_
          refine lv_iload_n hx hb dX1_latestAcceptable_25 rfl (lv_at hl 3 rfl) ?_
          refine lv_iload_n hx hb dX1_latestAcceptable_26 rfl (lv_at hl 1 rfl) ?_
          refine lv_iload_n hx hb dX1_latestAcceptable_27 rfl (lv_at hl 2 rfl) ?_
          refine k_iF (va_runV (As := [.int (nI n), .int key, .int x]) (rest := []) hF (c_X1_latestIn l D I C Q c0 e0 e1 e2 p0 p1 p2 w0 w1 w2 g0 g1 g2 ev dbl pn (nI u) wd kp tl tk cb z lg gr (nI v) lt mv n key x hz0 hz1 (by omega) (by omega) _) (cwV 3 hts gX1_latestAcceptable_X1_latestIn rfl rfl rfl (by decide +kernel) ⟨Nat.le_of_ble_eq_true rfl, Nat.le_of_ble_eq_true rfl⟩) (kPreV hE hP hD (ci := 1) (q0 := 0) rfl rfl) rfl rfl hl.1 rfl (lv_room (Nat.le_of_ble_eq_true rfl)) dX1_latestAcceptable_28 ⟨Nat.zero_le _, Nat.zero_le _⟩) hD hS hA (fun H locs hP hD hS => ?_)
          refine lv_istore (lv' := [(4, .int (c_li ev (nI v) z n key x)), (0, .ref c0), (1, .int key), (2, .int x), (3, .int (nI n))]) hx hb dX1_latestAcceptable_31 hl (by decide) rfl (fun ls hl => ?_)
          refine lv_iload hx hb dX1_latestAcceptable_33 (lv_at hl 0 rfl) ?_
          refine lv_if_ge (tgt := 43) hx hb dX1_latestAcceptable_35 (by decide) (fun c_35 => ?_) (fun c_35 => ?_)
          · refine lv_iload hx hb dX1_latestAcceptable_43 (lv_at hl 0 rfl) ?_
            exact hend _ _ _ _ _ _ hP hD hS dX1_latestAcceptable_45 rfl rfl (by rw [← hr]; simp +decide only [c_laL, c_21, c_35, if_true, if_false, not_true_eq_false, not_false_eq_true, and_self, and_true, true_and, and_false, false_and, kn01, kn10, kn02, kn20, kn12, kn21, eq_self])
          · refine lv_iload_n hx hb dX1_latestAcceptable_38 rfl (lv_at hl 3 rfl) ?_
            refine lv_iconst (v := 3) hx hb dX1_latestAcceptable_39 (by decide) ?_
            refine lv_icmp_eq (tgt := 46) hx hb dX1_latestAcceptable_40 (by decide) (fun c_40 => ?_) (fun c_40 => ?_)
            · refine lv_iinc (v := nI n - 1) (lv' := [(3, .int (nI n - 1)), (4, .int (c_li ev (nI v) z n key x)), (0, .ref c0), (1, .int key), (2, .int x)]) hx hb dX1_latestAcceptable_46 hl (k := 4) rfl (k_dec n) (by decide) rfl (fun ls hl => ?_)
              refine lv_goto (tgt := 11) hx hb dX1_latestAcceptable_49 (by decide) ?_
              exact ih  (by omega) _ _ _ hP hD hS (lv_sub hl [2, 3, 4, 0] rfl) (by rw [← hr]; simp +decide only [c_laL, c_21, c_35, if_true, if_false, not_true_eq_false, not_false_eq_true, and_self, and_true, true_and, and_false, false_and, kn01, kn10, kn02, kn20, kn12, kn21, eq_self]; rw [if_pos c_40])
            · refine lv_iload hx hb dX1_latestAcceptable_43 (lv_at hl 0 rfl) ?_
              exact hend _ _ _ _ _ _ hP hD hS dX1_latestAcceptable_45 rfl rfl (by rw [← hr]; simp +decide only [c_laL, c_21, c_35, c_40, if_true, if_false, not_true_eq_false, not_false_eq_true, and_self, and_true, true_and, and_false, false_and, kn01, kn10, kn02, kn20, kn12, kn21, eq_self])
  exact loop11 (v / z) (by omega) _ _ _ hP hD hS (lv_sub hl [1, 2, 3, 0] rfl) rfl
set_option maxHeartbeats 400000 in
set_option maxRecDepth 100000 in
theorem c_X1_raiseWatermarkN (l : Launch) (D : va_G) (I C Q : ClassId) (c0 e0 e1 e2 p0 p1 p2 w0 w1 w2 g0 g1 g2 : Nat) (ev : Nat → Int32) (dbl : Int32) (pn : Nat → Int32) (us : Int32) (wd : Nat → Int32) (kp : Int32) (tl : Int32) (tk : Int32) (cb : Nat → Int32) (sz : Int32) (lg : Int32) (gr : Int32) (wt : Int32) (lt : Int32) (mv : Int32) (mk : Int32) (hle : mk ≤ wt) : KV l D (tyL I C Q) yX1_raiseWatermark wsX1_raiseWatermark { frames := 0, cells := 0, slots := 0, locals := 0 } [.ref c0, .int mk] (wC I c0 e0 e1 e2 p0 p1 p2 w0 w1 w2 g0 g1 g2 ev dbl pn us wd kp tl tk cb sz lg gr wt lt mv) (wC I c0 e0 e1 e2 p0 p1 p2 w0 w1 w2 g0 g1 g2 ev dbl pn us wd kp tl tk cb sz lg gr wt lt mv) := by
  refine KV.of (cc := cX1_raiseWatermark) (maxL := 3) (own := RX1) (by decide) rfl rfl (Nat.le_of_ble_eq_true rfl) ?_
  intro p e s m below meth c A Q0 ls hx hb hml hown hts hE hA hP hD hS hl hend
  have hK := hE.1
  have hF : CallFix p m c cX1_raiseWatermark 3 s [.ref c0, .int mk].toArray wsX1_raiseWatermark RX1 := ⟨hx, hb, hml, hown, hts⟩
  have k0 := hts (.fieldLink RX1 42 "LateExcuses$Court" "watermark" "I") (List.mem_of_getElem? (i := 1) rfl)
  have u1 : ∀ w ∈ u_ws RX1 TX1 9, w ∈ wsX1_raiseWatermark := by decide +kernel
  have hl : lv_has ls 3 [(0, .ref c0), (1, .int mk)] := hl
  refine lv_iload_n hx hb dX1_raiseWatermark_0 rfl (lv_at hl 1 rfl) ?_
  refine lv_aload_n hx hb dX1_raiseWatermark_1 rfl (lv_at hl 0 rfl) ?_
  refine va_get (D := D) (ci := 1) (v := .int wt) (C := RX1) (T := TX1) (N := 9) hx hb hts u1 hown hK hP 0 rfl rfl 6 (by decide) k0 (fun _ h9 => h9) rfl dX1_raiseWatermark_2 ?_
  refine lv_icmp_le (tgt := 44) hx hb dX1_raiseWatermark_5 (by decide) (fun c_5 => ?_) (fun c_5 => ?_)
  · exact hend _ _ _ _ _ hP hD hS dX1_raiseWatermark_44 rfl
  · exact absurd hle c_5
set_option maxHeartbeats 400000 in
set_option maxRecDepth 100000 in
theorem c_X1_raiseWatermarkY (l : Launch) (D : va_G) (I C Q : ClassId) (c0 e0 e1 e2 p0 p1 p2 w0 w1 w2 g0 g1 g2 : Nat) (ev : Nat → Int32) (dbl : Int32) (pn : Nat → Int32) (u : Nat) (wd : Nat → Int32) (w : Nat) (tl : Int32) (tk : Int32) (cb : Nat → Int32) (z : Nat) (lg : Int32) (gr : Int32) (wt : Int32) (lt : Int32) (mv : Int32) (mk : Int32) (hz0 : 0 < z) (hz1 : z ≤ 100) (hu64 : u ≤ 64) (hw40 : w ≤ 40) (hle : ¬ mk ≤ wt) : KV l D (tyL I C Q) yX1_raiseWatermark wsX1_raiseWatermark { frames := 5, cells := 0, slots := 0, locals := 131 } [.ref c0, .int mk] (wC I c0 e0 e1 e2 p0 p1 p2 w0 w1 w2 g0 g1 g2 ev dbl pn (nI u) wd (nI w) tl tk cb (nI z) lg gr wt lt mv) (wC I c0 e0 e1 e2 p0 p1 p2 w0 w1 w2 g0 g1 g2 ev dbl ((p_scR (c_lbs wt z) (mk / nI z - 1) mk u (pn, wd, w, tl)).1) (nI u) ((p_scR (c_lbs wt z) (mk / nI z - 1) mk u (pn, wd, w, tl)).2.1) (nI (p_scR (c_lbs wt z) (mk / nI z - 1) mk u (pn, wd, w, tl)).2.2.1) ((p_scR (c_lbs wt z) (mk / nI z - 1) mk u (pn, wd, w, tl)).2.2.2) tk cb (nI z) lg gr mk lt mv) := by
  refine KV.of (cc := cX1_raiseWatermark) (maxL := 3) (own := RX1) (by decide) rfl rfl (Nat.le_of_ble_eq_true rfl) ?_
  intro p e s m below meth c A Q0 ls hx hb hml hown hts hE hA hP hD hS hl hend
  have hK := hE.1
  have hF : CallFix p m c cX1_raiseWatermark 3 s [.ref c0, .int mk].toArray wsX1_raiseWatermark RX1 := ⟨hx, hb, hml, hown, hts⟩
  have k0 := hts (.fieldLink RX1 42 "LateExcuses$Court" "watermark" "I") (List.mem_of_getElem? (i := 1) rfl)
  have k1 := hts (.methodLink RX1 109 Lib.Math.max.name) (List.mem_of_getElem? (i := 2) rfl)
  have k2 := hts (.static Lib.Math.max.name) (List.mem_of_getElem? (i := 3) rfl)
  have k3 := hts (.initialized "java/lang/Math") (List.mem_of_getElem? (i := 4) rfl)
  have k4 := hts (.code Lib.Math.max.name Lib.Math.max.code 2 (some .int)) (List.mem_of_getElem? (i := 5) rfl)
  have k5 := hts (.fieldLink RX1 21 "LateExcuses$Court" "panes" "LLateExcuses$Panes;") (List.mem_of_getElem? (i := 6) rfl)
  have u1 : ∀ w ∈ u_ws RX1 TX1 9, w ∈ wsX1_raiseWatermark := by decide +kernel
  have hl : lv_has ls 3 [(0, .ref c0), (1, .int mk)] := hl
  refine lv_iload_n hx hb dX1_raiseWatermark_0 rfl (lv_at hl 1 rfl) ?_
  refine lv_aload_n hx hb dX1_raiseWatermark_1 rfl (lv_at hl 0 rfl) ?_
  refine va_get (D := D) (ci := 1) (v := .int wt) (C := RX1) (T := TX1) (N := 9) hx hb hts u1 hown hK hP 0 rfl rfl 6 (by decide) k0 (fun _ h9 => h9) rfl dX1_raiseWatermark_2 ?_
  refine lv_icmp_le (tgt := 44) hx hb dX1_raiseWatermark_5 (by decide) (fun c_5 => ?_) (fun c_5 => ?_)
  · exact absurd c_5 hle
  · refine lv_aload_n hx hb dX1_raiseWatermark_8 rfl (lv_at hl 0 rfl) ?_
    refine lv_iconst (v := 0) hx hb dX1_raiseWatermark_9 (by decide) ?_
    refine lv_aload_n hx hb dX1_raiseWatermark_10 rfl (lv_at hl 0 rfl) ?_
    refine va_get (D := D) (ci := 1) (v := .int wt) (C := RX1) (T := TX1) (N := 9) hx hb hts u1 hown hK hP 0 rfl rfl 6 (by decide) k0 (fun _ h9 => h9) rfl dX1_raiseWatermark_11 ?_
    refine va_mmax hx hb (hml.trans hl.1.symm) hown k1 k2 k3 k4 (Nat.le_of_ble_eq_true rfl) (Nat.le_of_ble_eq_true rfl) (Nat.zero_le _) (Nat.zero_le _) dX1_raiseWatermark_14 ?_
    refine k_iF (va_runV (As := [.int (if 0 < wt then wt else 0)]) (rest := []) hF (c_X1_paneAt l D I C Q c0 e0 e1 e2 p0 p1 p2 w0 w1 w2 g0 g1 g2 ev dbl pn (nI u) wd (nI w) tl tk cb z lg gr wt lt mv (if 0 < wt then wt else 0) hz0 hz1 _) (cwV 1 hts gX1_raiseWatermark_X1_paneAt rfl rfl rfl (by decide +kernel) ⟨Nat.le_of_ble_eq_true rfl, Nat.le_of_ble_eq_true rfl⟩) (kPreV hE hP hD (ci := 1) (q0 := 0) rfl rfl) rfl rfl hl.1 rfl (lv_room (Nat.le_of_ble_eq_true rfl)) dX1_raiseWatermark_17 ⟨Nat.zero_le _, Nat.zero_le _⟩) hD hS hA (fun H locs hP hD hS => ?_)
    refine lv_iconst (v := 1) hx hb dX1_raiseWatermark_20 (by decide) ?_
    refine lv_isub hx hb dX1_raiseWatermark_21 ?_
    refine lv_istore_n (lv' := [(2, .int (((if 0 < wt then wt else 0) / nI z) - 1)), (0, .ref c0), (1, .int mk)]) hx hb dX1_raiseWatermark_22 rfl hl (by decide) rfl (fun ls hl => ?_)
    refine lv_aload_n hx hb dX1_raiseWatermark_23 rfl (lv_at hl 1 rfl) ?_
    refine lv_iload_n hx hb dX1_raiseWatermark_24 rfl (lv_at hl 2 rfl) ?_
    refine va_put (D := D) (ci := 1) (v := .int mk) (ty := .int) (C := RX1) (T := TX1) (N := 9) hx hb hts u1 tyX1 tyX1_ok nmX1 hown hK hP hD hS 0 rfl rfl 6 (by decide) k0 (fun _ h9 => h9) rfl (by decide +kernel) rfl rfl (Nat.le_of_ble_eq_true rfl) dX1_raiseWatermark_25 (fun H locs hP hD hS => ?_)
    have hP : va_P D vwCl (wC I c0 e0 e1 e2 p0 p1 p2 w0 w1 w2 g0 g1 g2 ev dbl pn (nI u) wd (nI w) tl tk cb (nI z) lg gr mk lt mv) H := hP
    have hD : va_D A (wC I c0 e0 e1 e2 p0 p1 p2 w0 w1 w2 g0 g1 g2 ev dbl pn (nI u) wd (nI w) tl tk cb (nI z) lg gr mk lt mv) := hD
    refine lv_aload_n hx hb dX1_raiseWatermark_28 rfl (lv_at hl 1 rfl) ?_
    refine va_get (D := D) (ci := 1) (v := .ref p0) (C := RX1) (T := TX1) (N := 9) hx hb hts u1 hown hK hP 0 rfl rfl 1 (by decide) k5 (fun _ h9 => h9) rfl dX1_raiseWatermark_29 ?_
    refine lv_iload_n hx hb dX1_raiseWatermark_32 rfl (lv_at hl 0 rfl) ?_
    refine lv_aload_n hx hb dX1_raiseWatermark_33 rfl (lv_at hl 1 rfl) ?_
    refine lv_iload_n hx hb dX1_raiseWatermark_34 rfl (lv_at hl 2 rfl) ?_
    refine k_iF (va_runV (As := [.int mk]) (rest := [.int (((if 0 < wt then wt else 0) / nI z) - 1), .ref p0]) hF (c_X1_paneAt l D I C Q c0 e0 e1 e2 p0 p1 p2 w0 w1 w2 g0 g1 g2 ev dbl pn (nI u) wd (nI w) tl tk cb z lg gr mk lt mv mk hz0 hz1 _) (cwV 1 hts gX1_raiseWatermark_X1_paneAt rfl rfl rfl (by decide +kernel) ⟨Nat.le_of_ble_eq_true rfl, Nat.le_of_ble_eq_true rfl⟩) (kPreV hE hP hD (ci := 1) (q0 := 0) rfl rfl) rfl rfl hl.1 rfl (lv_room (Nat.le_of_ble_eq_true rfl)) dX1_raiseWatermark_35 ⟨Nat.zero_le _, Nat.zero_le _⟩) hD hS hA (fun H locs hP hD hS => ?_)
    refine lv_iconst (v := 1) hx hb dX1_raiseWatermark_38 (by decide) ?_
    refine lv_isub hx hb dX1_raiseWatermark_39 ?_
    refine lv_iload_n hx hb dX1_raiseWatermark_40 rfl (lv_at hl 2 rfl) ?_
    have hPc := hP.sub (ws' := (wPn I p0 p1 p2 w0 w1 w2 pn (nI u) wd (nI w) tl tk)) [4, 5, 6, 7, 8, 9] rfl
    have hDc := hD.sub (ws' := (wPn I p0 p1 p2 w0 w1 w2 pn (nI u) wd (nI w) tl tk)) [4, 5, 6, 7, 8, 9] (by decide) rfl
    refine k_v (wr := [(c0, .inr (1, [.ref e0, .ref p0, .ref g0, .int (nI z), .int lg, .int gr, .int mk, .int lt, .int mv])), (e0, .inr (2, [.ref e1, .int dbl])), (e1, .inr (5, [.int (nI 64), .int (nI 7), .ref e2])), (e2, .inl (I, 64 * 7, .inl ev)), (g0, .inr (0, [.ref g1])), (g1, .inr (5, [.int (nI 3), .int (nI 5), .ref g2])), (g2, .inl (I, 3 * 5, .inl cb))]) (ws' := (wC I c0 e0 e1 e2 p0 p1 p2 w0 w1 w2 g0 g1 g2 ev dbl ((p_scR (((if 0 < wt then wt else 0) / nI z) - 1) ((mk / nI z) - 1) mk u (pn, wd, w, tl)).1) (nI u) ((p_scR (((if 0 < wt then wt else 0) / nI z) - 1) ((mk / nI z) - 1) mk u (pn, wd, w, tl)).2.1) (nI (p_scR (((if 0 < wt then wt else 0) / nI z) - 1) ((mk / nI z) - 1) mk u (pn, wd, w, tl)).2.2.1) ((p_scR (((if 0 < wt then wt else 0) / nI z) - 1) ((mk / nI z) - 1) mk u (pn, wd, w, tl)).2.2.2) tk cb (nI z) lg gr mk lt mv)) (va_runV (As := [.int (((if 0 < wt then wt else 0) / nI z) - 1), .int ((mk / nI z) - 1), .int mk]) (rest := []) hF (c_X4_shutAndClose l D I C Q p0 p1 p2 w0 w1 w2 pn u wd w tl tk (((if 0 < wt then wt else 0) / nI z) - 1) ((mk / nI z) - 1) mk hu64 hw40 _) (cwV 3 hts gX1_raiseWatermark_X4_shutAndClose rfl rfl rfl (by decide +kernel) ⟨Nat.le_of_ble_eq_true rfl, Nat.le_of_ble_eq_true rfl⟩) (kPreV hE hPc hDc (ci := 4) (q0 := 0) rfl rfl) rfl rfl hl.1 rfl (lv_room (Nat.le_of_ble_eq_true rfl)) dX1_raiseWatermark_41 ⟨Nat.zero_le _, Nat.zero_le _⟩) hP hD hS hA [4, 5, 6, 7, 8, 9] [0, 1, 2, 3, 10, 11, 12] [0, 1, 2, 3, 7, 8, 9, 10, 11, 12, 4, 5, 6] rfl rfl (by decide) (by decide) rfl (by decide) (fun H locs hP hD hS => ?_)
    exact hend _ _ _ _ _ hP hD hS dX1_raiseWatermark_44 rfl
