/-! what is filed; an event -/
theorem e_out_01 (ev : Nat → Int32) (k : Nat) (lo hi : Int32) : e_out ev k lo hi = 0 ∨ e_out ev k lo hi = 1 := by
  rw [e_out]
  repeat' split
  all_goals first | exact Or.inl rfl | exact Or.inr rfl
theorem e_wo_ec {ev : Nat → Int32} {i : Nat} {t key am x o q lo hi : Int32} (h : ¬ ev (i * 7 + 6) = 1) : ∀ k, e_wo (e_con (e_ent ev i t key am x) i o q) lo hi k = e_wo ev lo hi k + (if i < k ∧ ¬ o < lo ∧ ¬ hi < o then 1 else 0)
  | 0 => by rw [e_wo, e_wo, if_neg (fun h => absurd h.1 (Nat.not_lt_zero i))]
  | k + 1 => by
    have ih := e_wo_ec (t := t) (key := key) (am := am) (x := x) (o := o) (q := q) (lo := lo) (hi := hi) h k
    rw [e_wo, e_wo, ih]
    by_cases hk : k = i
    · subst hk
      have e0 : e_out ev k lo hi = 0 := by rw [e_out, if_pos h]
      have hn : ¬ (k < k ∧ ¬ o < lo ∧ ¬ hi < o) := fun h => absurd h.1 (Nat.lt_irrefl k)
      rw [if_neg hn, Nat.add_zero, if_pos e0]
      have e1 := e_out_iff (ev := e_con (e_ent ev k t key am x) k o q) (k := k) (lo := lo) (hi := hi)
      rw [e_ec_6, e_ec_4] at e1
      by_cases c : ¬ o < lo ∧ ¬ hi < o
      · rw [if_neg (e1.mpr ⟨rfl, c.1, c.2⟩), if_pos ⟨Nat.lt_succ_self k, c⟩]
      · rw [if_pos (Classical.byContradiction (fun c9 => c ⟨(e1.mp c9).2.1, (e1.mp c9).2.2⟩)), if_neg (fun h => c h.2)]; rfl
    · have e1 : e_out (e_con (e_ent ev i t key am x) i o q) k lo hi = e_out ev k lo hi := by
        rw [e_out, e_out, e_ec_o (by omega), e_ec_o (by omega)]
      have e2 : (i < k + 1 ∧ ¬ o < lo ∧ ¬ hi < o) ↔ (i < k ∧ ¬ o < lo ∧ ¬ hi < o) := ⟨fun h => ⟨by omega, h.2⟩, fun h => ⟨by omega, h.2⟩⟩
      rw [e1]
      by_cases c : i < k ∧ ¬ o < lo ∧ ¬ hi < o
      · rw [if_pos c, if_pos (e2.mpr c)]
        split <;> omega
      · rw [if_neg c, if_neg (fun h => c (e2.mp h))]
        split <;> omega
/-- the cabinets hold just the excused events -/
def x_F (ev cb : Nat → Int32) : Prop := ∃ n : Nat → Nat, n 0 + n 1 + n 2 = e_wo ev 1 1 64 ∧ ∀ c, c < 3 → n c ≤ 4 ∧ cb (c * 5 + 4) = nI (n c) ∧ ∀ p, p < n c → ∃ id x : Nat, id < 64 ∧ cb (c * 5 + p) = nI id ∧ ev (id * 7 + 6) = 1 ∧ ev (id * 7 + 4) = 1 ∧ ev (id * 7 + 3) = nI x ∧ 1 ≤ x ∧ x ≤ 3 ∧ (c = 2 ∨ x = c + 1)
theorem x_F_ev {ev cb : Nat → Int32} {i : Nat} {t key am x o q : Int32} (h : x_F ev cb) (hi : ¬ ev (i * 7 + 6) = 1) (ho : ¬ (¬ o < 1 ∧ ¬ 1 < o)) : x_F (e_con (e_ent ev i t key am x) i o q) cb := by
  obtain ⟨n, h1, h2⟩ := h
  refine ⟨n, ?_, fun c hc => ⟨(h2 c hc).1, (h2 c hc).2.1, fun p hp => ?_⟩⟩
  · rw [e_wo_ec hi, if_neg (fun h => ho h.2)]; exact h1
  · obtain ⟨id, y, g1, g2, g3, g4, g5, g6⟩ := (h2 c hc).2.2 p hp
    have hne : id ≠ i := fun e => hi (by rw [← e]; exact g3)
    exact ⟨id, y, g1, g2, by rw [e_ec_o (by omega)]; exact g3, by rw [e_ec_o (by omega)]; exact g4, by rw [e_ec_o (by omega)]; exact g5, g6⟩
theorem g_for_x {cb : Nat → Int32} {x : Nat} (h3 : x ≤ 3) : g_for cb (nI x) = 2 ∨ x = g_for cb (nI x) + 1 := by
  rw [g_for]
  by_cases c1 : nI x = 1 ∧ g_full cb 0 = 0
  · rw [if_pos c1]
    have := (nI_eq (a := x) (b := 1) (by omega) (by omega)).mp c1.1
    exact Or.inr (by omega)
  · rw [if_neg c1]
    by_cases c2 : nI x = 2 ∧ g_full cb 1 = 0
    · rw [if_pos c2]
      have := (nI_eq (a := x) (b := 2) (by omega) (by omega)).mp c2.1
      exact Or.inr (by omega)
    · rw [if_neg c2]; exact Or.inl rfl
theorem x_F_file {ev cb : Nat → Int32} {i x z : Nat} {t key am q : Int32} (h : x_F ev cb) (hi : ¬ ev (i * 7 + 6) = 1) (hi64 : i < 64) (h1 : 1 ≤ x) (h3 : x ≤ 3) (hf : g_full cb (g_for cb (nI x)) = 0) (hz : cb (g_for cb (nI x) * 5 + 4) = nI z) (hz4 : z < 4) : x_F (e_con (e_ent ev i t key am (nI x)) i 1 q) (g_file cb (nI x) (nI i) z) := by
  obtain ⟨n, n1, n2⟩ := h
  have hc := g_for_lt cb (nI x)
  have hgx := g_for_x (cb := cb) h3
  rw [g_file, if_neg (fun h => h hf)]
  generalize g_for cb (nI x) = c at *
  obtain ⟨m1, m2, m3⟩ := n2 c hc
  have ezn : z = n c := (nI_eq (a := z) (b := n c) (by omega) (by omega)).mp (hz.symm.trans m2)
  refine ⟨fun d => if d = c then n c + 1 else n d, ?_, fun d hd => ?_⟩
  · rw [e_wo_ec hi, if_pos ⟨hi64, by decide, by decide⟩, ← n1]
    rcases (show c = 0 ∨ c = 1 ∨ c = 2 by omega) with rfl | rfl | rfl
    · show n 0 + 1 + n 1 + n 2 = _; omega
    · show n 0 + (n 1 + 1) + n 2 = _; omega
    · show n 0 + n 1 + (n 2 + 1) = _; omega
  · by_cases hdc : d = c
    · subst hdc
      show (if d = d then n d + 1 else n d) ≤ 4 ∧ _
      rw [if_pos rfl]
      refine ⟨by omega, by rw [pk_us, ezn]; show nI (n d + 1) = nI (if d = d then n d + 1 else n d); rw [if_pos rfl], fun p hp => ?_⟩
      have hp : p < n d + 1 := by
        have hp : p < (if d = d then n d + 1 else n d) := hp
        rw [if_pos rfl] at hp; exact hp
      rw [pk_un (by omega)]
      by_cases hpz : p = z
      · rw [hpz, pk_us]
        exact ⟨i, x, hi64, rfl, e_ec_6, e_ec_4, e_ec_3, h1, h3, hgx⟩
      · rw [pk_un (by omega)]
        obtain ⟨id, y, g1, g2, g3, g4, g5, g6⟩ := m3 p (by omega)
        have hne : id ≠ i := fun e => hi (by rw [← e]; exact g3)
        exact ⟨id, y, g1, g2, by rw [e_ec_o (by omega)]; exact g3, by rw [e_ec_o (by omega)]; exact g4, by rw [e_ec_o (by omega)]; exact g5, g6⟩
    · obtain ⟨k1, k2, k3⟩ := n2 d hd
      show (if d = c then n c + 1 else n d) ≤ 4 ∧ _
      rw [if_neg hdc]
      refine ⟨k1, by rw [pk_un (by omega), pk_un (by omega)]; exact k2.trans (by show nI (n d) = nI (if d = c then n c + 1 else n d); rw [if_neg hdc]), fun p hp => ?_⟩
      have hp : p < n d := by
        have hp : p < (if d = c then n c + 1 else n d) := hp
        rw [if_neg hdc] at hp; exact hp
      rw [pk_un (by omega), pk_un (by omega)]
      obtain ⟨id, y, g1, g2, g3, g4, g5, g6⟩ := k3 p hp
      have hne : id ≠ i := fun e => hi (by rw [← e]; exact g3)
      exact ⟨id, y, g1, g2, by rw [e_ec_o (by omega)]; exact g3, by rw [e_ec_o (by omega)]; exact g4, by rw [e_ec_o (by omega)]; exact g5, g6⟩
theorem c_ver0 {ev pn cb : Nat → Int32} {u z t : Nat} {wt key x : Int32} (h : c_ver ev pn u cb wt z t key x = 0) : ¬ c_state pn u (nI (t / z)) wt z = 3 ∧ ¬ c_state pn u (nI (t / z)) wt z = 1 := by
  rw [c_ver] at h
  by_cases c3 : c_state pn u (nI (t / z)) wt z = 3
  · rw [if_pos c3] at h; exact absurd h (by decide)
  · refine ⟨c3, fun c1 => ?_⟩
    rw [if_neg c3, if_neg (fun h => h c1)] at h
    revert h
    repeat' split
    all_goals exact fun h => absurd h (by decide)
theorem c_ver1 {ev pn cb : Nat → Int32} {u z t : Nat} {wt key x : Int32} (h : c_ver ev pn u cb wt z t key x = 1) : c_state pn u (nI (t / z)) wt z = 1 ∧ ¬ c_acc ev wt z t key x = 0 ∧ g_full cb (g_for cb x) = 0 := by
  rw [c_ver] at h
  by_cases c3 : c_state pn u (nI (t / z)) wt z = 3
  · rw [if_pos c3] at h; exact absurd h (by decide)
  · rw [if_neg c3] at h
    by_cases c1 : c_state pn u (nI (t / z)) wt z = 1
    · rw [if_neg (fun h => h c1)] at h
      by_cases ca : c_acc ev wt z t key x = 0
      · rw [if_pos ca] at h; exact absurd h (by decide)
      · rw [if_neg ca] at h
        by_cases cf : g_full cb (g_for cb x) = 0
        · exact ⟨c1, ca, cf⟩
        · rw [if_neg cf, if_pos rfl] at h; exact absurd h (by decide)
    · rw [if_pos c1] at h; exact absurd h (by decide)
theorem c_acc_x {ev : Nat → Int32} {wt key : Int32} {z t x : Nat} (h : ¬ c_acc ev wt z t key (nI x) = 0) (hx : x ≤ 3) : 1 ≤ x := by
  refine Classical.byContradiction (fun c => h ?_)
  have e : x = 0 := by omega
  subst e
  exact c_acc_d (Or.inl (by decide))
theorem i_ca {wt gr : Int32} (hw : wt = -1 ∨ ∃ v : Nat, v < 2000 ∧ wt = nI v) (hg : ∃ g : Nat, g ≤ 100 ∧ gr = nI g) : wt < wt + gr + 1 := by
  obtain ⟨g, g1, g2⟩ := hg
  rcases hw with e | ⟨v, v1, e⟩
  · have e2 : wt + gr + 1 = nI g := by
      rw [e, g2, Int32.add_assoc, nI_1, Int32.add_comm]
      show nI (g + 1) + -1 = nI g
      rw [← Int32.sub_eq_add_neg]
      exact pk_sub (a := g + 1) (b := 1) (by omega)
    rw [e2, e, Int32.lt_iff_toInt_lt, nI_toInt (by omega), show (-1 : Int32).toInt = -1 by decide]; omega
  · rw [e, g2, nI_add, nI_1]
    exact (nI_ltI (by omega) (by omega)).mpr (by omega)
/-- a closed case stays as it is -/
def x_cl (pn : Nat → Int32) (u : Nat) (pn' : Nat → Int32) (u' : Nat) : Prop := ∀ q, q < 2000 → v_c pn u q 0 = 3 → v_c pn' u' q 0 = 3 ∧ v_c pn' u' q 2 = v_c pn u q 2
/-- how far taken back, by the reference's bound -/
theorem rA_a {now : Nat → Int32} {np z : Nat} {S : AV} {lg gr mv : Int32} (h : rA now np z S lg gr mv) (q : Nat) (hq : q < 2000) : ∃ a, a ≤ 1000 ∧ v_c (aPn S) (aU S) q 6 = nI a := by
  obtain ⟨n, a, s, -, -, -, ⟨-, s2, -, -, -, s6, -⟩, -⟩ := (rA_B h).2.2.2.2.2.2.2.2 q hq
  have hcn := m_cn_le now 64
  have s2 : a ≤ m_cn now 64 + (if mv = 1 then 1 else 0) := s2
  refine ⟨a, ?_, s6⟩
  revert s2; split <;> (intro s2; omega)
set_option maxHeartbeats 1000000 in
theorem x_adm_ok {now : Nat → Int32} {np z i t x : Nat} {S : AV} {lg gr mv key am : Int32} (hA : rA now np z S lg gr mv) (hX : p_X (aPn S) (aU S) (aTl S) (aTk S) (aWt S) z) (hF : x_F (aEv S) (aCb S)) (hi : i < 64) (ht : t < 2000) (hx : x ≤ 3) :
    p_X (aPn (x_adm z lg gr S i t key am (nI x)).2) (aU (x_adm z lg gr S i t key am (nI x)).2) (aTl (x_adm z lg gr S i t key am (nI x)).2) (aTk (x_adm z lg gr S i t key am (nI x)).2) (aWt (x_adm z lg gr S i t key am (nI x)).2) z ∧ x_F (aEv (x_adm z lg gr S i t key am (nI x)).2) (aCb (x_adm z lg gr S i t key am (nI x)).2) ∧ x_cl (aPn S) (aU S) (aPn (x_adm z lg gr S i t key am (nI x)).2) (aU (x_adm z lg gr S i t key am (nI x)).2) ∧ aWt S ≤ aWt (x_adm z lg gr S i t key am (nI x)).2 := by
  obtain ⟨⟨z0, z1⟩, -, hmv, hwt, hlt, hlg, hgr, ⟨h11, h11b, hnp, hu⟩, hE, hC, hB⟩ := id hA
  have hq : t / z < 2000 := Nat.lt_of_le_of_lt (Nat.div_le_self _ _) ht
  have hs := hX.1
  have hmk : ∀ (pn wd : Nat → Int32) (u w : Nat) (tk o : Int32) (cb : Nat → Int32), p_X pn u (aTl S) tk (aWt S) z → x_F (e_con (e_ent (aEv S) i (nI t) key am (nI x)) i o (nI (t / z))) cb → x_cl (aPn S) (aU S) pn u →
      p_X (aPn (x_mk S z lg i t key am (nI x) o pn u wd w tk cb)) (aU (x_mk S z lg i t key am (nI x) o pn u wd w tk cb)) (aTl (x_mk S z lg i t key am (nI x) o pn u wd w tk cb)) (aTk (x_mk S z lg i t key am (nI x) o pn u wd w tk cb)) (aWt (x_mk S z lg i t key am (nI x) o pn u wd w tk cb)) z ∧ x_F (aEv (x_mk S z lg i t key am (nI x) o pn u wd w tk cb)) (aCb (x_mk S z lg i t key am (nI x) o pn u wd w tk cb)) ∧ x_cl (aPn S) (aU S) (aPn (x_mk S z lg i t key am (nI x) o pn u wd w tk cb)) (aU (x_mk S z lg i t key am (nI x) o pn u wd w tk cb)) ∧ aWt S ≤ aWt (x_mk S z lg i t key am (nI x) o pn u wd w tk cb) := by
    intro pn wd u w tk o cb h1 h2 h3
    obtain ⟨r1, r2, r3⟩ := p_X_raise (wd := wd) (w := w) (lt := aLt S) (t := t) z0 z1 ht hwt hlg h1
    refine ⟨r1, h2, fun p hp hp3 => ?_, r3⟩
    obtain ⟨c1, c2⟩ := h3 p hp hp3
    exact ⟨(r2 p 0 hp (by omega) (Or.inl c1)).trans c1, (r2 p 2 hp (by omega) (Or.inl c1)).trans c2⟩
  rcases rA_has hA hi with ⟨e1, e2⟩ | ⟨e1, e2⟩
  · rw [x_adm, e2, if_pos (by decide)]
    refine ⟨hX, hF, fun q hq h3 => ⟨h3, rfl⟩, ?_⟩
    rw [Int32.le_iff_toInt_le]; exact Int.le_refl _
  · have hcn64 := m_cn_lt e1 hi
    have hcap : ¬ v_ce (aPn S) (aU S) (t / z) → aU S < 64 := fun _ => by omega
    have hnew : ¬ aEv S (i * 7 + 6) = 1 := fun e => by
      rw [e_has, if_neg (fun h => h e)] at e2; exact absurd e2 (by decide)
    rw [x_adm, e2, if_neg (fun e => e rfl)]
    obtain ⟨r, r3, hr⟩ := c_ver_nat (aEv S) (aPn S) (aU S) (aCb S) (aWt S) z t key (nI x)
    have hor : x_o S z t key (nI x) = nI r := hr
    rw [hor]
    by_cases o2 : 1 < nI r
    · rw [if_pos o2]
      exact hmk _ _ _ _ _ _ _ hX (x_F_ev hF hnew (fun h => h.2 o2)) (fun q hq h3 => ⟨h3, rfl⟩)
    · rw [if_neg o2]
      by_cases o0 : nI r = 0
      · rw [if_pos o0]
        obtain ⟨s3, s1⟩ := c_ver0 (hr.trans o0)
        rw [c_state_v] at s3 s1
        have hst : v_c (aPn S) (aU S) (t / z) 0 = 0 → ¬ nI ((t / z + 1) * z) ≤ aWt S := fun h h2 => s1 (by rw [if_pos h, if_pos h2])
        have hn3 : ¬ v_c (aPn S) (aU S) (t / z) 0 = 3 := fun h => s3 (by rw [if_neg (by rw [h]; decide)]; exact h)
        refine hmk _ _ _ _ _ _ _ (p_X_add hX hq hcap hst) (x_F_ev hF hnew (fun h => h.1 (by rw [o0]; decide))) (fun q hq9 h3 => ?_)
        have hne : q ≠ t / z := fun e => hn3 (by rw [← e]; exact h3)
        exact ⟨(p_add_w hs hq hcap hq9 (by omega) (Or.inl hne)).trans h3, p_add_w hs hq hcap hq9 (by omega) (Or.inl hne)⟩
      · have hr1 : r = 1 := by
          have a1 : ¬ r = 0 := fun e => o0 (by rw [e]; rfl)
          have a2 : ¬ 1 < r := fun e => o2 ((nI_ltI (a := 1) (b := r) (by omega) (by omega)).mpr e)
          omega
        subst hr1
        rw [if_neg o0]
        obtain ⟨s1, sa, sf⟩ := c_ver1 (hr.trans rfl)
        rw [c_state_v] at s1
        have h0 : v_c (aPn S) (aU S) (t / z) 0 = 0 := Classical.byContradiction (fun h => by
          rw [if_neg h] at s1
          rcases (hX.2.1 _ hq).2 with ⟨b, -⟩ | ⟨b, -⟩ | ⟨b, -⟩
          · exact h b
          · rw [b] at s1; exact absurd s1 (by decide)
          · rw [b] at s1; exact absurd s1 (by decide))
        obtain ⟨a, ha1, ha2⟩ := rA_a hA _ hq
        obtain ⟨p1, p2, p3, p4⟩ := p_X_reop (wd := aWd S) (w := aW S) (ca := aWt S + gr + 1) hX hq hcap h0 (i_ca hwt hgr) ha1 ha2
        have hxre : x_re S z gr t = c_reo (aPn S, aWd S, aW S, aTk S) (aU S) (nI (t / z)) (aWt S + gr + 1) := rfl
        rw [← hxre] at p1 p2 p3 p4
        obtain ⟨zz, hz4⟩ := rA_zf (x := nI x) hA
        have hx1 := c_acc_x sa hx
        have hcap2 : ¬ v_ce (x_re S z gr t).1 (p_mu (aPn S) (nI (t / z)) (aU S)) (t / z) → p_mu (aPn S) (nI (t / z)) (aU S) < 64 := fun h => absurd p2 h
        refine hmk _ _ _ _ _ _ _ (p_X_add p1 hq hcap2 (fun h => by rw [p3] at h; exact absurd h (by decide))) (x_F_file hF hnew hi hx1 hx sf zz (hz4 sf)) (fun q hq9 h3 => ?_)
        have hne : q ≠ t / z := fun e => by rw [e, h0] at h3; exact absurd h3 (by decide)
        have w0 := p_add_w (key := key) (am := am) p1.1 hq hcap2 hq9 (c := 0) (by omega) (Or.inl hne)
        have w2 := p_add_w (key := key) (am := am) p1.1 hq hcap2 hq9 (c := 2) (by omega) (Or.inl hne)
        exact ⟨(w0.trans (p4 q 0 hq9 (by omega) hne)).trans h3, w2.trans (p4 q 2 hq9 (by omega) hne)⟩
