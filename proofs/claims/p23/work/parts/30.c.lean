/-! events, words, cabinets of both sides -/
theorem m_put_at {now : Nat → Int32} {i c : Nat} {t key am x res : Int32} (hc : c < 6) : m_put now i t key am x res (12 + 6 * i + c) = if c = 0 then 1 else if c = 1 then t else if c = 2 then key else if c = 3 then am else if c = 4 then x else res := by
  rw [m_put]
  rcases (show c = 0 ∨ c = 1 ∨ c = 2 ∨ c = 3 ∨ c = 4 ∨ c = 5 by omega) with rfl | rfl | rfl | rfl | rfl | rfl <;> simp [upd]
theorem m_put_0 {now : Nat → Int32} {i : Nat} {t key am x res : Int32} : m_put now i t key am x res (12 + 6 * i + 0) = 1 := m_put_at (c := 0) (by omega)
theorem m_put_1 {now : Nat → Int32} {i : Nat} {t key am x res : Int32} : m_put now i t key am x res (12 + 6 * i + 1) = t := m_put_at (c := 1) (by omega)
theorem m_put_2 {now : Nat → Int32} {i : Nat} {t key am x res : Int32} : m_put now i t key am x res (12 + 6 * i + 2) = key := m_put_at (c := 2) (by omega)
theorem m_put_3 {now : Nat → Int32} {i : Nat} {t key am x res : Int32} : m_put now i t key am x res (12 + 6 * i + 3) = am := m_put_at (c := 3) (by omega)
theorem m_put_4 {now : Nat → Int32} {i : Nat} {t key am x res : Int32} : m_put now i t key am x res (12 + 6 * i + 4) = x := m_put_at (c := 4) (by omega)
theorem m_put_5 {now : Nat → Int32} {i : Nat} {t key am x res : Int32} : m_put now i t key am x res (12 + 6 * i + 5) = res := m_put_at (c := 5) (by omega)
theorem m_cts_put_ne {now : Nat → Int32} {i k : Nat} {t key am x res : Int32} (h : k ≠ i) : m_cts (m_put now i t key am x res) k = m_cts now k := by
  simp only [m_cts]
  rw [m_put_o (by omega), m_put_o (by omega)]
theorem m_cts_put_eq {now : Nat → Int32} {i : Nat} {t key am x res : Int32} : m_cts (m_put now i t key am x res) i = if m_isIn res 0 1 = 0 then 0 else 1 := by
  simp only [m_cts]
  rw [m_put_0, m_put_5, if_neg (fun h => h rfl)]
/-- an event that counts, or not, comes among the events -/
theorem m_acc_put0 {now : Nat → Int32} {i sz : Nat} {t key am x res q : Int32} (h : ¬ now (12 + 6 * i + 0) = 1) (hC : m_isIn res 0 1 = 0 ∨ ¬ t / nI sz = q) : ∀ k, m_acc (m_put now i t key am x res) sz q k = m_acc now sz q k
  | 0 => rfl
  | k + 1 => by
    have ih := m_acc_put0 h hC (now := now) (am := am) (key := key) (x := x) k
    rw [m_acc, m_acc, ih]
    by_cases hk : k = i
    · subst hk
      rw [m_cts_put_eq, show m_cts now k = 0 from if_pos h, if_pos (rfl : (0 : Int32) = 0)]
      by_cases h1 : m_isIn res 0 1 = 0
      · rw [if_pos h1, if_pos rfl]
      · rw [if_neg h1, if_neg (by decide), m_put_1, if_neg (hC.resolve_left h1)]
    · rw [m_cts_put_ne hk, m_put_o (j := 12 + 6 * k + 1) (by omega), m_put_o (j := 12 + 6 * k + 3) (by omega), m_put_o (j := 12 + 6 * k + 2) (by omega)]
theorem m_acc_put1 {now : Nat → Int32} {i sz : Nat} {t key am x res q : Int32} (h : ¬ now (12 + 6 * i + 0) = 1) (h1 : ¬ m_isIn res 0 1 = 0) (h2 : t / nI sz = q) : ∀ k, m_acc (m_put now i t key am x res) sz q k = if i < k then ((m_acc now sz q k).1 + 1, (m_acc now sz q k).2.1 + am, (m_acc now sz q k).2.2 ||| ((1 : Int32) <<< (key &&& 31))) else m_acc now sz q k
  | 0 => rfl
  | k + 1 => by
    have ih := m_acc_put1 h h1 h2 (now := now) (am := am) (key := key) (x := x) k
    rw [m_acc, m_acc, ih]
    by_cases hk : k = i
    · subst hk
      rw [m_cts_put_eq, show m_cts now k = 0 from if_pos h, if_pos (rfl : (0 : Int32) = 0), if_neg h1, if_neg (by decide), m_put_1, if_pos h2, if_neg (Nat.lt_irrefl _), if_pos (Nat.lt_succ_self _), m_put_3, m_put_2]
    · rw [m_cts_put_ne hk, m_put_o (j := 12 + 6 * k + 1) (by omega), m_put_o (j := 12 + 6 * k + 3) (by omega), m_put_o (j := 12 + 6 * k + 2) (by omega)]
      by_cases hik : i < k
      · have hik1 : i < k + 1 := by omega
        rw [if_pos hik, if_pos hik1]
        by_cases g1 : m_cts now k = 0
        · rw [if_pos g1, if_pos g1]
        · rw [if_neg g1, if_neg g1]
          by_cases g2 : now (12 + 6 * k + 1) / nI sz = q
          · rw [if_pos g2, if_pos g2]
            refine Prod.ext rfl (Prod.ext ?_ ?_)
            · show (m_acc now sz q k).2.1 + am + now (12 + 6 * k + 3) = (m_acc now sz q k).2.1 + now (12 + 6 * k + 3) + am
              rw [Int32.add_assoc, Int32.add_comm am, ← Int32.add_assoc]
            · show ((m_acc now sz q k).2.2 ||| ((1 : Int32) <<< (key &&& 31))) ||| ((1 : Int32) <<< (now (12 + 6 * k + 2) &&& 31)) = ((m_acc now sz q k).2.2 ||| ((1 : Int32) <<< (now (12 + 6 * k + 2) &&& 31))) ||| ((1 : Int32) <<< (key &&& 31))
              rw [Int32.or_assoc, Int32.or_comm ((1 : Int32) <<< (key &&& 31)), ← Int32.or_assoc]
          · rw [if_neg g2, if_neg g2]
      · have hik1 : ¬ i < k + 1 := by omega
        rw [if_neg hik, if_neg hik1]
/-- how many events count is a number up to 64 -/
theorem m_acc_nat (now : Nat → Int32) (sz : Nat) (q : Int32) : ∀ k, k ≤ 64 → ∃ n, n ≤ k ∧ (m_acc now sz q k).1 = nI n
  | 0, _ => ⟨0, Nat.le_refl _, rfl⟩
  | k + 1, hk => by
    obtain ⟨n, h1, h2⟩ := m_acc_nat now sz q k (by omega)
    rw [m_acc]
    split
    · exact ⟨n, by omega, h2⟩
    · split
      · exact ⟨n + 1, by omega, by rw [h2]; exact nI_inc n⟩
      · exact ⟨n, by omega, h2⟩
def aOk (now : Nat → Int32) : Prop := ∀ k, k < 64 → now (12 + 6 * k + 0) = 1 → (now (12 + 6 * k + 3)).toInt.natAbs ≤ 100
theorem i_add_small {a b : Int32} {m n : Nat} (ha : a.toInt.natAbs ≤ m) (hb : b.toInt.natAbs ≤ n) (h : m + n < 2 ^ 30) : (a + b).toInt.natAbs ≤ m + n := by
  rw [Int32.toInt_add, Int.bmod_eq_of_le (by omega) (by omega)]
  omega
theorem m_acc_sum {now : Nat → Int32} (sz : Nat) (q : Int32) (h : aOk now) : ∀ k, k ≤ 64 → (m_acc now sz q k).2.1.toInt.natAbs ≤ 100 * k
  | 0, _ => by rw [m_acc]; decide
  | k + 1, hk => by
    have ih := m_acc_sum sz q h k (by omega)
    rw [m_acc]
    split
    · omega
    · rename_i h1
      split
      · have h3 : now (12 + 6 * k + 0) = 1 := by
          rw [m_cts] at h1
          by_cases e : now (12 + 6 * k + 0) = 1
          · exact e
          · rw [if_pos e] at h1; exact absurd rfl h1
        have := i_add_small ih (h k (by omega) h3) (by omega)
        show ((m_acc now sz q k).2.1 + now (12 + 6 * k + 3)).toInt.natAbs ≤ _
        omega
      · omega
/-- how many events are there -/
def m_cn (now : Nat → Int32) : Nat → Nat
  | 0 => 0
  | k + 1 => if now (12 + 6 * k + 0) = 1 then m_cn now k + 1 else m_cn now k
theorem m_cn_le (now : Nat → Int32) : ∀ k, m_cn now k ≤ k
  | 0 => Nat.le_refl _
  | k + 1 => by have := m_cn_le now k; rw [m_cn]; split <;> omega
theorem m_cn_cong {now now' : Nat → Int32} : ∀ {k : Nat}, (∀ j, j < k → now' (12 + 6 * j + 0) = now (12 + 6 * j + 0)) → m_cn now' k = m_cn now k
  | 0, _ => rfl
  | k + 1, h => by rw [m_cn, m_cn, h k (by omega), m_cn_cong (fun j hj => h j (by omega))]
theorem m_cn_lt {now : Nat → Int32} {i : Nat} (h : ¬ now (12 + 6 * i + 0) = 1) : ∀ {k : Nat}, i < k → m_cn now k < k
  | 0, hk => absurd hk (by omega)
  | k + 1, hk => by
    rw [m_cn]
    by_cases e : i = k
    · subst e
      rw [if_neg h]
      have := m_cn_le now i
      omega
    · have := m_cn_lt h (k := k) (by omega)
      split <;> omega
theorem m_cn_put {now : Nat → Int32} {i : Nat} {t key am x res : Int32} (h : ¬ now (12 + 6 * i + 0) = 1) : ∀ {k : Nat}, m_cn (m_put now i t key am x res) k = if i < k then m_cn now k + 1 else m_cn now k
  | 0 => rfl
  | k + 1 => by
    rw [m_cn, m_cn, m_cn_put h]
    by_cases e : k = i
    · subst e
      rw [m_put_0, if_pos rfl, if_neg (Nat.lt_irrefl _), if_pos (Nat.lt_succ_self _), if_neg h]
    · rw [m_put_o (j := 12 + 6 * k + 0) (by omega)]
      by_cases h2 : i < k
      · have hik1 : i < k + 1 := by omega
        rw [if_pos h2, if_pos hik1]; split <;> omega
      · have hik1 : ¬ i < k + 1 := by omega
        rw [if_neg h2, if_neg hik1]
theorem m_cn_pos {now : Nat → Int32} {i : Nat} (h : now (12 + 6 * i + 0) = 1) : ∀ {k : Nat}, i < k → 0 < m_cn now k
  | 0, hk => absurd hk (by omega)
  | k + 1, hk => by
    rw [m_cn]
    by_cases e : i = k
    · subst e; rw [if_pos h]; omega
    · have := m_cn_pos h (k := k) (by omega)
      split <;> omega
/-- one event on both sides -/
def rE (now ev : Nat → Int32) (sz k : Nat) : Prop := (now (12 + 6 * k + 0) = 0 ∧ ev (k * 7 + 6) = 0) ∨ (now (12 + 6 * k + 0) = 1 ∧ ev (k * 7 + 6) = 1 ∧ (∃ t : Nat, t < 2000 ∧ now (12 + 6 * k + 1) = nI t ∧ ev (k * 7 + 0) = nI t ∧ ev (k * 7 + 5) = nI (t / sz)) ∧ ev (k * 7 + 1) = now (12 + 6 * k + 2) ∧ ev (k * 7 + 2) = now (12 + 6 * k + 3) ∧ ev (k * 7 + 3) = now (12 + 6 * k + 4) ∧ ev (k * 7 + 4) = now (12 + 6 * k + 5) ∧ (∃ r : Nat, r ≤ 3 ∧ now (12 + 6 * k + 5) = nI r) ∧ (now (12 + 6 * k + 3)).toInt.natAbs ≤ 100)
theorem rE_cong {now now' ev ev' : Nat → Int32} {sz k : Nat} (h : ∀ c, c < 6 → now' (12 + 6 * k + c) = now (12 + 6 * k + c)) (h2 : ∀ c, c < 7 → ev' (k * 7 + c) = ev (k * 7 + c)) (hr : rE now ev sz k) : rE now' ev' sz k := by
  rw [rE, h 0 (by omega), h 1 (by omega), h 2 (by omega), h 3 (by omega), h 4 (by omega), h 5 (by omega), h2 0 (by omega), h2 1 (by omega), h2 2 (by omega), h2 3 (by omega), h2 4 (by omega), h2 5 (by omega), h2 6 (by omega)]
  exact hr
theorem e_ec_at {ev : Nat → Int32} {i c : Nat} {t key am x o q : Int32} (hc : c < 7) : e_con (e_ent ev i t key am x) i o q (i * 7 + c) = if c = 0 then t else if c = 1 then key else if c = 2 then am else if c = 3 then x else if c = 4 then o else if c = 5 then q else 1 := by
  rw [e_con, e_ent]
  rcases (show c = 0 ∨ c = 1 ∨ c = 2 ∨ c = 3 ∨ c = 4 ∨ c = 5 ∨ c = 6 by omega) with rfl | rfl | rfl | rfl | rfl | rfl | rfl <;> simp [upd]
theorem e_ec_0 {ev : Nat → Int32} {i : Nat} {t key am x o q : Int32} : e_con (e_ent ev i t key am x) i o q (i * 7 + 0) = t := e_ec_at (c := 0) (by omega)
theorem e_ec_1 {ev : Nat → Int32} {i : Nat} {t key am x o q : Int32} : e_con (e_ent ev i t key am x) i o q (i * 7 + 1) = key := e_ec_at (c := 1) (by omega)
theorem e_ec_2 {ev : Nat → Int32} {i : Nat} {t key am x o q : Int32} : e_con (e_ent ev i t key am x) i o q (i * 7 + 2) = am := e_ec_at (c := 2) (by omega)
theorem e_ec_3 {ev : Nat → Int32} {i : Nat} {t key am x o q : Int32} : e_con (e_ent ev i t key am x) i o q (i * 7 + 3) = x := e_ec_at (c := 3) (by omega)
theorem e_ec_4 {ev : Nat → Int32} {i : Nat} {t key am x o q : Int32} : e_con (e_ent ev i t key am x) i o q (i * 7 + 4) = o := e_ec_at (c := 4) (by omega)
theorem e_ec_5 {ev : Nat → Int32} {i : Nat} {t key am x o q : Int32} : e_con (e_ent ev i t key am x) i o q (i * 7 + 5) = q := e_ec_at (c := 5) (by omega)
theorem e_ec_6 {ev : Nat → Int32} {i : Nat} {t key am x o q : Int32} : e_con (e_ent ev i t key am x) i o q (i * 7 + 6) = 1 := e_ec_at (c := 6) (by omega)
theorem e_ec_o {ev : Nat → Int32} {i j : Nat} {t key am x o q : Int32} (h : j < i * 7 ∨ i * 7 + 7 ≤ j) : e_con (e_ent ev i t key am x) i o q j = ev j := by
  rw [e_con, e_ent]
  repeat rw [pk_un (by omega)]
theorem rE_put {now ev : Nat → Int32} {sz i t r : Nat} {key am x : Int32} (ht : t < 2000) (hr : r ≤ 3) (ha : am.toInt.natAbs ≤ 100) {k : Nat} (h : rE now ev sz k) : rE (m_put now i (nI t) key am x (nI r)) (e_con (e_ent ev i (nI t) key am x) i (nI r) (nI (t / sz))) sz k := by
  by_cases hk : k = i
  · subst hk
    refine Or.inr ?_
    rw [m_put_0, m_put_1, m_put_2, m_put_3, m_put_4, m_put_5, e_ec_0, e_ec_1, e_ec_2, e_ec_3, e_ec_4, e_ec_5, e_ec_6]
    exact ⟨rfl, rfl, ⟨t, ht, rfl, rfl, rfl⟩, rfl, rfl, rfl, rfl, ⟨r, hr, rfl⟩, ha⟩
  · exact rE_cong (fun c hc => m_put_o (by omega)) (fun c hc => e_ec_o (by omega)) h
/-- the words of both sides -/
def rW (now wd : Nat → Int32) (w : Nat) : Prop := now 9 = nI w ∧ w ≤ 40 ∧ ∀ k c, k < w → c < 4 → wd (k * 4 + c) = now (908 + 4 * k + c)
theorem rW_cong {now now' wd : Nat → Int32} {w : Nat} (h9 : now' 9 = now 9) (h : ∀ j, 908 ≤ j → j < 1068 → now' j = now j) (hr : rW now wd w) : rW now' wd w :=
  ⟨by rw [h9]; exact hr.1, hr.2.1, fun k c hk hc => by rw [h _ (by omega) (by have := hr.2.1; omega)]; exact hr.2.2 k c hk hc⟩
theorem rW_says {now wd : Nat → Int32} {w : Nat} {so pa ma su : Int32} (hr : rW now wd w) : rW (m_says now w so pa ma su) (w_add wd w so pa ma su) (w_n w) := by
  obtain ⟨h9, h40, hh⟩ := hr
  rw [m_says, w_add, w_n]
  by_cases hw : w < 40
  · simp only [if_pos hw]
    refine ⟨pk_us, by omega, fun k c hk hc => ?_⟩
    rw [pk_un (j := 908 + 4 * k + c) (by omega)]
    by_cases hkw : k = w
    · subst hkw
      rcases (show c = 0 ∨ c = 1 ∨ c = 2 ∨ c = 3 by omega) with rfl | rfl | rfl | rfl <;> simp [upd]
    · rw [pk_un (by omega), pk_un (by omega), pk_un (by omega), pk_un (by omega), pk_un (by omega), pk_un (by omega), pk_un (by omega), pk_un (by omega)]
      exact hh k c (by omega) hc
  · simp only [if_neg hw]
    obtain rfl : w = 40 := by omega
    refine ⟨pk_us, by omega, fun k c hk hc => ?_⟩
    rw [pk_un (j := 908 + 4 * k + c) (by omega)]
    by_cases hk9 : k = 39
    · subst hk9
      rcases (show c = 0 ∨ c = 1 ∨ c = 2 ∨ c = 3 by omega) with rfl | rfl | rfl | rfl <;> simp [upd]
    · rw [pk_un (by omega), pk_un (by omega), pk_un (by omega), pk_un (by omega), pk_un (by omega), pk_un (by omega), pk_un (by omega), pk_un (by omega)]
      rw [va_cpy, if_pos (by omega), m_shW, if_neg (by omega), if_pos (by omega), show 4 + (k * 4 + c - 0) = (k + 1) * 4 + c by omega, show 908 + 4 * k + c + 4 = 908 + 4 * (k + 1) + c by omega]
      exact hh (k + 1) c (by omega) hc
/-- one cabinet of both sides -/
def rC (now cb : Nat → Int32) (c : Nat) : Prop := ∃ n : Nat, n ≤ 4 ∧ cb (c * 5 + 4) = nI n ∧ (∀ p, p < n → ∃ id : Nat, id < 64 ∧ now (1068 + 4 * c + p) = nI (id + 1) ∧ cb (c * 5 + p) = nI id) ∧ ∀ p, n ≤ p → p < 4 → now (1068 + 4 * c + p) = 0
theorem rC_cong {now now' cb : Nat → Int32} {c : Nat} (hc : c < 3) (h : ∀ j, 1068 ≤ j → j < 1080 → now' j = now j) (hr : rC now cb c) : rC now' cb c := by
  obtain ⟨n, h1, h2, h3, h4⟩ := hr
  exact ⟨n, h1, h2, fun p hp => by rw [h _ (by omega) (by omega)]; exact h3 p hp, fun p hp hp4 => by rw [h _ (by omega) (by omega)]; exact h4 p hp hp4⟩
theorem k_id1 {id : Nat} (h : id < 64) : ¬ nI (id + 1) = 0 := nI_ne0 (by omega) (by omega)
theorem rC_pin {now cb : Nat → Int32} {c n : Nat} (h1 : n ≤ 4) (h3 : ∀ p, p < n → ∃ id : Nat, id < 64 ∧ now (1068 + 4 * c + p) = nI (id + 1) ∧ cb (c * 5 + p) = nI id) (h4 : ∀ p, n ≤ p → p < 4 → now (1068 + 4 * c + p) = 0) : m_pinN now c = if n < 4 then 1068 + 4 * c + n else 0 := by
  have nz : ∀ p, p < n → ¬ now (1068 + 4 * c + p) = 0 := fun p hp => by
    obtain ⟨id, a, b, -⟩ := h3 p hp
    rw [b]; exact k_id1 a
  rw [m_pinN]
  rcases (show n = 0 ∨ n = 1 ∨ n = 2 ∨ n = 3 ∨ n = 4 by omega) with rfl | rfl | rfl | rfl | rfl
  · rw [if_pos (h4 0 (by omega) (by omega)), if_pos (by omega)]
  · rw [if_neg (nz 0 (by omega)), if_pos (h4 1 (by omega) (by omega)), if_pos (by omega)]
  · rw [if_neg (nz 0 (by omega)), if_neg (nz 1 (by omega)), if_pos (h4 2 (by omega) (by omega)), if_pos (by omega)]
  · rw [if_neg (nz 0 (by omega)), if_neg (nz 1 (by omega)), if_neg (nz 2 (by omega)), if_pos (h4 3 (by omega) (by omega)), if_pos (by omega)]
  · rw [if_neg (nz 0 (by omega)), if_neg (nz 1 (by omega)), if_neg (nz 2 (by omega)), if_neg (nz 3 (by omega)), if_neg (by omega)]
theorem rC_full {now cb : Nat → Int32} {c : Nat} (h : rC now cb c) : (m_pinN now c = 0 ∧ g_full cb c = 1) ∨ (∃ n, n < 4 ∧ cb (c * 5 + 4) = nI n ∧ m_pinN now c = 1068 + 4 * c + n ∧ g_full cb c = 0) := by
  obtain ⟨n, h1, h2, h3, h4⟩ := h
  rw [rC_pin h1 h3 h4, g_full, h2]
  by_cases hn : n < 4
  · refine Or.inr ⟨n, hn, rfl, if_pos hn, if_pos ((nI_ltI (a := n) (b := 4) (by omega) (by omega)).mpr hn)⟩
  · refine Or.inl ⟨if_neg hn, if_neg (fun e => hn ((nI_ltI (a := n) (b := 4) (by omega) (by omega)).mp e))⟩
/-- where an excuse goes -/
theorem rC_for {now cb : Nat → Int32} (h : ∀ c, c < 3 → rC now cb c) {x : Nat} (h1 : 1 ≤ x) (h3 : x ≤ 3) : m_pfN now x = m_pinN now (g_for cb (nI x)) := by
  rw [m_pfN, g_for]
  have e1 : (nI 1 = 1) = True := by decide
  have e2 : (nI 2 = 1) = False := by decide
  have e3 : (nI 2 = 2) = True := by decide
  have e4 : (nI 1 = 2) = False := by decide
  have e5 : (nI 3 = 1) = False := by decide
  have e6 : (nI 3 = 2) = False := by decide
  have z10 : ¬ ((1 : Int32) = 0) := by decide
  rcases (show x = 1 ∨ x = 2 ∨ x = 3 by omega) with rfl | rfl | rfl
  · rcases rC_full (h 0 (by omega)) with ⟨a, b⟩ | ⟨n, a, b, c, d⟩
    · rw [a, b]; simp [e1, e4, z10, a]
    · rw [d]; simp [e1, c, d]
  · rcases rC_full (h 1 (by omega)) with ⟨a, b⟩ | ⟨n, a, b, c, d⟩
    · rw [b]; simp [e2, e3, z10, a]
    · rw [d]; simp [e2, e3, c, d]
  · simp [e5, e6]
theorem rC_file {now cb : Nat → Int32} {x i z : Nat} (h : ∀ c, c < 3 → rC now cb c) (h1 : 1 ≤ x) (h3 : x ≤ 3) (hi : i < 64) (hp : ¬ m_pfN now x = 0) (hz : cb (g_for cb (nI x) * 5 + 4) = nI z) (hz4 : g_full cb (g_for cb (nI x)) = 0 → z < 4) : ∀ c, c < 3 → rC (upd now (m_pfN now x) (nI (i + 1))) (g_file cb (nI x) (nI i) z) c := by
  have hg := g_for_lt cb (nI x)
  rw [rC_for h h1 h3] at hp ⊢
  rcases rC_full (h _ hg) with ⟨a, b⟩ | ⟨n, a, b, c, d⟩
  · exact absurd a hp
  · have hz5 := hz4 d
    have hnz : n = z := (nI_eq (a := n) (b := z) (by omega) (by omega)).mp (b.symm.trans hz)
    subst hnz
    have hf : g_file cb (nI x) (nI i) n = upd (upd cb (g_for cb (nI x) * 5 + n) (nI i)) (g_for cb (nI x) * 5 + 4) (nI (n + 1)) := by rw [g_file, if_neg (fun q => q d)]
    rw [hf, c]
    clear hf hp hz hz4 d c
    generalize g_for cb (nI x) = g at *
    intro c' hc'
    obtain ⟨m, m1, m2, m3, m4⟩ := h c' hc'
    by_cases hcg : c' = g
    · subst hcg
      have hmn : m = n := (nI_eq (a := m) (b := n) (by omega) (by omega)).mp (m2.symm.trans b)
      subst hmn
      refine ⟨m + 1, by omega, pk_us, fun p hp => ?_, fun p hp hp4 => ?_⟩
      · by_cases hpm : p = m
        · subst hpm
          exact ⟨i, hi, pk_us, by rw [pk_un (by omega)]; exact pk_us⟩
        · obtain ⟨id, i1, i2, i3⟩ := m3 p (by omega)
          exact ⟨id, i1, by rw [pk_un (by omega)]; exact i2, by rw [pk_un (by omega), pk_un (by omega)]; exact i3⟩
      · rw [pk_un (by omega)]; exact m4 p (by omega) hp4
    · refine ⟨m, m1, by rw [pk_un (by omega), pk_un (by omega)]; exact m2, fun p hp => ?_, fun p hp hp4 => ?_⟩
      · obtain ⟨id, i1, i2, i3⟩ := m3 p hp
        exact ⟨id, i1, by rw [pk_un (by omega)]; exact i2, by rw [pk_un (by omega), pk_un (by omega)]; exact i3⟩
      · rw [pk_un (by omega)]; exact m4 p hp hp4
