/-! the class's court, as far as events change it: events, doubles, panes' rows, how many, words, how many, told, taken back, cabinets, watermark, latest time -/
abbrev AV : Type := (Nat → Int32) × Int32 × (Nat → Int32) × Nat × (Nat → Int32) × Nat × Int32 × Int32 × (Nat → Int32) × Int32 × Int32
abbrev aEv (S : AV) : Nat → Int32 := S.1
abbrev aDb (S : AV) : Int32 := S.2.1
abbrev aPn (S : AV) : Nat → Int32 := S.2.2.1
abbrev aU (S : AV) : Nat := S.2.2.2.1
abbrev aWd (S : AV) : Nat → Int32 := S.2.2.2.2.1
abbrev aW (S : AV) : Nat := S.2.2.2.2.2.1
abbrev aTl (S : AV) : Int32 := S.2.2.2.2.2.2.1
abbrev aTk (S : AV) : Int32 := S.2.2.2.2.2.2.2.1
abbrev aCb (S : AV) : Nat → Int32 := S.2.2.2.2.2.2.2.2.1
abbrev aWt (S : AV) : Int32 := S.2.2.2.2.2.2.2.2.2.1
abbrev aLt (S : AV) : Int32 := S.2.2.2.2.2.2.2.2.2.2
def x_o (S : AV) (z t : Nat) (key x : Int32) : Int32 := c_ver (aEv S) (aPn S) (aU S) (aCb S) (aWt S) z t key x
/-- the latest time and the watermark behind an event -/
def x_mk (S : AV) (z : Nat) (lg : Int32) (i t : Nat) (key am x o : Int32) (pn : Nat → Int32) (u : Nat) (wd : Nat → Int32) (w : Nat) (tk : Int32) (cb : Nat → Int32) : AV :=
  (e_con (e_ent (aEv S) i (nI t) key am x) i o (nI (t / z)), aDb S, (c_scN (pn, wd, w, aTl S) u (aLt S) (aWt S) lg z t).1, u, (c_scN (pn, wd, w, aTl S) u (aLt S) (aWt S) lg z t).2.1, (c_scN (pn, wd, w, aTl S) u (aLt S) (aWt S) lg z t).2.2.1, (c_scN (pn, wd, w, aTl S) u (aLt S) (aWt S) lg z t).2.2.2, tk, cb, c_wtN (aLt S) (aWt S) lg t, c_ltN (aLt S) t)
def x_re (S : AV) (z : Nat) (gr : Int32) (t : Nat) : PW := c_reo (aPn S, aWd S, aW S, aTk S) (aU S) (nI (t / z)) (aWt S + gr + 1)
def x_zf (S : AV) (x : Int32) : Nat := (aCb S (g_for (aCb S) x * 5 + 4)).toNatClampNeg
def x_adm (z : Nat) (lg gr : Int32) (S : AV) (i t : Nat) (key am x : Int32) : Int32 × AV :=
  if ¬ e_has (aEv S) i = 0 then (4, (aEv S, aDb S + 1, aPn S, aU S, aWd S, aW S, aTl S, aTk S, aCb S, aWt S, aLt S))
  else if 1 < x_o S z t key x then (x_o S z t key x, x_mk S z lg i t key am x (x_o S z t key x) (aPn S) (aU S) (aWd S) (aW S) (aTk S) (aCb S))
  else if x_o S z t key x = 0 then (x_o S z t key x, x_mk S z lg i t key am x (x_o S z t key x) (p_add (p_mp (aPn S) (nI (t / z)) (aU S)) (p_mr (aPn S) (nI (t / z)) (aU S)) key am) (p_mu (aPn S) (nI (t / z)) (aU S)) (aWd S) (aW S) (aTk S) (aCb S))
  else (x_o S z t key x, x_mk S z lg i t key am x (x_o S z t key x) (p_add (p_mp (x_re S z gr t).1 (nI (t / z)) (p_mu (aPn S) (nI (t / z)) (aU S))) (p_mr (x_re S z gr t).1 (nI (t / z)) (p_mu (aPn S) (nI (t / z)) (aU S))) key am) (p_mu (x_re S z gr t).1 (nI (t / z)) (p_mu (aPn S) (nI (t / z)) (aU S))) (x_re S z gr t).2.1 (x_re S z gr t).2.2.1 (x_re S z gr t).2.2.2 (g_file (aCb S) x (nI i) (x_zf S x)))
