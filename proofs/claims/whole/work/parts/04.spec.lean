/-! THE PURE PICTURE: things n with CLASS cl, V vs, LINK lk, the row's number hd; rows nr with SORT so, size sz, items it (twelve a row); outcome oc, own ow, begun bg, deep dp, told td. -/
abbrev ST : Type := Nat × (Nat → Int32) × (Nat → Int32) × (Nat → Int32) × (Nat → Int32) × Nat × (Nat → Int32) × (Nat → Int32) × (Nat → Int64) × Int32 × Int32 × Int32 × Int32 × (Nat → Int32)
abbrev OUT : Int32 := -2000000001
abbrev OUTL : Int64 := -2000000001
def cn (x : Int32) : Nat := x.toNatClampNeg
def tin (n : Nat) (t : Int32) : Bool := decide (0 ≤ t) && decide (cn t < n)
theorem cn_nI {k : Nat} (h : k < 2 ^ 31) : cn (nI k) = k := nI_clamp h
theorem tin_y {n k : Nat} (hk : k < n) (hn : n ≤ 1000) : tin n (nI k) = true := by
  have h1 : 0 ≤ nI k := nI_pos' (by omega)
  simp [tin, h1, cn_nI (show k < 2 ^ 31 by omega), hk]
theorem tin_c (n : Nat) (t : Int32) (hn : n ≤ 1000) : (tin n t = false ∧ (t < 0 ∨ nI n ≤ t)) ∨ ∃ k, k < n ∧ t = nI k := by
  rcases pk_ix t (n := n) (by omega) with h | h | ⟨j, hj, rfl⟩
  · refine Or.inl ⟨?_, Or.inl h⟩
    have h0 : ¬ (0 ≤ t) := Int32.not_le.mpr h
    simp [tin, h0]
  · refine Or.inl ⟨?_, Or.inr h⟩
    have h0 : ¬ t < 0 := fun q => by
      have h1 : (0 : Int32) ≤ nI n := nI_pos' (by omega)
      exact Int32.not_lt.mpr (Int32.le_trans h1 h) q
    obtain ⟨j, hj, rfl⟩ := nI_of h0
    have h2 := (nI_leI (show n < 2 ^ 31 by omega) hj).mp h
    simp [tin, cn_nI hj, h2]
  · exact Or.inr ⟨j, hj, rfl⟩
def s_tell (o : Int32) : ST → ST
  | (n, cl, vs, lk, hd, nr, so, sz, it, _, ow, bg, dp, td) => (n, cl, vs, lk, hd, nr, so, sz, it, o, ow, bg, dp, upd td (cn o) (td (cn o) + 1))
def S_thing (c v : Int32) : ST → Int32 × ST
  | (n, cl, vs, lk, hd, r) => if tin 8 c = true then (if n = 40 then (-2, (n, cl, vs, lk, hd, r)) else (nI n, (n + 1, upd cl n c, upd vs n v, upd lk n (-1), upd hd n (-1), r))) else (OUT, (n, cl, vs, lk, hd, r))
def S_told (o : Int32) : ST → Int32
  | (_, _, _, _, _, _, _, _, _, _, _, _, _, td) => if tin 10 o = true then td (cn o) else OUT
def S_cls (t : Int32) : ST → Int32
  | (n, cl, _) => if tin n t = true then cl (cn t) else OUT
def isof (x c : Int32) : Bool := decide (x = c) || (decide (c < x) && decide (x ≤ 2))
def S_is (t c : Int32) : ST → Int32
  | (n, cl, _) => if tin n t = true then (if tin 8 c = true then (if isof (cl (cn t)) c = true then 1 else 0) else OUT) else OUT
def S_v (t : Int32) : ST → Int32
  | (n, _, vs, _) => if tin n t = true then vs (cn t) else OUT
def S_become (t v : Int32) : ST → Int32 × ST
  | (n, cl, vs, r) => if tin n t = true then (vs (cn t), (n, cl, upd vs (cn t) v, r)) else (OUT, (n, cl, vs, r))
def S_link (t o : Int32) : ST → Int32 × ST
  | (n, cl, vs, lk, r) => if tin n t = true then (if o = -1 ∨ tin n o = true then (lk (cn t), (n, cl, vs, upd lk (cn t) o, r)) else (OUT, (n, cl, vs, lk, r))) else (OUT, (n, cl, vs, lk, r))
def S_linked (t : Int32) : ST → Int32
  | (n, _, _, lk, _) => if tin n t = true then lk (cn t) else OUT
def put_lk (k : Nat) (x : Int32) : ST → ST
  | (n, cl, vs, lk, r) => (n, cl, vs, upd lk k x, r)
def put_vs (k : Nat) (x : Int32) : ST → ST
  | (n, cl, vs, r) => (n, cl, upd vs k x, r)
def put_hd (k : Nat) (x : Int32) : ST → ST
  | (n, cl, vs, lk, hd, r) => (n, cl, vs, lk, upd hd k x, r)
def put_it (k : Nat) (x : Int64) : ST → ST
  | (n, cl, vs, lk, hd, nr, so, sz, it, r) => (n, cl, vs, lk, hd, nr, so, sz, vp_updL it k x, r)
def S_follow (t : Int32) : ST → Int32 × ST
  | (n, cl, vs, lk, r) => if tin n t = true then (if lk (cn t) = -1 then (0, s_tell 1 (n, cl, vs, lk, r)) else (lk (cn (lk (cn t))), put_lk (cn t) (lk (cn (lk (cn t)))) (s_tell 0 (n, cl, vs, lk, r)))) else (OUT, (n, cl, vs, lk, r))
def S_trade (t : Int32) : ST → Int32 × ST
  | (n, cl, vs, lk, r) => if tin n t = true then (if lk (cn t) = -1 then (0, s_tell 1 (n, cl, vs, lk, r)) else (upd (upd vs (cn t) (vs (cn (lk (cn t))))) (cn (lk (cn t))) (vs (cn t)) (cn t), put_vs (cn (lk (cn t))) (vs (cn t)) (put_vs (cn t) (vs (cn (lk (cn t)))) (s_tell 0 (n, cl, vs, lk, r))))) else (OUT, (n, cl, vs, lk, r))
def fil (it : Nat → Int64) (r : Nat) (v : Int64) (m : Nat) : Nat → Int64 := fun q => if 12 * r ≤ q ∧ q < 12 * r + m then v else it q
def add_row (k : Nat) (s z : Int32) : ST → ST
  | (n, cl, vs, lk, hd, nr, so, sz, it, r) => (n, cl, vs, lk, upd hd k (nI nr), nr + 1, upd so nr s, upd sz nr z, fil it nr (if s < 2 then 0 else -1) 12, r)
def S_hold (t s z : Int32) : ST → Int32 × ST
  | (n, r) => if tin n t = true then (if s = -1 ∨ tin 4 s = true then (if z ≤ 12 then (if s = -1 then (0, put_hd (cn t) (-1) (s_tell 0 (n, r))) else if z < 0 then (0, s_tell 4 (n, r)) else (z, add_row (cn t) s z (s_tell 0 (n, r)))) else (OUT, (n, r))) else (OUT, (n, r))) else (OUT, (n, r))
def S_holds (t : Int32) : ST → Int32
  | (n, _, _, _, hd, _, so, _) => if tin n t = true then (if hd (cn t) = -1 then -1 else so (cn (hd (cn t)))) else OUT
def S_share (t o : Int32) : ST → Int32 × ST
  | (n, cl, vs, lk, hd, nr, so, r) => if tin n t = true then (if tin n o = true then (if hd (cn o) = -1 then -1 else so (cn (hd (cn o))), (n, cl, vs, lk, upd hd (cn t) (hd (cn o)), nr, so, r)) else (OUT, (n, cl, vs, lk, hd, nr, so, r))) else (OUT, (n, cl, vs, lk, hd, nr, so, r))
def S_size (t : Int32) : ST → Int32 × ST
  | (n, cl, vs, lk, hd, nr, so, sz, r) => if tin n t = true then (if hd (cn t) = -1 then (0, s_tell 1 (n, cl, vs, lk, hd, nr, so, sz, r)) else (sz (cn (hd (cn t))), s_tell 0 (n, cl, vs, lk, hd, nr, so, sz, r))) else (OUT, (n, cl, vs, lk, hd, nr, so, sz, r))
def S_at (t k : Int32) : ST → Int64 × ST
  | (n, cl, vs, lk, hd, nr, so, sz, it, r) => if tin n t = true then (if hd (cn t) = -1 then (0, s_tell 1 (n, cl, vs, lk, hd, nr, so, sz, it, r)) else if tin (cn (sz (cn (hd (cn t))))) k = true then (it (12 * cn (hd (cn t)) + cn k), s_tell 0 (n, cl, vs, lk, hd, nr, so, sz, it, r)) else (0, s_tell 3 (n, cl, vs, lk, hd, nr, so, sz, it, r))) else (OUTL, (n, cl, vs, lk, hd, nr, so, sz, it, r))
def S_lay (t k : Int32) (v : Int64) : ST → Int64 × ST
  | (n, cl, vs, lk, hd, nr, so, sz, it, r) => if tin n t = true then (if hd (cn t) = -1 then (0, s_tell 1 (n, cl, vs, lk, hd, nr, so, sz, it, r)) else if 1 < so (cn (hd (cn t))) then (0, s_tell 2 (n, cl, vs, lk, hd, nr, so, sz, it, r)) else if tin (cn (sz (cn (hd (cn t))))) k = true then (it (12 * cn (hd (cn t)) + cn k), put_it (12 * cn (hd (cn t)) + cn k) (if so (cn (hd (cn t))) = 0 then v.toInt32.toInt64 else v) (s_tell 0 (n, cl, vs, lk, hd, nr, so, sz, it, r))) else (0, s_tell 3 (n, cl, vs, lk, hd, nr, so, sz, it, r))) else (OUTL, (n, cl, vs, lk, hd, nr, so, sz, it, r))
def S_set (t k o : Int32) : ST → Int32 × ST
  | (n, cl, vs, lk, hd, nr, so, sz, it, r) => if tin n t = true then (if o = -1 ∨ tin n o = true then (if hd (cn t) = -1 then (0, s_tell 1 (n, cl, vs, lk, hd, nr, so, sz, it, r)) else if so (cn (hd (cn t))) < 2 then (0, s_tell 2 (n, cl, vs, lk, hd, nr, so, sz, it, r)) else if tin (cn (sz (cn (hd (cn t))))) k = true then (if so (cn (hd (cn t))) = 3 ∧ ¬ o = -1 ∧ ¬ cl (cn o) ≤ 2 then (0, s_tell 5 (n, cl, vs, lk, hd, nr, so, sz, it, r)) else ((it (12 * cn (hd (cn t)) + cn k)).toInt32, put_it (12 * cn (hd (cn t)) + cn k) o.toInt64 (s_tell 0 (n, cl, vs, lk, hd, nr, so, sz, it, r)))) else (0, s_tell 3 (n, cl, vs, lk, hd, nr, so, sz, it, r))) else (OUT, (n, cl, vs, lk, hd, nr, so, sz, it, r))) else (OUT, (n, cl, vs, lk, hd, nr, so, sz, it, r))
/-- how many of m items from place b on stand ahead of the first one that is no leaf -/
def gon (cl : Nat → Int32) (it : Nat → Int64) (b : Nat) : Nat → Nat
  | 0 => 0
  | m + 1 => if it b = -1 ∨ cl (cn (it b).toInt32) ≤ 2 then gon cl it (b + 1) m + 1 else 0
def S_move (t i o j z : Int32) : ST → Int32 × ST
  | (n, cl, vs, lk, hd, nr, so, sz, it, r) => if tin n t = true then (if tin n o = true then (if hd (cn t) = -1 ∨ hd (cn o) = -1 then (0, s_tell 1 (n, cl, vs, lk, hd, nr, so, sz, it, r)) else
      if so (cn (hd (cn t))) = so (cn (hd (cn o))) ∨ (1 < so (cn (hd (cn t))) ∧ 1 < so (cn (hd (cn o)))) then
        (if 0 ≤ i ∧ 0 ≤ j ∧ 0 ≤ z ∧ cn i + cn z ≤ cn (sz (cn (hd (cn t)))) ∧ cn j + cn z ≤ cn (sz (cn (hd (cn o)))) then
          (let g := if so (cn (hd (cn o))) = 3 then gon cl it (12 * cn (hd (cn t)) + cn i) (cn z) else cn z
           (if g = cn z then z else 0, s_tell (if g = cn z then 0 else 5) (n, cl, vs, lk, hd, nr, so, sz, va_cpy it it (12 * cn (hd (cn t)) + cn i) (12 * cn (hd (cn o)) + cn j) g, r)))
        else (0, s_tell 3 (n, cl, vs, lk, hd, nr, so, sz, it, r)))
      else (0, s_tell 5 (n, cl, vs, lk, hd, nr, so, sz, it, r))) else (OUT, (n, cl, vs, lk, hd, nr, so, sz, it, r))) else (OUT, (n, cl, vs, lk, hd, nr, so, sz, it, r))
def sm (it : Nat → Int64) (b : Nat) : Nat → Int32
  | 0 => 0
  | k + 1 => sm it b k + (it (b + k)).toInt32
/-- a number worked out without another one: its outcome, itself, what is thrown -/
def pl (cl vs hd so sz : Nat → Int32) (it : Nat → Int64) (a : Nat) : Int32 × Int32 × Int32 :=
  if cl a = 0 then (0, vs a, 0) else if cl a = 1 then (0, 2 * vs a, 0) else if cl a = 2 then (0, 3 * vs a, 0)
  else if cl a = 3 then (if vs a = 0 then (6, 0, 0) else (0, 1000 / vs a, 0))
  else if cl a = 5 then (if vs a = 0 then (1, 0, 0) else (7, 0, vs a))
  else if cl a = 6 then (0, (it (12 * cn (hd a))).toInt32, 0)
  else if hd a = -1 then (1, 0, 0) else if so (cn (hd a)) = 0 then (0, sm it (12 * cn (hd a)) (cn (sz (cn (hd a)))), 0) else (2, 0, 0)
/-- what a number takes: its outcome so far, the thing whose number it takes (-1: none) -/
def tk (cl lk hd so sz : Nat → Int32) (it : Nat → Int64) (a : Nat) : Int32 × Int32 :=
  if cl a = 4 then (if lk a = -1 then 1 else 0, lk a)
  else if cl a = 6 then (if hd a = -1 then (1, -1) else if sz (cn (hd a)) = 0 then (3, -1) else if so (cn (hd a)) < 2 then (0, -1) else (if (it (12 * cn (hd a))).toInt32 = -1 then 1 else 0, (it (12 * cn (hd a))).toInt32))
  else (0, -1)
/-- the number of thing a, with d levels left below: outcome, number, begun, deep, thrown -/
def nm (cl vs lk hd so sz : Nat → Int32) (it : Nat → Int64) (lim : Int32) : Nat → Nat → Int32 → Int32 × Int32 × Int32 × Int32 × Int32
  | 0, _, bg => (if bg = lim then 9 else 8, 0, bg, 30, 0)
  | d + 1, a, bg => if bg = lim then (9, 0, bg, nI (29 - d), 0) else
      if (tk cl lk hd so sz it a).1 = 0 then
        (if (tk cl lk hd so sz it a).2 = -1 then ((pl cl vs hd so sz it a).1, (pl cl vs hd so sz it a).2.1, bg + 1, if (pl cl vs hd so sz it a).1 = 0 then 0 else nI (30 - d), (pl cl vs hd so sz it a).2.2)
         else ((nm cl vs lk hd so sz it lim d (cn (tk cl lk hd so sz it a).2) (bg + 1)).1, (nm cl vs lk hd so sz it lim d (cn (tk cl lk hd so sz it a).2) (bg + 1)).2.1 + (if cl a = 4 then 1 else 0), (nm cl vs lk hd so sz it lim d (cn (tk cl lk hd so sz it a).2) (bg + 1)).2.2))
      else ((tk cl lk hd so sz it a).1, 0, bg + 1, nI (30 - d), 0)
def nmS (lim : Int32) (a : Nat) (bg : Int32) : ST → Int32 × Int32 × Int32 × Int32 × Int32
  | (_, cl, vs, lk, hd, _, so, sz, it, _) => nm cl vs lk hd so sz it lim 30 a bg
/-- a call's end: outcome o told, with begun b, deep p, thrown th -/
def s_end (o b p th : Int32) : ST → ST
  | (n, cl, vs, lk, hd, nr, so, sz, it, _, ow, _, _, td) => (n, cl, vs, lk, hd, nr, so, sz, it, o, if o = 7 then th else ow, b, p, upd td (cn o) (td (cn o) + 1))
def lin (x : Int32) : Bool := tin 101 x && !decide (x = 0)
def n_of : ST → Nat
  | (n, _) => n
def S_run (t lim : Int32) (σ : ST) : Int32 × ST :=
  if tin (n_of σ) t = true then (if lin lim = true then
    (let q := nmS lim (cn t) 0 σ
     (if q.1 = 0 then q.2.1 else 0, s_end q.1 q.2.2.1 q.2.2.2.1 q.2.2.2.2 σ)) else (OUT, σ)) else (OUT, σ)
def S_either (t o lim : Int32) (σ : ST) : Int32 × ST :=
  if tin (n_of σ) t = true then (if tin (n_of σ) o = true then (if lin lim = true then
    (let q0 := nmS lim (cn t) 0 σ
     let q := if 1 ≤ q0.1 ∧ q0.1 ≤ 7 then nmS lim (cn o) q0.2.2.1 σ else q0
     (if q.1 = 0 then q.2.1 else 0, s_end q.1 q.2.2.1 q.2.2.2.1 q.2.2.2.2 σ)) else (OUT, σ)) else (OUT, σ)) else (OUT, σ)
def lk_of : ST → Nat → Int32
  | (_, _, _, lk, _) => lk
def vs_of : ST → Nat → Int32
  | (_, _, vs, _) => vs
def S_gather (t lim : Int32) (σ : ST) : Int32 × ST :=
  if tin (n_of σ) t = true then (if lin lim = true then
    (if lk_of σ (cn t) = -1 then (0, s_end 1 0 0 0 σ) else
     let q := nmS lim (cn (lk_of σ (cn t))) 0 σ
     if q.1 = 0 then (vs_of σ (cn t) + q.2.1, put_vs (cn t) (vs_of σ (cn t) + q.2.1) (s_end q.1 q.2.2.1 q.2.2.2.1 q.2.2.2.2 σ)) else (0, s_end q.1 q.2.2.1 q.2.2.2.1 q.2.2.2.2 σ)) else (OUT, σ)) else (OUT, σ)
/-- what is against item k of the ints that thing o holds -/
def agi (k : Int32) (o : Nat) : ST → Int32
  | (_, _, _, _, hd, _, so, sz, _) => if hd o = -1 then 1 else if so (cn (hd o)) = 0 then (if tin (cn (sz (cn (hd o)))) k = true then 0 else 3) else 2
def hd_of : ST → Nat → Int32
  | (_, _, _, _, hd, _) => hd
def S_keep (t o k lim : Int32) (σ : ST) : Int32 × ST :=
  if tin (n_of σ) t = true then (if tin (n_of σ) o = true then (if lin lim = true then
    (let q := nmS lim (cn t) 0 σ
     if q.1 = 0 then (if agi k (cn o) σ = 0 then (q.2.1, put_it (12 * cn (hd_of σ (cn o)) + cn k) q.2.1.toInt64 (s_end 0 q.2.2.1 q.2.2.2.1 q.2.2.2.2 σ)) else (0, s_end (agi k (cn o) σ) q.2.2.1 q.2.2.2.1 q.2.2.2.2 σ)) else (0, s_end q.1 q.2.2.1 q.2.2.2.1 q.2.2.2.2 σ)) else (OUT, σ)) else (OUT, σ)) else (OUT, σ)
