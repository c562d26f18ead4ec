/-! THE CELLS: of the class (Rc), of the reference (Rm), over the pure picture. -/
def ro (Rw : Nat → Nat) (h : Int32) : Option Nat := if h = -1 then none else some (Rw (cn h))
abbrev GC : Type := Nat × Nat × Nat × Nat × Nat × (Nat → Option Nat) × (Nat → Nat) × (Nat → Nat) × (Nat → Nat) × (Nat → Nat → Int64)
def Rc (E : EV) (w : wo) : GC → ST → Int32 × Int32 × Int32 → Prop
  | (x, st, wk, tl, ta, tf, T, Rw, Ia, F), (n, cl, vs, lk, hd, nr, so, sz, it, oc, ow, bg, dp, td), (lim, wou, th) => w x = some (.inr (4, [.ref st, .ref wk, .ref tl, .int oc, .int ow])) ∧ w st = some (.inr (1, [.ref ta, .int (nI n)])) ∧ w wk = some (.inr (3, [.ref st, .int lim, .int bg, .int wou, .int dp, .int th])) ∧ w tl = some (.inl (E.2.1, 10, .inl td)) ∧ w ta = some (.inl (E.2.2.2, 40, .inr (.inr (.inr (.inr tf))))) ∧ (∀ k, k < n → tf k = some (T k)) ∧ (∀ k, k < n → w (T k) = some (.inr (2, [.int (cl k), .int (vs k), .int (lk k), va_rf (ro Rw (hd k))]))) ∧ (∀ r, r < nr → w (Rw r) = some (.inr (0, [.int (so r), .ref (Ia r)]))) ∧ (∀ r, r < nr → w (Ia r) = some (.inl (E.2.2.1, cn (sz r), .inr (.inl (F r))))) ∧ (∀ r, r < nr → ∀ k, k < cn (sz r) → F r k = it (12 * r + k)) ∧ (∀ i j, i < n → j < n → T i = T j → i = j) ∧ (∀ i j, i < nr → j < nr → Rw i = Rw j → i = j) ∧ (∀ i j, i < nr → j < nr → Ia i = Ia j → i = j)
section RCS
variable {E : EV} {w : wo} {x st wk tl ta : Nat} {tf : Nat → Option Nat} {T Rw Ia : Nat → Nat} {F : Nat → Nat → Int64} {n : Nat} {cl vs lk hd : Nat → Int32} {nr : Nat} {so sz : Nat → Int32} {it : Nat → Int64} {oc ow bg dp : Int32} {td : Nat → Int32} {lim wou th : Int32}
theorem Rc_x (R : Rc E w (x, st, wk, tl, ta, tf, T, Rw, Ia, F) (n, cl, vs, lk, hd, nr, so, sz, it, oc, ow, bg, dp, td) (lim, wou, th)) : w x = some (.inr (4, [.ref st, .ref wk, .ref tl, .int oc, .int ow])) := R.1
theorem Rc_st (R : Rc E w (x, st, wk, tl, ta, tf, T, Rw, Ia, F) (n, cl, vs, lk, hd, nr, so, sz, it, oc, ow, bg, dp, td) (lim, wou, th)) : w st = some (.inr (1, [.ref ta, .int (nI n)])) := R.2.1
theorem Rc_wk (R : Rc E w (x, st, wk, tl, ta, tf, T, Rw, Ia, F) (n, cl, vs, lk, hd, nr, so, sz, it, oc, ow, bg, dp, td) (lim, wou, th)) : w wk = some (.inr (3, [.ref st, .int lim, .int bg, .int wou, .int dp, .int th])) := R.2.2.1
theorem Rc_tl (R : Rc E w (x, st, wk, tl, ta, tf, T, Rw, Ia, F) (n, cl, vs, lk, hd, nr, so, sz, it, oc, ow, bg, dp, td) (lim, wou, th)) : w tl = some (.inl (E.2.1, 10, .inl td)) := R.2.2.2.1
theorem Rc_ta (R : Rc E w (x, st, wk, tl, ta, tf, T, Rw, Ia, F) (n, cl, vs, lk, hd, nr, so, sz, it, oc, ow, bg, dp, td) (lim, wou, th)) : w ta = some (.inl (E.2.2.2, 40, .inr (.inr (.inr (.inr tf))))) := R.2.2.2.2.1
theorem Rc_tf (R : Rc E w (x, st, wk, tl, ta, tf, T, Rw, Ia, F) (n, cl, vs, lk, hd, nr, so, sz, it, oc, ow, bg, dp, td) (lim, wou, th)) : (∀ k, k < n → tf k = some (T k)) := R.2.2.2.2.2.1
theorem Rc_T (R : Rc E w (x, st, wk, tl, ta, tf, T, Rw, Ia, F) (n, cl, vs, lk, hd, nr, so, sz, it, oc, ow, bg, dp, td) (lim, wou, th)) : (∀ k, k < n → w (T k) = some (.inr (2, [.int (cl k), .int (vs k), .int (lk k), va_rf (ro Rw (hd k))]))) := R.2.2.2.2.2.2.1
theorem Rc_Rw (R : Rc E w (x, st, wk, tl, ta, tf, T, Rw, Ia, F) (n, cl, vs, lk, hd, nr, so, sz, it, oc, ow, bg, dp, td) (lim, wou, th)) : (∀ r, r < nr → w (Rw r) = some (.inr (0, [.int (so r), .ref (Ia r)]))) := R.2.2.2.2.2.2.2.1
theorem Rc_Ia (R : Rc E w (x, st, wk, tl, ta, tf, T, Rw, Ia, F) (n, cl, vs, lk, hd, nr, so, sz, it, oc, ow, bg, dp, td) (lim, wou, th)) : (∀ r, r < nr → w (Ia r) = some (.inl (E.2.2.1, cn (sz r), .inr (.inl (F r))))) := R.2.2.2.2.2.2.2.2.1
theorem Rc_F (R : Rc E w (x, st, wk, tl, ta, tf, T, Rw, Ia, F) (n, cl, vs, lk, hd, nr, so, sz, it, oc, ow, bg, dp, td) (lim, wou, th)) : (∀ r, r < nr → ∀ k, k < cn (sz r) → F r k = it (12 * r + k)) := R.2.2.2.2.2.2.2.2.2.1
theorem Rc_iT (R : Rc E w (x, st, wk, tl, ta, tf, T, Rw, Ia, F) (n, cl, vs, lk, hd, nr, so, sz, it, oc, ow, bg, dp, td) (lim, wou, th)) : (∀ i j, i < n → j < n → T i = T j → i = j) := R.2.2.2.2.2.2.2.2.2.2.1
theorem Rc_iR (R : Rc E w (x, st, wk, tl, ta, tf, T, Rw, Ia, F) (n, cl, vs, lk, hd, nr, so, sz, it, oc, ow, bg, dp, td) (lim, wou, th)) : (∀ i j, i < nr → j < nr → Rw i = Rw j → i = j) := R.2.2.2.2.2.2.2.2.2.2.2.1
theorem Rc_iI (R : Rc E w (x, st, wk, tl, ta, tf, T, Rw, Ia, F) (n, cl, vs, lk, hd, nr, so, sz, it, oc, ow, bg, dp, td) (lim, wou, th)) : (∀ i j, i < nr → j < nr → Ia i = Ia j → i = j) := R.2.2.2.2.2.2.2.2.2.2.2.2
theorem Rc_p_oc (R : Rc E w (x, st, wk, tl, ta, tf, T, Rw, Ia, F) (n, cl, vs, lk, hd, nr, so, sz, it, oc, ow, bg, dp, td) (lim, wou, th)) (v : Int32) : Rc E (wo_up w x (.inr (4, [.ref st, .ref wk, .ref tl, .int v, .int ow]))) (x, st, wk, tl, ta, tf, T, Rw, Ia, F) (n, cl, vs, lk, hd, nr, so, sz, it, v, ow, bg, dp, td) (lim, wou, th) := by
  obtain ⟨h0, h1, h2, h3, h4, h5, h6, h7, h8, h9, h10, h11, h12⟩ := R
  exact ⟨wo_up_s, wo_kp h1 h0 (by simp), wo_kp h2 h0 (by simp), wo_kp h3 h0 (by simp), wo_kp h4 h0 (by simp), h5, fun k hk => wo_kp (h6 k hk) h0 (by simp), fun r hr => wo_kp (h7 r hr) h0 (by simp), fun r hr => wo_kp (h8 r hr) h0 (by simp), h9, h10, h11, h12⟩
theorem Rc_p_ow (R : Rc E w (x, st, wk, tl, ta, tf, T, Rw, Ia, F) (n, cl, vs, lk, hd, nr, so, sz, it, oc, ow, bg, dp, td) (lim, wou, th)) (v : Int32) : Rc E (wo_up w x (.inr (4, [.ref st, .ref wk, .ref tl, .int oc, .int v]))) (x, st, wk, tl, ta, tf, T, Rw, Ia, F) (n, cl, vs, lk, hd, nr, so, sz, it, oc, v, bg, dp, td) (lim, wou, th) := by
  obtain ⟨h0, h1, h2, h3, h4, h5, h6, h7, h8, h9, h10, h11, h12⟩ := R
  exact ⟨wo_up_s, wo_kp h1 h0 (by simp), wo_kp h2 h0 (by simp), wo_kp h3 h0 (by simp), wo_kp h4 h0 (by simp), h5, fun k hk => wo_kp (h6 k hk) h0 (by simp), fun r hr => wo_kp (h7 r hr) h0 (by simp), fun r hr => wo_kp (h8 r hr) h0 (by simp), h9, h10, h11, h12⟩
theorem Rc_p_lim (R : Rc E w (x, st, wk, tl, ta, tf, T, Rw, Ia, F) (n, cl, vs, lk, hd, nr, so, sz, it, oc, ow, bg, dp, td) (lim, wou, th)) (v : Int32) : Rc E (wo_up w wk (.inr (3, [.ref st, .int v, .int bg, .int wou, .int dp, .int th]))) (x, st, wk, tl, ta, tf, T, Rw, Ia, F) (n, cl, vs, lk, hd, nr, so, sz, it, oc, ow, bg, dp, td) (v, wou, th) := by
  obtain ⟨h0, h1, h2, h3, h4, h5, h6, h7, h8, h9, h10, h11, h12⟩ := R
  exact ⟨wo_kp h0 h2 (by simp), wo_kp h1 h2 (by simp), wo_up_s, wo_kp h3 h2 (by simp), wo_kp h4 h2 (by simp), h5, fun k hk => wo_kp (h6 k hk) h2 (by simp), fun r hr => wo_kp (h7 r hr) h2 (by simp), fun r hr => wo_kp (h8 r hr) h2 (by simp), h9, h10, h11, h12⟩
theorem Rc_p_bg (R : Rc E w (x, st, wk, tl, ta, tf, T, Rw, Ia, F) (n, cl, vs, lk, hd, nr, so, sz, it, oc, ow, bg, dp, td) (lim, wou, th)) (v : Int32) : Rc E (wo_up w wk (.inr (3, [.ref st, .int lim, .int v, .int wou, .int dp, .int th]))) (x, st, wk, tl, ta, tf, T, Rw, Ia, F) (n, cl, vs, lk, hd, nr, so, sz, it, oc, ow, v, dp, td) (lim, wou, th) := by
  obtain ⟨h0, h1, h2, h3, h4, h5, h6, h7, h8, h9, h10, h11, h12⟩ := R
  exact ⟨wo_kp h0 h2 (by simp), wo_kp h1 h2 (by simp), wo_up_s, wo_kp h3 h2 (by simp), wo_kp h4 h2 (by simp), h5, fun k hk => wo_kp (h6 k hk) h2 (by simp), fun r hr => wo_kp (h7 r hr) h2 (by simp), fun r hr => wo_kp (h8 r hr) h2 (by simp), h9, h10, h11, h12⟩
theorem Rc_p_wou (R : Rc E w (x, st, wk, tl, ta, tf, T, Rw, Ia, F) (n, cl, vs, lk, hd, nr, so, sz, it, oc, ow, bg, dp, td) (lim, wou, th)) (v : Int32) : Rc E (wo_up w wk (.inr (3, [.ref st, .int lim, .int bg, .int v, .int dp, .int th]))) (x, st, wk, tl, ta, tf, T, Rw, Ia, F) (n, cl, vs, lk, hd, nr, so, sz, it, oc, ow, bg, dp, td) (lim, v, th) := by
  obtain ⟨h0, h1, h2, h3, h4, h5, h6, h7, h8, h9, h10, h11, h12⟩ := R
  exact ⟨wo_kp h0 h2 (by simp), wo_kp h1 h2 (by simp), wo_up_s, wo_kp h3 h2 (by simp), wo_kp h4 h2 (by simp), h5, fun k hk => wo_kp (h6 k hk) h2 (by simp), fun r hr => wo_kp (h7 r hr) h2 (by simp), fun r hr => wo_kp (h8 r hr) h2 (by simp), h9, h10, h11, h12⟩
theorem Rc_p_dp (R : Rc E w (x, st, wk, tl, ta, tf, T, Rw, Ia, F) (n, cl, vs, lk, hd, nr, so, sz, it, oc, ow, bg, dp, td) (lim, wou, th)) (v : Int32) : Rc E (wo_up w wk (.inr (3, [.ref st, .int lim, .int bg, .int wou, .int v, .int th]))) (x, st, wk, tl, ta, tf, T, Rw, Ia, F) (n, cl, vs, lk, hd, nr, so, sz, it, oc, ow, bg, v, td) (lim, wou, th) := by
  obtain ⟨h0, h1, h2, h3, h4, h5, h6, h7, h8, h9, h10, h11, h12⟩ := R
  exact ⟨wo_kp h0 h2 (by simp), wo_kp h1 h2 (by simp), wo_up_s, wo_kp h3 h2 (by simp), wo_kp h4 h2 (by simp), h5, fun k hk => wo_kp (h6 k hk) h2 (by simp), fun r hr => wo_kp (h7 r hr) h2 (by simp), fun r hr => wo_kp (h8 r hr) h2 (by simp), h9, h10, h11, h12⟩
theorem Rc_p_th (R : Rc E w (x, st, wk, tl, ta, tf, T, Rw, Ia, F) (n, cl, vs, lk, hd, nr, so, sz, it, oc, ow, bg, dp, td) (lim, wou, th)) (v : Int32) : Rc E (wo_up w wk (.inr (3, [.ref st, .int lim, .int bg, .int wou, .int dp, .int v]))) (x, st, wk, tl, ta, tf, T, Rw, Ia, F) (n, cl, vs, lk, hd, nr, so, sz, it, oc, ow, bg, dp, td) (lim, wou, v) := by
  obtain ⟨h0, h1, h2, h3, h4, h5, h6, h7, h8, h9, h10, h11, h12⟩ := R
  exact ⟨wo_kp h0 h2 (by simp), wo_kp h1 h2 (by simp), wo_up_s, wo_kp h3 h2 (by simp), wo_kp h4 h2 (by simp), h5, fun k hk => wo_kp (h6 k hk) h2 (by simp), fun r hr => wo_kp (h7 r hr) h2 (by simp), fun r hr => wo_kp (h8 r hr) h2 (by simp), h9, h10, h11, h12⟩
theorem Rc_p_td (R : Rc E w (x, st, wk, tl, ta, tf, T, Rw, Ia, F) (n, cl, vs, lk, hd, nr, so, sz, it, oc, ow, bg, dp, td) (lim, wou, th)) (f : Nat → Int32) : Rc E (wo_up w tl (.inl (E.2.1, 10, .inl f))) (x, st, wk, tl, ta, tf, T, Rw, Ia, F) (n, cl, vs, lk, hd, nr, so, sz, it, oc, ow, bg, dp, f) (lim, wou, th) := by
  obtain ⟨h0, h1, h2, h3, h4, h5, h6, h7, h8, h9, h10, h11, h12⟩ := R
  exact ⟨wo_kp h0 h3 (by simp), wo_kp h1 h3 (by simp), wo_kp h2 h3 (by simp), wo_up_s, wo_kp h4 h3 (by simp), h5, fun k hk => wo_kp (h6 k hk) h3 (by simp), fun r hr => wo_kp (h7 r hr) h3 (by simp), fun r hr => wo_kp (h8 r hr) h3 (by simp), h9, h10, h11, h12⟩
theorem Rc_p_vs (R : Rc E w (x, st, wk, tl, ta, tf, T, Rw, Ia, F) (n, cl, vs, lk, hd, nr, so, sz, it, oc, ow, bg, dp, td) (lim, wou, th)) {k0 : Nat} (h : k0 < n) (v : Int32) : Rc E (wo_up w (T k0) (.inr (2, [.int (cl k0), .int v, .int (lk k0), va_rf (ro Rw (hd k0))]))) (x, st, wk, tl, ta, tf, T, Rw, Ia, F) (n, cl, upd vs k0 v, lk, hd, nr, so, sz, it, oc, ow, bg, dp, td) (lim, wou, th) := by
  obtain ⟨h0, h1, h2, h3, h4, h5, h6, h7, h8, h9, h10, h11, h12⟩ := R
  have z := h6 k0 h
  refine ⟨wo_kp h0 z (by simp), wo_kp h1 z (by simp), wo_kp h2 z (by simp), wo_kp h3 z (by simp), wo_kp h4 z (by simp), h5, fun k hk => ?_, fun r hr => wo_kp (h7 r hr) z (by simp), fun r hr => wo_kp (h8 r hr) z (by simp), h9, h10, h11, h12⟩
  by_cases q : k = k0
  · subst q
    rw [wo_up_s, pk_us]
  · rw [wo_up_n (fun e => q (h10 k k0 hk h e)), pk_un q]
    exact h6 k hk
theorem Rc_p_lk (R : Rc E w (x, st, wk, tl, ta, tf, T, Rw, Ia, F) (n, cl, vs, lk, hd, nr, so, sz, it, oc, ow, bg, dp, td) (lim, wou, th)) {k0 : Nat} (h : k0 < n) (v : Int32) : Rc E (wo_up w (T k0) (.inr (2, [.int (cl k0), .int (vs k0), .int v, va_rf (ro Rw (hd k0))]))) (x, st, wk, tl, ta, tf, T, Rw, Ia, F) (n, cl, vs, upd lk k0 v, hd, nr, so, sz, it, oc, ow, bg, dp, td) (lim, wou, th) := by
  obtain ⟨h0, h1, h2, h3, h4, h5, h6, h7, h8, h9, h10, h11, h12⟩ := R
  have z := h6 k0 h
  refine ⟨wo_kp h0 z (by simp), wo_kp h1 z (by simp), wo_kp h2 z (by simp), wo_kp h3 z (by simp), wo_kp h4 z (by simp), h5, fun k hk => ?_, fun r hr => wo_kp (h7 r hr) z (by simp), fun r hr => wo_kp (h8 r hr) z (by simp), h9, h10, h11, h12⟩
  by_cases q : k = k0
  · subst q
    rw [wo_up_s, pk_us]
  · rw [wo_up_n (fun e => q (h10 k k0 hk h e)), pk_un q]
    exact h6 k hk
theorem Rc_p_hd (R : Rc E w (x, st, wk, tl, ta, tf, T, Rw, Ia, F) (n, cl, vs, lk, hd, nr, so, sz, it, oc, ow, bg, dp, td) (lim, wou, th)) {k0 : Nat} (h : k0 < n) (v : Int32) : Rc E (wo_up w (T k0) (.inr (2, [.int (cl k0), .int (vs k0), .int (lk k0), va_rf (ro Rw v)]))) (x, st, wk, tl, ta, tf, T, Rw, Ia, F) (n, cl, vs, lk, upd hd k0 v, nr, so, sz, it, oc, ow, bg, dp, td) (lim, wou, th) := by
  obtain ⟨h0, h1, h2, h3, h4, h5, h6, h7, h8, h9, h10, h11, h12⟩ := R
  have z := h6 k0 h
  refine ⟨wo_kp h0 z (by simp), wo_kp h1 z (by simp), wo_kp h2 z (by simp), wo_kp h3 z (by simp), wo_kp h4 z (by simp), h5, fun k hk => ?_, fun r hr => wo_kp (h7 r hr) z (by simp), fun r hr => wo_kp (h8 r hr) z (by simp), h9, h10, h11, h12⟩
  by_cases q : k = k0
  · subst q
    rw [wo_up_s, pk_us]
  · rw [wo_up_n (fun e => q (h10 k k0 hk h e)), pk_un q]
    exact h6 k hk
theorem Rc_p_it (R : Rc E w (x, st, wk, tl, ta, tf, T, Rw, Ia, F) (n, cl, vs, lk, hd, nr, so, sz, it, oc, ow, bg, dp, td) (lim, wou, th)) {r0 : Nat} (h : r0 < nr) (f : Nat → Int64) (jt : Nat → Int64) (hf : ∀ k, k < cn (sz r0) → f k = jt (12 * r0 + k)) (ho : ∀ r, r < nr → r ≠ r0 → ∀ k, k < cn (sz r) → jt (12 * r + k) = it (12 * r + k)) : Rc E (wo_up w (Ia r0) (.inl (E.2.2.1, cn (sz r0), .inr (.inl f)))) (x, st, wk, tl, ta, tf, T, Rw, Ia, va_up F r0 f) (n, cl, vs, lk, hd, nr, so, sz, jt, oc, ow, bg, dp, td) (lim, wou, th) := by
  obtain ⟨h0, h1, h2, h3, h4, h5, h6, h7, h8, h9, h10, h11, h12⟩ := R
  have z := h8 r0 h
  refine ⟨wo_kp h0 z (by simp), wo_kp h1 z (by simp), wo_kp h2 z (by simp), wo_kp h3 z (by simp), wo_kp h4 z (by simp), h5, fun k hk => wo_kp (h6 k hk) z (by simp), fun r hr => wo_kp (h7 r hr) z (by simp), fun r hr => ?_, fun r hr k hk => ?_, h10, h11, h12⟩
  · by_cases q : r = r0
    · subst q
      rw [wo_up_s]
      simp [va_up]
    · rw [wo_up_n (fun e => q (h12 r r0 hr h e))]
      simp only [va_up, q, if_false]
      exact h8 r hr
  · by_cases q : r = r0
    · subst q
      simp only [va_up, if_true]
      exact hf k hk
    · simp only [va_up, q, if_false]
      rw [ho r hr q k hk]
      exact h9 r hr k hk
theorem Rc_addT (R : Rc E w (x, st, wk, tl, ta, tf, T, Rw, Ia, F) (n, cl, vs, lk, hd, nr, so, sz, it, oc, ow, bg, dp, td) (lim, wou, th)) {q : Nat} (hq : w q = none) (c v l : Int32) : Rc E (wo_up (wo_up (wo_up w q (.inr (2, [.int c, .int v, .int l, .null]))) ta (.inl (E.2.2.2, 40, .inr (.inr (.inr (.inr (va_up tf n (some q)))))))) st (.inr (1, [.ref ta, .int (nI (n + 1))]))) (x, st, wk, tl, ta, va_up tf n (some q), va_up T n q, Rw, Ia, F) (n + 1, upd cl n c, upd vs n v, upd lk n l, upd hd n (-1), nr, so, sz, it, oc, ow, bg, dp, td) (lim, wou, th) := by
  obtain ⟨h0, h1, h2, h3, h4, h5, h6, h7, h8, h9, h10, h11, h12⟩ := R
  have nq : ∀ {a : Nat} {y : va_E}, w a = some y → a ≠ q := fun {a y} h e => by rw [e, hq] at h; cases h
  have k3 : ∀ {a : Nat} {y : va_E}, w a = some y → a ≠ ta → a ≠ st → wo_up (wo_up (wo_up w q (.inr (2, [.int c, .int v, .int l, .null]))) ta (.inl (E.2.2.2, 40, .inr (.inr (.inr (.inr (va_up tf n (some q)))))))) st (.inr (1, [.ref ta, .int (nI (n + 1))])) a = some y := fun {a y} h e1 e2 => by rw [wo_up_n e2, wo_up_n e1, wo_up_n (nq h)]; exact h
  have tast : ta ≠ st := wo_ap h4 h1 (by simp)
  refine ⟨k3 h0 (wo_ap h0 h4 (by simp)) (wo_ap h0 h1 (by simp)), wo_up_s, k3 h2 (wo_ap h2 h4 (by simp)) (wo_ap h2 h1 (by simp)), k3 h3 (wo_ap h3 h4 (by simp)) (wo_ap h3 h1 (by simp)), by rw [wo_up_n tast, wo_up_s], fun k hk => ?_, fun k hk => ?_, fun r hr => k3 (h7 r hr) (wo_ap (h7 r hr) h4 (by simp)) (wo_ap (h7 r hr) h1 (by simp)), fun r hr => k3 (h8 r hr) (wo_ap (h8 r hr) h4 (by simp)) (wo_ap (h8 r hr) h1 (by simp)), h9, fun i j hi hj => ?_, h11, h12⟩
  · by_cases z : k = n
    · subst z; simp [va_up]
    · simp only [va_up, z, if_false]
      exact h5 k (by omega)
  · by_cases z : k = n
    · subst z
      have e : va_up T k q k = q := by simp [va_up]
      rw [e, wo_up_n (Ne.symm (nq h1)), wo_up_n (Ne.symm (nq h4)), wo_up_s]
      simp [pk_us, ro, va_rf]
    · have hk2 : k < n := by omega
      have e : va_up T n q k = T k := by simp [va_up, z]
      rw [e, pk_un z, pk_un z, pk_un z, pk_un z]
      exact k3 (h6 k hk2) (wo_ap (h6 k hk2) h4 (by simp)) (wo_ap (h6 k hk2) h1 (by simp))
  · have tq : ∀ k, k < n → T k ≠ q := fun k hk => nq (h6 k hk)
    by_cases zi : i = n <;> by_cases zj : j = n
    · intro; rw [zi, zj]
    · intro e
      simp only [va_up, zi, zj, if_true, if_false] at e
      exact absurd e.symm (tq j (by omega))
    · intro e
      simp only [va_up, zi, zj, if_true, if_false] at e
      exact absurd e (tq i (by omega))
    · intro e
      simp only [va_up, zi, zj, if_false] at e
      exact h10 i j (by omega) (by omega) e
theorem Rc_addR (R : Rc E w (x, st, wk, tl, ta, tf, T, Rw, Ia, F) (n, cl, vs, lk, hd, nr, so, sz, it, oc, ow, bg, dp, td) (lim, wou, th)) {q q2 : Nat} (hq : w q = none) (hq2 : w q2 = none) (hqq : q2 ≠ q) (hh : ∀ k, k < n → hd k = -1 ∨ ∃ r, r < nr ∧ hd k = nI r) (hnr : nr ≤ 600) (s z : Int32) (f : Nat → Int64) (jt : Nat → Int64) (hf : ∀ k, k < cn z → f k = jt (12 * nr + k)) (ho : ∀ r, r < nr → ∀ k, k < cn (sz r) → jt (12 * r + k) = it (12 * r + k)) {w2 : wo} (hw2 : w2 = wo_up (wo_up w q (.inr (0, [.int s, .ref q2]))) q2 (.inl (E.2.2.1, cn z, .inr (.inl f)))) : Rc E w2 (x, st, wk, tl, ta, tf, T, va_up Rw nr q, va_up Ia nr q2, va_up F nr f) (n, cl, vs, lk, hd, nr + 1, upd so nr s, upd sz nr z, jt, oc, ow, bg, dp, td) (lim, wou, th) := by
  obtain ⟨h0, h1, h2, h3, h4, h5, h6, h7, h8, h9, h10, h11, h12⟩ := R
  subst hw2
  have nq : ∀ {a : Nat} {y : va_E}, w a = some y → a ≠ q := fun {a y} h e => by rw [e, hq] at h; cases h
  have nq2 : ∀ {a : Nat} {y : va_E}, w a = some y → a ≠ q2 := fun {a y} h e => by rw [e, hq2] at h; cases h
  have k3 : ∀ {a : Nat} {y : va_E}, w a = some y → wo_up (wo_up w q (.inr (0, [.int s, .ref q2]))) q2 (.inl (E.2.2.1, cn z, .inr (.inl f))) a = some y := fun {a y} h => by rw [wo_up_n (nq2 h), wo_up_n (nq h)]; exact h
  have eo : ∀ {α : Type} (g : Nat → α) (v : α) {r : Nat}, r < nr → va_up g nr v r = g r := fun {α} g v {r} h => by simp [va_up, Nat.ne_of_lt h]
  have en : ∀ {α : Type} (g : Nat → α) (v : α), va_up g nr v nr = v := fun {α} g v => by simp [va_up]
  refine ⟨k3 h0, k3 h1, k3 h2, k3 h3, k3 h4, h5, fun k hk => ?_, fun r hr => ?_, fun r hr => ?_, fun r hr k hk => ?_, h10, fun i j hi hj => ?_, fun i j hi hj => ?_⟩
  · have e : ro (va_up Rw nr q) (hd k) = ro Rw (hd k) := by
      rcases hh k hk with e | ⟨r, hr, e⟩
      · simp [ro, e]
      · simp only [ro, e, cn_nI (show r < 2 ^ 31 by omega), eo Rw q hr]
    rw [e]; exact k3 (h6 k hk)
  · by_cases c : r = nr
    · subst c
      rw [en, en, pk_us, wo_up_n (Ne.symm hqq), wo_up_s]
    · have hr2 : r < nr := by omega
      rw [eo Rw q hr2, eo Ia q2 hr2, pk_un c]
      exact k3 (h7 r hr2)
  · by_cases c : r = nr
    · subst c
      rw [en, en, pk_us, wo_up_s]
    · have hr2 : r < nr := by omega
      rw [eo Ia q2 hr2, eo F f hr2, pk_un c]
      exact k3 (h8 r hr2)
  · by_cases c : r = nr
    · subst c
      rw [pk_us] at hk
      rw [en]
      exact hf k hk
    · have hr2 : r < nr := by omega
      rw [pk_un c] at hk
      rw [eo F f hr2, ho r hr2 k hk]
      exact h9 r hr2 k hk
  · have tq : ∀ k, k < nr → Rw k ≠ q := fun k hk => nq (h7 k hk)
    by_cases zi : i = nr <;> by_cases zj : j = nr
    · intro; rw [zi, zj]
    · intro e
      rw [zi, en, eo Rw q (show j < nr by omega)] at e
      exact absurd e.symm (tq j (by omega))
    · intro e
      rw [zj, en, eo Rw q (show i < nr by omega)] at e
      exact absurd e (tq i (by omega))
    · intro e
      rw [eo Rw q (show i < nr by omega), eo Rw q (show j < nr by omega)] at e
      exact h11 i j (by omega) (by omega) e
  · have tq : ∀ k, k < nr → Ia k ≠ q2 := fun k hk => nq2 (h8 k hk)
    by_cases zi : i = nr <;> by_cases zj : j = nr
    · intro; rw [zi, zj]
    · intro e
      rw [zi, en, eo Ia q2 (show j < nr by omega)] at e
      exact absurd e.symm (tq j (by omega))
    · intro e
      rw [zj, en, eo Ia q2 (show i < nr by omega)] at e
      exact absurd e (tq i (by omega))
    · intro e
      rw [eo Ia q2 (show i < nr by omega), eo Ia q2 (show j < nr by omega)] at e
      exact h12 i j (by omega) (by omega) e
end RCS
abbrev GM : Type := Nat × Nat × Nat × Nat × Nat × Nat × Nat × Nat × Nat
def Rm (E : EV) (w : wo) : GM → ST → Int32 × Int32 × Int32 → Prop
  | (m, aC, aV, aL, aH, aS, aZ, aI, aT), (n, cl, vs, lk, hd, nr, so, sz, it, oc, ow, bg, dp, td), (to, rs, nx) => w m = some (.inr (5, [.int (nI n), .ref aC, .ref aV, .ref aL, .ref aH, .int (nI nr), .ref aS, .ref aZ, .ref aI, .int oc, .int ow, .int bg, .int dp, .ref aT, .int to, .int rs, .int nx])) ∧ w aC = some (.inl (E.2.1, 40, .inl cl)) ∧ w aV = some (.inl (E.2.1, 40, .inl vs)) ∧ w aL = some (.inl (E.2.1, 40, .inl lk)) ∧ w aH = some (.inl (E.2.1, 40, .inl hd)) ∧ w aS = some (.inl (E.2.1, 520, .inl so)) ∧ w aZ = some (.inl (E.2.1, 520, .inl sz)) ∧ w aT = some (.inl (E.2.1, 10, .inl td)) ∧ w aI = some (.inl (E.2.2.1, 6240, .inr (.inl it))) ∧ [aC, aV, aL, aH, aS, aZ, aT].Nodup
section RMS
variable {E : EV} {w : wo} {m aC aV aL aH aS aZ aI aT : Nat} {n : Nat} {cl vs lk hd : Nat → Int32} {nr : Nat} {so sz : Nat → Int32} {it : Nat → Int64} {oc ow bg dp : Int32} {td : Nat → Int32} {to rs nx : Int32}
theorem Rm_m (R : Rm E w (m, aC, aV, aL, aH, aS, aZ, aI, aT) (n, cl, vs, lk, hd, nr, so, sz, it, oc, ow, bg, dp, td) (to, rs, nx)) : w m = some (.inr (5, [.int (nI n), .ref aC, .ref aV, .ref aL, .ref aH, .int (nI nr), .ref aS, .ref aZ, .ref aI, .int oc, .int ow, .int bg, .int dp, .ref aT, .int to, .int rs, .int nx])) := R.1
theorem Rm_C (R : Rm E w (m, aC, aV, aL, aH, aS, aZ, aI, aT) (n, cl, vs, lk, hd, nr, so, sz, it, oc, ow, bg, dp, td) (to, rs, nx)) : w aC = some (.inl (E.2.1, 40, .inl cl)) := R.2.1
theorem Rm_V (R : Rm E w (m, aC, aV, aL, aH, aS, aZ, aI, aT) (n, cl, vs, lk, hd, nr, so, sz, it, oc, ow, bg, dp, td) (to, rs, nx)) : w aV = some (.inl (E.2.1, 40, .inl vs)) := R.2.2.1
theorem Rm_L (R : Rm E w (m, aC, aV, aL, aH, aS, aZ, aI, aT) (n, cl, vs, lk, hd, nr, so, sz, it, oc, ow, bg, dp, td) (to, rs, nx)) : w aL = some (.inl (E.2.1, 40, .inl lk)) := R.2.2.2.1
theorem Rm_H (R : Rm E w (m, aC, aV, aL, aH, aS, aZ, aI, aT) (n, cl, vs, lk, hd, nr, so, sz, it, oc, ow, bg, dp, td) (to, rs, nx)) : w aH = some (.inl (E.2.1, 40, .inl hd)) := R.2.2.2.2.1
theorem Rm_S (R : Rm E w (m, aC, aV, aL, aH, aS, aZ, aI, aT) (n, cl, vs, lk, hd, nr, so, sz, it, oc, ow, bg, dp, td) (to, rs, nx)) : w aS = some (.inl (E.2.1, 520, .inl so)) := R.2.2.2.2.2.1
theorem Rm_Z (R : Rm E w (m, aC, aV, aL, aH, aS, aZ, aI, aT) (n, cl, vs, lk, hd, nr, so, sz, it, oc, ow, bg, dp, td) (to, rs, nx)) : w aZ = some (.inl (E.2.1, 520, .inl sz)) := R.2.2.2.2.2.2.1
theorem Rm_T (R : Rm E w (m, aC, aV, aL, aH, aS, aZ, aI, aT) (n, cl, vs, lk, hd, nr, so, sz, it, oc, ow, bg, dp, td) (to, rs, nx)) : w aT = some (.inl (E.2.1, 10, .inl td)) := R.2.2.2.2.2.2.2.1
theorem Rm_I (R : Rm E w (m, aC, aV, aL, aH, aS, aZ, aI, aT) (n, cl, vs, lk, hd, nr, so, sz, it, oc, ow, bg, dp, td) (to, rs, nx)) : w aI = some (.inl (E.2.2.1, 6240, .inr (.inl it))) := R.2.2.2.2.2.2.2.2.1
theorem Rm_nd (R : Rm E w (m, aC, aV, aL, aH, aS, aZ, aI, aT) (n, cl, vs, lk, hd, nr, so, sz, it, oc, ow, bg, dp, td) (to, rs, nx)) : [aC, aV, aL, aH, aS, aZ, aT].Nodup := R.2.2.2.2.2.2.2.2.2
theorem Rm_p_n (R : Rm E w (m, aC, aV, aL, aH, aS, aZ, aI, aT) (n, cl, vs, lk, hd, nr, so, sz, it, oc, ow, bg, dp, td) (to, rs, nx)) (n2 : Nat) : Rm E (wo_up w m (.inr (5, [.int (nI n2), .ref aC, .ref aV, .ref aL, .ref aH, .int (nI nr), .ref aS, .ref aZ, .ref aI, .int oc, .int ow, .int bg, .int dp, .ref aT, .int to, .int rs, .int nx]))) (m, aC, aV, aL, aH, aS, aZ, aI, aT) (n2, cl, vs, lk, hd, nr, so, sz, it, oc, ow, bg, dp, td) (to, rs, nx) := by
  obtain ⟨h0, h1, h2, h3, h4, h5, h6, h7, h8, h9⟩ := R
  exact ⟨wo_up_s, wo_kp h1 h0 (by simp), wo_kp h2 h0 (by simp), wo_kp h3 h0 (by simp), wo_kp h4 h0 (by simp), wo_kp h5 h0 (by simp), wo_kp h6 h0 (by simp), wo_kp h7 h0 (by simp), wo_kp h8 h0 (by simp), h9⟩
theorem Rm_p_nr (R : Rm E w (m, aC, aV, aL, aH, aS, aZ, aI, aT) (n, cl, vs, lk, hd, nr, so, sz, it, oc, ow, bg, dp, td) (to, rs, nx)) (n2 : Nat) : Rm E (wo_up w m (.inr (5, [.int (nI n), .ref aC, .ref aV, .ref aL, .ref aH, .int (nI n2), .ref aS, .ref aZ, .ref aI, .int oc, .int ow, .int bg, .int dp, .ref aT, .int to, .int rs, .int nx]))) (m, aC, aV, aL, aH, aS, aZ, aI, aT) (n, cl, vs, lk, hd, n2, so, sz, it, oc, ow, bg, dp, td) (to, rs, nx) := by
  obtain ⟨h0, h1, h2, h3, h4, h5, h6, h7, h8, h9⟩ := R
  exact ⟨wo_up_s, wo_kp h1 h0 (by simp), wo_kp h2 h0 (by simp), wo_kp h3 h0 (by simp), wo_kp h4 h0 (by simp), wo_kp h5 h0 (by simp), wo_kp h6 h0 (by simp), wo_kp h7 h0 (by simp), wo_kp h8 h0 (by simp), h9⟩
theorem Rm_p_oc (R : Rm E w (m, aC, aV, aL, aH, aS, aZ, aI, aT) (n, cl, vs, lk, hd, nr, so, sz, it, oc, ow, bg, dp, td) (to, rs, nx)) (v : Int32) : Rm E (wo_up w m (.inr (5, [.int (nI n), .ref aC, .ref aV, .ref aL, .ref aH, .int (nI nr), .ref aS, .ref aZ, .ref aI, .int v, .int ow, .int bg, .int dp, .ref aT, .int to, .int rs, .int nx]))) (m, aC, aV, aL, aH, aS, aZ, aI, aT) (n, cl, vs, lk, hd, nr, so, sz, it, v, ow, bg, dp, td) (to, rs, nx) := by
  obtain ⟨h0, h1, h2, h3, h4, h5, h6, h7, h8, h9⟩ := R
  exact ⟨wo_up_s, wo_kp h1 h0 (by simp), wo_kp h2 h0 (by simp), wo_kp h3 h0 (by simp), wo_kp h4 h0 (by simp), wo_kp h5 h0 (by simp), wo_kp h6 h0 (by simp), wo_kp h7 h0 (by simp), wo_kp h8 h0 (by simp), h9⟩
theorem Rm_p_ow (R : Rm E w (m, aC, aV, aL, aH, aS, aZ, aI, aT) (n, cl, vs, lk, hd, nr, so, sz, it, oc, ow, bg, dp, td) (to, rs, nx)) (v : Int32) : Rm E (wo_up w m (.inr (5, [.int (nI n), .ref aC, .ref aV, .ref aL, .ref aH, .int (nI nr), .ref aS, .ref aZ, .ref aI, .int oc, .int v, .int bg, .int dp, .ref aT, .int to, .int rs, .int nx]))) (m, aC, aV, aL, aH, aS, aZ, aI, aT) (n, cl, vs, lk, hd, nr, so, sz, it, oc, v, bg, dp, td) (to, rs, nx) := by
  obtain ⟨h0, h1, h2, h3, h4, h5, h6, h7, h8, h9⟩ := R
  exact ⟨wo_up_s, wo_kp h1 h0 (by simp), wo_kp h2 h0 (by simp), wo_kp h3 h0 (by simp), wo_kp h4 h0 (by simp), wo_kp h5 h0 (by simp), wo_kp h6 h0 (by simp), wo_kp h7 h0 (by simp), wo_kp h8 h0 (by simp), h9⟩
theorem Rm_p_bg (R : Rm E w (m, aC, aV, aL, aH, aS, aZ, aI, aT) (n, cl, vs, lk, hd, nr, so, sz, it, oc, ow, bg, dp, td) (to, rs, nx)) (v : Int32) : Rm E (wo_up w m (.inr (5, [.int (nI n), .ref aC, .ref aV, .ref aL, .ref aH, .int (nI nr), .ref aS, .ref aZ, .ref aI, .int oc, .int ow, .int v, .int dp, .ref aT, .int to, .int rs, .int nx]))) (m, aC, aV, aL, aH, aS, aZ, aI, aT) (n, cl, vs, lk, hd, nr, so, sz, it, oc, ow, v, dp, td) (to, rs, nx) := by
  obtain ⟨h0, h1, h2, h3, h4, h5, h6, h7, h8, h9⟩ := R
  exact ⟨wo_up_s, wo_kp h1 h0 (by simp), wo_kp h2 h0 (by simp), wo_kp h3 h0 (by simp), wo_kp h4 h0 (by simp), wo_kp h5 h0 (by simp), wo_kp h6 h0 (by simp), wo_kp h7 h0 (by simp), wo_kp h8 h0 (by simp), h9⟩
theorem Rm_p_dp (R : Rm E w (m, aC, aV, aL, aH, aS, aZ, aI, aT) (n, cl, vs, lk, hd, nr, so, sz, it, oc, ow, bg, dp, td) (to, rs, nx)) (v : Int32) : Rm E (wo_up w m (.inr (5, [.int (nI n), .ref aC, .ref aV, .ref aL, .ref aH, .int (nI nr), .ref aS, .ref aZ, .ref aI, .int oc, .int ow, .int bg, .int v, .ref aT, .int to, .int rs, .int nx]))) (m, aC, aV, aL, aH, aS, aZ, aI, aT) (n, cl, vs, lk, hd, nr, so, sz, it, oc, ow, bg, v, td) (to, rs, nx) := by
  obtain ⟨h0, h1, h2, h3, h4, h5, h6, h7, h8, h9⟩ := R
  exact ⟨wo_up_s, wo_kp h1 h0 (by simp), wo_kp h2 h0 (by simp), wo_kp h3 h0 (by simp), wo_kp h4 h0 (by simp), wo_kp h5 h0 (by simp), wo_kp h6 h0 (by simp), wo_kp h7 h0 (by simp), wo_kp h8 h0 (by simp), h9⟩
theorem Rm_p_to (R : Rm E w (m, aC, aV, aL, aH, aS, aZ, aI, aT) (n, cl, vs, lk, hd, nr, so, sz, it, oc, ow, bg, dp, td) (to, rs, nx)) (v : Int32) : Rm E (wo_up w m (.inr (5, [.int (nI n), .ref aC, .ref aV, .ref aL, .ref aH, .int (nI nr), .ref aS, .ref aZ, .ref aI, .int oc, .int ow, .int bg, .int dp, .ref aT, .int v, .int rs, .int nx]))) (m, aC, aV, aL, aH, aS, aZ, aI, aT) (n, cl, vs, lk, hd, nr, so, sz, it, oc, ow, bg, dp, td) (v, rs, nx) := by
  obtain ⟨h0, h1, h2, h3, h4, h5, h6, h7, h8, h9⟩ := R
  exact ⟨wo_up_s, wo_kp h1 h0 (by simp), wo_kp h2 h0 (by simp), wo_kp h3 h0 (by simp), wo_kp h4 h0 (by simp), wo_kp h5 h0 (by simp), wo_kp h6 h0 (by simp), wo_kp h7 h0 (by simp), wo_kp h8 h0 (by simp), h9⟩
theorem Rm_p_rs (R : Rm E w (m, aC, aV, aL, aH, aS, aZ, aI, aT) (n, cl, vs, lk, hd, nr, so, sz, it, oc, ow, bg, dp, td) (to, rs, nx)) (v : Int32) : Rm E (wo_up w m (.inr (5, [.int (nI n), .ref aC, .ref aV, .ref aL, .ref aH, .int (nI nr), .ref aS, .ref aZ, .ref aI, .int oc, .int ow, .int bg, .int dp, .ref aT, .int to, .int v, .int nx]))) (m, aC, aV, aL, aH, aS, aZ, aI, aT) (n, cl, vs, lk, hd, nr, so, sz, it, oc, ow, bg, dp, td) (to, v, nx) := by
  obtain ⟨h0, h1, h2, h3, h4, h5, h6, h7, h8, h9⟩ := R
  exact ⟨wo_up_s, wo_kp h1 h0 (by simp), wo_kp h2 h0 (by simp), wo_kp h3 h0 (by simp), wo_kp h4 h0 (by simp), wo_kp h5 h0 (by simp), wo_kp h6 h0 (by simp), wo_kp h7 h0 (by simp), wo_kp h8 h0 (by simp), h9⟩
theorem Rm_p_nx (R : Rm E w (m, aC, aV, aL, aH, aS, aZ, aI, aT) (n, cl, vs, lk, hd, nr, so, sz, it, oc, ow, bg, dp, td) (to, rs, nx)) (v : Int32) : Rm E (wo_up w m (.inr (5, [.int (nI n), .ref aC, .ref aV, .ref aL, .ref aH, .int (nI nr), .ref aS, .ref aZ, .ref aI, .int oc, .int ow, .int bg, .int dp, .ref aT, .int to, .int rs, .int v]))) (m, aC, aV, aL, aH, aS, aZ, aI, aT) (n, cl, vs, lk, hd, nr, so, sz, it, oc, ow, bg, dp, td) (to, rs, v) := by
  obtain ⟨h0, h1, h2, h3, h4, h5, h6, h7, h8, h9⟩ := R
  exact ⟨wo_up_s, wo_kp h1 h0 (by simp), wo_kp h2 h0 (by simp), wo_kp h3 h0 (by simp), wo_kp h4 h0 (by simp), wo_kp h5 h0 (by simp), wo_kp h6 h0 (by simp), wo_kp h7 h0 (by simp), wo_kp h8 h0 (by simp), h9⟩
theorem Rm_p_cl (R : Rm E w (m, aC, aV, aL, aH, aS, aZ, aI, aT) (n, cl, vs, lk, hd, nr, so, sz, it, oc, ow, bg, dp, td) (to, rs, nx)) (f : Nat → Int32) : Rm E (wo_up w aC (.inl (E.2.1, 40, .inl f))) (m, aC, aV, aL, aH, aS, aZ, aI, aT) (n, f, vs, lk, hd, nr, so, sz, it, oc, ow, bg, dp, td) (to, rs, nx) := by
  obtain ⟨h0, h1, h2, h3, h4, h5, h6, h7, h8, h9⟩ := R
  have nd := h9
  simp only [List.nodup_cons, List.mem_cons, List.not_mem_nil, not_or, or_false, not_false_eq_true, List.nodup_nil, and_true] at nd
  refine ⟨wo_kp h0 h1 (by simp), wo_up_s, ?_, ?_, ?_, ?_, ?_, ?_, wo_kp h8 h1 (by simp), h9⟩
  · rw [wo_up_n (show aV ≠ aC by intro q; subst q; simp at nd)]; exact h2
  · rw [wo_up_n (show aL ≠ aC by intro q; subst q; simp at nd)]; exact h3
  · rw [wo_up_n (show aH ≠ aC by intro q; subst q; simp at nd)]; exact h4
  · rw [wo_up_n (show aS ≠ aC by intro q; subst q; simp at nd)]; exact h5
  · rw [wo_up_n (show aZ ≠ aC by intro q; subst q; simp at nd)]; exact h6
  · rw [wo_up_n (show aT ≠ aC by intro q; subst q; simp at nd)]; exact h7
theorem Rm_p_vs (R : Rm E w (m, aC, aV, aL, aH, aS, aZ, aI, aT) (n, cl, vs, lk, hd, nr, so, sz, it, oc, ow, bg, dp, td) (to, rs, nx)) (f : Nat → Int32) : Rm E (wo_up w aV (.inl (E.2.1, 40, .inl f))) (m, aC, aV, aL, aH, aS, aZ, aI, aT) (n, cl, f, lk, hd, nr, so, sz, it, oc, ow, bg, dp, td) (to, rs, nx) := by
  obtain ⟨h0, h1, h2, h3, h4, h5, h6, h7, h8, h9⟩ := R
  have nd := h9
  simp only [List.nodup_cons, List.mem_cons, List.not_mem_nil, not_or, or_false, not_false_eq_true, List.nodup_nil, and_true] at nd
  refine ⟨wo_kp h0 h2 (by simp), ?_, wo_up_s, ?_, ?_, ?_, ?_, ?_, wo_kp h8 h2 (by simp), h9⟩
  · rw [wo_up_n (show aC ≠ aV by intro q; subst q; simp at nd)]; exact h1
  · rw [wo_up_n (show aL ≠ aV by intro q; subst q; simp at nd)]; exact h3
  · rw [wo_up_n (show aH ≠ aV by intro q; subst q; simp at nd)]; exact h4
  · rw [wo_up_n (show aS ≠ aV by intro q; subst q; simp at nd)]; exact h5
  · rw [wo_up_n (show aZ ≠ aV by intro q; subst q; simp at nd)]; exact h6
  · rw [wo_up_n (show aT ≠ aV by intro q; subst q; simp at nd)]; exact h7
theorem Rm_p_lk (R : Rm E w (m, aC, aV, aL, aH, aS, aZ, aI, aT) (n, cl, vs, lk, hd, nr, so, sz, it, oc, ow, bg, dp, td) (to, rs, nx)) (f : Nat → Int32) : Rm E (wo_up w aL (.inl (E.2.1, 40, .inl f))) (m, aC, aV, aL, aH, aS, aZ, aI, aT) (n, cl, vs, f, hd, nr, so, sz, it, oc, ow, bg, dp, td) (to, rs, nx) := by
  obtain ⟨h0, h1, h2, h3, h4, h5, h6, h7, h8, h9⟩ := R
  have nd := h9
  simp only [List.nodup_cons, List.mem_cons, List.not_mem_nil, not_or, or_false, not_false_eq_true, List.nodup_nil, and_true] at nd
  refine ⟨wo_kp h0 h3 (by simp), ?_, ?_, wo_up_s, ?_, ?_, ?_, ?_, wo_kp h8 h3 (by simp), h9⟩
  · rw [wo_up_n (show aC ≠ aL by intro q; subst q; simp at nd)]; exact h1
  · rw [wo_up_n (show aV ≠ aL by intro q; subst q; simp at nd)]; exact h2
  · rw [wo_up_n (show aH ≠ aL by intro q; subst q; simp at nd)]; exact h4
  · rw [wo_up_n (show aS ≠ aL by intro q; subst q; simp at nd)]; exact h5
  · rw [wo_up_n (show aZ ≠ aL by intro q; subst q; simp at nd)]; exact h6
  · rw [wo_up_n (show aT ≠ aL by intro q; subst q; simp at nd)]; exact h7
theorem Rm_p_hd (R : Rm E w (m, aC, aV, aL, aH, aS, aZ, aI, aT) (n, cl, vs, lk, hd, nr, so, sz, it, oc, ow, bg, dp, td) (to, rs, nx)) (f : Nat → Int32) : Rm E (wo_up w aH (.inl (E.2.1, 40, .inl f))) (m, aC, aV, aL, aH, aS, aZ, aI, aT) (n, cl, vs, lk, f, nr, so, sz, it, oc, ow, bg, dp, td) (to, rs, nx) := by
  obtain ⟨h0, h1, h2, h3, h4, h5, h6, h7, h8, h9⟩ := R
  have nd := h9
  simp only [List.nodup_cons, List.mem_cons, List.not_mem_nil, not_or, or_false, not_false_eq_true, List.nodup_nil, and_true] at nd
  refine ⟨wo_kp h0 h4 (by simp), ?_, ?_, ?_, wo_up_s, ?_, ?_, ?_, wo_kp h8 h4 (by simp), h9⟩
  · rw [wo_up_n (show aC ≠ aH by intro q; subst q; simp at nd)]; exact h1
  · rw [wo_up_n (show aV ≠ aH by intro q; subst q; simp at nd)]; exact h2
  · rw [wo_up_n (show aL ≠ aH by intro q; subst q; simp at nd)]; exact h3
  · rw [wo_up_n (show aS ≠ aH by intro q; subst q; simp at nd)]; exact h5
  · rw [wo_up_n (show aZ ≠ aH by intro q; subst q; simp at nd)]; exact h6
  · rw [wo_up_n (show aT ≠ aH by intro q; subst q; simp at nd)]; exact h7
theorem Rm_p_so (R : Rm E w (m, aC, aV, aL, aH, aS, aZ, aI, aT) (n, cl, vs, lk, hd, nr, so, sz, it, oc, ow, bg, dp, td) (to, rs, nx)) (f : Nat → Int32) : Rm E (wo_up w aS (.inl (E.2.1, 520, .inl f))) (m, aC, aV, aL, aH, aS, aZ, aI, aT) (n, cl, vs, lk, hd, nr, f, sz, it, oc, ow, bg, dp, td) (to, rs, nx) := by
  obtain ⟨h0, h1, h2, h3, h4, h5, h6, h7, h8, h9⟩ := R
  have nd := h9
  simp only [List.nodup_cons, List.mem_cons, List.not_mem_nil, not_or, or_false, not_false_eq_true, List.nodup_nil, and_true] at nd
  refine ⟨wo_kp h0 h5 (by simp), ?_, ?_, ?_, ?_, wo_up_s, ?_, ?_, wo_kp h8 h5 (by simp), h9⟩
  · rw [wo_up_n (show aC ≠ aS by intro q; subst q; simp at nd)]; exact h1
  · rw [wo_up_n (show aV ≠ aS by intro q; subst q; simp at nd)]; exact h2
  · rw [wo_up_n (show aL ≠ aS by intro q; subst q; simp at nd)]; exact h3
  · rw [wo_up_n (show aH ≠ aS by intro q; subst q; simp at nd)]; exact h4
  · rw [wo_up_n (show aZ ≠ aS by intro q; subst q; simp at nd)]; exact h6
  · rw [wo_up_n (show aT ≠ aS by intro q; subst q; simp at nd)]; exact h7
theorem Rm_p_sz (R : Rm E w (m, aC, aV, aL, aH, aS, aZ, aI, aT) (n, cl, vs, lk, hd, nr, so, sz, it, oc, ow, bg, dp, td) (to, rs, nx)) (f : Nat → Int32) : Rm E (wo_up w aZ (.inl (E.2.1, 520, .inl f))) (m, aC, aV, aL, aH, aS, aZ, aI, aT) (n, cl, vs, lk, hd, nr, so, f, it, oc, ow, bg, dp, td) (to, rs, nx) := by
  obtain ⟨h0, h1, h2, h3, h4, h5, h6, h7, h8, h9⟩ := R
  have nd := h9
  simp only [List.nodup_cons, List.mem_cons, List.not_mem_nil, not_or, or_false, not_false_eq_true, List.nodup_nil, and_true] at nd
  refine ⟨wo_kp h0 h6 (by simp), ?_, ?_, ?_, ?_, ?_, wo_up_s, ?_, wo_kp h8 h6 (by simp), h9⟩
  · rw [wo_up_n (show aC ≠ aZ by intro q; subst q; simp at nd)]; exact h1
  · rw [wo_up_n (show aV ≠ aZ by intro q; subst q; simp at nd)]; exact h2
  · rw [wo_up_n (show aL ≠ aZ by intro q; subst q; simp at nd)]; exact h3
  · rw [wo_up_n (show aH ≠ aZ by intro q; subst q; simp at nd)]; exact h4
  · rw [wo_up_n (show aS ≠ aZ by intro q; subst q; simp at nd)]; exact h5
  · rw [wo_up_n (show aT ≠ aZ by intro q; subst q; simp at nd)]; exact h7
theorem Rm_p_td (R : Rm E w (m, aC, aV, aL, aH, aS, aZ, aI, aT) (n, cl, vs, lk, hd, nr, so, sz, it, oc, ow, bg, dp, td) (to, rs, nx)) (f : Nat → Int32) : Rm E (wo_up w aT (.inl (E.2.1, 10, .inl f))) (m, aC, aV, aL, aH, aS, aZ, aI, aT) (n, cl, vs, lk, hd, nr, so, sz, it, oc, ow, bg, dp, f) (to, rs, nx) := by
  obtain ⟨h0, h1, h2, h3, h4, h5, h6, h7, h8, h9⟩ := R
  have nd := h9
  simp only [List.nodup_cons, List.mem_cons, List.not_mem_nil, not_or, or_false, not_false_eq_true, List.nodup_nil, and_true] at nd
  refine ⟨wo_kp h0 h7 (by simp), ?_, ?_, ?_, ?_, ?_, ?_, wo_up_s, wo_kp h8 h7 (by simp), h9⟩
  · rw [wo_up_n (show aC ≠ aT by intro q; subst q; simp at nd)]; exact h1
  · rw [wo_up_n (show aV ≠ aT by intro q; subst q; simp at nd)]; exact h2
  · rw [wo_up_n (show aL ≠ aT by intro q; subst q; simp at nd)]; exact h3
  · rw [wo_up_n (show aH ≠ aT by intro q; subst q; simp at nd)]; exact h4
  · rw [wo_up_n (show aS ≠ aT by intro q; subst q; simp at nd)]; exact h5
  · rw [wo_up_n (show aZ ≠ aT by intro q; subst q; simp at nd)]; exact h6
theorem Rm_p_it (R : Rm E w (m, aC, aV, aL, aH, aS, aZ, aI, aT) (n, cl, vs, lk, hd, nr, so, sz, it, oc, ow, bg, dp, td) (to, rs, nx)) (f : Nat → Int64) : Rm E (wo_up w aI (.inl (E.2.2.1, 6240, .inr (.inl f)))) (m, aC, aV, aL, aH, aS, aZ, aI, aT) (n, cl, vs, lk, hd, nr, so, sz, f, oc, ow, bg, dp, td) (to, rs, nx) := by
  obtain ⟨h0, h1, h2, h3, h4, h5, h6, h7, h8, h9⟩ := R
  exact ⟨wo_kp h0 h8 (by simp), wo_kp h1 h8 (by simp), wo_kp h2 h8 (by simp), wo_kp h3 h8 (by simp), wo_kp h4 h8 (by simp), wo_kp h5 h8 (by simp), wo_kp h6 h8 (by simp), wo_kp h7 h8 (by simp), wo_up_s, h9⟩
end RMS
/-- what stays so in every run -/
def Gd : ST → Prop
  | (n, cl, _, lk, hd, nr, so, sz, it, _) => n ≤ 40 ∧ nr ≤ 512 ∧ (∀ k, k < n → ∃ c, c < 8 ∧ cl k = nI c) ∧ (∀ k, k < n → lk k = -1 ∨ ∃ j, j < n ∧ lk k = nI j) ∧ (∀ k, k < n → hd k = -1 ∨ ∃ r, r < nr ∧ hd k = nI r) ∧ (∀ r, r < nr → ∃ s, s < 4 ∧ so r = nI s) ∧ (∀ r, r < nr → ∃ z, z < 13 ∧ sz r = nI z) ∧ (∀ r, r < nr → 2 ≤ so r → ∀ k, k < cn (sz r) → it (12 * r + k) = -1 ∨ ∃ j, j < n ∧ it (12 * r + k) = lN j ∧ (so r = 3 → cl j ≤ 2))
def RcX (E : EV) (w : wo) (x : Nat) (σ : ST) : Prop := ∃ (st wk tl ta : Nat) (tf : Nat → Option Nat) (T Rw Ia : Nat → Nat) (F : Nat → Nat → Int64) (κ : Int32 × Int32 × Int32), Rc E w (x, st, wk, tl, ta, tf, T, Rw, Ia, F) σ κ
def RmX (E : EV) (w : wo) (m : Nat) (σ : ST) : Prop := ∃ (aC aV aL aH aS aZ aI aT : Nat) (κ : Int32 × Int32 × Int32), Rm E w (m, aC, aV, aL, aH, aS, aZ, aI, aT) σ κ
theorem Rc_ex {E : EV} {A : Nat → Prop} {s : State} {w : wo} {H : Heap} {locs : List Loc} {g : GC} {σ : ST} {κ : Int32 × Int32 × Int32} (R : Rc E w g σ κ) (G : wo_G E A s w H locs) : ∃ w1 : wo, Rc E w1 g σ κ ∧ wo_G E A s w1 H locs := ⟨w, R, G⟩
theorem Rm_ex {E : EV} {A : Nat → Prop} {s : State} {w : wo} {H : Heap} {locs : List Loc} {g : GM} {σ : ST} {κ : Int32 × Int32 × Int32} (R : Rm E w g σ κ) (G : wo_G E A s w H locs) : ∃ w1 : wo, Rm E w1 g σ κ ∧ wo_G E A s w1 H locs := ⟨w, R, G⟩
theorem nar_rf (C : String) (r : Option Nat) : narrow (.object C) (va_rf r) = va_rf r := by cases r <;> rfl
theorem fit_rf (C : String) (r : Option Nat) : fits (.object C) (va_rf r) = true := by cases r <;> rfl
theorem tin_e {n k : Nat} {t : Int32} (e : t = nI k) (hk : k < n) (hn : n ≤ 1000) : tin n t = true := by rw [e]; exact tin_y hk hn
theorem cn_e {k : Nat} {t : Int32} (e : t = nI k) (hk : k < 1000) : cn t = k := by rw [e]; exact cn_nI (by omega)
theorem vin_e {n k : Nat} {t : Int32} (e : t = nI k) (hk : k < n) (hn : n ≤ 10000) : vp_in t n := by rw [e]; exact vp_in_nI hk (by omega)
