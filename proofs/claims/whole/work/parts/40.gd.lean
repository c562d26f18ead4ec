/-! WHAT STAYS SO: Gd holds behind every call -/
theorem gd_tell {σ : ST} (o : Int32) (K : Gd σ) : Gd (s_tell o σ) := by
  obtain ⟨n, cl, vs, lk, hd, nr, so, sz, it, oc, ow, bg, dp, td⟩ := σ
  exact K
theorem gd_end {σ : ST} (o b p t : Int32) (K : Gd σ) : Gd (s_end o b p t σ) := by
  obtain ⟨n, cl, vs, lk, hd, nr, so, sz, it, oc, ow, bg, dp, td⟩ := σ
  exact K
theorem gd_vs {σ : ST} (k : Nat) (x : Int32) (K : Gd σ) : Gd (put_vs k x σ) := by
  obtain ⟨n, cl, vs, lk, hd, nr, so, sz, it, oc, ow, bg, dp, td⟩ := σ
  exact K
section GDS
variable {n : Nat} {cl vs lk hd : Nat → Int32} {nr : Nat} {so sz : Nat → Int32} {it : Nat → Int64} {oc ow bg dp : Int32} {td : Nat → Int32}
theorem gd_lk (K : Gd (n, cl, vs, lk, hd, nr, so, sz, it, oc, ow, bg, dp, td)) (k : Nat) {x : Int32} (h : x = -1 ∨ ∃ j, j < n ∧ x = nI j) : Gd (n, cl, vs, upd lk k x, hd, nr, so, sz, it, oc, ow, bg, dp, td) := by
  obtain ⟨Kn, Kr, Kc, Kl, Kh, Ks, Kz, Ki⟩ := K
  refine ⟨Kn, Kr, Kc, fun q hq => ?_, Kh, Ks, Kz, Ki⟩
  by_cases e : q = k
  · rw [e, pk_us]; exact h
  · rw [pk_un e]; exact Kl q hq
theorem gd_hd (K : Gd (n, cl, vs, lk, hd, nr, so, sz, it, oc, ow, bg, dp, td)) (k : Nat) {x : Int32} (h : x = -1 ∨ ∃ j, j < nr ∧ x = nI j) : Gd (n, cl, vs, lk, upd hd k x, nr, so, sz, it, oc, ow, bg, dp, td) := by
  obtain ⟨Kn, Kr, Kc, Kl, Kh, Ks, Kz, Ki⟩ := K
  refine ⟨Kn, Kr, Kc, Kl, fun q hq => ?_, Ks, Kz, Ki⟩
  by_cases e : q = k
  · rw [e, pk_us]; exact h
  · rw [pk_un e]; exact Kh q hq
theorem gd_it (K : Gd (n, cl, vs, lk, hd, nr, so, sz, it, oc, ow, bg, dp, td)) {r k : Nat} (hr : r < nr) (hk : k < cn (sz r)) {x : Int64} (h : 2 ≤ so r → x = -1 ∨ ∃ j, j < n ∧ x = lN j ∧ (so r = 3 → cl j ≤ 2)) : Gd (n, cl, vs, lk, hd, nr, so, sz, vp_updL it (12 * r + k) x, oc, ow, bg, dp, td) := by
  obtain ⟨Kn, Kr, Kc, Kl, Kh, Ks, Kz, Ki⟩ := K
  refine ⟨Kn, Kr, Kc, Kl, Kh, Ks, Kz, fun r2 hr2 h2 k2 hk2 => ?_⟩
  have z1 := sz_le (Kz r hr)
  have z2 := sz_le (Kz r2 hr2)
  by_cases e : 12 * r2 + k2 = 12 * r + k
  · have er : r2 = r := by omega
    subst er
    rw [e, pk_uLs]
    exact h h2
  · rw [pk_uLn e]
    exact Ki r2 hr2 h2 k2 hk2
end GDS
theorem Gd_thing {σ : ST} (K : Gd σ) (c v : Int32) : Gd (S_thing c v σ).2 := by
  obtain ⟨n, cl, vs, lk, hd, nr, so, sz, it, oc, ow, bg, dp, td⟩ := σ
  by_cases h : tin 8 c = true
  · by_cases h2 : n = 40
    · simp only [S_thing, h, h2, ↓reduceIte]
      rw [← h2]; exact K
    · simp only [S_thing, h, h2, ↓reduceIte]
      obtain ⟨Kn, Kr, Kc, Kl, Kh, Ks, Kz, Ki⟩ := K
      refine ⟨by omega, Kr, fun k hk => ?_, fun k hk => ?_, fun k hk => ?_, Ks, Kz, fun r hr h3 k hk => ?_⟩
      · by_cases e : k = n
        · rw [e, pk_us]
          rcases tin_c 8 c (by omega) with ⟨q, -⟩ | ⟨j, hj, q⟩
          · rw [q] at h; cases h
          · exact ⟨j, hj, q⟩
        · rw [pk_un e]; exact Kc k (by omega)
      · by_cases e : k = n
        · rw [e, pk_us]; exact Or.inl rfl
        · rw [pk_un e]
          exact (Kl k (by omega)).imp id (fun ⟨j, hj, q⟩ => ⟨j, by omega, q⟩)
      · by_cases e : k = n
        · rw [e, pk_us]; exact Or.inl rfl
        · rw [pk_un e]; exact Kh k (by omega)
      · exact (Ki r hr h3 k hk).imp id (fun ⟨j, hj, q, q2⟩ => ⟨j, by omega, q, fun z => by rw [pk_un (show j ≠ n by omega)]; exact q2 z⟩)
  · simp only [S_thing, h, ↓reduceIte, Bool.false_eq_true]
    exact K
theorem Gd_become {σ : ST} (K : Gd σ) (t v : Int32) : Gd (S_become t v σ).2 := by
  obtain ⟨n, cl, vs, lk, hd, nr, so, sz, it, oc, ow, bg, dp, td⟩ := σ
  by_cases h : tin n t = true
  · simp only [S_become, h, ↓reduceIte]; exact K
  · simp only [S_become, h, ↓reduceIte, Bool.false_eq_true]; exact K
theorem tin_ex {n : Nat} (hn : n ≤ 1000) {t : Int32} (h : tin n t = true) : ∃ k, k < n ∧ t = nI k ∧ cn t = k := by
  rcases tin_c n t hn with ⟨q, -⟩ | ⟨k, hk, q⟩
  · rw [q] at h; cases h
  · exact ⟨k, hk, q, cn_e q (by omega)⟩
theorem Gd_link {σ : ST} (K : Gd σ) (t o : Int32) : Gd (S_link t o σ).2 := by
  obtain ⟨n, cl, vs, lk, hd, nr, so, sz, it, oc, ow, bg, dp, td⟩ := σ
  by_cases h : tin n t = true
  · by_cases h2 : o = -1 ∨ tin n o = true
    · simp only [S_link, h, h2, ↓reduceIte]
      refine gd_lk K _ (h2.imp id (fun q => ?_))
      obtain ⟨k, h1, h3, -⟩ := tin_ex (Nat.le_trans K.1 (by decide)) q
      exact ⟨k, h1, h3⟩
    · simp only [S_link, h, h2, ↓reduceIte]; exact K
  · simp only [S_link, h, ↓reduceIte, Bool.false_eq_true]; exact K
theorem Gd_follow {σ : ST} (K : Gd σ) (t : Int32) : Gd (S_follow t σ).2 := by
  obtain ⟨n, cl, vs, lk, hd, nr, so, sz, it, oc, ow, bg, dp, td⟩ := σ
  have K0 := K
  obtain ⟨Kn, Kr, Kc, Kl, Kh, Ks, Kz, Ki⟩ := K0
  by_cases h : tin n t = true
  · obtain ⟨k, hk, -, ck⟩ := tin_ex (by omega) h
    by_cases h2 : lk k = -1
    · simp only [S_follow, h, ck, h2, ↓reduceIte]; exact K
    · simp only [S_follow, h, ck, h2, ↓reduceIte]
      obtain ⟨j, hj, e⟩ := (Kl k hk).resolve_left h2
      rw [e, cn_nI (by omega)]
      exact gd_lk K k (Kl j hj)
  · simp only [S_follow, h, ↓reduceIte, Bool.false_eq_true]; exact K
theorem Gd_trade {σ : ST} (K : Gd σ) (t : Int32) : Gd (S_trade t σ).2 := by
  obtain ⟨n, cl, vs, lk, hd, nr, so, sz, it, oc, ow, bg, dp, td⟩ := σ
  by_cases h : tin n t = true
  · by_cases h2 : lk (cn t) = -1
    · simp only [S_trade, h, h2, ↓reduceIte]; exact K
    · simp only [S_trade, h, h2, ↓reduceIte]; exact K
  · simp only [S_trade, h, ↓reduceIte, Bool.false_eq_true]; exact K
theorem Gd_hold {σ : ST} (K : Gd σ) (hn : nr_of σ < 512) (t s z : Int32) : Gd (S_hold t s z σ).2 := by
  obtain ⟨n, cl, vs, lk, hd, nr, so, sz, it, oc, ow, bg, dp, td⟩ := σ
  replace hn : nr < 512 := hn
  by_cases h : tin n t = true
  · by_cases h2 : s = -1 ∨ tin 4 s = true
    · by_cases h3 : z ≤ 12
      · by_cases h4 : s = -1
        · simp only [S_hold, h, h3, ↓reduceIte]
          rw [if_pos h2, if_pos h4]
          exact gd_hd (gd_tell 0 K) _ (Or.inl rfl)
        · by_cases h5 : z < 0
          · simp only [S_hold, h, h3, ↓reduceIte]
            rw [if_pos h2, if_neg h4, if_pos h5]
            exact K
          · simp only [S_hold, h, h3, ↓reduceIte]
            rw [if_pos h2, if_neg h4, if_neg h5]
            obtain ⟨N, hN, ez⟩ := nI_of2 (x := z) (M := 12) (n := 12) (by decide) h5 h3
            obtain ⟨Kn, Kr, Kc, Kl, Kh, Ks, Kz, Ki⟩ := K
            obtain ⟨s4, hs4, es4, -⟩ := tin_ex (by omega) (h2.resolve_left h4)
            refine ⟨Kn, by omega, Kc, Kl, fun k hk => ?_, fun r hr => ?_, fun r hr => ?_, fun r hr h6 k hk => ?_⟩
            · by_cases e : k = cn t
              · rw [e, pk_us]; exact Or.inr ⟨nr, by omega, rfl⟩
              · rw [pk_un e]
                exact (Kh k hk).imp id (fun ⟨j, hj, q⟩ => ⟨j, by omega, q⟩)
            · by_cases e : r = nr
              · rw [e, pk_us]; exact ⟨s4, hs4, es4⟩
              · rw [pk_un e]; exact Ks r (by omega)
            · by_cases e : r = nr
              · rw [e, pk_us]; exact ⟨N, by omega, ez⟩
              · rw [pk_un e]; exact Kz r (by omega)
            · by_cases e : r = nr
              · subst e
                rw [pk_us] at h6 hk
                rw [ez, cn_nI (by omega)] at hk
                refine Or.inl ?_
                rw [fil_in (by omega), if_neg (Int32.not_lt.mpr h6)]
              · have hr2 : r < nr := by omega
                rw [pk_un e] at h6 hk
                have z1 := sz_le (Kz r hr2)
                rw [fil_out hr2 (by omega)]
                refine (Ki r hr2 h6 k hk).imp id (fun ⟨j, hj, q, q2⟩ => ⟨j, hj, q, fun z => ?_⟩)
                rw [pk_un e] at z
                exact q2 z
      · simp only [S_hold, h, h3, ↓reduceIte]
        rw [if_pos h2]
        exact K
    · simp only [S_hold, h, ↓reduceIte]
      rw [if_neg h2]
      exact K
  · simp only [S_hold, h, ↓reduceIte, Bool.false_eq_true]; exact K
theorem Gd_share {σ : ST} (K : Gd σ) (t o : Int32) : Gd (S_share t o σ).2 := by
  obtain ⟨n, cl, vs, lk, hd, nr, so, sz, it, oc, ow, bg, dp, td⟩ := σ
  by_cases h : tin n t = true
  · by_cases h2 : tin n o = true
    · simp only [S_share, h, h2, ↓reduceIte]
      obtain ⟨k, hk, -, ck⟩ := tin_ex (Nat.le_trans K.1 (by decide)) h2
      rw [ck]
      exact gd_hd K _ (K.2.2.2.2.1 k hk)
    · simp only [S_share, h, h2, ↓reduceIte, Bool.false_eq_true]; exact K
  · simp only [S_share, h, ↓reduceIte, Bool.false_eq_true]; exact K
theorem Gd_size {σ : ST} (K : Gd σ) (t : Int32) : Gd (S_size t σ).2 := by
  obtain ⟨n, cl, vs, lk, hd, nr, so, sz, it, oc, ow, bg, dp, td⟩ := σ
  by_cases h : tin n t = true
  · by_cases h2 : hd (cn t) = -1
    · simp only [S_size, h, h2, ↓reduceIte]; exact K
    · simp only [S_size, h, h2, ↓reduceIte]; exact K
  · simp only [S_size, h, ↓reduceIte, Bool.false_eq_true]; exact K
theorem Gd_at {σ : ST} (K : Gd σ) (t k : Int32) : Gd (S_at t k σ).2 := by
  obtain ⟨n, cl, vs, lk, hd, nr, so, sz, it, oc, ow, bg, dp, td⟩ := σ
  by_cases h : tin n t = true
  · by_cases h2 : hd (cn t) = -1
    · simp only [S_at, h, h2, ↓reduceIte]; exact K
    · by_cases h3 : tin (cn (sz (cn (hd (cn t))))) k = true
      · simp only [S_at, h, h2, h3, ↓reduceIte]; exact K
      · simp only [S_at, h, h2, h3, ↓reduceIte, Bool.false_eq_true]; exact K
  · simp only [S_at, h, ↓reduceIte, Bool.false_eq_true]; exact K
theorem Gd_lay {σ : ST} (K : Gd σ) (t k : Int32) (v : Int64) : Gd (S_lay t k v σ).2 := by
  obtain ⟨n, cl, vs, lk, hd, nr, so, sz, it, oc, ow, bg, dp, td⟩ := σ
  have K0 := K
  obtain ⟨Kn, Kr, Kc, Kl, Kh, Ks, Kz, Ki⟩ := K0
  by_cases h : tin n t = true
  · obtain ⟨kt, hkt, -, ck⟩ := tin_ex (by omega) h
    by_cases h2 : hd kt = -1
    · simp only [S_lay, h, ck, h2, ↓reduceIte]; exact K
    · obtain ⟨r, hr, e⟩ := (Kh kt hkt).resolve_left h2
      have cr : cn (hd kt) = r := cn_e e (by omega)
      have z1 := sz_le (Kz r hr)
      by_cases h3 : 1 < so r
      · simp only [S_lay, h, ck, h2, cr, h3, ↓reduceIte]; exact K
      · by_cases h4 : tin (cn (sz r)) k = true
        · obtain ⟨j, hj, -, cj⟩ := tin_ex (by omega) h4
          simp only [S_lay, h, ck, h2, cr, h3, h4, cj, ↓reduceIte]
          exact gd_it K hr hj (fun y => absurd (Int32.lt_of_lt_of_le (by decide) y) h3)
        · simp only [S_lay, h, ck, h2, cr, h3, h4, ↓reduceIte, Bool.false_eq_true]; exact K
  · simp only [S_lay, h, ↓reduceIte, Bool.false_eq_true]; exact K
theorem Gd_set {σ : ST} (K : Gd σ) (t k o : Int32) : Gd (S_set t k o σ).2 := by
  obtain ⟨n, cl, vs, lk, hd, nr, so, sz, it, oc, ow, bg, dp, td⟩ := σ
  have K0 := K
  obtain ⟨Kn, Kr, Kc, Kl, Kh, Ks, Kz, Ki⟩ := K0
  by_cases h : tin n t = true
  · obtain ⟨kt, hkt, -, ck⟩ := tin_ex (by omega) h
    by_cases ho : o = -1 ∨ tin n o = true
    · by_cases h2 : hd kt = -1
      · simp only [S_set, h, ck, h2, ↓reduceIte]; rw [if_pos ho]; exact K
      · obtain ⟨r, hr, e⟩ := (Kh kt hkt).resolve_left h2
        have cr : cn (hd kt) = r := cn_e e (by omega)
        have z1 := sz_le (Kz r hr)
        by_cases h3 : so r < 2
        · simp only [S_set, h, ck, h2, cr, h3, ↓reduceIte]; rw [if_pos ho]; exact K
        · by_cases h4 : tin (cn (sz r)) k = true
          · obtain ⟨j, hj, -, cj⟩ := tin_ex (by omega) h4
            by_cases h5 : so r = 3 ∧ ¬ o = -1 ∧ ¬ cl (cn o) ≤ 2
            · simp only [S_set, h, ck, h2, cr, h3, h4, cj, ↓reduceIte]; rw [if_pos ho, if_pos h5]; exact K
            · simp only [S_set, h, ck, h2, cr, h3, h4, cj, ↓reduceIte]; rw [if_pos ho, if_neg h5]
              refine gd_it K hr hj (fun y => ?_)
              rcases ho with q | q
              · exact Or.inl (by rw [q]; decide)
              · obtain ⟨jo, hjo, eo, co⟩ := tin_ex (by omega) q
                by_cases q1 : o = -1
                · exact Or.inl (by rw [q1]; decide)
                · refine Or.inr ⟨jo, hjo, by rw [eo]; exact nI_l (by omega), fun z => ?_⟩
                  exact Classical.byContradiction (fun q2 => h5 ⟨z, q1, by rw [co]; exact q2⟩)
          · simp only [S_set, h, ck, h2, cr, h3, h4, ↓reduceIte, Bool.false_eq_true]; rw [if_pos ho]; exact K
    · simp only [S_set, h, ↓reduceIte]; rw [if_neg ho]; exact K
  · simp only [S_set, h, ↓reduceIte, Bool.false_eq_true]; exact K
theorem gon_in {cl : Nat → Int32} {it : Nat → Int64} : ∀ (m b k : Nat), k < gon cl it b m → it (b + k) = -1 ∨ cl (cn (it (b + k)).toInt32) ≤ 2 := by
  intro m
  induction m with
  | zero => intro b k h; exact absurd h (Nat.not_lt_zero k)
  | succ m ih =>
    intro b k h
    by_cases q : it b = -1 ∨ cl (cn (it b).toInt32) ≤ 2
    · cases k with
      | zero => exact q
      | succ k =>
        rw [gon_s q] at h
        have := ih (b + 1) k (by omega)
        rwa [show b + 1 + k = b + (k + 1) by omega] at this
    · rw [gon_e q] at h; omega
theorem gd_cpy {n : Nat} {cl vs lk hd : Nat → Int32} {nr : Nat} {so sz : Nat → Int32} {it : Nat → Int64} {oc ow bg dp : Int32} {td : Nat → Int32} (K : Gd (n, cl, vs, lk, hd, nr, so, sz, it, oc, ow, bg, dp, td)) {r r2 a b g : Nat} (hr : r < nr) (hr2 : r2 < nr) (ha : a + g ≤ cn (sz r)) (hb : b + g ≤ cn (sz r2)) (hl : so r = so r2 ∨ (1 < so r ∧ 1 < so r2)) (hg : so r2 = 3 → ∀ k, k < g → it (12 * r + a + k) = -1 ∨ cl (cn (it (12 * r + a + k)).toInt32) ≤ 2) : Gd (n, cl, vs, lk, hd, nr, so, sz, va_cpy it it (12 * r + a) (12 * r2 + b) g, oc, ow, bg, dp, td) := by
  obtain ⟨Kn, Kr, Kc, Kl, Kh, Ks, Kz, Ki⟩ := K
  refine ⟨Kn, Kr, Kc, Kl, Kh, Ks, Kz, fun r9 hr9 h2 k hk => ?_⟩
  have z1 := sz_le (Kz r hr)
  have z2 := sz_le (Kz r2 hr2)
  have z9 := sz_le (Kz r9 hr9)
  by_cases q : 12 * r2 + b ≤ 12 * r9 + k ∧ 12 * r9 + k < 12 * r2 + b + g
  · have e9 : r9 = r2 := by omega
    subst e9
    have s1 : 2 ≤ so r := hl.elim (fun y => by rw [y]; exact h2) (fun y => two_le (Ks r hr) y.1)
    have e : va_cpy it it (12 * r + a) (12 * r9 + b) g (12 * r9 + k) = it (12 * r + (a + (k - b))) := by
      unfold va_cpy
      rw [if_pos q]
      congr 1
      omega
    rw [e]
    rcases Ki r hr s1 (a + (k - b)) (by omega) with y | ⟨j, hj, y, -⟩
    · exact Or.inl y
    · refine Or.inr ⟨j, hj, y, fun z => ?_⟩
      have y2 := hg z (k - b) (by omega)
      rw [show 12 * r + a + (k - b) = 12 * r + (a + (k - b)) by omega, y, lN_i, cn_nI (by omega)] at y2
      rcases y2 with y2 | y2
      · have z2 := congrArg Int64.toInt y2
        rw [lN_toInt (by omega)] at z2
        have : (-1 : Int64).toInt = -1 := by decide
        omega
      · exact y2
  · have e : va_cpy it it (12 * r + a) (12 * r2 + b) g (12 * r9 + k) = it (12 * r9 + k) := by
      unfold va_cpy
      rw [if_neg q]
    rw [e]
    exact Ki r9 hr9 h2 k hk
theorem Gd_move {σ : ST} (K : Gd σ) (t i o j z : Int32) : Gd (S_move t i o j z σ).2 := by
  obtain ⟨n, cl, vs, lk, hd, nr, so, sz, it, oc, ow, bg, dp, td⟩ := σ
  have K0 := K
  obtain ⟨Kn, Kr, Kc, Kl, Kh, Ks, Kz, Ki⟩ := K0
  by_cases h : tin n t = true
  · obtain ⟨k, hk, -, ck⟩ := tin_ex (by omega) h
    by_cases h1 : tin n o = true
    · obtain ⟨k2, hk2, -, ck2⟩ := tin_ex (by omega) h1
      by_cases h2 : hd k = -1 ∨ hd k2 = -1
      · simp only [S_move, h, h1, ck, ck2, ↓reduceIte]; rw [if_pos h2]; exact K
      · obtain ⟨r, hr, e⟩ := (Kh k hk).resolve_left (fun y => h2 (Or.inl y))
        obtain ⟨r2, hr2, e2⟩ := (Kh k2 hk2).resolve_left (fun y => h2 (Or.inr y))
        have cr : cn (hd k) = r := cn_e e (by omega)
        have cr2 : cn (hd k2) = r2 := cn_e e2 (by omega)
        by_cases h3 : so r = so r2 ∨ (1 < so r ∧ 1 < so r2)
        · by_cases h4 : 0 ≤ i ∧ 0 ≤ j ∧ 0 ≤ z ∧ cn i + cn z ≤ cn (sz r) ∧ cn j + cn z ≤ cn (sz r2)
          · simp only [S_move, h, h1, ck, ck2, cr, cr2, ↓reduceIte]; rw [if_neg h2, if_pos h3, if_pos h4]
            have w4 := h4.2.2.2.1
            have w5 := h4.2.2.2.2
            by_cases h5 : so r2 = 3
            · rw [if_pos h5]
              have gl := gon_le (cl := cl) (it := it) (cn z) (12 * r + cn i)
              exact gd_tell _ (gd_cpy K hr hr2 (by omega) (by omega) h3 (fun _ q hq => gon_in _ _ q hq))
            · rw [if_neg h5]
              exact gd_tell _ (gd_cpy K hr hr2 (by omega) (by omega) h3 (fun y => absurd y h5))
          · simp only [S_move, h, h1, ck, ck2, cr, cr2, ↓reduceIte]; rw [if_neg h2, if_pos h3, if_neg h4]; exact K
        · simp only [S_move, h, h1, ck, ck2, cr, cr2, ↓reduceIte]; rw [if_neg h2, if_neg h3]; exact K
    · simp only [S_move, h, h1, ↓reduceIte, Bool.false_eq_true]; exact K
  · simp only [S_move, h, ↓reduceIte, Bool.false_eq_true]; exact K
theorem Gd_run {σ : ST} (K : Gd σ) (t li : Int32) : Gd (S_run t li σ).2 := by
  unfold S_run
  split
  · split
    · exact gd_end _ _ _ _ K
    · exact K
  · exact K
theorem Gd_either {σ : ST} (K : Gd σ) (t o li : Int32) : Gd (S_either t o li σ).2 := by
  unfold S_either
  split
  · split
    · split
      · exact gd_end _ _ _ _ K
      · exact K
    · exact K
  · exact K
theorem Gd_gather {σ : ST} (K : Gd σ) (t li : Int32) : Gd (S_gather t li σ).2 := by
  unfold S_gather
  split
  · split
    · split
      · exact gd_end _ _ _ _ K
      · dsimp only
        split
        · dsimp only
          exact gd_vs _ _ (gd_end _ _ _ _ K)
        · exact gd_end _ _ _ _ K
    · exact K
  · exact K
theorem Gd_keep {σ : ST} (K : Gd σ) (t o k li : Int32) : Gd (S_keep t o k li σ).2 := by
  unfold S_keep
  split
  · split
    · rename_i h0 h1
      split
      · dsimp only
        split
        · split
          · rename_i h2
            obtain ⟨n, cl, vs, lk, hd, nr, so, sz, it, oc, ow, bg, dp, td⟩ := σ
            have K0 := K
            obtain ⟨Kn, Kr, Kc, Kl, Kh, Ks, Kz, Ki⟩ := K0
            replace h1 : tin n o = true := h1
            obtain ⟨ko, hko, -, cko⟩ := tin_ex (by omega) h1
            rw [cko] at h2 ⊢
            replace h2 : (if hd ko = -1 then 1 else if so (cn (hd ko)) = 0 then (if tin (cn (sz (cn (hd ko)))) k = true then 0 else 3) else 2 : Int32) = 0 := h2
            by_cases q1 : hd ko = -1
            · rw [if_pos q1] at h2; exact absurd h2 (by decide)
            · rw [if_neg q1] at h2
              obtain ⟨r, hr, e⟩ := (Kh ko hko).resolve_left q1
              have cr : cn (hd ko) = r := cn_e e (by omega)
              have z1 := sz_le (Kz r hr)
              rw [cr] at h2
              by_cases q2 : so r = 0
              · rw [if_pos q2] at h2
                by_cases q3 : tin (cn (sz r)) k = true
                · obtain ⟨j, hj, -, cj⟩ := tin_ex (by omega) q3
                  dsimp only
                  show Gd (put_it (12 * cn (hd ko) + cn k) _ _)
                  rw [cr, cj]
                  exact gd_it K hr hj (fun y => by rw [q2] at y; exact absurd y (by decide))
                · rw [if_neg q3] at h2; exact absurd h2 (by decide)
              · rw [if_neg q2] at h2; exact absurd h2 (by decide)
          · exact gd_end _ _ _ _ K
        · exact gd_end _ _ _ _ K
      · exact K
    · exact K
  · exact K
