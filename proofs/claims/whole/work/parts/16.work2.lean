/-! THE CLASS: Work: begin, workOut, firstOf, one within the other; next, first -/
def WBG (l : Launch) (E : EV) (d : Nat) : Prop := ∀ {w : wo} {x st wk tl ta : Nat} {tf : Nat → Option Nat} {T Rw Ia : Nat → Nat} {F : Nat → Nat → Int64} {n : Nat} {cl vs lk hd : Nat → Int32} {nr : Nat} {so sz : Nat → Int32} {it : Nat → Int64} {oc ow bg dp : Int32} {td : Nat → Int32} {lim wou th : Int32} (R : Rc E w (x, st, wk, tl, ta, tf, T, Rw, Ia, F) (n, cl, vs, lk, hd, nr, so, sz, it, oc, ow, bg, dp, td) (lim, wou, th)) (K : Gd (n, cl, vs, lk, hd, nr, so, sz, it, oc, ow, bg, dp, td)) (hbl : bg ≤ lim) {a u : Nat} (ha : a < n) (hu : u + d = 30) {uv : Int32} (eu : uv = nI u), ct_i l E yX3_begin wsX3_begin (3 * d + 3) 0 0 [.ref wk, .ref (T a), .int uv] w (fun r w' => ((nm cl vs lk hd so sz it lim d a bg).1 = 0 → r = (nm cl vs lk hd so sz it lim d a bg).2.1) ∧ Rc E w' (x, st, wk, tl, ta, tf, T, Rw, Ia, F) (n, cl, vs, lk, hd, nr, so, sz, it, oc, ow, (nm cl vs lk hd so sz it lim d a bg).2.2.1, if (nm cl vs lk hd so sz it lim d a bg).1 = 0 then dp else (nm cl vs lk hd so sz it lim d a bg).2.2.2.1, td) (lim, if (nm cl vs lk hd so sz it lim d a bg).1 = 0 then wou else (nm cl vs lk hd so sz it lim d a bg).1, if (nm cl vs lk hd so sz it lim d a bg).1 = 7 then (nm cl vs lk hd so sz it lim d a bg).2.2.2.2 else th))
theorem bg_lt {b c : Int32} (h : b ≤ c) (hn : ¬ b = c) : b + 1 ≤ c ∧ b < c := by
  have h1 := Int32.le_iff_toInt_le.mp h
  have h2 : b.toInt ≠ c.toInt := fun z => hn (Int32.toInt_inj.mp z)
  have h3 := c.toInt_lt
  have h4 := b.le_toInt
  have e : (b + 1).toInt = b.toInt + 1 := by
    rw [Int32.toInt_add]
    have : (1 : Int32).toInt = 1 := by decide
    rw [this]
    exact Int.bmod_eq_of_le (by omega) (by omega)
  refine ⟨Int32.le_iff_toInt_le.mpr (by rw [e]; omega), Int32.lt_iff_toInt_lt.mpr (by omega)⟩
set_option maxHeartbeats 4000000 in
set_option maxRecDepth 100000 in
theorem c_X3_begin_n (l : Launch) {E : EV} (d : Nat) {w : wo} {x st wk tl ta : Nat} {tf : Nat → Option Nat} {T Rw Ia : Nat → Nat} {F : Nat → Nat → Int64} {n : Nat} {cl vs lk hd : Nat → Int32} {nr : Nat} {so sz : Nat → Int32} {it : Nat → Int64} {oc ow bg dp : Int32} {td : Nat → Int32} {lim wou th : Int32} (R : Rc E w (x, st, wk, tl, ta, tf, T, Rw, Ia, F) (n, cl, vs, lk, hd, nr, so, sz, it, oc, ow, bg, dp, td) (lim, wou, th)) (u : Int32) : ct_i l E yX3_begin wsX3_begin (3 * d + 3) 0 0 [.ref wk, .null, .int u] w (fun r w' => r = 0 ∧ Rc E w' (x, st, wk, tl, ta, tf, T, Rw, Ia, F) (n, cl, vs, lk, hd, nr, so, sz, it, oc, ow, bg, u, td) (lim, 1, th)) := by
  intro zz
  refine wo_body (Qc := fun A => va_Qi _ (wo_B E A) A) (ret := (some .int)) (by decide) rfl (Nat.le_of_ble_eq_true rfl) ?_
  intro p_ e_ s_ m_ args_ below_ meth_ code_ A_ ls S hret hlk hnm G hl
  have hl : lv_has ls 3 [(0, .ref wk), (1, .null), (2, .int u)] := hl
  have hx := S.1
  have hb := S.2.1
  refine lv_aload_nN hx hb dX3_begin_0 rfl (lv_at hl 1 rfl) ?_
  refine lv_ifnonnullN hx hb dX3_begin_1 ?_
  refine lv_aload_n hx hb dX3_begin_4 rfl (lv_at hl 0 rfl) ?_
  refine lv_iconst (v := 1) hx hb dX3_begin_5 (by decide) ?_
  refine lv_iload_n hx hb dX3_begin_6 rfl (lv_at hl 2 rfl) ?_
  refine g_Vi (n := 2) (rest := []) S G hl (c_X3_stop l R 1 u) gX3_begin_X3_stop rfl (by decide +kernel) (Rc_wk R) rfl rfl rfl (Nat.le_of_ble_eq_true rfl) ⟨by simp only [rmk]; omega, by simp only [rmk]; omega⟩ ⟨Nat.le_of_ble_eq_true rfl, Nat.le_of_ble_eq_true rfl⟩ dX3_begin_7 ?_
  clear G; intro r_ w1 H locs hp G
  obtain ⟨rfl, R⟩ := hp
  refine r_int S hret hlk G rfl (Nat.le_of_ble_eq_true rfl) (Nat.le_of_ble_eq_true rfl) dX3_begin_10 ?_
  exact ⟨rfl, R⟩

set_option maxHeartbeats 4000000 in
set_option maxRecDepth 100000 in
theorem c_X3_begin_0 (l : Launch) {E : EV} {w : wo} {x st wk tl ta : Nat} {tf : Nat → Option Nat} {T Rw Ia : Nat → Nat} {F : Nat → Nat → Int64} {n : Nat} {cl vs lk hd : Nat → Int32} {nr : Nat} {so sz : Nat → Int32} {it : Nat → Int64} {oc ow bg dp : Int32} {td : Nat → Int32} {lim wou th : Int32} (R : Rc E w (x, st, wk, tl, ta, tf, T, Rw, Ia, F) (n, cl, vs, lk, hd, nr, so, sz, it, oc, ow, bg, dp, td) (lim, wou, th)) (K : Gd (n, cl, vs, lk, hd, nr, so, sz, it, oc, ow, bg, dp, td)) (hbl : bg ≤ lim) {a u : Nat} (ha : a < n) (hu : u + 0 = 30) {uv : Int32} (eu : uv = nI u) : ct_i l E yX3_begin wsX3_begin (3 * 0 + 3) 0 0 [.ref wk, .ref (T a), .int uv] w (fun r w' => ((nm cl vs lk hd so sz it lim 0 a bg).1 = 0 → r = (nm cl vs lk hd so sz it lim 0 a bg).2.1) ∧ Rc E w' (x, st, wk, tl, ta, tf, T, Rw, Ia, F) (n, cl, vs, lk, hd, nr, so, sz, it, oc, ow, (nm cl vs lk hd so sz it lim 0 a bg).2.2.1, if (nm cl vs lk hd so sz it lim 0 a bg).1 = 0 then dp else (nm cl vs lk hd so sz it lim 0 a bg).2.2.2.1, td) (lim, if (nm cl vs lk hd so sz it lim 0 a bg).1 = 0 then wou else (nm cl vs lk hd so sz it lim 0 a bg).1, if (nm cl vs lk hd so sz it lim 0 a bg).1 = 7 then (nm cl vs lk hd so sz it lim 0 a bg).2.2.2.2 else th)) := by
  intro zz
  refine wo_body (Qc := fun A => va_Qi _ (wo_B E A) A) (ret := (some .int)) (by decide) rfl (Nat.le_of_ble_eq_true rfl) ?_
  intro p_ e_ s_ m_ args_ below_ meth_ code_ A_ ls S hret hlk hnm G hl
  have hl : lv_has ls 3 [(0, .ref wk), (1, .ref (T a)), (2, .int uv)] := hl
  have hx := S.1
  have hb := S.2.1
  refine lv_aload_n hx hb dX3_begin_0 rfl (lv_at hl 1 rfl) ?_
  refine lv_ifnonnull (tgt := 11) hx hb dX3_begin_1 (by decide) ?_
  refine lv_aload_n hx hb dX3_begin_11 rfl (lv_at hl 0 rfl) ?_
  refine g_get S G (Rc_wk R) rfl (by decide +kernel) 2 (by decide) (by decide +kernel) rfl dX3_begin_12 ?_
  refine lv_aload_n hx hb dX3_begin_15 rfl (lv_at hl 0 rfl) ?_
  refine g_get S G (Rc_wk R) rfl (by decide +kernel) 1 (by decide) (by decide +kernel) rfl dX3_begin_16 ?_
  refine lv_icmp_lt (tgt := 30) hx hb dX3_begin_19 (by decide) (fun c1 => ?_) (fun c1 => ?_)
  · skip
    refine lv_iload_n hx hb dX3_begin_30 rfl (lv_at hl 2 rfl) ?_
    refine lv_bipush (v := 30) hx hb dX3_begin_31 (by decide) ?_
    refine lv_icmp_lt (tgt := 44) hx hb dX3_begin_33 (by decide) (fun c2 => absurd c2 (by rw [eu]; exact nI_nlt (b := 30) (by omega) (by omega))) (fun c2 => ?_)
    refine lv_aload_n hx hb dX3_begin_36 rfl (lv_at hl 0 rfl) ?_
    refine lv_bipush (v := 8) hx hb dX3_begin_37 (by decide) ?_
    refine lv_iload_n hx hb dX3_begin_39 rfl (lv_at hl 2 rfl) ?_
    refine g_Vi (n := 2) (rest := []) S G hl (c_X3_stop l R 8 uv) gX3_begin_X3_stop rfl (by decide +kernel) (Rc_wk R) rfl rfl rfl (Nat.le_of_ble_eq_true rfl) ⟨by simp only [rmk]; omega, by simp only [rmk]; omega⟩ ⟨Nat.le_of_ble_eq_true rfl, Nat.le_of_ble_eq_true rfl⟩ dX3_begin_40 ?_
    clear G; intro r_ w1 H locs hp G
    obtain ⟨rfl, R⟩ := hp
    refine r_int S hret hlk G rfl (Nat.le_of_ble_eq_true rfl) (Nat.le_of_ble_eq_true rfl) dX3_begin_43 ?_
    have q : ¬ bg = lim := fun z => by rw [z] at c1; exact Int32.lt_irrefl c1
    have e1 : nm cl vs lk hd so sz it lim 0 a bg = (8, 0, bg, 30, 0) := by simp [nm, q]
    have e2 : uv = 30 := by rw [eu, show u = 30 by omega]; rfl
    rw [e2] at R
    rw [e1]
    exact ⟨fun z => absurd z (by dsimp only; decide), R⟩
  · skip
    refine lv_aload_n hx hb dX3_begin_22 rfl (lv_at hl 0 rfl) ?_
    refine lv_bipush (v := 9) hx hb dX3_begin_23 (by decide) ?_
    refine lv_iload_n hx hb dX3_begin_25 rfl (lv_at hl 2 rfl) ?_
    refine g_Vi (n := 2) (rest := []) S G hl (c_X3_stop l R 9 uv) gX3_begin_X3_stop rfl (by decide +kernel) (Rc_wk R) rfl rfl rfl (Nat.le_of_ble_eq_true rfl) ⟨by simp only [rmk]; omega, by simp only [rmk]; omega⟩ ⟨Nat.le_of_ble_eq_true rfl, Nat.le_of_ble_eq_true rfl⟩ dX3_begin_26 ?_
    clear G; intro r_ w1 H locs hp G
    obtain ⟨rfl, R⟩ := hp
    refine r_int S hret hlk G rfl (Nat.le_of_ble_eq_true rfl) (Nat.le_of_ble_eq_true rfl) dX3_begin_29 ?_
    have q : bg = lim := Int32.le_antisymm hbl (Int32.not_lt.mp c1)
    have e1 : nm cl vs lk hd so sz it lim 0 a bg = (9, 0, bg, 30, 0) := by simp [nm, q]
    have e2 : uv = 30 := by rw [eu, show u = 30 by omega]; rfl
    rw [e2] at R
    rw [e1]
    exact ⟨fun z => absurd z (by dsimp only; decide), R⟩

set_option maxHeartbeats 4000000 in
set_option maxRecDepth 100000 in
theorem c_X3_firstOf_n (l : Launch) {E : EV} (d : Nat) {w : wo} {x st wk tl ta : Nat} {tf : Nat → Option Nat} {T Rw Ia : Nat → Nat} {F : Nat → Nat → Int64} {n : Nat} {cl vs lk hd : Nat → Int32} {nr : Nat} {so sz : Nat → Int32} {it : Nat → Int64} {oc ow bg dp : Int32} {td : Nat → Int32} {lim wou th : Int32} (R : Rc E w (x, st, wk, tl, ta, tf, T, Rw, Ia, F) (n, cl, vs, lk, hd, nr, so, sz, it, oc, ow, bg, dp, td) (lim, wou, th)) (u : Int32) : ct_i l E yX3_firstOf wsX3_firstOf (3 * d + 4) 0 0 [.ref wk, .null, .int u] w (fun r w' => r = 0 ∧ Rc E w' (x, st, wk, tl, ta, tf, T, Rw, Ia, F) (n, cl, vs, lk, hd, nr, so, sz, it, oc, ow, bg, u, td) (lim, 1, th)) := by
  intro zz
  refine wo_body (Qc := fun A => va_Qi _ (wo_B E A) A) (ret := (some .int)) (by decide) rfl (Nat.le_of_ble_eq_true rfl) ?_
  intro p_ e_ s_ m_ args_ below_ meth_ code_ A_ ls S hret hlk hnm G hl
  have hl : lv_has ls 5 [(0, .ref wk), (1, .null), (2, .int u)] := hl
  have hx := S.1
  have hb := S.2.1
  refine lv_aload_nN hx hb dX3_firstOf_0 rfl (lv_at hl 1 rfl) ?_
  refine lv_iconst (v := 0) hx hb dX3_firstOf_1 (by decide) ?_
  refine lv_iconst (v := 3) hx hb dX3_firstOf_2 (by decide) ?_
  refine lv_iconst (v := 0) hx hb dX3_firstOf_3 (by decide) ?_
  refine g_SNi (n := 4) (rest := []) S G hl (c_X4_againstItem_n l 0 3 0) gX3_firstOf_X4_againstItem_n77 G.1.2.1 (by decide +kernel) (by decide +kernel) rfl (by decide +kernel) rfl rfl (Nat.le_of_ble_eq_true rfl) ⟨by simp only [rmk]; omega, by simp only [rmk]; omega⟩ ⟨Nat.le_of_ble_eq_true rfl, Nat.le_of_ble_eq_true rfl⟩ dX3_firstOf_4 ?_
  clear G; intro r_ w1 H locs hp G
  obtain ⟨rfl, rfl⟩ := hp
  refine lv_istore_n (lv' := [(3, .int 1), (0, .ref wk), (1, .null), (2, .int u)]) hx hb dX3_firstOf_7 rfl hl (by decide) rfl (fun ls hl => ?_)
  refine lv_iload_n hx hb dX3_firstOf_8 rfl (lv_at hl 0 rfl) ?_
  refine lv_if_eq (tgt := 19) hx hb dX3_firstOf_9 (by decide) (fun c1 => absurd c1 (by decide)) (fun c1 => ?_)
  refine lv_aload_n hx hb dX3_firstOf_12 rfl (lv_at hl 1 rfl) ?_
  refine lv_iload_n hx hb dX3_firstOf_13 rfl (lv_at hl 0 rfl) ?_
  refine lv_iload_n hx hb dX3_firstOf_14 rfl (lv_at hl 3 rfl) ?_
  refine g_Vi (n := 2) (rest := []) S G hl (c_X3_stop l R 1 u) gX3_firstOf_X3_stop rfl (by decide +kernel) (Rc_wk R) rfl rfl rfl (Nat.le_of_ble_eq_true rfl) ⟨by simp only [rmk]; omega, by simp only [rmk]; omega⟩ ⟨Nat.le_of_ble_eq_true rfl, Nat.le_of_ble_eq_true rfl⟩ dX3_firstOf_15 ?_
  clear G; intro r_ w1 H locs hp G
  obtain ⟨rfl, R⟩ := hp
  refine r_int S hret hlk G rfl (Nat.le_of_ble_eq_true rfl) (Nat.le_of_ble_eq_true rfl) dX3_firstOf_18 ?_
  exact ⟨rfl, R⟩

theorem sz_pos {x : Int32} (h : ∃ z, z < 13 ∧ x = nI z) (h0 : ¬ x = 0) : 0 < cn x := by
  obtain ⟨z, hz, rfl⟩ := h
  rw [cn_nI (by omega)]
  rcases Nat.eq_zero_or_pos z with q | q
  · subst q; exact absurd rfl h0
  · exact q
theorem so_things {x : Int32} (h : ∃ s, s < 4 ∧ x = nI s) (h0 : ¬ (if x = 2 ∨ x = 3 then 1 else 0 : Int32) = 0) : 2 ≤ x := by
  by_cases q : x = 2 ∨ x = 3
  · rcases q with q | q
    · rw [q]; decide
    · rw [q]; decide
  · rw [if_neg q] at h0; exact absurd rfl h0
theorem so_nums {x : Int32} (h : ∃ s, s < 4 ∧ x = nI s) (h0 : (if x = 2 ∨ x = 3 then 1 else 0 : Int32) = 0) : x < 2 := by
  obtain ⟨s, hs, rfl⟩ := h
  by_cases q : nI s = 2 ∨ nI s = 3
  · rw [if_pos q] at h0; exact absurd h0 (by decide)
  · rcases (show s = 0 ∨ s = 1 ∨ s = 2 ∨ s = 3 by omega) with rfl | rfl | rfl | rfl
    · decide
    · decide
    · exact absurd (Or.inl rfl) q
    · exact absurd (Or.inr rfl) q
set_option maxHeartbeats 4000000 in
set_option maxRecDepth 100000 in
theorem c_X3_firstOf_y (l : Launch) {E : EV} {d : Nat} (B : WBG l E d) {w : wo} {x st wk tl ta : Nat} {tf : Nat → Option Nat} {T Rw Ia : Nat → Nat} {F : Nat → Nat → Int64} {n : Nat} {cl vs lk hd : Nat → Int32} {nr : Nat} {so sz : Nat → Int32} {it : Nat → Int64} {oc ow bg dp : Int32} {td : Nat → Int32} {lim wou th : Int32} (R : Rc E w (x, st, wk, tl, ta, tf, T, Rw, Ia, F) (n, cl, vs, lk, hd, nr, so, sz, it, oc, ow, bg, dp, td) (lim, wou, th)) (K : Gd (n, cl, vs, lk, hd, nr, so, sz, it, oc, ow, bg, dp, td)) (hbl : bg ≤ lim) {a u : Nat} (ha : a < n) {b0 : Int32} (hne : ¬ b0 = lim) (ebg : bg = b0 + 1) (ec : cl a = 6) {r : Nat} (hr : r < nr) (e : hd a = nI r) (hu : u + 1 + d = 30) {uv : Int32} (eu : uv = nI (u + 1)) : ct_i l E yX3_firstOf wsX3_firstOf (3 * d + 4) 0 0 [.ref wk, .ref (Rw r), .int uv] w (fun r w' => ((nm cl vs lk hd so sz it lim (d + 1) a b0).1 = 0 → r = (nm cl vs lk hd so sz it lim (d + 1) a b0).2.1) ∧ Rc E w' (x, st, wk, tl, ta, tf, T, Rw, Ia, F) (n, cl, vs, lk, hd, nr, so, sz, it, oc, ow, (nm cl vs lk hd so sz it lim (d + 1) a b0).2.2.1, if (nm cl vs lk hd so sz it lim (d + 1) a b0).1 = 0 then dp else (nm cl vs lk hd so sz it lim (d + 1) a b0).2.2.2.1, td) (lim, if (nm cl vs lk hd so sz it lim (d + 1) a b0).1 = 0 then wou else (nm cl vs lk hd so sz it lim (d + 1) a b0).1, if (nm cl vs lk hd so sz it lim (d + 1) a b0).1 = 7 then (nm cl vs lk hd so sz it lim (d + 1) a b0).2.2.2.2 else th)) := by
  have K0 := K
  obtain ⟨Kn, Kr, Kc, Kl, Kh, Ks, Kz, Ki⟩ := K0
  intro zz
  refine wo_body (Qc := fun A => va_Qi _ (wo_B E A) A) (ret := (some .int)) (by decide) rfl (Nat.le_of_ble_eq_true rfl) ?_
  intro p_ e_ s_ m_ args_ below_ meth_ code_ A_ ls S hret hlk hnm G hl
  have hl : lv_has ls 5 [(0, .ref wk), (1, .ref (Rw r)), (2, .int uv)] := hl
  have hx := S.1
  have hb := S.2.1
  refine lv_aload_n hx hb dX3_firstOf_0 rfl (lv_at hl 1 rfl) ?_
  refine lv_iconst (v := 0) hx hb dX3_firstOf_1 (by decide) ?_
  refine lv_iconst (v := 3) hx hb dX3_firstOf_2 (by decide) ?_
  refine lv_iconst (v := 0) hx hb dX3_firstOf_3 (by decide) ?_
  by_cases hz0 : sz r = 0
  · skip
    refine g_SNi (n := 4) (rest := []) S G hl (c_X4_againstItem_y l R hr (sz_le (Kz r hr)) 0 3 0) gX3_firstOf_X4_againstItem_n77 G.1.2.1 (by decide +kernel) (by decide +kernel) rfl (by decide +kernel) rfl rfl (Nat.le_of_ble_eq_true rfl) ⟨by simp only [rmk]; omega, by simp only [rmk]; omega⟩ ⟨Nat.le_of_ble_eq_true rfl, Nat.le_of_ble_eq_true rfl⟩ dX3_firstOf_4 ?_
    clear G; intro r_ w1 H locs hp G
    obtain ⟨rfl, hq_⟩ := hp
    have q9 : tin (cn (sz r)) 0 = false := by rw [hz0]; decide
    rw [if_neg (so_in (Ks r hr)), q9] at hq_
    simp only [Bool.false_eq_true, ↓reduceIte] at hq_
    subst hq_
    refine lv_istore_n (lv' := [(3, .int 3), (0, .ref wk), (1, .ref (Rw r)), (2, .int uv)]) hx hb dX3_firstOf_7 rfl hl (by decide) rfl (fun ls hl => ?_)
    refine lv_iload_n hx hb dX3_firstOf_8 rfl (lv_at hl 0 rfl) ?_
    refine lv_if_eq (tgt := 19) hx hb dX3_firstOf_9 (by decide) (fun c1 => absurd c1 (by decide)) (fun c1 => ?_)
    refine lv_aload_n hx hb dX3_firstOf_12 rfl (lv_at hl 1 rfl) ?_
    refine lv_iload_n hx hb dX3_firstOf_13 rfl (lv_at hl 0 rfl) ?_
    refine lv_iload_n hx hb dX3_firstOf_14 rfl (lv_at hl 3 rfl) ?_
    refine g_Vi (n := 2) (rest := []) S G hl (c_X3_stop l R 3 uv) gX3_firstOf_X3_stop rfl (by decide +kernel) (Rc_wk R) rfl rfl rfl (Nat.le_of_ble_eq_true rfl) ⟨by simp only [rmk]; omega, by simp only [rmk]; omega⟩ ⟨Nat.le_of_ble_eq_true rfl, Nat.le_of_ble_eq_true rfl⟩ dX3_firstOf_15 ?_
    clear G; intro r_ w1 H locs hp G
    obtain ⟨rfl, R⟩ := hp
    refine r_int S hret hlk G rfl (Nat.le_of_ble_eq_true rfl) (Nat.le_of_ble_eq_true rfl) dX3_firstOf_18 ?_
    have e30 : uv = nI (30 - d) := by rw [eu, show 30 - d = u + 1 by omega]
    rw [e30, ebg] at R
    rw [nm_c6e hne (show r < 1000 by omega) ec e hz0]
    exact ⟨fun z => absurd z (by dsimp only; decide), R⟩
  · skip
    refine g_SNi (n := 4) (rest := []) S G hl (c_X4_againstItem_y l R hr (sz_le (Kz r hr)) 0 3 0) gX3_firstOf_X4_againstItem_n77 G.1.2.1 (by decide +kernel) (by decide +kernel) rfl (by decide +kernel) rfl rfl (Nat.le_of_ble_eq_true rfl) ⟨by simp only [rmk]; omega, by simp only [rmk]; omega⟩ ⟨Nat.le_of_ble_eq_true rfl, Nat.le_of_ble_eq_true rfl⟩ dX3_firstOf_4 ?_
    clear G; intro r_ w1 H locs hp G
    obtain ⟨rfl, hq_⟩ := hp
    have hz1 : 0 < cn (sz r) := sz_pos (Kz r hr) hz0
    have q9 : tin (cn (sz r)) 0 = true := tin_y (k := 0) hz1 (Nat.le_trans (sz_le (Kz r hr)) (by decide))
    rw [if_neg (so_in (Ks r hr)), if_pos q9] at hq_
    subst hq_
    refine lv_istore_n (lv' := [(3, .int 0), (0, .ref wk), (1, .ref (Rw r)), (2, .int uv)]) hx hb dX3_firstOf_7 rfl hl (by decide) rfl (fun ls hl => ?_)
    refine lv_iload_n hx hb dX3_firstOf_8 rfl (lv_at hl 0 rfl) ?_
    refine lv_if_eq (tgt := 19) hx hb dX3_firstOf_9 (by decide) (fun c2 => ?_) (fun c2 => absurd (by decide) c2)
    refine lv_aload_n hx hb dX3_firstOf_19 rfl (lv_at hl 2 rfl) ?_
    refine g_get S G (Rc_Rw R r hr) rfl (by decide +kernel) 1 (by decide) (by decide +kernel) rfl dX3_firstOf_20 ?_
    refine lv_iconst (v := 0) hx hb dX3_firstOf_23 (by decide) ?_
    refine g_lald S G (Rc_Ia R r hr) (vin_e (k := 0) rfl hz1 (Nat.le_trans (sz_le (Kz r hr)) (by decide))) dX3_firstOf_24 ?_
    rw [show Int32.toNatClampNeg 0 = 0 from rfl, Rc_F R r hr 0 hz1, Nat.add_zero]
    refine lv_l2i (v := (Int64.toInt32 (it (12 * r)))) hx hb dX3_firstOf_25 rfl ?_
    refine lv_istore (lv' := [(4, .int (Int64.toInt32 (it (12 * r)))), (3, .int 0), (0, .ref wk), (1, .ref (Rw r)), (2, .int uv)]) hx hb dX3_firstOf_26 hl (by decide) rfl (fun ls hl => ?_)
    refine lv_aload_n hx hb dX3_firstOf_28 rfl (lv_at hl 3 rfl) ?_
    refine g_Vi (n := 0) (rest := []) S G hl (c_X0_isOfThings l (Rc_Rw R r hr)) gX3_firstOf_X0_isOfThings rfl (by decide +kernel) (Rc_Rw R r hr) rfl rfl rfl (Nat.le_of_ble_eq_true rfl) ⟨by simp only [rmk]; omega, by simp only [rmk]; omega⟩ ⟨Nat.le_of_ble_eq_true rfl, Nat.le_of_ble_eq_true rfl⟩ dX3_firstOf_29 ?_
    clear G; intro r_ w1 H locs hp G
    obtain ⟨rfl, rfl⟩ := hp
    refine lv_if_eq (tgt := 52) hx hb dX3_firstOf_32 (by decide) (fun c3 => ?_) (fun c3 => ?_)
    · skip
      refine lv_iload hx hb dX3_firstOf_52 (lv_at hl 0 rfl) ?_
      refine r_int S hret hlk G rfl (Nat.le_of_ble_eq_true rfl) (Nat.le_of_ble_eq_true rfl) dX3_firstOf_54 ?_
      rw [ebg] at R
      rw [nm_c6i hne (show r < 1000 by omega) ec e hz0 (so_nums (Ks r hr) c3)]
      exact ⟨fun _ => rfl, R⟩
    · skip
      refine lv_aload_n hx hb dX3_firstOf_35 rfl (lv_at hl 2 rfl) ?_
      refine lv_aload_n hx hb dX3_firstOf_36 rfl (lv_at hl 2 rfl) ?_
      refine g_get S G (Rc_wk R) rfl (by decide +kernel) 0 (by decide) (by decide +kernel) rfl dX3_firstOf_37 ?_
      refine lv_iload hx hb dX3_firstOf_40 (lv_at hl 0 rfl) ?_
      have h2 : 2 ≤ so r := so_things (Ks r hr) c3
      have h3 : ¬ so r < 2 := Int32.not_lt.mpr h2
      rcases Ki r hr h2 0 hz1 with ei | ⟨j, hj, ei, -⟩
      · skip
        have ei2 : (it (12 * r)).toInt32 = -1 := by rw [Nat.add_zero] at ei; rw [ei]; decide
        refine g_Vq (n := 1) (rest := [.ref wk]) S G hl (c_X1_find_n l R Kn (Or.inl (by rw [ei2]; decide))) gX3_firstOf_X1_find rfl (by decide +kernel) (Rc_st R) rfl rfl rfl (Nat.le_of_ble_eq_true rfl) ⟨by simp only [rmk]; omega, by simp only [rmk]; omega⟩ ⟨Nat.le_of_ble_eq_true rfl, Nat.le_of_ble_eq_true rfl⟩ dX3_firstOf_42 ?_
        clear G; intro r_ w1 H locs hp G
        obtain ⟨rfl, rfl⟩ := hp
        refine W.eq (g2 := F0 m_ 45 ls [.null, .ref wk]) rfl ?_
        refine lv_iload_n hx hb dX3_firstOf_45 rfl (lv_at hl 4 rfl) ?_
        refine g_Vi (n := 2) (rest := []) S G hl (c_X3_begin_n l d R uv) gX3_firstOf_X3_begin rfl (by decide +kernel) (Rc_wk R) rfl rfl rfl (Nat.le_of_ble_eq_true rfl) ⟨by simp only [rmk]; omega, by simp only [rmk]; omega⟩ ⟨Nat.le_of_ble_eq_true rfl, Nat.le_of_ble_eq_true rfl⟩ dX3_firstOf_46 ?_
        clear G; intro r_ w1 H locs hp G
        obtain ⟨rfl, R⟩ := hp
        refine lv_goto (tgt := 54) hx hb dX3_firstOf_49 (by decide) ?_
        refine r_int S hret hlk G rfl (Nat.le_of_ble_eq_true rfl) (Nat.le_of_ble_eq_true rfl) dX3_firstOf_54 ?_
        have e30 : uv = nI (30 - d) := by rw [eu, show 30 - d = u + 1 by omega]
        rw [e30, ebg] at R
        rw [nm_c6m hne (show r < 1000 by omega) ec e hz0 h3 ei2]
        exact ⟨fun z => absurd z (by dsimp only; decide), R⟩
      · skip
        have ei2 : (it (12 * r)).toInt32 = nI j := by rw [Nat.add_zero] at ei; rw [ei]; exact lN_i j
        refine g_Vq (n := 1) (rest := [.ref wk]) S G hl (c_X1_find_y l R Kn ei2 hj) gX3_firstOf_X1_find rfl (by decide +kernel) (Rc_st R) rfl rfl rfl (Nat.le_of_ble_eq_true rfl) ⟨by simp only [rmk]; omega, by simp only [rmk]; omega⟩ ⟨Nat.le_of_ble_eq_true rfl, Nat.le_of_ble_eq_true rfl⟩ dX3_firstOf_42 ?_
        clear G; intro r_ w1 H locs hp G
        obtain ⟨rfl, rfl⟩ := hp
        refine W.eq (g2 := F0 m_ 45 ls [.ref (T j), .ref wk]) rfl ?_
        refine lv_iload_n hx hb dX3_firstOf_45 rfl (lv_at hl 4 rfl) ?_
        refine g_Vi (n := 2) (rest := []) S G hl (B R K hbl hj (show (u + 1) + d = 30 by omega) eu) gX3_firstOf_X3_begin rfl (by decide +kernel) (Rc_wk R) rfl rfl rfl (Nat.le_of_ble_eq_true rfl) ⟨by simp only [rmk]; omega, by simp only [rmk]; omega⟩ ⟨Nat.le_of_ble_eq_true rfl, Nat.le_of_ble_eq_true rfl⟩ dX3_firstOf_46 ?_
        clear G; intro v4 w1 H locs hp G
        obtain ⟨hv4, R⟩ := hp
        refine lv_goto (tgt := 54) hx hb dX3_firstOf_49 (by decide) ?_
        refine r_int S hret hlk G rfl (Nat.le_of_ble_eq_true rfl) (Nat.le_of_ble_eq_true rfl) dX3_firstOf_54 ?_
        rw [nm_c6 hne (show r < 1000 by omega) ec e (show j < 1000 by omega) hz0 h3 ei2, ← ebg]
        exact ⟨hv4, R⟩

theorem three (v : Int32) : 2 * v + v = 3 * v := by
  have h : (3 : Int32) = 2 + 1 := by decide
  rw [h, Int32.add_mul, Int32.one_mul]
set_option maxHeartbeats 4000000 in
set_option maxRecDepth 100000 in
theorem c_X3_workOut (l : Launch) {E : EV} {d : Nat} (B : WBG l E d) {w : wo} {x st wk tl ta : Nat} {tf : Nat → Option Nat} {T Rw Ia : Nat → Nat} {F : Nat → Nat → Int64} {n : Nat} {cl vs lk hd : Nat → Int32} {nr : Nat} {so sz : Nat → Int32} {it : Nat → Int64} {oc ow bg dp : Int32} {td : Nat → Int32} {lim wou th : Int32} (R : Rc E w (x, st, wk, tl, ta, tf, T, Rw, Ia, F) (n, cl, vs, lk, hd, nr, so, sz, it, oc, ow, bg, dp, td) (lim, wou, th)) (K : Gd (n, cl, vs, lk, hd, nr, so, sz, it, oc, ow, bg, dp, td)) (hbl : bg ≤ lim) {a u : Nat} (ha : a < n) {b0 : Int32} (hne : ¬ b0 = lim) (ebg : bg = b0 + 1) (hu : u + 1 + d = 30) {uv : Int32} (eu : uv = nI (u + 1)) : ct_i l E yX3_workOut wsX3_workOut (3 * d + 5) 0 0 [.ref wk, .ref (T a), .int uv] w (fun r w' => ((nm cl vs lk hd so sz it lim (d + 1) a b0).1 = 0 → r = (nm cl vs lk hd so sz it lim (d + 1) a b0).2.1) ∧ Rc E w' (x, st, wk, tl, ta, tf, T, Rw, Ia, F) (n, cl, vs, lk, hd, nr, so, sz, it, oc, ow, (nm cl vs lk hd so sz it lim (d + 1) a b0).2.2.1, if (nm cl vs lk hd so sz it lim (d + 1) a b0).1 = 0 then dp else (nm cl vs lk hd so sz it lim (d + 1) a b0).2.2.2.1, td) (lim, if (nm cl vs lk hd so sz it lim (d + 1) a b0).1 = 0 then wou else (nm cl vs lk hd so sz it lim (d + 1) a b0).1, if (nm cl vs lk hd so sz it lim (d + 1) a b0).1 = 7 then (nm cl vs lk hd so sz it lim (d + 1) a b0).2.2.2.2 else th)) := by
  have K0 := K
  obtain ⟨Kn, Kr, Kc, Kl, Kh, Ks, Kz, Ki⟩ := K0
  intro zz
  refine wo_body (Qc := fun A => va_Qi _ (wo_B E A) A) (ret := (some .int)) (by decide) rfl (Nat.le_of_ble_eq_true rfl) ?_
  intro p_ e_ s_ m_ args_ below_ meth_ code_ A_ ls S hret hlk hnm G hl
  have hl : lv_has ls 3 [(0, .ref wk), (1, .ref (T a)), (2, .int uv)] := hl
  have hx := S.1
  have hb := S.2.1
  refine lv_aload_n hx hb dX3_workOut_0 rfl (lv_at hl 1 rfl) ?_
  refine g_get S G (Rc_T R a ha) rfl (by decide +kernel) 0 (by decide) (by decide +kernel) rfl dX3_workOut_1 ?_
  obtain ⟨cc, hcc, ec⟩ := Kc a ha
  rcases (show cc = 0 ∨ cc = 1 ∨ cc = 2 ∨ cc = 3 ∨ cc = 4 ∨ cc = 5 ∨ cc = 6 ∨ cc = 7 by omega) with rfl | rfl | rfl | rfl | rfl | rfl | rfl | rfl
  · skip
    replace ec : cl a = 0 := ec
    refine lv_tableIn (off := 44) (tgt := 48) hx hb dX3_workOut_4 (by rw [ec]; decide) (by rw [ec]; decide) (by rw [ec]; rfl) (by decide) ?_
    refine lv_aload_n hx hb dX3_workOut_48 rfl (lv_at hl 1 rfl) ?_
    refine g_get S G (Rc_T R a ha) rfl (by decide +kernel) 1 (by decide) (by decide +kernel) rfl dX3_workOut_49 ?_
    refine r_int S hret hlk G rfl (Nat.le_of_ble_eq_true rfl) (Nat.le_of_ble_eq_true rfl) dX3_workOut_52 ?_
    rw [ebg] at R
    rw [nm_c0 hne ec]
    exact ⟨fun _ => rfl, R⟩
  · skip
    replace ec : cl a = 1 := ec
    refine lv_tableIn (off := 49) (tgt := 53) hx hb dX3_workOut_4 (by rw [ec]; decide) (by rw [ec]; decide) (by rw [ec]; rfl) (by decide) ?_
    refine lv_iconst (v := 2) hx hb dX3_workOut_53 (by decide) ?_
    refine lv_aload_n hx hb dX3_workOut_54 rfl (lv_at hl 1 rfl) ?_
    refine g_get S G (Rc_T R a ha) rfl (by decide +kernel) 1 (by decide) (by decide +kernel) rfl dX3_workOut_55 ?_
    refine lv_imul hx hb dX3_workOut_58 ?_
    refine lv_topi (fun a1 ea1 => ?_)
    refine r_int S hret hlk G rfl (Nat.le_of_ble_eq_true rfl) (Nat.le_of_ble_eq_true rfl) dX3_workOut_59 ?_
    rw [ebg] at R
    rw [nm_c1 hne ec]
    exact ⟨fun _ => ea1, R⟩
  · skip
    replace ec : cl a = 2 := ec
    refine lv_tableIn (off := 56) (tgt := 60) hx hb dX3_workOut_4 (by rw [ec]; decide) (by rw [ec]; decide) (by rw [ec]; rfl) (by decide) ?_
    refine lv_iconst (v := 2) hx hb dX3_workOut_60 (by decide) ?_
    refine lv_aload_n hx hb dX3_workOut_61 rfl (lv_at hl 1 rfl) ?_
    refine g_get S G (Rc_T R a ha) rfl (by decide +kernel) 1 (by decide) (by decide +kernel) rfl dX3_workOut_62 ?_
    refine lv_imul hx hb dX3_workOut_65 ?_
    refine lv_topi (fun a2 ea2 => ?_)
    refine lv_aload_n hx hb dX3_workOut_66 rfl (lv_at hl 1 rfl) ?_
    refine g_get S G (Rc_T R a ha) rfl (by decide +kernel) 1 (by decide) (by decide +kernel) rfl dX3_workOut_67 ?_
    refine lv_iadd hx hb dX3_workOut_70 ?_
    refine lv_topi (fun a3 ea3 => ?_)
    refine r_int S hret hlk G rfl (Nat.le_of_ble_eq_true rfl) (Nat.le_of_ble_eq_true rfl) dX3_workOut_71 ?_
    rw [ebg] at R
    rw [nm_c2 hne ec]
    exact ⟨fun _ => by rw [ea3, ea2]; exact three _, R⟩
  · skip
    replace ec : cl a = 3 := ec
    refine lv_tableIn (off := 68) (tgt := 72) hx hb dX3_workOut_4 (by rw [ec]; decide) (by rw [ec]; decide) (by rw [ec]; rfl) (by decide) ?_
    refine lv_aload_n hx hb dX3_workOut_72 rfl (lv_at hl 1 rfl) ?_
    refine g_get S G (Rc_T R a ha) rfl (by decide +kernel) 1 (by decide) (by decide +kernel) rfl dX3_workOut_73 ?_
    refine lv_if_ne (tgt := 89) hx hb dX3_workOut_76 (by decide) (fun c4 => ?_) (fun c4 => ?_)
    · skip
      refine lv_sipush (v := 1000) hx hb dX3_workOut_89 (by decide) ?_
      refine lv_aload_n hx hb dX3_workOut_92 rfl (lv_at hl 1 rfl) ?_
      refine g_get S G (Rc_T R a ha) rfl (by decide +kernel) 1 (by decide) (by decide +kernel) rfl dX3_workOut_93 ?_
      refine lv_idiv hx hb dX3_workOut_96 c4 ?_
      refine lv_topi (fun a5 ea5 => ?_)
      refine r_int S hret hlk G rfl (Nat.le_of_ble_eq_true rfl) (Nat.le_of_ble_eq_true rfl) dX3_workOut_97 ?_
      rw [ebg] at R
      rw [nm_c3 hne ec c4]
      exact ⟨fun _ => ea5, R⟩
    · skip
      refine lv_aload_n hx hb dX3_workOut_79 rfl (lv_at hl 0 rfl) ?_
      refine lv_bipush (v := 6) hx hb dX3_workOut_80 (by decide) ?_
      refine lv_iload_n hx hb dX3_workOut_82 rfl (lv_at hl 2 rfl) ?_
      refine g_Vi (n := 2) (rest := []) S G hl (c_X3_stop l R 6 uv) gX3_workOut_X3_stop rfl (by decide +kernel) (Rc_wk R) rfl rfl rfl (Nat.le_of_ble_eq_true rfl) ⟨by simp only [rmk]; omega, by simp only [rmk]; omega⟩ ⟨Nat.le_of_ble_eq_true rfl, Nat.le_of_ble_eq_true rfl⟩ dX3_workOut_83 ?_
      clear G; intro r_ w1 H locs hp G
      obtain ⟨rfl, R⟩ := hp
      refine lv_goto (tgt := 97) hx hb dX3_workOut_86 (by decide) ?_
      refine r_int S hret hlk G rfl (Nat.le_of_ble_eq_true rfl) (Nat.le_of_ble_eq_true rfl) dX3_workOut_97 ?_
      have e30 : uv = nI (30 - d) := by rw [eu, show 30 - d = u + 1 by omega]
      rw [e30, ebg] at R
      rw [nm_c3z hne ec c4]
      exact ⟨fun z => absurd z (by dsimp only; decide), R⟩
  · skip
    replace ec : cl a = 4 := ec
    refine lv_tableIn (off := 94) (tgt := 98) hx hb dX3_workOut_4 (by rw [ec]; decide) (by rw [ec]; decide) (by rw [ec]; rfl) (by decide) ?_
    refine lv_aload_n hx hb dX3_workOut_98 rfl (lv_at hl 0 rfl) ?_
    refine lv_aload_n hx hb dX3_workOut_99 rfl (lv_at hl 0 rfl) ?_
    refine g_get S G (Rc_wk R) rfl (by decide +kernel) 0 (by decide) (by decide +kernel) rfl dX3_workOut_100 ?_
    refine lv_aload_n hx hb dX3_workOut_103 rfl (lv_at hl 1 rfl) ?_
    refine g_get S G (Rc_T R a ha) rfl (by decide +kernel) 2 (by decide) (by decide +kernel) rfl dX3_workOut_104 ?_
    rcases Kl a ha with ek6 | ⟨k6, hk6, ek6⟩
    · skip
      refine g_Vq (n := 1) (rest := [.ref wk]) S G hl (c_X1_find_n l R Kn (Or.inl (by rw [ek6]; decide))) gX3_workOut_X1_find rfl (by decide +kernel) (Rc_st R) rfl rfl rfl (Nat.le_of_ble_eq_true rfl) ⟨by simp only [rmk]; omega, by simp only [rmk]; omega⟩ ⟨Nat.le_of_ble_eq_true rfl, Nat.le_of_ble_eq_true rfl⟩ dX3_workOut_107 ?_
      clear G; intro r_ w1 H locs hp G
      obtain ⟨rfl, rfl⟩ := hp
      refine W.eq (g2 := F0 m_ 110 ls [.null, .ref wk]) rfl ?_
      refine lv_iload_n hx hb dX3_workOut_110 rfl (lv_at hl 2 rfl) ?_
      refine g_Vi (n := 2) (rest := []) S G hl (c_X3_begin_n l d R uv) gX3_workOut_X3_begin rfl (by decide +kernel) (Rc_wk R) rfl rfl rfl (Nat.le_of_ble_eq_true rfl) ⟨by simp only [rmk]; omega, by simp only [rmk]; omega⟩ ⟨Nat.le_of_ble_eq_true rfl, Nat.le_of_ble_eq_true rfl⟩ dX3_workOut_111 ?_
      clear G; intro r_ w1 H locs hp G
      obtain ⟨rfl, R⟩ := hp
      refine lv_iconst (v := 1) hx hb dX3_workOut_114 (by decide) ?_
      refine lv_iadd hx hb dX3_workOut_115 ?_
      refine lv_topi (fun a7 ea7 => ?_)
      refine r_int S hret hlk G rfl (Nat.le_of_ble_eq_true rfl) (Nat.le_of_ble_eq_true rfl) dX3_workOut_116 ?_
      have e30 : uv = nI (30 - d) := by rw [eu, show 30 - d = u + 1 by omega]
      rw [e30, ebg] at R
      rw [nm_c4n hne ec ek6]
      exact ⟨fun z => absurd z (by dsimp only; decide), R⟩
    · skip
      refine g_Vq (n := 1) (rest := [.ref wk]) S G hl (c_X1_find_y l R Kn ek6 hk6) gX3_workOut_X1_find rfl (by decide +kernel) (Rc_st R) rfl rfl rfl (Nat.le_of_ble_eq_true rfl) ⟨by simp only [rmk]; omega, by simp only [rmk]; omega⟩ ⟨Nat.le_of_ble_eq_true rfl, Nat.le_of_ble_eq_true rfl⟩ dX3_workOut_107 ?_
      clear G; intro r_ w1 H locs hp G
      obtain ⟨rfl, rfl⟩ := hp
      refine W.eq (g2 := F0 m_ 110 ls [.ref (T k6), .ref wk]) rfl ?_
      refine lv_iload_n hx hb dX3_workOut_110 rfl (lv_at hl 2 rfl) ?_
      refine g_Vi (n := 2) (rest := []) S G hl (B R K hbl hk6 (show (u + 1) + d = 30 by omega) eu) gX3_workOut_X3_begin rfl (by decide +kernel) (Rc_wk R) rfl rfl rfl (Nat.le_of_ble_eq_true rfl) ⟨by simp only [rmk]; omega, by simp only [rmk]; omega⟩ ⟨Nat.le_of_ble_eq_true rfl, Nat.le_of_ble_eq_true rfl⟩ dX3_workOut_111 ?_
      clear G; intro v8 w1 H locs hp G
      obtain ⟨hv8, R⟩ := hp
      refine lv_iconst (v := 1) hx hb dX3_workOut_114 (by decide) ?_
      refine lv_iadd hx hb dX3_workOut_115 ?_
      refine lv_topi (fun a9 ea9 => ?_)
      refine r_int S hret hlk G rfl (Nat.le_of_ble_eq_true rfl) (Nat.le_of_ble_eq_true rfl) dX3_workOut_116 ?_
      rw [nm_c4 hne (show k6 < 1000 by omega) ec ek6, ← ebg]
      exact ⟨fun z => by rw [ea9, hv8 z], R⟩
  · skip
    replace ec : cl a = 5 := ec
    refine lv_tableIn (off := 113) (tgt := 117) hx hb dX3_workOut_4 (by rw [ec]; decide) (by rw [ec]; decide) (by rw [ec]; rfl) (by decide) ?_
    refine lv_aload_n hx hb dX3_workOut_117 rfl (lv_at hl 0 rfl) ?_
    refine lv_aload_n hx hb dX3_workOut_118 rfl (lv_at hl 1 rfl) ?_
    refine g_get S G (Rc_T R a ha) rfl (by decide +kernel) 1 (by decide) (by decide +kernel) rfl dX3_workOut_119 ?_
    refine lv_iload_n hx hb dX3_workOut_122 rfl (lv_at hl 2 rfl) ?_
    refine g_Vi (n := 2) (rest := []) S G hl (c_X3_throwOwn l R (vs a) uv) gX3_workOut_X3_throwOwn rfl (by decide +kernel) (Rc_wk R) rfl rfl rfl (Nat.le_of_ble_eq_true rfl) ⟨by simp only [rmk]; omega, by simp only [rmk]; omega⟩ ⟨Nat.le_of_ble_eq_true rfl, Nat.le_of_ble_eq_true rfl⟩ dX3_workOut_123 ?_
    clear G; intro r_ w1 H locs hp G
    obtain ⟨rfl, R⟩ := hp
    refine r_int S hret hlk G rfl (Nat.le_of_ble_eq_true rfl) (Nat.le_of_ble_eq_true rfl) dX3_workOut_126 ?_
    have e30 : uv = nI (30 - d) := by rw [eu, show 30 - d = u + 1 by omega]
    rw [e30, ebg] at R
    by_cases q : vs a = 0
    · rw [if_pos q, if_pos q] at R
      rw [nm_c5z hne ec q]
      exact ⟨fun z => absurd z (by dsimp only; decide), R⟩
    · rw [if_neg q, if_neg q] at R
      rw [nm_c5 hne ec q]
      exact ⟨fun z => absurd z (by dsimp only; decide), R⟩
  · skip
    replace ec : cl a = 6 := ec
    refine lv_tableIn (off := 123) (tgt := 127) hx hb dX3_workOut_4 (by rw [ec]; decide) (by rw [ec]; decide) (by rw [ec]; rfl) (by decide) ?_
    refine lv_aload_n hx hb dX3_workOut_127 rfl (lv_at hl 0 rfl) ?_
    refine lv_aload_n hx hb dX3_workOut_128 rfl (lv_at hl 1 rfl) ?_
    rcases Kh a ha with er10 | ⟨r10, hr10, er10⟩
    · skip
      refine g_get S G (Rc_Tn R ha er10) rfl (by decide +kernel) 3 (by decide) (by decide +kernel) rfl dX3_workOut_129 ?_
      refine lv_iload_n hx hb dX3_workOut_132 rfl (lv_at hl 2 rfl) ?_
      refine g_Vi (n := 2) (rest := []) S G hl (c_X3_firstOf_n l d R uv) gX3_workOut_X3_firstOf rfl (by decide +kernel) (Rc_wk R) rfl rfl rfl (Nat.le_of_ble_eq_true rfl) ⟨by simp only [rmk]; omega, by simp only [rmk]; omega⟩ ⟨Nat.le_of_ble_eq_true rfl, Nat.le_of_ble_eq_true rfl⟩ dX3_workOut_133 ?_
      clear G; intro r_ w1 H locs hp G
      obtain ⟨rfl, R⟩ := hp
      refine r_int S hret hlk G rfl (Nat.le_of_ble_eq_true rfl) (Nat.le_of_ble_eq_true rfl) dX3_workOut_136 ?_
      have e30 : uv = nI (30 - d) := by rw [eu, show 30 - d = u + 1 by omega]
      rw [e30, ebg] at R
      rw [nm_c6n hne ec er10]
      exact ⟨fun z => absurd z (by dsimp only; decide), R⟩
    · skip
      refine g_get S G (Rc_Ty R ha er10 hr10 Kr) rfl (by decide +kernel) 3 (by decide) (by decide +kernel) rfl dX3_workOut_129 ?_
      refine lv_iload_n hx hb dX3_workOut_132 rfl (lv_at hl 2 rfl) ?_
      refine g_Vi (n := 2) (rest := []) S G hl (c_X3_firstOf_y l B R K hbl ha hne ebg ec hr10 er10 hu eu) gX3_workOut_X3_firstOf rfl (by decide +kernel) (Rc_wk R) rfl rfl rfl (Nat.le_of_ble_eq_true rfl) ⟨by simp only [rmk]; omega, by simp only [rmk]; omega⟩ ⟨Nat.le_of_ble_eq_true rfl, Nat.le_of_ble_eq_true rfl⟩ dX3_workOut_133 ?_
      clear G; intro v11 w1 H locs hp G
      refine r_int S hret hlk G rfl (Nat.le_of_ble_eq_true rfl) (Nat.le_of_ble_eq_true rfl) dX3_workOut_136 ?_
      exact hp
  · skip
    replace ec : cl a = 7 := ec
    refine lv_tableOut (tgt := 137) hx hb dX3_workOut_4 (by rw [ec]; decide) (by decide) ?_
    refine lv_aload_n hx hb dX3_workOut_137 rfl (lv_at hl 0 rfl) ?_
    refine lv_aload_n hx hb dX3_workOut_138 rfl (lv_at hl 1 rfl) ?_
    rcases Kh a ha with er12 | ⟨r12, hr12, er12⟩
    · skip
      refine g_get S G (Rc_Tn R ha er12) rfl (by decide +kernel) 3 (by decide) (by decide +kernel) rfl dX3_workOut_139 ?_
      refine lv_iload_n hx hb dX3_workOut_142 rfl (lv_at hl 2 rfl) ?_
      refine g_Vi (n := 2) (rest := []) S G hl (c_X3_sumOf_n l R uv) gX3_workOut_X3_sumOf rfl (by decide +kernel) (Rc_wk R) rfl rfl rfl (Nat.le_of_ble_eq_true rfl) ⟨by simp only [rmk]; omega, by simp only [rmk]; omega⟩ ⟨Nat.le_of_ble_eq_true rfl, Nat.le_of_ble_eq_true rfl⟩ dX3_workOut_143 ?_
      clear G; intro r_ w1 H locs hp G
      obtain ⟨rfl, R⟩ := hp
      refine r_int S hret hlk G rfl (Nat.le_of_ble_eq_true rfl) (Nat.le_of_ble_eq_true rfl) dX3_workOut_146 ?_
      have e30 : uv = nI (30 - d) := by rw [eu, show 30 - d = u + 1 by omega]
      rw [e30, ebg] at R
      rw [nm_c7n hne ec er12]
      exact ⟨fun z => absurd z (by dsimp only; decide), R⟩
    · skip
      refine g_get S G (Rc_Ty R ha er12 hr12 Kr) rfl (by decide +kernel) 3 (by decide) (by decide +kernel) rfl dX3_workOut_139 ?_
      refine lv_iload_n hx hb dX3_workOut_142 rfl (lv_at hl 2 rfl) ?_
      refine g_Vi (n := 2) (rest := []) S G hl (c_X3_sumOf_y l R hr12 (sz_le (Kz r12 hr12)) uv) gX3_workOut_X3_sumOf rfl (by decide +kernel) (Rc_wk R) rfl rfl rfl (Nat.le_of_ble_eq_true rfl) ⟨by simp only [rmk]; omega, by simp only [rmk]; omega⟩ ⟨Nat.le_of_ble_eq_true rfl, Nat.le_of_ble_eq_true rfl⟩ dX3_workOut_143 ?_
      clear G; intro v13 w1 H locs hp G
      refine r_int S hret hlk G rfl (Nat.le_of_ble_eq_true rfl) (Nat.le_of_ble_eq_true rfl) dX3_workOut_146 ?_
      have e30 : uv = nI (30 - d) := by rw [eu, show 30 - d = u + 1 by omega]
      rcases hp with ⟨q1, q2, R⟩ | ⟨q1, q2, R⟩
      · rw [ebg] at R
        rw [nm_c7 hne (show r12 < 1000 by omega) ec er12 q1]
        exact ⟨fun _ => q2, R⟩
      · rw [e30, ebg] at R
        rw [nm_c7c hne (show r12 < 1000 by omega) ec er12 q1]
        exact ⟨fun z => absurd z (by dsimp only; decide), R⟩

set_option maxHeartbeats 4000000 in
set_option maxRecDepth 100000 in
theorem c_X3_begin_s (l : Launch) {E : EV} {d : Nat} (B : WBG l E d) {w : wo} {x st wk tl ta : Nat} {tf : Nat → Option Nat} {T Rw Ia : Nat → Nat} {F : Nat → Nat → Int64} {n : Nat} {cl vs lk hd : Nat → Int32} {nr : Nat} {so sz : Nat → Int32} {it : Nat → Int64} {oc ow bg dp : Int32} {td : Nat → Int32} {lim wou th : Int32} (R : Rc E w (x, st, wk, tl, ta, tf, T, Rw, Ia, F) (n, cl, vs, lk, hd, nr, so, sz, it, oc, ow, bg, dp, td) (lim, wou, th)) (K : Gd (n, cl, vs, lk, hd, nr, so, sz, it, oc, ow, bg, dp, td)) (hbl : bg ≤ lim) {a u : Nat} (ha : a < n) (hu : u + (d + 1) = 30) {uv : Int32} (eu : uv = nI u) : ct_i l E yX3_begin wsX3_begin (3 * (d + 1) + 3) 0 0 [.ref wk, .ref (T a), .int uv] w (fun r w' => ((nm cl vs lk hd so sz it lim (d + 1) a bg).1 = 0 → r = (nm cl vs lk hd so sz it lim (d + 1) a bg).2.1) ∧ Rc E w' (x, st, wk, tl, ta, tf, T, Rw, Ia, F) (n, cl, vs, lk, hd, nr, so, sz, it, oc, ow, (nm cl vs lk hd so sz it lim (d + 1) a bg).2.2.1, if (nm cl vs lk hd so sz it lim (d + 1) a bg).1 = 0 then dp else (nm cl vs lk hd so sz it lim (d + 1) a bg).2.2.2.1, td) (lim, if (nm cl vs lk hd so sz it lim (d + 1) a bg).1 = 0 then wou else (nm cl vs lk hd so sz it lim (d + 1) a bg).1, if (nm cl vs lk hd so sz it lim (d + 1) a bg).1 = 7 then (nm cl vs lk hd so sz it lim (d + 1) a bg).2.2.2.2 else th)) := by
  intro zz
  refine wo_body (Qc := fun A => va_Qi _ (wo_B E A) A) (ret := (some .int)) (by decide) rfl (Nat.le_of_ble_eq_true rfl) ?_
  intro p_ e_ s_ m_ args_ below_ meth_ code_ A_ ls S hret hlk hnm G hl
  have hl : lv_has ls 3 [(0, .ref wk), (1, .ref (T a)), (2, .int uv)] := hl
  have hx := S.1
  have hb := S.2.1
  refine lv_aload_n hx hb dX3_begin_0 rfl (lv_at hl 1 rfl) ?_
  refine lv_ifnonnull (tgt := 11) hx hb dX3_begin_1 (by decide) ?_
  refine lv_aload_n hx hb dX3_begin_11 rfl (lv_at hl 0 rfl) ?_
  refine g_get S G (Rc_wk R) rfl (by decide +kernel) 2 (by decide) (by decide +kernel) rfl dX3_begin_12 ?_
  refine lv_aload_n hx hb dX3_begin_15 rfl (lv_at hl 0 rfl) ?_
  refine g_get S G (Rc_wk R) rfl (by decide +kernel) 1 (by decide) (by decide +kernel) rfl dX3_begin_16 ?_
  refine lv_icmp_lt (tgt := 30) hx hb dX3_begin_19 (by decide) (fun c1 => ?_) (fun c1 => ?_)
  · skip
    refine lv_iload_n hx hb dX3_begin_30 rfl (lv_at hl 2 rfl) ?_
    refine lv_bipush (v := 30) hx hb dX3_begin_31 (by decide) ?_
    refine lv_icmp_lt (tgt := 44) hx hb dX3_begin_33 (by decide) (fun c2 => ?_) (fun c2 => absurd (by rw [eu]; exact nI_lt (b := 30) (by omega) (by omega)) c2)
    refine lv_aload_n hx hb dX3_begin_44 rfl (lv_at hl 0 rfl) ?_
    refine lv_dup hx hb dX3_begin_45 rfl ?_
    refine g_get S G (Rc_wk R) rfl (by decide +kernel) 2 (by decide) (by decide +kernel) rfl dX3_begin_46 ?_
    refine lv_iconst (v := 1) hx hb dX3_begin_49 (by decide) ?_
    refine lv_iadd hx hb dX3_begin_50 ?_
    refine lv_topi (fun a3 ea3 => ?_)
    refine g_put (fs' := [.ref st, .int lim, .int a3, .int wou, .int dp, .int th]) (ty := .int) (v := .int a3) S G (Rc_wk R) rfl tyX3 tyX3_ok nmX3 (by decide +kernel) 2 (by decide) (by decide +kernel) rfl (by decide +kernel) rfl rfl (Nat.le_of_ble_eq_true rfl) rfl dX3_begin_51 (fun H locs G => ?_)
    obtain ⟨w, R, G⟩ := Rc_ex (Rc_p_bg R a3) G
    refine lv_aload_n hx hb dX3_begin_54 rfl (lv_at hl 0 rfl) ?_
    refine lv_aload_n hx hb dX3_begin_55 rfl (lv_at hl 1 rfl) ?_
    refine lv_iload_n hx hb dX3_begin_56 rfl (lv_at hl 2 rfl) ?_
    refine lv_iconst (v := 1) hx hb dX3_begin_57 (by decide) ?_
    refine lv_iadd hx hb dX3_begin_58 ?_
    refine lv_topi (fun a4 ea4 => ?_)
    have q : ¬ bg = lim := fun z => by rw [z] at c1; exact Int32.lt_irrefl c1
    have q2 : a3 ≤ lim := by rw [ea3]; exact (bg_lt hbl q).1
    have q3 : a4 = nI (u + 1) := by rw [ea4, eu]; exact nI_1 u
    refine g_Vi (n := 2) (rest := []) S G hl (c_X3_workOut l B R K q2 ha q ea3 (show u + 1 + d = 30 by omega) q3) gX3_begin_X3_workOut rfl (by decide +kernel) (Rc_wk R) rfl rfl rfl (Nat.le_of_ble_eq_true rfl) ⟨by simp only [rmk]; omega, by simp only [rmk]; omega⟩ ⟨Nat.le_of_ble_eq_true rfl, Nat.le_of_ble_eq_true rfl⟩ dX3_begin_59 ?_
    clear G; intro v5 w1 H locs hp G
    refine r_int S hret hlk G rfl (Nat.le_of_ble_eq_true rfl) (Nat.le_of_ble_eq_true rfl) dX3_begin_62 ?_
    exact hp
  · skip
    refine lv_aload_n hx hb dX3_begin_22 rfl (lv_at hl 0 rfl) ?_
    refine lv_bipush (v := 9) hx hb dX3_begin_23 (by decide) ?_
    refine lv_iload_n hx hb dX3_begin_25 rfl (lv_at hl 2 rfl) ?_
    refine g_Vi (n := 2) (rest := []) S G hl (c_X3_stop l R 9 uv) gX3_begin_X3_stop rfl (by decide +kernel) (Rc_wk R) rfl rfl rfl (Nat.le_of_ble_eq_true rfl) ⟨by simp only [rmk]; omega, by simp only [rmk]; omega⟩ ⟨Nat.le_of_ble_eq_true rfl, Nat.le_of_ble_eq_true rfl⟩ dX3_begin_26 ?_
    clear G; intro r_ w1 H locs hp G
    obtain ⟨rfl, R⟩ := hp
    refine r_int S hret hlk G rfl (Nat.le_of_ble_eq_true rfl) (Nat.le_of_ble_eq_true rfl) dX3_begin_29 ?_
    have q : bg = lim := Int32.le_antisymm hbl (Int32.not_lt.mp c1)
    rw [nm_spent q]
    rw [eu, show u = 29 - d by omega] at R
    exact ⟨fun z => absurd z (by dsimp only; decide), R⟩

theorem c_X3_begin (l : Launch) (E : EV) : ∀ d : Nat, WBG l E d := by
  intro d
  induction d with
  | zero =>
    unfold WBG
    intros
    apply c_X3_begin_0 <;> assumption
  | succ d ih =>
    unfold WBG
    intros
    apply c_X3_begin_s <;> assumption