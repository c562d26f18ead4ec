/-! THE CLASS: rows: is, share, holds, size, at, lay, set -/
theorem Rc_p_hdy {E : EV} {w : wo} {x st wk tl ta : Nat} {tf : Nat → Option Nat} {T Rw Ia : Nat → Nat} {F : Nat → Nat → Int64} {n : Nat} {cl vs lk hd : Nat → Int32} {nr : Nat} {so sz : Nat → Int32} {it : Nat → Int64} {oc ow bg dp : Int32} {td : Nat → Int32} {lim wou th : Int32} (R : Rc E w (x, st, wk, tl, ta, tf, T, Rw, Ia, F) (n, cl, vs, lk, hd, nr, so, sz, it, oc, ow, bg, dp, td) (lim, wou, th)) {k0 r : Nat} (h : k0 < n) (hr : r < nr) (hnr : nr ≤ 512) : Rc E (wo_up w (T k0) (.inr (2, [.int (cl k0), .int (vs k0), .int (lk k0), .ref (Rw r)]))) (x, st, wk, tl, ta, tf, T, Rw, Ia, F) (n, cl, vs, lk, upd hd k0 (nI r), nr, so, sz, it, oc, ow, bg, dp, td) (lim, wou, th) := by
  have q := Rc_p_hd R h (nI r)
  rw [show ro Rw (nI r) = some (Rw r) by simp [ro, nm1 (show r < 100000 by omega), cn_nI (show r < 2 ^ 31 by omega)]] at q
  exact q
theorem so_in {x : Int32} (h : ∃ s, s < 4 ∧ x = nI s) : ¬ (x < 0 ∨ 3 < x) := by
  obtain ⟨s, hs, rfl⟩ := h
  rintro (q | q)
  · exact nI_pos (by omega) q
  · exact nI_nlt (a := 3) (b := s) (by omega) (by omega) q
theorem sz_le {x : Int32} (h : ∃ z, z < 13 ∧ x = nI z) : cn x ≤ 12 := by
  obtain ⟨z, hz, rfl⟩ := h
  rw [cn_nI (by omega)]; omega
theorem sz_eq {x : Int32} (h : ∃ z, z < 13 ∧ x = nI z) : nI (cn x) = x := by
  obtain ⟨z, hz, rfl⟩ := h
  rw [cn_nI (by omega)]
theorem hi1 {N : Nat} (hN : N ≤ 1000) (k : Int32) : ((¬ k < 0 ∧ ¬ (1 : Int32) < 0) ∧ k ≤ nI N - 1) ↔ tin N k = true := by
  have e0 : (nI N - 1).toInt = (N : Int) - 1 := pk_sub_toInt (a := N) (b := 1) (by omega) (by omega)
  rcases tin_c N k hN with ⟨h, q⟩ | ⟨j, hj, rfl⟩
  · rw [h]
    constructor
    · rintro ⟨⟨z1, -⟩, z2⟩
      rcases q with q | q
      · exact absurd q z1
      · have h1 := Int32.le_iff_toInt_le.mp z2
        have h2 := Int32.le_iff_toInt_le.mp q
        rw [nI_toInt (by omega)] at h2
        omega
    · intro z; cases z
  · rw [tin_y hj hN]
    refine ⟨fun _ => rfl, fun _ => ⟨⟨nI_pos (by omega), by decide⟩, ?_⟩⟩
    rw [Int32.le_iff_toInt_le, e0, nI_toInt (by omega)]
    omega
theorem Rc_p_put {E : EV} {w : wo} {x st wk tl ta : Nat} {tf : Nat → Option Nat} {T Rw Ia : Nat → Nat} {F : Nat → Nat → Int64} {n : Nat} {cl vs lk hd : Nat → Int32} {nr : Nat} {so sz : Nat → Int32} {it : Nat → Int64} {oc ow bg dp : Int32} {td : Nat → Int32} {lim wou th : Int32} (R : Rc E w (x, st, wk, tl, ta, tf, T, Rw, Ia, F) (n, cl, vs, lk, hd, nr, so, sz, it, oc, ow, bg, dp, td) (lim, wou, th)) {r0 k0 : Nat} (h : r0 < nr) (Kz : ∀ r, r < nr → ∃ z, z < 13 ∧ sz r = nI z) (hk : k0 < cn (sz r0)) (v : Int64) : Rc E (wo_up w (Ia r0) (.inl (E.2.2.1, cn (sz r0), .inr (.inl (vp_updL (F r0) k0 v))))) (x, st, wk, tl, ta, tf, T, Rw, Ia, va_up F r0 (vp_updL (F r0) k0 v)) (n, cl, vs, lk, hd, nr, so, sz, vp_updL it (12 * r0 + k0) v, oc, ow, bg, dp, td) (lim, wou, th) := by
  refine Rc_p_it R h _ _ (fun k hk2 => ?_) (fun r hr hne k hk2 => ?_)
  · by_cases q : k = k0
    · subst q; rw [pk_uLs, pk_uLs]
    · rw [pk_uLn q, pk_uLn (show 12 * r0 + k ≠ 12 * r0 + k0 by omega)]
      exact Rc_F R r0 h k hk2
  · have h1 := sz_le (Kz r hr)
    have h2 := sz_le (Kz r0 h)
    exact pk_uLn (by omega)
set_option maxHeartbeats 4000000 in
set_option maxRecDepth 100000 in
theorem c_X4_againstItem_n (l : Launch) {E : EV} {w : wo} (lo hi k : Int32) : ct_i l E yX4_againstItem wsX4_againstItem 1 0 0 [.null, .int lo, .int hi, .int k] w (fun r w' => w' = w ∧ r = 1) := by
  intro zz
  refine wo_body (Qc := fun A => va_Qi _ (wo_B E A) A) (ret := (some .int)) (by decide) rfl (Nat.le_of_ble_eq_true rfl) ?_
  intro p_ e_ s_ m_ args_ below_ meth_ code_ A_ ls S hret hlk hnm G hl
  have hl : lv_has ls 4 [(0, .null), (1, .int lo), (2, .int hi), (3, .int k)] := hl
  have hx := S.1
  have hb := S.2.1
  refine lv_aload_nN hx hb dX4_againstItem_0 rfl (lv_at hl 0 rfl) ?_
  refine lv_ifnonnullN hx hb dX4_againstItem_1 ?_
  refine lv_iconst (v := 1) hx hb dX4_againstItem_4 (by decide) ?_
  refine r_int S hret hlk G rfl (Nat.le_of_ble_eq_true rfl) (Nat.le_of_ble_eq_true rfl) dX4_againstItem_5 ?_
  exact ⟨rfl, rfl⟩

set_option maxHeartbeats 4000000 in
set_option maxRecDepth 100000 in
theorem c_X4_againstItem_y (l : Launch) {E : EV} {w : wo} {x st wk tl ta : Nat} {tf : Nat → Option Nat} {T Rw Ia : Nat → Nat} {F : Nat → Nat → Int64} {n : Nat} {cl vs lk hd : Nat → Int32} {nr : Nat} {so sz : Nat → Int32} {it : Nat → Int64} {oc ow bg dp : Int32} {td : Nat → Int32} {lim wou th : Int32} (R : Rc E w (x, st, wk, tl, ta, tf, T, Rw, Ia, F) (n, cl, vs, lk, hd, nr, so, sz, it, oc, ow, bg, dp, td) (lim, wou, th)) {r : Nat} (hr : r < nr) (hz : cn (sz r) ≤ 12) (lo hi k : Int32) : ct_i l E yX4_againstItem wsX4_againstItem 1 0 0 [.ref (Rw r), .int lo, .int hi, .int k] w (fun q w' => w' = w ∧ q = if so r < lo ∨ hi < so r then 2 else if tin (cn (sz r)) k = true then 0 else 3) := by
  intro zz
  refine wo_body (Qc := fun A => va_Qi _ (wo_B E A) A) (ret := (some .int)) (by decide) rfl (Nat.le_of_ble_eq_true rfl) ?_
  intro p_ e_ s_ m_ args_ below_ meth_ code_ A_ ls S hret hlk hnm G hl
  have hl : lv_has ls 4 [(0, .ref (Rw r)), (1, .int lo), (2, .int hi), (3, .int k)] := hl
  have hx := S.1
  have hb := S.2.1
  refine lv_aload_n hx hb dX4_againstItem_0 rfl (lv_at hl 0 rfl) ?_
  refine lv_ifnonnull (tgt := 6) hx hb dX4_againstItem_1 (by decide) ?_
  refine lv_aload_n hx hb dX4_againstItem_6 rfl (lv_at hl 0 rfl) ?_
  refine g_get S G (Rc_Rw R r hr) rfl (by decide +kernel) 0 (by decide) (by decide +kernel) rfl dX4_againstItem_7 ?_
  refine lv_iload_n hx hb dX4_againstItem_10 rfl (lv_at hl 1 rfl) ?_
  refine lv_icmp_lt (tgt := 22) hx hb dX4_againstItem_11 (by decide) (fun c1 => ?_) (fun c1 => ?_)
  · skip
    refine lv_iconst (v := 2) hx hb dX4_againstItem_22 (by decide) ?_
    refine r_int S hret hlk G rfl (Nat.le_of_ble_eq_true rfl) (Nat.le_of_ble_eq_true rfl) dX4_againstItem_23 ?_
    exact ⟨rfl, by rw [if_pos (Or.inl c1)]⟩
  · skip
    refine lv_aload_n hx hb dX4_againstItem_14 rfl (lv_at hl 0 rfl) ?_
    refine g_get S G (Rc_Rw R r hr) rfl (by decide +kernel) 0 (by decide) (by decide +kernel) rfl dX4_againstItem_15 ?_
    refine lv_iload_n hx hb dX4_againstItem_18 rfl (lv_at hl 2 rfl) ?_
    refine lv_icmp_le (tgt := 24) hx hb dX4_againstItem_19 (by decide) (fun c2 => ?_) (fun c2 => ?_)
    · skip
      refine lv_aload_n hx hb dX4_againstItem_24 rfl (lv_at hl 0 rfl) ?_
      refine lv_iload_n hx hb dX4_againstItem_25 rfl (lv_at hl 3 rfl) ?_
      refine lv_iconst (v := 1) hx hb dX4_againstItem_26 (by decide) ?_
      refine g_Vi (n := 2) (rest := []) S G hl (c_X0_hasItems l (Rc_Rw R r hr) (Rc_Ia R r hr) k 1) gX4_againstItem_X0_hasItems rfl (by decide +kernel) (Rc_Rw R r hr) rfl rfl rfl (Nat.le_of_ble_eq_true rfl) ⟨Nat.le_of_ble_eq_true rfl, Nat.le_of_ble_eq_true rfl⟩ ⟨Nat.le_of_ble_eq_true rfl, Nat.le_of_ble_eq_true rfl⟩ dX4_againstItem_27 ?_
      clear G; intro r_ w1 H locs hp G
      obtain ⟨rfl, rfl⟩ := hp
      refine lv_if_eq (tgt := 37) hx hb dX4_againstItem_30 (by decide) (fun c3 => ?_) (fun c3 => ?_)
      · skip
        refine lv_iconst (v := 3) hx hb dX4_againstItem_37 (by decide) ?_
        refine r_int S hret hlk G rfl (Nat.le_of_ble_eq_true rfl) (Nat.le_of_ble_eq_true rfl) dX4_againstItem_38 ?_
        have q0 : ¬ (so r < lo ∨ hi < so r) := fun z => z.elim c1 (Int32.not_lt.mpr c2)
        have q1 := hi1 (Nat.le_trans hz (by decide)) k
        refine ⟨rfl, ?_⟩
        rw [if_neg q0]
        by_cases q : tin (cn (sz r)) k = true
        · rw [if_pos (q1.mpr q)] at c3
          exact absurd c3 (by decide)
        · simp only [q, ↓reduceIte, Bool.false_eq_true]
      · skip
        refine lv_iconst (v := 0) hx hb dX4_againstItem_33 (by decide) ?_
        refine lv_goto (tgt := 38) hx hb dX4_againstItem_34 (by decide) ?_
        refine r_int S hret hlk G rfl (Nat.le_of_ble_eq_true rfl) (Nat.le_of_ble_eq_true rfl) dX4_againstItem_38 ?_
        have q0 : ¬ (so r < lo ∨ hi < so r) := fun z => z.elim c1 (Int32.not_lt.mpr c2)
        have q1 := hi1 (Nat.le_trans hz (by decide)) k
        refine ⟨rfl, ?_⟩
        rw [if_neg q0]
        by_cases q : tin (cn (sz r)) k = true
        · simp only [q, ↓reduceIte]
        · rw [if_neg (fun z => q (q1.mp z))] at c3
          exact absurd rfl c3
    · skip
      refine lv_iconst (v := 2) hx hb dX4_againstItem_22 (by decide) ?_
      refine r_int S hret hlk G rfl (Nat.le_of_ble_eq_true rfl) (Nat.le_of_ble_eq_true rfl) dX4_againstItem_23 ?_
      exact ⟨rfl, by rw [if_pos (Or.inr (Int32.not_le.mp c2))]⟩

set_option maxHeartbeats 4000000 in
set_option maxRecDepth 100000 in
theorem C_is (l : Launch) {E : EV} {w : wo} {x : Nat} {σ : ST} (X : RcX E w x σ) (K : Gd σ) (t : Int32) (c : Int32) : ct_i l E yX4_is wsX4_is 2 0 0 [.ref x, .int t, .int c] w (fun r w' => r = S_is t c σ ∧ RcX E w' x σ) := by
  obtain ⟨st, wk, tl, ta, tf, T, Rw, Ia, F, ⟨lim, wou, th⟩, R⟩ := X
  obtain ⟨n, cl, vs, lk, hd, nr, so, sz, it, oc, ow, bg, dp, td⟩ := σ
  obtain ⟨Kn, Kr, Kc, Kl, Kh, Ks, Kz, Ki⟩ := K
  intro zz
  refine wo_body (Qc := fun A => va_Qi _ (wo_B E A) A) (ret := (some .int)) (by decide) rfl (Nat.le_of_ble_eq_true rfl) ?_
  intro p_ e_ s_ m_ args_ below_ meth_ code_ A_ ls S hret hlk hnm G hl
  have hl : lv_has ls 4 [(0, .ref x), (1, .int t), (2, .int c)] := hl
  have hx := S.1
  have hb := S.2.1
  refine lv_aload_n hx hb dX4_is_0 rfl (lv_at hl 0 rfl) ?_
  refine g_get S G (Rc_x R) rfl (by decide +kernel) 0 (by decide) (by decide +kernel) rfl dX4_is_1 ?_
  refine lv_iload_n hx hb dX4_is_4 rfl (lv_at hl 1 rfl) ?_
  rcases tin_c n t (by omega) with ⟨tk1, ok1⟩ | ⟨k1, hk1, ek1⟩
  · skip
    refine g_Vq (n := 1) (rest := []) S G hl (c_X1_find_n l R Kn ok1) gX4_is_X1_find rfl (by decide +kernel) (Rc_st R) rfl rfl rfl (Nat.le_of_ble_eq_true rfl) ⟨Nat.le_of_ble_eq_true rfl, Nat.le_of_ble_eq_true rfl⟩ ⟨Nat.le_of_ble_eq_true rfl, Nat.le_of_ble_eq_true rfl⟩ dX4_is_5 ?_
    clear G; intro r_ w1 H locs hp G
    obtain ⟨rfl, rfl⟩ := hp
    refine W.eq (g2 := F0 m_ 8 ls [.null]) rfl ?_
    refine lv_astore_nN (lv' := [(3, .null), (0, .ref x), (1, .int t), (2, .int c)]) hx hb dX4_is_8 rfl hl (by decide) rfl (fun ls hl => ?_)
    refine lv_aload_nN hx hb dX4_is_9 rfl (lv_at hl 0 rfl) ?_
    refine lv_ifnullN (tgt := 20) hx hb dX4_is_10 (by decide) ?_
    refine lv_ldc hx hb S.2.2.2.1 (S.2.2.2.2 (.constant RX4 33 (-2000000001)) (by decide +kernel)) dX4_is_20 ?_
    refine r_int S hret hlk G rfl (Nat.le_of_ble_eq_true rfl) (Nat.le_of_ble_eq_true rfl) dX4_is_22 ?_
    exact ⟨by simp only [S_is, tk1, ↓reduceIte, Bool.false_eq_true], ⟨_, _, _, _, _, _, _, _, _, _, R⟩⟩
  · skip
    refine g_Vq (n := 1) (rest := []) S G hl (c_X1_find_y l R Kn ek1 hk1) gX4_is_X1_find rfl (by decide +kernel) (Rc_st R) rfl rfl rfl (Nat.le_of_ble_eq_true rfl) ⟨Nat.le_of_ble_eq_true rfl, Nat.le_of_ble_eq_true rfl⟩ ⟨Nat.le_of_ble_eq_true rfl, Nat.le_of_ble_eq_true rfl⟩ dX4_is_5 ?_
    clear G; intro r_ w1 H locs hp G
    obtain ⟨rfl, rfl⟩ := hp
    refine W.eq (g2 := F0 m_ 8 ls [.ref (T k1)]) rfl ?_
    refine lv_astore_n (lv' := [(3, .ref (T k1)), (0, .ref x), (1, .int t), (2, .int c)]) hx hb dX4_is_8 rfl hl (by decide) rfl (fun ls hl => ?_)
    refine lv_aload_n hx hb dX4_is_9 rfl (lv_at hl 0 rfl) ?_
    refine lv_ifnull hx hb dX4_is_10 ?_
    refine lv_iload_n hx hb dX4_is_13 rfl (lv_at hl 3 rfl) ?_
    refine g_Si (n := 1) (rest := []) S G hl (c_X4_isClass l c) gX4_is_X4_isClass rfl (by decide +kernel) rfl rfl (Nat.le_of_ble_eq_true rfl) ⟨Nat.le_of_ble_eq_true rfl, Nat.le_of_ble_eq_true rfl⟩ ⟨Nat.le_of_ble_eq_true rfl, Nat.le_of_ble_eq_true rfl⟩ dX4_is_14 ?_
    clear G; intro r_ w1 H locs hp G
    obtain ⟨rfl, rfl⟩ := hp
    refine lv_if_ne (tgt := 23) hx hb dX4_is_17 (by decide) (fun c2 => ?_) (fun c2 => ?_)
    · skip
      refine lv_aload_n hx hb dX4_is_23 rfl (lv_at hl 0 rfl) ?_
      refine lv_iload_n hx hb dX4_is_24 rfl (lv_at hl 3 rfl) ?_
      refine g_Vi (n := 1) (rest := []) S G hl (c_X2_isOf l (Rc_T R k1 hk1) c) gX4_is_X2_isOf rfl (by decide +kernel) (Rc_T R k1 hk1) rfl rfl rfl (Nat.le_of_ble_eq_true rfl) ⟨Nat.le_of_ble_eq_true rfl, Nat.le_of_ble_eq_true rfl⟩ ⟨Nat.le_of_ble_eq_true rfl, Nat.le_of_ble_eq_true rfl⟩ dX4_is_25 ?_
      clear G; intro r_ w1 H locs hp G
      obtain ⟨rfl, rfl⟩ := hp
      refine lv_if_eq (tgt := 35) hx hb dX4_is_28 (by decide) (fun c3 => ?_) (fun c3 => ?_)
      · skip
        refine lv_iconst (v := 0) hx hb dX4_is_35 (by decide) ?_
        refine r_int S hret hlk G rfl (Nat.le_of_ble_eq_true rfl) (Nat.le_of_ble_eq_true rfl) dX4_is_36 ?_
        have yk1 := tin_e ek1 hk1 (show n ≤ 1000 by omega)
        have zk1 := cn_e ek1 (show k1 < 1000 by omega)
        refine ⟨?_, ⟨_, _, _, _, _, _, _, _, _, _, R⟩⟩
        simp only [S_is, yk1, zk1, ↓reduceIte, Bool.false_eq_true]
        by_cases q : tin 8 c = true
        · rw [if_pos q]
          by_cases q2 : isof (cl k1) c = true
          · rw [if_pos q2] at c3
            exact absurd c3 (by decide)
          · rw [if_neg q2]
        · rw [if_neg q] at c2
          exact absurd rfl c2
      · skip
        refine lv_iconst (v := 1) hx hb dX4_is_31 (by decide) ?_
        refine lv_goto (tgt := 36) hx hb dX4_is_32 (by decide) ?_
        refine r_int S hret hlk G rfl (Nat.le_of_ble_eq_true rfl) (Nat.le_of_ble_eq_true rfl) dX4_is_36 ?_
        have yk1 := tin_e ek1 hk1 (show n ≤ 1000 by omega)
        have zk1 := cn_e ek1 (show k1 < 1000 by omega)
        refine ⟨?_, ⟨_, _, _, _, _, _, _, _, _, _, R⟩⟩
        simp only [S_is, yk1, zk1, ↓reduceIte, Bool.false_eq_true]
        by_cases q : tin 8 c = true
        · rw [if_pos q]
          by_cases q2 : isof (cl k1) c = true
          · rw [if_pos q2]
          · rw [if_neg q2] at c3
            exact absurd rfl c3
        · rw [if_neg q] at c2
          exact absurd rfl c2
    · skip
      refine lv_ldc hx hb S.2.2.2.1 (S.2.2.2.2 (.constant RX4 33 (-2000000001)) (by decide +kernel)) dX4_is_20 ?_
      refine r_int S hret hlk G rfl (Nat.le_of_ble_eq_true rfl) (Nat.le_of_ble_eq_true rfl) dX4_is_22 ?_
      have yk1 := tin_e ek1 hk1 (show n ≤ 1000 by omega)
      have zk1 := cn_e ek1 (show k1 < 1000 by omega)
      refine ⟨?_, ⟨_, _, _, _, _, _, _, _, _, _, R⟩⟩
      simp only [S_is, yk1, zk1, ↓reduceIte, Bool.false_eq_true]
      by_cases q : tin 8 c = true
      · rw [if_pos q] at c2
        exact absurd c2 (by decide)
      · rw [if_neg q]

set_option maxHeartbeats 4000000 in
set_option maxRecDepth 100000 in
theorem C_holds (l : Launch) {E : EV} {w : wo} {x : Nat} {σ : ST} (X : RcX E w x σ) (K : Gd σ) (t : Int32) : ct_i l E yX4_holds wsX4_holds 2 0 0 [.ref x, .int t] w (fun r w' => r = S_holds t σ ∧ RcX E w' x σ) := by
  obtain ⟨st, wk, tl, ta, tf, T, Rw, Ia, F, ⟨lim, wou, th⟩, R⟩ := X
  obtain ⟨n, cl, vs, lk, hd, nr, so, sz, it, oc, ow, bg, dp, td⟩ := σ
  obtain ⟨Kn, Kr, Kc, Kl, Kh, Ks, Kz, Ki⟩ := K
  intro zz
  refine wo_body (Qc := fun A => va_Qi _ (wo_B E A) A) (ret := (some .int)) (by decide) rfl (Nat.le_of_ble_eq_true rfl) ?_
  intro p_ e_ s_ m_ args_ below_ meth_ code_ A_ ls S hret hlk hnm G hl
  have hl : lv_has ls 3 [(0, .ref x), (1, .int t)] := hl
  have hx := S.1
  have hb := S.2.1
  refine lv_aload_n hx hb dX4_holds_0 rfl (lv_at hl 0 rfl) ?_
  refine g_get S G (Rc_x R) rfl (by decide +kernel) 0 (by decide) (by decide +kernel) rfl dX4_holds_1 ?_
  refine lv_iload_n hx hb dX4_holds_4 rfl (lv_at hl 1 rfl) ?_
  rcases tin_c n t (by omega) with ⟨tk1, ok1⟩ | ⟨k1, hk1, ek1⟩
  · skip
    refine g_Vq (n := 1) (rest := []) S G hl (c_X1_find_n l R Kn ok1) gX4_holds_X1_find rfl (by decide +kernel) (Rc_st R) rfl rfl rfl (Nat.le_of_ble_eq_true rfl) ⟨Nat.le_of_ble_eq_true rfl, Nat.le_of_ble_eq_true rfl⟩ ⟨Nat.le_of_ble_eq_true rfl, Nat.le_of_ble_eq_true rfl⟩ dX4_holds_5 ?_
    clear G; intro r_ w1 H locs hp G
    obtain ⟨rfl, rfl⟩ := hp
    refine W.eq (g2 := F0 m_ 8 ls [.null]) rfl ?_
    refine lv_astore_nN (lv' := [(2, .null), (0, .ref x), (1, .int t)]) hx hb dX4_holds_8 rfl hl (by decide) rfl (fun ls hl => ?_)
    refine lv_aload_nN hx hb dX4_holds_9 rfl (lv_at hl 0 rfl) ?_
    refine lv_ifnonnullN hx hb dX4_holds_10 ?_
    refine lv_ldc hx hb S.2.2.2.1 (S.2.2.2.2 (.constant RX4 33 (-2000000001)) (by decide +kernel)) dX4_holds_13 ?_
    refine lv_goto (tgt := 22) hx hb dX4_holds_15 (by decide) ?_
    refine r_int S hret hlk G rfl (Nat.le_of_ble_eq_true rfl) (Nat.le_of_ble_eq_true rfl) dX4_holds_22 ?_
    refine ⟨by simp only [S_holds, tk1, s_tell, put_lk, put_vs, put_hd, put_it, ↓reduceIte, Bool.false_eq_true, pk_us], ?_⟩
    exact ⟨_, _, _, _, _, _, _, _, _, _, R⟩
  · skip
    refine g_Vq (n := 1) (rest := []) S G hl (c_X1_find_y l R Kn ek1 hk1) gX4_holds_X1_find rfl (by decide +kernel) (Rc_st R) rfl rfl rfl (Nat.le_of_ble_eq_true rfl) ⟨Nat.le_of_ble_eq_true rfl, Nat.le_of_ble_eq_true rfl⟩ ⟨Nat.le_of_ble_eq_true rfl, Nat.le_of_ble_eq_true rfl⟩ dX4_holds_5 ?_
    clear G; intro r_ w1 H locs hp G
    obtain ⟨rfl, rfl⟩ := hp
    refine W.eq (g2 := F0 m_ 8 ls [.ref (T k1)]) rfl ?_
    refine lv_astore_n (lv' := [(2, .ref (T k1)), (0, .ref x), (1, .int t)]) hx hb dX4_holds_8 rfl hl (by decide) rfl (fun ls hl => ?_)
    refine lv_aload_n hx hb dX4_holds_9 rfl (lv_at hl 0 rfl) ?_
    refine lv_ifnonnull (tgt := 18) hx hb dX4_holds_10 (by decide) ?_
    refine lv_aload_n hx hb dX4_holds_18 rfl (lv_at hl 0 rfl) ?_
    rcases Kh k1 hk1 with er2 | ⟨r2, hr2, er2⟩
    · skip
      refine g_Vi (n := 0) (rest := []) S G hl (c_X2_heldSort_n l (Rc_Tn R hk1 er2)) gX4_holds_X2_heldSort rfl (by decide +kernel) (Rc_Tn R hk1 er2) rfl rfl rfl (Nat.le_of_ble_eq_true rfl) ⟨Nat.le_of_ble_eq_true rfl, Nat.le_of_ble_eq_true rfl⟩ ⟨Nat.le_of_ble_eq_true rfl, Nat.le_of_ble_eq_true rfl⟩ dX4_holds_19 ?_
      clear G; intro r_ w1 H locs hp G
      obtain ⟨rfl, rfl⟩ := hp
      refine r_int S hret hlk G rfl (Nat.le_of_ble_eq_true rfl) (Nat.le_of_ble_eq_true rfl) dX4_holds_22 ?_
      have yk1 := tin_e ek1 hk1 (show n ≤ 1000 by omega)
      have zk1 := cn_e ek1 (show k1 < 1000 by omega)
      refine ⟨by simp only [S_holds, yk1, zk1, er2, s_tell, put_lk, put_vs, put_hd, put_it, ↓reduceIte, Bool.false_eq_true, pk_us], ?_⟩
      exact ⟨_, _, _, _, _, _, _, _, _, _, R⟩
    · skip
      refine g_Vi (n := 0) (rest := []) S G hl (c_X2_heldSort_y l (Rc_Ty R hk1 er2 hr2 Kr) (Rc_Rw R r2 hr2)) gX4_holds_X2_heldSort rfl (by decide +kernel) (Rc_Ty R hk1 er2 hr2 Kr) rfl rfl rfl (Nat.le_of_ble_eq_true rfl) ⟨Nat.le_of_ble_eq_true rfl, Nat.le_of_ble_eq_true rfl⟩ ⟨Nat.le_of_ble_eq_true rfl, Nat.le_of_ble_eq_true rfl⟩ dX4_holds_19 ?_
      clear G; intro r_ w1 H locs hp G
      obtain ⟨rfl, rfl⟩ := hp
      refine r_int S hret hlk G rfl (Nat.le_of_ble_eq_true rfl) (Nat.le_of_ble_eq_true rfl) dX4_holds_22 ?_
      have yk1 := tin_e ek1 hk1 (show n ≤ 1000 by omega)
      have zk1 := cn_e ek1 (show k1 < 1000 by omega)
      have qr2 := nm1 (show r2 < 100000 by omega)
      refine ⟨by simp only [S_holds, yk1, zk1, er2, qr2, cn_nI (show r2 < 2 ^ 31 by omega), s_tell, put_lk, put_vs, put_hd, put_it, ↓reduceIte, Bool.false_eq_true, pk_us], ?_⟩
      exact ⟨_, _, _, _, _, _, _, _, _, _, R⟩

set_option maxHeartbeats 4000000 in
set_option maxRecDepth 100000 in
theorem C_share (l : Launch) {E : EV} {w : wo} {x : Nat} {σ : ST} (X : RcX E w x σ) (K : Gd σ) (t : Int32) (o : Int32) : ct_i l E yX4_share wsX4_share 2 0 0 [.ref x, .int t, .int o] w (fun r w' => r = (S_share t o σ).1 ∧ RcX E w' x (S_share t o σ).2) := by
  obtain ⟨st, wk, tl, ta, tf, T, Rw, Ia, F, ⟨lim, wou, th⟩, R⟩ := X
  obtain ⟨n, cl, vs, lk, hd, nr, so, sz, it, oc, ow, bg, dp, td⟩ := σ
  obtain ⟨Kn, Kr, Kc, Kl, Kh, Ks, Kz, Ki⟩ := K
  intro zz
  refine wo_body (Qc := fun A => va_Qi _ (wo_B E A) A) (ret := (some .int)) (by decide) rfl (Nat.le_of_ble_eq_true rfl) ?_
  intro p_ e_ s_ m_ args_ below_ meth_ code_ A_ ls S hret hlk hnm G hl
  have hl : lv_has ls 5 [(0, .ref x), (1, .int t), (2, .int o)] := hl
  have hx := S.1
  have hb := S.2.1
  refine lv_aload_n hx hb dX4_share_0 rfl (lv_at hl 0 rfl) ?_
  refine g_get S G (Rc_x R) rfl (by decide +kernel) 0 (by decide) (by decide +kernel) rfl dX4_share_1 ?_
  refine lv_iload_n hx hb dX4_share_4 rfl (lv_at hl 1 rfl) ?_
  rcases tin_c n t (by omega) with ⟨tk1, ok1⟩ | ⟨k1, hk1, ek1⟩
  · skip
    refine g_Vq (n := 1) (rest := []) S G hl (c_X1_find_n l R Kn ok1) gX4_share_X1_find rfl (by decide +kernel) (Rc_st R) rfl rfl rfl (Nat.le_of_ble_eq_true rfl) ⟨Nat.le_of_ble_eq_true rfl, Nat.le_of_ble_eq_true rfl⟩ ⟨Nat.le_of_ble_eq_true rfl, Nat.le_of_ble_eq_true rfl⟩ dX4_share_5 ?_
    clear G; intro r_ w1 H locs hp G
    obtain ⟨rfl, rfl⟩ := hp
    refine W.eq (g2 := F0 m_ 8 ls [.null]) rfl ?_
    refine lv_astore_nN (lv' := [(3, .null), (0, .ref x), (1, .int t), (2, .int o)]) hx hb dX4_share_8 rfl hl (by decide) rfl (fun ls hl => ?_)
    refine lv_aload_n hx hb dX4_share_9 rfl (lv_at hl 1 rfl) ?_
    refine g_get S G (Rc_x R) rfl (by decide +kernel) 0 (by decide) (by decide +kernel) rfl dX4_share_10 ?_
    refine lv_iload_n hx hb dX4_share_13 rfl (lv_at hl 3 rfl) ?_
    rcases tin_c n o (by omega) with ⟨tk2, ok2⟩ | ⟨k2, hk2, ek2⟩
    · skip
      refine g_Vq (n := 1) (rest := []) S G hl (c_X1_find_n l R Kn ok2) gX4_share_X1_find rfl (by decide +kernel) (Rc_st R) rfl rfl rfl (Nat.le_of_ble_eq_true rfl) ⟨Nat.le_of_ble_eq_true rfl, Nat.le_of_ble_eq_true rfl⟩ ⟨Nat.le_of_ble_eq_true rfl, Nat.le_of_ble_eq_true rfl⟩ dX4_share_14 ?_
      clear G; intro r_ w1 H locs hp G
      obtain ⟨rfl, rfl⟩ := hp
      refine W.eq (g2 := F0 m_ 17 ls [.null]) rfl ?_
      refine lv_astoreN (lv' := [(4, .null), (3, .null), (0, .ref x), (1, .int t), (2, .int o)]) hx hb dX4_share_17 hl (by decide) rfl (fun ls hl => ?_)
      refine lv_aload_nN hx hb dX4_share_19 rfl (lv_at hl 1 rfl) ?_
      refine lv_ifnullN (tgt := 28) hx hb dX4_share_20 (by decide) ?_
      refine lv_ldc hx hb S.2.2.2.1 (S.2.2.2.2 (.constant RX4 33 (-2000000001)) (by decide +kernel)) dX4_share_28 ?_
      refine r_int S hret hlk G rfl (Nat.le_of_ble_eq_true rfl) (Nat.le_of_ble_eq_true rfl) dX4_share_30 ?_
      refine ⟨by simp only [S_share, tk1, tk2, s_tell, put_lk, put_vs, put_hd, put_it, ↓reduceIte, Bool.false_eq_true, pk_us], ?_⟩
      simp only [S_share, tk1, tk2, s_tell, put_lk, put_vs, put_hd, put_it, ↓reduceIte, Bool.false_eq_true, pk_us]
      exact ⟨_, _, _, _, _, _, _, _, _, _, R⟩
    · skip
      refine g_Vq (n := 1) (rest := []) S G hl (c_X1_find_y l R Kn ek2 hk2) gX4_share_X1_find rfl (by decide +kernel) (Rc_st R) rfl rfl rfl (Nat.le_of_ble_eq_true rfl) ⟨Nat.le_of_ble_eq_true rfl, Nat.le_of_ble_eq_true rfl⟩ ⟨Nat.le_of_ble_eq_true rfl, Nat.le_of_ble_eq_true rfl⟩ dX4_share_14 ?_
      clear G; intro r_ w1 H locs hp G
      obtain ⟨rfl, rfl⟩ := hp
      refine W.eq (g2 := F0 m_ 17 ls [.ref (T k2)]) rfl ?_
      refine lv_astore (lv' := [(4, .ref (T k2)), (3, .null), (0, .ref x), (1, .int t), (2, .int o)]) hx hb dX4_share_17 hl (by decide) rfl (fun ls hl => ?_)
      refine lv_aload_nN hx hb dX4_share_19 rfl (lv_at hl 1 rfl) ?_
      refine lv_ifnullN (tgt := 28) hx hb dX4_share_20 (by decide) ?_
      refine lv_ldc hx hb S.2.2.2.1 (S.2.2.2.2 (.constant RX4 33 (-2000000001)) (by decide +kernel)) dX4_share_28 ?_
      refine r_int S hret hlk G rfl (Nat.le_of_ble_eq_true rfl) (Nat.le_of_ble_eq_true rfl) dX4_share_30 ?_
      have yk2 := tin_e ek2 hk2 (show n ≤ 1000 by omega)
      have zk2 := cn_e ek2 (show k2 < 1000 by omega)
      refine ⟨by simp only [S_share, tk1, yk2, zk2, s_tell, put_lk, put_vs, put_hd, put_it, ↓reduceIte, Bool.false_eq_true, pk_us], ?_⟩
      simp only [S_share, tk1, yk2, zk2, s_tell, put_lk, put_vs, put_hd, put_it, ↓reduceIte, Bool.false_eq_true, pk_us]
      exact ⟨_, _, _, _, _, _, _, _, _, _, R⟩
  · skip
    refine g_Vq (n := 1) (rest := []) S G hl (c_X1_find_y l R Kn ek1 hk1) gX4_share_X1_find rfl (by decide +kernel) (Rc_st R) rfl rfl rfl (Nat.le_of_ble_eq_true rfl) ⟨Nat.le_of_ble_eq_true rfl, Nat.le_of_ble_eq_true rfl⟩ ⟨Nat.le_of_ble_eq_true rfl, Nat.le_of_ble_eq_true rfl⟩ dX4_share_5 ?_
    clear G; intro r_ w1 H locs hp G
    obtain ⟨rfl, rfl⟩ := hp
    refine W.eq (g2 := F0 m_ 8 ls [.ref (T k1)]) rfl ?_
    refine lv_astore_n (lv' := [(3, .ref (T k1)), (0, .ref x), (1, .int t), (2, .int o)]) hx hb dX4_share_8 rfl hl (by decide) rfl (fun ls hl => ?_)
    refine lv_aload_n hx hb dX4_share_9 rfl (lv_at hl 1 rfl) ?_
    refine g_get S G (Rc_x R) rfl (by decide +kernel) 0 (by decide) (by decide +kernel) rfl dX4_share_10 ?_
    refine lv_iload_n hx hb dX4_share_13 rfl (lv_at hl 3 rfl) ?_
    rcases tin_c n o (by omega) with ⟨tk3, ok3⟩ | ⟨k3, hk3, ek3⟩
    · skip
      refine g_Vq (n := 1) (rest := []) S G hl (c_X1_find_n l R Kn ok3) gX4_share_X1_find rfl (by decide +kernel) (Rc_st R) rfl rfl rfl (Nat.le_of_ble_eq_true rfl) ⟨Nat.le_of_ble_eq_true rfl, Nat.le_of_ble_eq_true rfl⟩ ⟨Nat.le_of_ble_eq_true rfl, Nat.le_of_ble_eq_true rfl⟩ dX4_share_14 ?_
      clear G; intro r_ w1 H locs hp G
      obtain ⟨rfl, rfl⟩ := hp
      refine W.eq (g2 := F0 m_ 17 ls [.null]) rfl ?_
      refine lv_astoreN (lv' := [(4, .null), (3, .ref (T k1)), (0, .ref x), (1, .int t), (2, .int o)]) hx hb dX4_share_17 hl (by decide) rfl (fun ls hl => ?_)
      refine lv_aload_n hx hb dX4_share_19 rfl (lv_at hl 1 rfl) ?_
      refine lv_ifnull hx hb dX4_share_20 ?_
      refine lv_aloadN hx hb dX4_share_23 (lv_at hl 0 rfl) ?_
      refine lv_ifnonnullN hx hb dX4_share_25 ?_
      refine lv_ldc hx hb S.2.2.2.1 (S.2.2.2.2 (.constant RX4 33 (-2000000001)) (by decide +kernel)) dX4_share_28 ?_
      refine r_int S hret hlk G rfl (Nat.le_of_ble_eq_true rfl) (Nat.le_of_ble_eq_true rfl) dX4_share_30 ?_
      have yk1 := tin_e ek1 hk1 (show n ≤ 1000 by omega)
      have zk1 := cn_e ek1 (show k1 < 1000 by omega)
      refine ⟨by simp only [S_share, yk1, zk1, tk3, s_tell, put_lk, put_vs, put_hd, put_it, ↓reduceIte, Bool.false_eq_true, pk_us], ?_⟩
      simp only [S_share, yk1, zk1, tk3, s_tell, put_lk, put_vs, put_hd, put_it, ↓reduceIte, Bool.false_eq_true, pk_us]
      exact ⟨_, _, _, _, _, _, _, _, _, _, R⟩
    · skip
      refine g_Vq (n := 1) (rest := []) S G hl (c_X1_find_y l R Kn ek3 hk3) gX4_share_X1_find rfl (by decide +kernel) (Rc_st R) rfl rfl rfl (Nat.le_of_ble_eq_true rfl) ⟨Nat.le_of_ble_eq_true rfl, Nat.le_of_ble_eq_true rfl⟩ ⟨Nat.le_of_ble_eq_true rfl, Nat.le_of_ble_eq_true rfl⟩ dX4_share_14 ?_
      clear G; intro r_ w1 H locs hp G
      obtain ⟨rfl, rfl⟩ := hp
      refine W.eq (g2 := F0 m_ 17 ls [.ref (T k3)]) rfl ?_
      refine lv_astore (lv' := [(4, .ref (T k3)), (3, .ref (T k1)), (0, .ref x), (1, .int t), (2, .int o)]) hx hb dX4_share_17 hl (by decide) rfl (fun ls hl => ?_)
      refine lv_aload_n hx hb dX4_share_19 rfl (lv_at hl 1 rfl) ?_
      refine lv_ifnull hx hb dX4_share_20 ?_
      refine lv_aload hx hb dX4_share_23 (lv_at hl 0 rfl) ?_
      refine lv_ifnonnull (tgt := 31) hx hb dX4_share_25 (by decide) ?_
      refine lv_aload_n hx hb dX4_share_31 rfl (lv_at hl 1 rfl) ?_
      refine lv_aload hx hb dX4_share_32 (lv_at hl 0 rfl) ?_
      rcases Kh k3 hk3 with er4 | ⟨r4, hr4, er4⟩
      · skip
        refine g_get S G (Rc_Tn R hk3 er4) rfl (by decide +kernel) 3 (by decide) (by decide +kernel) rfl dX4_share_34 ?_
        refine g_put (fs' := [.int (cl k1), .int (vs k1), .int (lk k1), .null]) (ty := .object "ClassRunner$Row") (v := .null) S G (Rc_T R k1 hk1) rfl tyX2 tyX2_ok nmX2 (by decide +kernel) 3 (by decide) (by decide +kernel) rfl (by decide +kernel) rfl rfl (Nat.le_of_ble_eq_true rfl) rfl dX4_share_37 (fun H locs G => ?_)
        obtain ⟨w, R, G⟩ := Rc_ex (Rc_p_hdn R hk1) G
        refine lv_aload_n hx hb dX4_share_40 rfl (lv_at hl 1 rfl) ?_
        refine g_Vi (n := 0) (rest := []) S G hl (c_X2_heldSort_n l (Rc_Tn R hk1 pk_us)) gX4_share_X2_heldSort rfl (by decide +kernel) (Rc_Tn R hk1 pk_us) rfl rfl rfl (Nat.le_of_ble_eq_true rfl) ⟨Nat.le_of_ble_eq_true rfl, Nat.le_of_ble_eq_true rfl⟩ ⟨Nat.le_of_ble_eq_true rfl, Nat.le_of_ble_eq_true rfl⟩ dX4_share_41 ?_
        clear G; intro r_ w1 H locs hp G
        obtain ⟨rfl, rfl⟩ := hp
        refine r_int S hret hlk G rfl (Nat.le_of_ble_eq_true rfl) (Nat.le_of_ble_eq_true rfl) dX4_share_44 ?_
        have yk1 := tin_e ek1 hk1 (show n ≤ 1000 by omega)
        have zk1 := cn_e ek1 (show k1 < 1000 by omega)
        have yk3 := tin_e ek3 hk3 (show n ≤ 1000 by omega)
        have zk3 := cn_e ek3 (show k3 < 1000 by omega)
        refine ⟨by simp only [S_share, yk1, zk1, yk3, zk3, er4, pk_us, s_tell, put_lk, put_vs, put_hd, put_it, ↓reduceIte, Bool.false_eq_true, pk_us], ?_⟩
        simp only [S_share, yk1, zk1, yk3, zk3, er4, pk_us, s_tell, put_lk, put_vs, put_hd, put_it, ↓reduceIte, Bool.false_eq_true, pk_us]
        exact ⟨_, _, _, _, _, _, _, _, _, _, R⟩
      · skip
        refine g_get S G (Rc_Ty R hk3 er4 hr4 Kr) rfl (by decide +kernel) 3 (by decide) (by decide +kernel) rfl dX4_share_34 ?_
        refine g_put (fs' := [.int (cl k1), .int (vs k1), .int (lk k1), .ref (Rw r4)]) (ty := .object "ClassRunner$Row") (v := .ref (Rw r4)) S G (Rc_T R k1 hk1) rfl tyX2 tyX2_ok nmX2 (by decide +kernel) 3 (by decide) (by decide +kernel) rfl (by decide +kernel) rfl rfl (Nat.le_of_ble_eq_true rfl) rfl dX4_share_37 (fun H locs G => ?_)
        obtain ⟨w, R, G⟩ := Rc_ex (Rc_p_hdy R hk1 hr4 Kr) G
        refine lv_aload_n hx hb dX4_share_40 rfl (lv_at hl 1 rfl) ?_
        refine g_Vi (n := 0) (rest := []) S G hl (c_X2_heldSort_y l (Rc_Ty R hk1 pk_us hr4 Kr) (Rc_Rw R r4 hr4)) gX4_share_X2_heldSort rfl (by decide +kernel) (Rc_Ty R hk1 pk_us hr4 Kr) rfl rfl rfl (Nat.le_of_ble_eq_true rfl) ⟨Nat.le_of_ble_eq_true rfl, Nat.le_of_ble_eq_true rfl⟩ ⟨Nat.le_of_ble_eq_true rfl, Nat.le_of_ble_eq_true rfl⟩ dX4_share_41 ?_
        clear G; intro r_ w1 H locs hp G
        obtain ⟨rfl, rfl⟩ := hp
        refine r_int S hret hlk G rfl (Nat.le_of_ble_eq_true rfl) (Nat.le_of_ble_eq_true rfl) dX4_share_44 ?_
        have yk1 := tin_e ek1 hk1 (show n ≤ 1000 by omega)
        have zk1 := cn_e ek1 (show k1 < 1000 by omega)
        have yk3 := tin_e ek3 hk3 (show n ≤ 1000 by omega)
        have zk3 := cn_e ek3 (show k3 < 1000 by omega)
        have qr4 := nm1 (show r4 < 100000 by omega)
        have qr4 := nm1 (show r4 < 100000 by omega)
        refine ⟨by simp only [S_share, yk1, zk1, yk3, zk3, er4, qr4, cn_nI (show r4 < 2 ^ 31 by omega), pk_us, qr4, cn_nI (show r4 < 2 ^ 31 by omega), s_tell, put_lk, put_vs, put_hd, put_it, ↓reduceIte, Bool.false_eq_true, pk_us], ?_⟩
        simp only [S_share, yk1, zk1, yk3, zk3, er4, qr4, cn_nI (show r4 < 2 ^ 31 by omega), pk_us, qr4, cn_nI (show r4 < 2 ^ 31 by omega), s_tell, put_lk, put_vs, put_hd, put_it, ↓reduceIte, Bool.false_eq_true, pk_us]
        exact ⟨_, _, _, _, _, _, _, _, _, _, R⟩

set_option maxHeartbeats 4000000 in
set_option maxRecDepth 100000 in
theorem C_size (l : Launch) {E : EV} {w : wo} {x : Nat} {σ : ST} (X : RcX E w x σ) (K : Gd σ) (t : Int32) : ct_i l E yX4_size wsX4_size 2 0 0 [.ref x, .int t] w (fun r w' => r = (S_size t σ).1 ∧ RcX E w' x (S_size t σ).2) := by
  obtain ⟨st, wk, tl, ta, tf, T, Rw, Ia, F, ⟨lim, wou, th⟩, R⟩ := X
  obtain ⟨n, cl, vs, lk, hd, nr, so, sz, it, oc, ow, bg, dp, td⟩ := σ
  obtain ⟨Kn, Kr, Kc, Kl, Kh, Ks, Kz, Ki⟩ := K
  intro zz
  refine wo_body (Qc := fun A => va_Qi _ (wo_B E A) A) (ret := (some .int)) (by decide) rfl (Nat.le_of_ble_eq_true rfl) ?_
  intro p_ e_ s_ m_ args_ below_ meth_ code_ A_ ls S hret hlk hnm G hl
  have hl : lv_has ls 4 [(0, .ref x), (1, .int t)] := hl
  have hx := S.1
  have hb := S.2.1
  refine lv_aload_n hx hb dX4_size_0 rfl (lv_at hl 0 rfl) ?_
  refine g_get S G (Rc_x R) rfl (by decide +kernel) 0 (by decide) (by decide +kernel) rfl dX4_size_1 ?_
  refine lv_iload_n hx hb dX4_size_4 rfl (lv_at hl 1 rfl) ?_
  rcases tin_c n t (by omega) with ⟨tk1, ok1⟩ | ⟨k1, hk1, ek1⟩
  · skip
    refine g_Vq (n := 1) (rest := []) S G hl (c_X1_find_n l R Kn ok1) gX4_size_X1_find rfl (by decide +kernel) (Rc_st R) rfl rfl rfl (Nat.le_of_ble_eq_true rfl) ⟨Nat.le_of_ble_eq_true rfl, Nat.le_of_ble_eq_true rfl⟩ ⟨Nat.le_of_ble_eq_true rfl, Nat.le_of_ble_eq_true rfl⟩ dX4_size_5 ?_
    clear G; intro r_ w1 H locs hp G
    obtain ⟨rfl, rfl⟩ := hp
    refine W.eq (g2 := F0 m_ 8 ls [.null]) rfl ?_
    refine lv_astore_nN (lv' := [(2, .null), (0, .ref x), (1, .int t)]) hx hb dX4_size_8 rfl hl (by decide) rfl (fun ls hl => ?_)
    refine lv_aload_nN hx hb dX4_size_9 rfl (lv_at hl 0 rfl) ?_
    refine lv_ifnonnullN hx hb dX4_size_10 ?_
    refine lv_ldc hx hb S.2.2.2.1 (S.2.2.2.2 (.constant RX4 33 (-2000000001)) (by decide +kernel)) dX4_size_13 ?_
    refine r_int S hret hlk G rfl (Nat.le_of_ble_eq_true rfl) (Nat.le_of_ble_eq_true rfl) dX4_size_15 ?_
    refine ⟨by simp only [S_size, tk1, s_tell, put_lk, put_vs, put_hd, put_it, ↓reduceIte, Bool.false_eq_true, pk_us], ?_⟩
    simp only [S_size, tk1, s_tell, put_lk, put_vs, put_hd, put_it, ↓reduceIte, Bool.false_eq_true, pk_us]
    exact ⟨_, _, _, _, _, _, _, _, _, _, R⟩
  · skip
    refine g_Vq (n := 1) (rest := []) S G hl (c_X1_find_y l R Kn ek1 hk1) gX4_size_X1_find rfl (by decide +kernel) (Rc_st R) rfl rfl rfl (Nat.le_of_ble_eq_true rfl) ⟨Nat.le_of_ble_eq_true rfl, Nat.le_of_ble_eq_true rfl⟩ ⟨Nat.le_of_ble_eq_true rfl, Nat.le_of_ble_eq_true rfl⟩ dX4_size_5 ?_
    clear G; intro r_ w1 H locs hp G
    obtain ⟨rfl, rfl⟩ := hp
    refine W.eq (g2 := F0 m_ 8 ls [.ref (T k1)]) rfl ?_
    refine lv_astore_n (lv' := [(2, .ref (T k1)), (0, .ref x), (1, .int t)]) hx hb dX4_size_8 rfl hl (by decide) rfl (fun ls hl => ?_)
    refine lv_aload_n hx hb dX4_size_9 rfl (lv_at hl 0 rfl) ?_
    refine lv_ifnonnull (tgt := 16) hx hb dX4_size_10 (by decide) ?_
    refine lv_aload_n hx hb dX4_size_16 rfl (lv_at hl 0 rfl) ?_
    rcases Kh k1 hk1 with er2 | ⟨r2, hr2, er2⟩
    · skip
      refine g_get S G (Rc_Tn R hk1 er2) rfl (by decide +kernel) 3 (by decide) (by decide +kernel) rfl dX4_size_17 ?_
      refine lv_astore_nN (lv' := [(3, .null), (2, .ref (T k1)), (0, .ref x), (1, .int t)]) hx hb dX4_size_20 rfl hl (by decide) rfl (fun ls hl => ?_)
      refine lv_aload_nN hx hb dX4_size_21 rfl (lv_at hl 0 rfl) ?_
      refine lv_ifnonnullN hx hb dX4_size_22 ?_
      refine lv_aload_n hx hb dX4_size_25 rfl (lv_at hl 2 rfl) ?_
      refine lv_iconst (v := 1) hx hb dX4_size_26 (by decide) ?_
      refine g_Vi (n := 1) (rest := []) S G hl (c_X4_refuse l R (j := 1) (o := 1) rfl (by decide)) gX4_size_X4_refuse rfl (by decide +kernel) (Rc_x R) rfl rfl rfl (Nat.le_of_ble_eq_true rfl) ⟨Nat.le_of_ble_eq_true rfl, Nat.le_of_ble_eq_true rfl⟩ ⟨Nat.le_of_ble_eq_true rfl, Nat.le_of_ble_eq_true rfl⟩ dX4_size_27 ?_
      clear G; intro r_ w1 H locs hp G
      obtain ⟨hr_, R⟩ := hp
      subst r_
      rw [if_neg (show ¬ ((1 : Int32) = 7) by decide)] at R
      refine r_int S hret hlk G rfl (Nat.le_of_ble_eq_true rfl) (Nat.le_of_ble_eq_true rfl) dX4_size_30 ?_
      have yk1 := tin_e ek1 hk1 (show n ≤ 1000 by omega)
      have zk1 := cn_e ek1 (show k1 < 1000 by omega)
      refine ⟨by simp only [S_size, yk1, zk1, er2, s_tell, put_lk, put_vs, put_hd, put_it, ↓reduceIte, Bool.false_eq_true, pk_us], ?_⟩
      simp only [S_size, yk1, zk1, er2, s_tell, put_lk, put_vs, put_hd, put_it, ↓reduceIte, Bool.false_eq_true, pk_us]
      exact ⟨_, _, _, _, _, _, _, _, _, _, R⟩
    · skip
      refine g_get S G (Rc_Ty R hk1 er2 hr2 Kr) rfl (by decide +kernel) 3 (by decide) (by decide +kernel) rfl dX4_size_17 ?_
      refine lv_astore_n (lv' := [(3, .ref (Rw r2)), (2, .ref (T k1)), (0, .ref x), (1, .int t)]) hx hb dX4_size_20 rfl hl (by decide) rfl (fun ls hl => ?_)
      refine lv_aload_n hx hb dX4_size_21 rfl (lv_at hl 0 rfl) ?_
      refine lv_ifnonnull (tgt := 31) hx hb dX4_size_22 (by decide) ?_
      refine lv_aload_n hx hb dX4_size_31 rfl (lv_at hl 2 rfl) ?_
      refine lv_iconst (v := 0) hx hb dX4_size_32 (by decide) ?_
      refine g_Vi (n := 1) (rest := []) S G hl (c_X4_tell l R (j := 0) (o := 0) rfl (by decide)) gX4_size_X4_tell rfl (by decide +kernel) (Rc_x R) rfl rfl rfl (Nat.le_of_ble_eq_true rfl) ⟨Nat.le_of_ble_eq_true rfl, Nat.le_of_ble_eq_true rfl⟩ ⟨Nat.le_of_ble_eq_true rfl, Nat.le_of_ble_eq_true rfl⟩ dX4_size_33 ?_
      clear G; intro r_ w1 H locs hp G
      obtain ⟨hr_, R⟩ := hp
      subst r_
      rw [if_neg (show ¬ ((0 : Int32) = 7) by decide)] at R
      refine lv_pop hx hb dX4_size_36 rfl ?_
      refine lv_aload_n hx hb dX4_size_37 rfl (lv_at hl 0 rfl) ?_
      refine g_get S G (Rc_Rw R r2 hr2) rfl (by decide +kernel) 1 (by decide) (by decide +kernel) rfl dX4_size_38 ?_
      refine g_llen S G (Rc_Ia R r2 hr2) dX4_size_41 ?_
      refine r_int S hret hlk G rfl (Nat.le_of_ble_eq_true rfl) (Nat.le_of_ble_eq_true rfl) dX4_size_42 ?_
      have yk1 := tin_e ek1 hk1 (show n ≤ 1000 by omega)
      have zk1 := cn_e ek1 (show k1 < 1000 by omega)
      have qr2 := nm1 (show r2 < 100000 by omega)
      refine ⟨by simp only [S_size, yk1, zk1, er2, qr2, cn_nI (show r2 < 2 ^ 31 by omega), sz_eq (Kz r2 hr2), s_tell, put_lk, put_vs, put_hd, put_it, ↓reduceIte, Bool.false_eq_true, pk_us], ?_⟩
      simp only [S_size, yk1, zk1, er2, qr2, cn_nI (show r2 < 2 ^ 31 by omega), sz_eq (Kz r2 hr2), s_tell, put_lk, put_vs, put_hd, put_it, ↓reduceIte, Bool.false_eq_true, pk_us]
      exact ⟨_, _, _, _, _, _, _, _, _, _, R⟩

theorem z64 : Int32.toInt64 0 = 0 := by decide
set_option maxHeartbeats 4000000 in
set_option maxRecDepth 100000 in
theorem C_at (l : Launch) {E : EV} {w : wo} {x : Nat} {σ : ST} (X : RcX E w x σ) (K : Gd σ) (t : Int32) (k : Int32) : ct_l l E yX4_at wsX4_at 2 0 0 [.ref x, .int t, .int k] w (fun r w' => r = (S_at t k σ).1 ∧ RcX E w' x (S_at t k σ).2) := by
  obtain ⟨st, wk, tl, ta, tf, T, Rw, Ia, F, ⟨lim, wou, th⟩, R⟩ := X
  obtain ⟨n, cl, vs, lk, hd, nr, so, sz, it, oc, ow, bg, dp, td⟩ := σ
  obtain ⟨Kn, Kr, Kc, Kl, Kh, Ks, Kz, Ki⟩ := K
  intro zz
  refine wo_body (Qc := fun A => va_Ql _ (wo_B E A) A) (ret := (some .long)) (by decide) rfl (Nat.le_of_ble_eq_true rfl) ?_
  intro p_ e_ s_ m_ args_ below_ meth_ code_ A_ ls S hret hlk hnm G hl
  have hl : lv_has ls 6 [(0, .ref x), (1, .int t), (2, .int k)] := hl
  have hx := S.1
  have hb := S.2.1
  refine lv_aload_n hx hb dX4_at_0 rfl (lv_at hl 0 rfl) ?_
  refine g_get S G (Rc_x R) rfl (by decide +kernel) 0 (by decide) (by decide +kernel) rfl dX4_at_1 ?_
  refine lv_iload_n hx hb dX4_at_4 rfl (lv_at hl 1 rfl) ?_
  rcases tin_c n t (by omega) with ⟨tk1, ok1⟩ | ⟨k1, hk1, ek1⟩
  · skip
    refine g_Vq (n := 1) (rest := []) S G hl (c_X1_find_n l R Kn ok1) gX4_at_X1_find rfl (by decide +kernel) (Rc_st R) rfl rfl rfl (Nat.le_of_ble_eq_true rfl) ⟨Nat.le_of_ble_eq_true rfl, Nat.le_of_ble_eq_true rfl⟩ ⟨Nat.le_of_ble_eq_true rfl, Nat.le_of_ble_eq_true rfl⟩ dX4_at_5 ?_
    clear G; intro r_ w1 H locs hp G
    obtain ⟨rfl, rfl⟩ := hp
    refine W.eq (g2 := F0 m_ 8 ls [.null]) rfl ?_
    refine lv_astore_nN (lv' := [(3, .null), (0, .ref x), (1, .int t), (2, .int k)]) hx hb dX4_at_8 rfl hl (by decide) rfl (fun ls hl => ?_)
    refine lv_aload_nN hx hb dX4_at_9 rfl (lv_at hl 0 rfl) ?_
    refine lv_ifnonnullN hx hb dX4_at_10 ?_
    refine lv_ldc2 hx hb S.2.2.2.1 (S.2.2.2.2 (.constantLong RX4 96 (-2000000001)) (by decide +kernel)) dX4_at_13 ?_
    refine r_long S hret hlk G (Nat.le_of_ble_eq_true rfl) (Nat.le_of_ble_eq_true rfl) dX4_at_16 ?_
    refine ⟨by simp only [S_at, tk1, s_tell, put_lk, put_vs, put_hd, put_it, ↓reduceIte, Bool.false_eq_true, pk_us, z64], ?_⟩
    simp only [S_at, tk1, s_tell, put_lk, put_vs, put_hd, put_it, ↓reduceIte, Bool.false_eq_true, pk_us, z64]
    exact ⟨_, _, _, _, _, _, _, _, _, _, R⟩
  · skip
    refine g_Vq (n := 1) (rest := []) S G hl (c_X1_find_y l R Kn ek1 hk1) gX4_at_X1_find rfl (by decide +kernel) (Rc_st R) rfl rfl rfl (Nat.le_of_ble_eq_true rfl) ⟨Nat.le_of_ble_eq_true rfl, Nat.le_of_ble_eq_true rfl⟩ ⟨Nat.le_of_ble_eq_true rfl, Nat.le_of_ble_eq_true rfl⟩ dX4_at_5 ?_
    clear G; intro r_ w1 H locs hp G
    obtain ⟨rfl, rfl⟩ := hp
    refine W.eq (g2 := F0 m_ 8 ls [.ref (T k1)]) rfl ?_
    refine lv_astore_n (lv' := [(3, .ref (T k1)), (0, .ref x), (1, .int t), (2, .int k)]) hx hb dX4_at_8 rfl hl (by decide) rfl (fun ls hl => ?_)
    refine lv_aload_n hx hb dX4_at_9 rfl (lv_at hl 0 rfl) ?_
    refine lv_ifnonnull (tgt := 17) hx hb dX4_at_10 (by decide) ?_
    refine lv_aload_n hx hb dX4_at_17 rfl (lv_at hl 0 rfl) ?_
    rcases Kh k1 hk1 with er2 | ⟨r2, hr2, er2⟩
    · skip
      refine g_get S G (Rc_Tn R hk1 er2) rfl (by decide +kernel) 3 (by decide) (by decide +kernel) rfl dX4_at_18 ?_
      refine lv_astoreN (lv' := [(4, .null), (3, .ref (T k1)), (0, .ref x), (1, .int t), (2, .int k)]) hx hb dX4_at_21 hl (by decide) rfl (fun ls hl => ?_)
      refine lv_aloadN hx hb dX4_at_23 (lv_at hl 0 rfl) ?_
      refine lv_iconst (v := 0) hx hb dX4_at_25 (by decide) ?_
      refine lv_iconst (v := 3) hx hb dX4_at_26 (by decide) ?_
      refine lv_iload_n hx hb dX4_at_27 rfl (lv_at hl 4 rfl) ?_
      refine g_Si (n := 4) (rest := []) S G hl (c_X4_againstItem_n l 0 3 k) gX4_at_X4_againstItem rfl (by decide +kernel) rfl rfl (Nat.le_of_ble_eq_true rfl) ⟨Nat.le_of_ble_eq_true rfl, Nat.le_of_ble_eq_true rfl⟩ ⟨Nat.le_of_ble_eq_true rfl, Nat.le_of_ble_eq_true rfl⟩ dX4_at_28 ?_
      clear G; intro r_ w1 H locs hp G
      obtain ⟨rfl, rfl⟩ := hp
      refine lv_istore (lv' := [(5, .int 1), (4, .null), (3, .ref (T k1)), (0, .ref x), (1, .int t), (2, .int k)]) hx hb dX4_at_31 hl (by decide) rfl (fun ls hl => ?_)
      refine lv_iload hx hb dX4_at_33 (lv_at hl 0 rfl) ?_
      refine lv_if_eq (tgt := 46) hx hb dX4_at_35 (by decide) (fun c3 => absurd c3 (by decide)) (fun c3 => ?_)
      refine lv_aload_n hx hb dX4_at_38 rfl (lv_at hl 3 rfl) ?_
      refine lv_iload hx hb dX4_at_39 (lv_at hl 0 rfl) ?_
      refine g_Vi (n := 1) (rest := []) S G hl (c_X4_refuse l R (j := 1) (o := 1) rfl (by decide)) gX4_at_X4_refuse rfl (by decide +kernel) (Rc_x R) rfl rfl rfl (Nat.le_of_ble_eq_true rfl) ⟨Nat.le_of_ble_eq_true rfl, Nat.le_of_ble_eq_true rfl⟩ ⟨Nat.le_of_ble_eq_true rfl, Nat.le_of_ble_eq_true rfl⟩ dX4_at_41 ?_
      clear G; intro r_ w1 H locs hp G
      obtain ⟨hr_, R⟩ := hp
      subst r_
      rw [if_neg (show ¬ ((1 : Int32) = 7) by decide)] at R
      refine lv_i2l (v := (Int32.toInt64 0)) hx hb dX4_at_44 rfl ?_
      refine r_long S hret hlk G (Nat.le_of_ble_eq_true rfl) (Nat.le_of_ble_eq_true rfl) dX4_at_45 ?_
      have yk1 := tin_e ek1 hk1 (show n ≤ 1000 by omega)
      have zk1 := cn_e ek1 (show k1 < 1000 by omega)
      refine ⟨by simp only [S_at, yk1, zk1, er2, s_tell, put_lk, put_vs, put_hd, put_it, ↓reduceIte, Bool.false_eq_true, pk_us, z64], ?_⟩
      simp only [S_at, yk1, zk1, er2, s_tell, put_lk, put_vs, put_hd, put_it, ↓reduceIte, Bool.false_eq_true, pk_us, z64]
      exact ⟨_, _, _, _, _, _, _, _, _, _, R⟩
    · skip
      refine g_get S G (Rc_Ty R hk1 er2 hr2 Kr) rfl (by decide +kernel) 3 (by decide) (by decide +kernel) rfl dX4_at_18 ?_
      refine lv_astore (lv' := [(4, .ref (Rw r2)), (3, .ref (T k1)), (0, .ref x), (1, .int t), (2, .int k)]) hx hb dX4_at_21 hl (by decide) rfl (fun ls hl => ?_)
      refine lv_aload hx hb dX4_at_23 (lv_at hl 0 rfl) ?_
      refine lv_iconst (v := 0) hx hb dX4_at_25 (by decide) ?_
      refine lv_iconst (v := 3) hx hb dX4_at_26 (by decide) ?_
      refine lv_iload_n hx hb dX4_at_27 rfl (lv_at hl 4 rfl) ?_
      have q4 : ¬ (so r2 < 0 ∨ 3 < so r2) := so_in (Ks r2 hr2)
      rcases tin_c (cn (sz r2)) k (Nat.le_trans (sz_le (Kz r2 hr2)) (by decide)) with ⟨tk5, ok5⟩ | ⟨k5, hk5, ek5⟩
      · skip
        refine g_Si (n := 4) (rest := []) S G hl (c_X4_againstItem_y l R hr2 (sz_le (Kz r2 hr2)) 0 3 k) gX4_at_X4_againstItem rfl (by decide +kernel) rfl rfl (Nat.le_of_ble_eq_true rfl) ⟨Nat.le_of_ble_eq_true rfl, Nat.le_of_ble_eq_true rfl⟩ ⟨Nat.le_of_ble_eq_true rfl, Nat.le_of_ble_eq_true rfl⟩ dX4_at_28 ?_
        clear G; intro r_ w1 H locs hp G
        obtain ⟨rfl, hq_⟩ := hp
        simp only [q4, tk5, ↓reduceIte, Bool.false_eq_true] at hq_
        subst hq_
        refine lv_istore (lv' := [(5, .int 3), (4, .ref (Rw r2)), (3, .ref (T k1)), (0, .ref x), (1, .int t), (2, .int k)]) hx hb dX4_at_31 hl (by decide) rfl (fun ls hl => ?_)
        refine lv_iload hx hb dX4_at_33 (lv_at hl 0 rfl) ?_
        refine lv_if_eq (tgt := 46) hx hb dX4_at_35 (by decide) (fun c6 => absurd c6 (by decide)) (fun c6 => ?_)
        refine lv_aload_n hx hb dX4_at_38 rfl (lv_at hl 3 rfl) ?_
        refine lv_iload hx hb dX4_at_39 (lv_at hl 0 rfl) ?_
        refine g_Vi (n := 1) (rest := []) S G hl (c_X4_refuse l R (j := 3) (o := 3) rfl (by decide)) gX4_at_X4_refuse rfl (by decide +kernel) (Rc_x R) rfl rfl rfl (Nat.le_of_ble_eq_true rfl) ⟨Nat.le_of_ble_eq_true rfl, Nat.le_of_ble_eq_true rfl⟩ ⟨Nat.le_of_ble_eq_true rfl, Nat.le_of_ble_eq_true rfl⟩ dX4_at_41 ?_
        clear G; intro r_ w1 H locs hp G
        obtain ⟨hr_, R⟩ := hp
        subst r_
        rw [if_neg (show ¬ ((3 : Int32) = 7) by decide)] at R
        refine lv_i2l (v := (Int32.toInt64 0)) hx hb dX4_at_44 rfl ?_
        refine r_long S hret hlk G (Nat.le_of_ble_eq_true rfl) (Nat.le_of_ble_eq_true rfl) dX4_at_45 ?_
        have yk1 := tin_e ek1 hk1 (show n ≤ 1000 by omega)
        have zk1 := cn_e ek1 (show k1 < 1000 by omega)
        have qr2 := nm1 (show r2 < 100000 by omega)
        refine ⟨by simp only [S_at, yk1, zk1, er2, qr2, cn_nI (show r2 < 2 ^ 31 by omega), q4, tk5, s_tell, put_lk, put_vs, put_hd, put_it, ↓reduceIte, Bool.false_eq_true, pk_us, z64], ?_⟩
        simp only [S_at, yk1, zk1, er2, qr2, cn_nI (show r2 < 2 ^ 31 by omega), q4, tk5, s_tell, put_lk, put_vs, put_hd, put_it, ↓reduceIte, Bool.false_eq_true, pk_us, z64]
        exact ⟨_, _, _, _, _, _, _, _, _, _, R⟩
      · skip
        refine g_Si (n := 4) (rest := []) S G hl (c_X4_againstItem_y l R hr2 (sz_le (Kz r2 hr2)) 0 3 k) gX4_at_X4_againstItem rfl (by decide +kernel) rfl rfl (Nat.le_of_ble_eq_true rfl) ⟨Nat.le_of_ble_eq_true rfl, Nat.le_of_ble_eq_true rfl⟩ ⟨Nat.le_of_ble_eq_true rfl, Nat.le_of_ble_eq_true rfl⟩ dX4_at_28 ?_
        clear G; intro r_ w1 H locs hp G
        obtain ⟨rfl, hq_⟩ := hp
        have yk5 := tin_e ek5 hk5 (Nat.le_trans (sz_le (Kz r2 hr2)) (by decide))
        have zk5 := cn_e ek5 (Nat.lt_of_lt_of_le hk5 (Nat.le_trans (sz_le (Kz r2 hr2)) (by decide)))
        simp only [q4, yk5, ↓reduceIte, Bool.false_eq_true] at hq_
        subst hq_
        refine lv_istore (lv' := [(5, .int 0), (4, .ref (Rw r2)), (3, .ref (T k1)), (0, .ref x), (1, .int t), (2, .int k)]) hx hb dX4_at_31 hl (by decide) rfl (fun ls hl => ?_)
        refine lv_iload hx hb dX4_at_33 (lv_at hl 0 rfl) ?_
        refine lv_if_eq (tgt := 46) hx hb dX4_at_35 (by decide) (fun c7 => ?_) (fun c7 => absurd (by decide) c7)
        refine lv_aload_n hx hb dX4_at_46 rfl (lv_at hl 3 rfl) ?_
        refine lv_iconst (v := 0) hx hb dX4_at_47 (by decide) ?_
        refine g_Vi (n := 1) (rest := []) S G hl (c_X4_tell l R (j := 0) (o := 0) rfl (by decide)) gX4_at_X4_tell rfl (by decide +kernel) (Rc_x R) rfl rfl rfl (Nat.le_of_ble_eq_true rfl) ⟨Nat.le_of_ble_eq_true rfl, Nat.le_of_ble_eq_true rfl⟩ ⟨Nat.le_of_ble_eq_true rfl, Nat.le_of_ble_eq_true rfl⟩ dX4_at_48 ?_
        clear G; intro r_ w1 H locs hp G
        obtain ⟨hr_, R⟩ := hp
        subst r_
        rw [if_neg (show ¬ ((0 : Int32) = 7) by decide)] at R
        refine lv_pop hx hb dX4_at_51 rfl ?_
        refine lv_aload hx hb dX4_at_52 (lv_at hl 1 rfl) ?_
        refine g_get S G (Rc_Rw R r2 hr2) rfl (by decide +kernel) 1 (by decide) (by decide +kernel) rfl dX4_at_54 ?_
        refine lv_iload_n hx hb dX4_at_57 rfl (lv_at hl 5 rfl) ?_
        have e9 : Int32.toNatClampNeg k = k5 := zk5
        refine g_lald S G (Rc_Ia R r2 hr2) (vin_e ek5 hk5 (Nat.le_trans (sz_le (Kz r2 hr2)) (by decide))) dX4_at_58 ?_
        rw [e9, Rc_F R r2 hr2 k5 hk5]
        refine r_long S hret hlk G (Nat.le_of_ble_eq_true rfl) (Nat.le_of_ble_eq_true rfl) dX4_at_59 ?_
        have yk1 := tin_e ek1 hk1 (show n ≤ 1000 by omega)
        have zk1 := cn_e ek1 (show k1 < 1000 by omega)
        have qr2 := nm1 (show r2 < 100000 by omega)
        refine ⟨by simp only [S_at, yk1, zk1, er2, qr2, cn_nI (show r2 < 2 ^ 31 by omega), q4, yk5, zk5, s_tell, put_lk, put_vs, put_hd, put_it, ↓reduceIte, Bool.false_eq_true, pk_us, z64], ?_⟩
        simp only [S_at, yk1, zk1, er2, qr2, cn_nI (show r2 < 2 ^ 31 by omega), q4, yk5, zk5, s_tell, put_lk, put_vs, put_hd, put_it, ↓reduceIte, Bool.false_eq_true, pk_us, z64]
        exact ⟨_, _, _, _, _, _, _, _, _, _, R⟩

set_option maxHeartbeats 4000000 in
set_option maxRecDepth 100000 in
theorem C_lay (l : Launch) {E : EV} {w : wo} {x : Nat} {σ : ST} (X : RcX E w x σ) (K : Gd σ) (t : Int32) (k : Int32) (v : Int64) : ct_l l E yX4_lay wsX4_lay 2 0 0 [.ref x, .int t, .int k, .long v] w (fun r w' => r = (S_lay t k v σ).1 ∧ RcX E w' x (S_lay t k v σ).2) := by
  obtain ⟨st, wk, tl, ta, tf, T, Rw, Ia, F, ⟨lim, wou, th⟩, R⟩ := X
  obtain ⟨n, cl, vs, lk, hd, nr, so, sz, it, oc, ow, bg, dp, td⟩ := σ
  obtain ⟨Kn, Kr, Kc, Kl, Kh, Ks, Kz, Ki⟩ := K
  intro zz
  refine wo_body (Qc := fun A => va_Ql _ (wo_B E A) A) (ret := (some .long)) (by decide) rfl (Nat.le_of_ble_eq_true rfl) ?_
  intro p_ e_ s_ m_ args_ below_ meth_ code_ A_ ls S hret hlk hnm G hl
  have hl : lv_has ls 8 [(0, .ref x), (1, .int t), (2, .int k), (3, .long v)] := hl
  have hx := S.1
  have hb := S.2.1
  refine lv_aload_n hx hb dX4_lay_0 rfl (lv_at hl 0 rfl) ?_
  refine g_get S G (Rc_x R) rfl (by decide +kernel) 0 (by decide) (by decide +kernel) rfl dX4_lay_1 ?_
  refine lv_iload_n hx hb dX4_lay_4 rfl (lv_at hl 1 rfl) ?_
  rcases tin_c n t (by omega) with ⟨tk1, ok1⟩ | ⟨k1, hk1, ek1⟩
  · skip
    refine g_Vq (n := 1) (rest := []) S G hl (c_X1_find_n l R Kn ok1) gX4_lay_X1_find rfl (by decide +kernel) (Rc_st R) rfl rfl rfl (Nat.le_of_ble_eq_true rfl) ⟨Nat.le_of_ble_eq_true rfl, Nat.le_of_ble_eq_true rfl⟩ ⟨Nat.le_of_ble_eq_true rfl, Nat.le_of_ble_eq_true rfl⟩ dX4_lay_5 ?_
    clear G; intro r_ w1 H locs hp G
    obtain ⟨rfl, rfl⟩ := hp
    refine W.eq (g2 := F0 m_ 8 ls [.null]) rfl ?_
    refine lv_astoreN (lv' := [(5, .null), (0, .ref x), (1, .int t), (2, .int k), (3, .long v)]) hx hb dX4_lay_8 hl (by decide) rfl (fun ls hl => ?_)
    refine lv_aloadN hx hb dX4_lay_10 (lv_at hl 0 rfl) ?_
    refine lv_ifnonnullN hx hb dX4_lay_12 ?_
    refine lv_ldc2 hx hb S.2.2.2.1 (S.2.2.2.2 (.constantLong RX4 96 (-2000000001)) (by decide +kernel)) dX4_lay_15 ?_
    refine r_long S hret hlk G (Nat.le_of_ble_eq_true rfl) (Nat.le_of_ble_eq_true rfl) dX4_lay_18 ?_
    refine ⟨by simp only [S_lay, tk1, s_tell, put_lk, put_vs, put_hd, put_it, ↓reduceIte, Bool.false_eq_true, pk_us, z64, show ¬ (1 : Int32) < 0 by decide], ?_⟩
    simp only [S_lay, tk1, s_tell, put_lk, put_vs, put_hd, put_it, ↓reduceIte, Bool.false_eq_true, pk_us, z64, show ¬ (1 : Int32) < 0 by decide]
    exact ⟨_, _, _, _, _, _, _, _, _, _, R⟩
  · skip
    refine g_Vq (n := 1) (rest := []) S G hl (c_X1_find_y l R Kn ek1 hk1) gX4_lay_X1_find rfl (by decide +kernel) (Rc_st R) rfl rfl rfl (Nat.le_of_ble_eq_true rfl) ⟨Nat.le_of_ble_eq_true rfl, Nat.le_of_ble_eq_true rfl⟩ ⟨Nat.le_of_ble_eq_true rfl, Nat.le_of_ble_eq_true rfl⟩ dX4_lay_5 ?_
    clear G; intro r_ w1 H locs hp G
    obtain ⟨rfl, rfl⟩ := hp
    refine W.eq (g2 := F0 m_ 8 ls [.ref (T k1)]) rfl ?_
    refine lv_astore (lv' := [(5, .ref (T k1)), (0, .ref x), (1, .int t), (2, .int k), (3, .long v)]) hx hb dX4_lay_8 hl (by decide) rfl (fun ls hl => ?_)
    refine lv_aload hx hb dX4_lay_10 (lv_at hl 0 rfl) ?_
    refine lv_ifnonnull (tgt := 19) hx hb dX4_lay_12 (by decide) ?_
    refine lv_aload hx hb dX4_lay_19 (lv_at hl 0 rfl) ?_
    rcases Kh k1 hk1 with er2 | ⟨r2, hr2, er2⟩
    · skip
      refine g_get S G (Rc_Tn R hk1 er2) rfl (by decide +kernel) 3 (by decide) (by decide +kernel) rfl dX4_lay_21 ?_
      refine lv_astoreN (lv' := [(6, .null), (5, .ref (T k1)), (0, .ref x), (1, .int t), (2, .int k), (3, .long v)]) hx hb dX4_lay_24 hl (by decide) rfl (fun ls hl => ?_)
      refine lv_aloadN hx hb dX4_lay_26 (lv_at hl 0 rfl) ?_
      refine lv_iconst (v := 0) hx hb dX4_lay_28 (by decide) ?_
      refine lv_iconst (v := 1) hx hb dX4_lay_29 (by decide) ?_
      refine lv_iload_n hx hb dX4_lay_30 rfl (lv_at hl 4 rfl) ?_
      refine g_Si (n := 4) (rest := []) S G hl (c_X4_againstItem_n l 0 1 k) gX4_lay_X4_againstItem rfl (by decide +kernel) rfl rfl (Nat.le_of_ble_eq_true rfl) ⟨Nat.le_of_ble_eq_true rfl, Nat.le_of_ble_eq_true rfl⟩ ⟨Nat.le_of_ble_eq_true rfl, Nat.le_of_ble_eq_true rfl⟩ dX4_lay_31 ?_
      clear G; intro r_ w1 H locs hp G
      obtain ⟨rfl, rfl⟩ := hp
      refine lv_istore (lv' := [(7, .int 1), (6, .null), (5, .ref (T k1)), (0, .ref x), (1, .int t), (2, .int k), (3, .long v)]) hx hb dX4_lay_34 hl (by decide) rfl (fun ls hl => ?_)
      refine lv_iload hx hb dX4_lay_36 (lv_at hl 0 rfl) ?_
      refine lv_if_eq (tgt := 49) hx hb dX4_lay_38 (by decide) (fun c3 => absurd c3 (by decide)) (fun c3 => ?_)
      refine lv_aload_n hx hb dX4_lay_41 rfl (lv_at hl 3 rfl) ?_
      refine lv_iload hx hb dX4_lay_42 (lv_at hl 0 rfl) ?_
      refine g_Vi (n := 1) (rest := []) S G hl (c_X4_refuse l R (j := 1) (o := 1) rfl (by decide)) gX4_lay_X4_refuse rfl (by decide +kernel) (Rc_x R) rfl rfl rfl (Nat.le_of_ble_eq_true rfl) ⟨Nat.le_of_ble_eq_true rfl, Nat.le_of_ble_eq_true rfl⟩ ⟨Nat.le_of_ble_eq_true rfl, Nat.le_of_ble_eq_true rfl⟩ dX4_lay_44 ?_
      clear G; intro r_ w1 H locs hp G
      obtain ⟨hr_, R⟩ := hp
      subst r_
      rw [if_neg (show ¬ ((1 : Int32) = 7) by decide)] at R
      refine lv_i2l (v := (Int32.toInt64 0)) hx hb dX4_lay_47 rfl ?_
      refine r_long S hret hlk G (Nat.le_of_ble_eq_true rfl) (Nat.le_of_ble_eq_true rfl) dX4_lay_48 ?_
      have yk1 := tin_e ek1 hk1 (show n ≤ 1000 by omega)
      have zk1 := cn_e ek1 (show k1 < 1000 by omega)
      refine ⟨by simp only [S_lay, yk1, zk1, er2, s_tell, put_lk, put_vs, put_hd, put_it, ↓reduceIte, Bool.false_eq_true, pk_us, z64, show ¬ (1 : Int32) < 0 by decide], ?_⟩
      simp only [S_lay, yk1, zk1, er2, s_tell, put_lk, put_vs, put_hd, put_it, ↓reduceIte, Bool.false_eq_true, pk_us, z64, show ¬ (1 : Int32) < 0 by decide]
      exact ⟨_, _, _, _, _, _, _, _, _, _, R⟩
    · skip
      refine g_get S G (Rc_Ty R hk1 er2 hr2 Kr) rfl (by decide +kernel) 3 (by decide) (by decide +kernel) rfl dX4_lay_21 ?_
      refine lv_astore (lv' := [(6, .ref (Rw r2)), (5, .ref (T k1)), (0, .ref x), (1, .int t), (2, .int k), (3, .long v)]) hx hb dX4_lay_24 hl (by decide) rfl (fun ls hl => ?_)
      refine lv_aload hx hb dX4_lay_26 (lv_at hl 0 rfl) ?_
      refine lv_iconst (v := 0) hx hb dX4_lay_28 (by decide) ?_
      refine lv_iconst (v := 1) hx hb dX4_lay_29 (by decide) ?_
      refine lv_iload_n hx hb dX4_lay_30 rfl (lv_at hl 4 rfl) ?_
      by_cases q4 : so r2 < 0 ∨ 1 < so r2
      · skip
        refine g_Si (n := 4) (rest := []) S G hl (c_X4_againstItem_y l R hr2 (sz_le (Kz r2 hr2)) 0 1 k) gX4_lay_X4_againstItem rfl (by decide +kernel) rfl rfl (Nat.le_of_ble_eq_true rfl) ⟨Nat.le_of_ble_eq_true rfl, Nat.le_of_ble_eq_true rfl⟩ ⟨Nat.le_of_ble_eq_true rfl, Nat.le_of_ble_eq_true rfl⟩ dX4_lay_31 ?_
        clear G; intro r_ w1 H locs hp G
        obtain ⟨rfl, hq_⟩ := hp
        simp only [q4, ↓reduceIte, Bool.false_eq_true] at hq_
        subst hq_
        refine lv_istore (lv' := [(7, .int 2), (6, .ref (Rw r2)), (5, .ref (T k1)), (0, .ref x), (1, .int t), (2, .int k), (3, .long v)]) hx hb dX4_lay_34 hl (by decide) rfl (fun ls hl => ?_)
        refine lv_iload hx hb dX4_lay_36 (lv_at hl 0 rfl) ?_
        refine lv_if_eq (tgt := 49) hx hb dX4_lay_38 (by decide) (fun c6 => absurd c6 (by decide)) (fun c6 => ?_)
        refine lv_aload_n hx hb dX4_lay_41 rfl (lv_at hl 3 rfl) ?_
        refine lv_iload hx hb dX4_lay_42 (lv_at hl 0 rfl) ?_
        refine g_Vi (n := 1) (rest := []) S G hl (c_X4_refuse l R (j := 2) (o := 2) rfl (by decide)) gX4_lay_X4_refuse rfl (by decide +kernel) (Rc_x R) rfl rfl rfl (Nat.le_of_ble_eq_true rfl) ⟨Nat.le_of_ble_eq_true rfl, Nat.le_of_ble_eq_true rfl⟩ ⟨Nat.le_of_ble_eq_true rfl, Nat.le_of_ble_eq_true rfl⟩ dX4_lay_44 ?_
        clear G; intro r_ w1 H locs hp G
        obtain ⟨hr_, R⟩ := hp
        subst r_
        rw [if_neg (show ¬ ((2 : Int32) = 7) by decide)] at R
        refine lv_i2l (v := (Int32.toInt64 0)) hx hb dX4_lay_47 rfl ?_
        refine r_long S hret hlk G (Nat.le_of_ble_eq_true rfl) (Nat.le_of_ble_eq_true rfl) dX4_lay_48 ?_
        have g9 : (1 : Int32) < so r2 := q4.elim (fun z => absurd z (fun z => so_in (Ks r2 hr2) (Or.inl z))) id
        have yk1 := tin_e ek1 hk1 (show n ≤ 1000 by omega)
        have zk1 := cn_e ek1 (show k1 < 1000 by omega)
        have qr2 := nm1 (show r2 < 100000 by omega)
        refine ⟨by simp only [S_lay, yk1, zk1, er2, qr2, cn_nI (show r2 < 2 ^ 31 by omega), q4, g9, s_tell, put_lk, put_vs, put_hd, put_it, ↓reduceIte, Bool.false_eq_true, pk_us, z64, show ¬ (1 : Int32) < 0 by decide], ?_⟩
        simp only [S_lay, yk1, zk1, er2, qr2, cn_nI (show r2 < 2 ^ 31 by omega), q4, g9, s_tell, put_lk, put_vs, put_hd, put_it, ↓reduceIte, Bool.false_eq_true, pk_us, z64, show ¬ (1 : Int32) < 0 by decide]
        exact ⟨_, _, _, _, _, _, _, _, _, _, R⟩
      rcases tin_c (cn (sz r2)) k (Nat.le_trans (sz_le (Kz r2 hr2)) (by decide)) with ⟨tk5, ok5⟩ | ⟨k5, hk5, ek5⟩
      · skip
        refine g_Si (n := 4) (rest := []) S G hl (c_X4_againstItem_y l R hr2 (sz_le (Kz r2 hr2)) 0 1 k) gX4_lay_X4_againstItem rfl (by decide +kernel) rfl rfl (Nat.le_of_ble_eq_true rfl) ⟨Nat.le_of_ble_eq_true rfl, Nat.le_of_ble_eq_true rfl⟩ ⟨Nat.le_of_ble_eq_true rfl, Nat.le_of_ble_eq_true rfl⟩ dX4_lay_31 ?_
        clear G; intro r_ w1 H locs hp G
        obtain ⟨rfl, hq_⟩ := hp
        simp only [q4, tk5, ↓reduceIte, Bool.false_eq_true] at hq_
        subst hq_
        refine lv_istore (lv' := [(7, .int 3), (6, .ref (Rw r2)), (5, .ref (T k1)), (0, .ref x), (1, .int t), (2, .int k), (3, .long v)]) hx hb dX4_lay_34 hl (by decide) rfl (fun ls hl => ?_)
        refine lv_iload hx hb dX4_lay_36 (lv_at hl 0 rfl) ?_
        refine lv_if_eq (tgt := 49) hx hb dX4_lay_38 (by decide) (fun c7 => absurd c7 (by decide)) (fun c7 => ?_)
        refine lv_aload_n hx hb dX4_lay_41 rfl (lv_at hl 3 rfl) ?_
        refine lv_iload hx hb dX4_lay_42 (lv_at hl 0 rfl) ?_
        refine g_Vi (n := 1) (rest := []) S G hl (c_X4_refuse l R (j := 3) (o := 3) rfl (by decide)) gX4_lay_X4_refuse rfl (by decide +kernel) (Rc_x R) rfl rfl rfl (Nat.le_of_ble_eq_true rfl) ⟨Nat.le_of_ble_eq_true rfl, Nat.le_of_ble_eq_true rfl⟩ ⟨Nat.le_of_ble_eq_true rfl, Nat.le_of_ble_eq_true rfl⟩ dX4_lay_44 ?_
        clear G; intro r_ w1 H locs hp G
        obtain ⟨hr_, R⟩ := hp
        subst r_
        rw [if_neg (show ¬ ((3 : Int32) = 7) by decide)] at R
        refine lv_i2l (v := (Int32.toInt64 0)) hx hb dX4_lay_47 rfl ?_
        refine r_long S hret hlk G (Nat.le_of_ble_eq_true rfl) (Nat.le_of_ble_eq_true rfl) dX4_lay_48 ?_
        have g9 : ¬ (1 : Int32) < so r2 := fun z => q4 (Or.inr z)
        have yk1 := tin_e ek1 hk1 (show n ≤ 1000 by omega)
        have zk1 := cn_e ek1 (show k1 < 1000 by omega)
        have qr2 := nm1 (show r2 < 100000 by omega)
        refine ⟨by simp only [S_lay, yk1, zk1, er2, qr2, cn_nI (show r2 < 2 ^ 31 by omega), q4, tk5, g9, s_tell, put_lk, put_vs, put_hd, put_it, ↓reduceIte, Bool.false_eq_true, pk_us, z64, show ¬ (1 : Int32) < 0 by decide], ?_⟩
        simp only [S_lay, yk1, zk1, er2, qr2, cn_nI (show r2 < 2 ^ 31 by omega), q4, tk5, g9, s_tell, put_lk, put_vs, put_hd, put_it, ↓reduceIte, Bool.false_eq_true, pk_us, z64, show ¬ (1 : Int32) < 0 by decide]
        exact ⟨_, _, _, _, _, _, _, _, _, _, R⟩
      · skip
        refine g_Si (n := 4) (rest := []) S G hl (c_X4_againstItem_y l R hr2 (sz_le (Kz r2 hr2)) 0 1 k) gX4_lay_X4_againstItem rfl (by decide +kernel) rfl rfl (Nat.le_of_ble_eq_true rfl) ⟨Nat.le_of_ble_eq_true rfl, Nat.le_of_ble_eq_true rfl⟩ ⟨Nat.le_of_ble_eq_true rfl, Nat.le_of_ble_eq_true rfl⟩ dX4_lay_31 ?_
        clear G; intro r_ w1 H locs hp G
        obtain ⟨rfl, hq_⟩ := hp
        have yk5 := tin_e ek5 hk5 (Nat.le_trans (sz_le (Kz r2 hr2)) (by decide))
        have zk5 := cn_e ek5 (Nat.lt_of_lt_of_le hk5 (Nat.le_trans (sz_le (Kz r2 hr2)) (by decide)))
        simp only [q4, yk5, ↓reduceIte, Bool.false_eq_true] at hq_
        subst hq_
        refine lv_istore (lv' := [(7, .int 0), (6, .ref (Rw r2)), (5, .ref (T k1)), (0, .ref x), (1, .int t), (2, .int k), (3, .long v)]) hx hb dX4_lay_34 hl (by decide) rfl (fun ls hl => ?_)
        refine lv_iload hx hb dX4_lay_36 (lv_at hl 0 rfl) ?_
        refine lv_if_eq (tgt := 49) hx hb dX4_lay_38 (by decide) (fun c8 => ?_) (fun c8 => absurd (by decide) c8)
        refine lv_aload_n hx hb dX4_lay_49 rfl (lv_at hl 3 rfl) ?_
        refine lv_iconst (v := 0) hx hb dX4_lay_50 (by decide) ?_
        refine g_Vi (n := 1) (rest := []) S G hl (c_X4_tell l R (j := 0) (o := 0) rfl (by decide)) gX4_lay_X4_tell rfl (by decide +kernel) (Rc_x R) rfl rfl rfl (Nat.le_of_ble_eq_true rfl) ⟨Nat.le_of_ble_eq_true rfl, Nat.le_of_ble_eq_true rfl⟩ ⟨Nat.le_of_ble_eq_true rfl, Nat.le_of_ble_eq_true rfl⟩ dX4_lay_51 ?_
        clear G; intro r_ w1 H locs hp G
        obtain ⟨hr_, R⟩ := hp
        subst r_
        rw [if_neg (show ¬ ((0 : Int32) = 7) by decide)] at R
        refine lv_pop hx hb dX4_lay_54 rfl ?_
        refine lv_aload hx hb dX4_lay_55 (lv_at hl 1 rfl) ?_
        refine lv_iload_n hx hb dX4_lay_57 rfl (lv_at hl 5 rfl) ?_
        refine lv_aload hx hb dX4_lay_58 (lv_at hl 1 rfl) ?_
        refine g_get S G (Rc_Rw R r2 hr2) rfl (by decide +kernel) 0 (by decide) (by decide +kernel) rfl dX4_lay_60 ?_
        refine lv_if_ne (tgt := 72) hx hb dX4_lay_63 (by decide) (fun c9 => ?_) (fun c9 => ?_)
        · skip
          refine lv_lload_n hx hb dX4_lay_72 rfl (lv_at hl 6 rfl) ?_
          refine g_Vl (n := 2) (rest := []) S G hl (c_X0_put l (Rc_Rw R r2 hr2) (Rc_Ia R r2 hr2) ek5 hk5 (Nat.le_trans (sz_le (Kz r2 hr2)) (by decide)) v) gX4_lay_X0_put rfl (by decide +kernel) (Rc_Rw R r2 hr2) rfl rfl rfl (Nat.le_of_ble_eq_true rfl) ⟨Nat.le_of_ble_eq_true rfl, Nat.le_of_ble_eq_true rfl⟩ ⟨Nat.le_of_ble_eq_true rfl, Nat.le_of_ble_eq_true rfl⟩ dX4_lay_73 ?_
          clear G; intro r_ w1 H locs hp G
          obtain ⟨rfl, rfl⟩ := hp
          have fj := Rc_F R r2 hr2 k5 hk5
          obtain ⟨w, R, G⟩ := Rc_ex (Rc_p_put R hr2 Kz hk5 v) G
          refine r_long S hret hlk G (Nat.le_of_ble_eq_true rfl) (Nat.le_of_ble_eq_true rfl) dX4_lay_76 ?_
          have g9 : ¬ (1 : Int32) < so r2 := fun z => q4 (Or.inr z)
          have yk1 := tin_e ek1 hk1 (show n ≤ 1000 by omega)
          have zk1 := cn_e ek1 (show k1 < 1000 by omega)
          have qr2 := nm1 (show r2 < 100000 by omega)
          refine ⟨by simp only [S_lay, yk1, zk1, er2, qr2, cn_nI (show r2 < 2 ^ 31 by omega), q4, yk5, zk5, fj, g9, c9, s_tell, put_lk, put_vs, put_hd, put_it, ↓reduceIte, Bool.false_eq_true, pk_us, z64, show ¬ (1 : Int32) < 0 by decide], ?_⟩
          simp only [S_lay, yk1, zk1, er2, qr2, cn_nI (show r2 < 2 ^ 31 by omega), q4, yk5, zk5, fj, g9, c9, s_tell, put_lk, put_vs, put_hd, put_it, ↓reduceIte, Bool.false_eq_true, pk_us, z64, show ¬ (1 : Int32) < 0 by decide]
          exact ⟨_, _, _, _, _, _, _, _, _, _, R⟩
        · skip
          refine lv_lload_n hx hb dX4_lay_66 rfl (lv_at hl 6 rfl) ?_
          refine lv_l2i (v := (Int64.toInt32 v)) hx hb dX4_lay_67 rfl ?_
          refine lv_i2l (v := (Int32.toInt64 (Int64.toInt32 v))) hx hb dX4_lay_68 rfl ?_
          refine lv_goto (tgt := 73) hx hb dX4_lay_69 (by decide) ?_
          refine g_Vl (n := 2) (rest := []) S G hl (c_X0_put l (Rc_Rw R r2 hr2) (Rc_Ia R r2 hr2) ek5 hk5 (Nat.le_trans (sz_le (Kz r2 hr2)) (by decide)) (Int32.toInt64 (Int64.toInt32 v))) gX4_lay_X0_put rfl (by decide +kernel) (Rc_Rw R r2 hr2) rfl rfl rfl (Nat.le_of_ble_eq_true rfl) ⟨Nat.le_of_ble_eq_true rfl, Nat.le_of_ble_eq_true rfl⟩ ⟨Nat.le_of_ble_eq_true rfl, Nat.le_of_ble_eq_true rfl⟩ dX4_lay_73 ?_
          clear G; intro r_ w1 H locs hp G
          obtain ⟨rfl, rfl⟩ := hp
          have fj := Rc_F R r2 hr2 k5 hk5
          obtain ⟨w, R, G⟩ := Rc_ex (Rc_p_put R hr2 Kz hk5 (Int32.toInt64 (Int64.toInt32 v))) G
          refine r_long S hret hlk G (Nat.le_of_ble_eq_true rfl) (Nat.le_of_ble_eq_true rfl) dX4_lay_76 ?_
          have g9 : ¬ (1 : Int32) < so r2 := fun z => q4 (Or.inr z)
          have yk1 := tin_e ek1 hk1 (show n ≤ 1000 by omega)
          have zk1 := cn_e ek1 (show k1 < 1000 by omega)
          have qr2 := nm1 (show r2 < 100000 by omega)
          refine ⟨by simp only [S_lay, yk1, zk1, er2, qr2, cn_nI (show r2 < 2 ^ 31 by omega), q4, yk5, zk5, fj, g9, c9, s_tell, put_lk, put_vs, put_hd, put_it, ↓reduceIte, Bool.false_eq_true, pk_us, z64, show ¬ (1 : Int32) < 0 by decide], ?_⟩
          simp only [S_lay, yk1, zk1, er2, qr2, cn_nI (show r2 < 2 ^ 31 by omega), q4, yk5, zk5, fj, g9, c9, s_tell, put_lk, put_vs, put_hd, put_it, ↓reduceIte, Bool.false_eq_true, pk_us, z64, show ¬ (1 : Int32) < 0 by decide]
          exact ⟨_, _, _, _, _, _, _, _, _, _, R⟩
