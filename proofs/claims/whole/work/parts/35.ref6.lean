/-! THE REFERENCE: run, either, gather, keep -/
set_option maxHeartbeats 4000000 in
set_option maxRecDepth 100000 in
theorem c_X5_number (l : Launch) {E : EV} {w : wo} {m aC aV aL aH aS aZ aI aT : Nat} {n : Nat} {cl vs lk hd : Nat → Int32} {nr : Nat} {so sz : Nat → Int32} {it : Nat → Int64} {oc ow bg dp : Int32} {td : Nat → Int32} {to rs nx : Int32} (R : Rm E w (m, aC, aV, aL, aH, aS, aZ, aI, aT) (n, cl, vs, lk, hd, nr, so, sz, it, oc, ow, bg, dp, td) (to, rs, nx)) (K : Gd (n, cl, vs, lk, hd, nr, so, sz, it, oc, ow, bg, dp, td)) {t : Int32} {a : Nat} (ea : t = nI a) (ha : a < n) (lim : Int32) : ct_i l E yX5_number wsX5_number 3 0 0 [.ref m, .int t, .int lim] w (fun q w' => q = (nm cl vs lk hd so sz it lim 30 a bg).1 ∧ ∃ to2 rs2 nx2 : Int32, Rm E w' (m, aC, aV, aL, aH, aS, aZ, aI, aT) (n, cl, vs, lk, hd, nr, so, sz, it, oc, ow, (nm cl vs lk hd so sz it lim 30 a bg).2.2.1, (nm cl vs lk hd so sz it lim 30 a bg).2.2.2.1, td) (to2, rs2, nx2) ∧ ((nm cl vs lk hd so sz it lim 30 a bg).1 = 0 → rs2 = (nm cl vs lk hd so sz it lim 30 a bg).2.1) ∧ ((nm cl vs lk hd so sz it lim 30 a bg).1 = 7 → to2 = (nm cl vs lk hd so sz it lim 30 a bg).2.2.2.2)) := by
  intro zz
  refine wo_body (Qc := fun A => va_Qi _ (wo_B E A) A) (ret := (some .int)) (by decide) rfl (Nat.le_of_ble_eq_true rfl) ?_
  intro p_ e_ s_ m_ args_ below_ meth_ code_ A_ ls S hret hlk hnm G hl
  have hl : lv_has ls 7 [(0, .ref m), (1, .int t), (2, .int lim)] := hl
  have hx := S.1
  have hb := S.2.1
  refine lv_iconst (v := 0) hx hb dX5_number_0 (by decide) ?_
  refine lv_istore_n (lv' := [(3, .int 0), (0, .ref m), (1, .int t), (2, .int lim)]) hx hb dX5_number_1 rfl hl (by decide) rfl (fun ls hl => ?_)
  refine lv_iconst (v := 0) hx hb dX5_number_2 (by decide) ?_
  refine lv_istore (lv' := [(4, .int 0), (3, .int 0), (0, .ref m), (1, .int t), (2, .int lim)]) hx hb dX5_number_3 hl (by decide) rfl (fun ls hl => ?_)
  refine lv_iload_n hx hb dX5_number_5 rfl (lv_at hl 3 rfl) ?_
  refine lv_istore (lv' := [(5, .int t), (4, .int 0), (3, .int 0), (0, .ref m), (1, .int t), (2, .int lim)]) hx hb dX5_number_6 hl (by decide) rfl (fun ls hl => ?_)
  refine lp_number S K ⟨Nat.le_of_ble_eq_true rfl, Nat.le_of_ble_eq_true rfl⟩ ⟨Nat.le_of_ble_eq_true rfl, Nat.le_of_ble_eq_true rfl⟩ 30 0 a bg _ _ _ _ 0 0 t (by omega) rfl ha ea (fun pc ls q to2 rs2 nx2 w H locs h1 h2 R h3 h4 G => ?_) _ _ _ R G ls (lv_sub hl [3, 4, 5, 2, 1, 0] rfl)
  exact r_int S hret hlk G rfl (Nat.le_of_ble_eq_true rfl) (Nat.le_of_ble_eq_true rfl) h1 ⟨h2, to2, rs2, nx2, R, fun z => by rw [h3 z, Int32.add_zero], h4⟩

theorem upd_self {f : Nat → Int32} {k : Nat} : upd f k (f k + 0) = f := by
  funext j
  by_cases h : j = k
  · subst h; rw [pk_us, Int32.add_zero]
  · rw [pk_un h]
theorem ow_r {o t t2 ow : Int32} (h : o = 7 → t = t2) : (if o = 7 then t else ow) = if o = 7 then t2 else ow := by
  by_cases z : o = 7
  · rw [if_pos z, if_pos z, h z]
  · rw [if_neg z, if_neg z]
set_option maxHeartbeats 4000000 in
set_option maxRecDepth 100000 in
theorem M_run (l : Launch) {E : EV} {w : wo} {m : Nat} {σ : ST} (X : RmX E w m σ) (K : Gd σ) (t : Int32) (li : Int32) : ct_i l E yX5_run wsX5_run 4 0 0 [.ref m, .int t, .int li] w (fun r w' => r = (S_run t li σ).1 ∧ RmX E w' m (S_run t li σ).2) := by
  obtain ⟨aC, aV, aL, aH, aS, aZ, aI, aT, ⟨to, rs, nx⟩, R⟩ := X
  obtain ⟨n, cl, vs, lk, hd, nr, so, sz, it, oc, ow, bg, dp, td⟩ := σ
  have K9 := K
  obtain ⟨Kn, Kr, Kc, Kl, Kh, Ks, Kz, Ki⟩ := K9
  intro zz
  refine wo_body (Qc := fun A => va_Qi _ (wo_B E A) A) (ret := (some .int)) (by decide) rfl (Nat.le_of_ble_eq_true rfl) ?_
  intro p_ e_ s_ m_ args_ below_ meth_ code_ A_ ls S hret hlk hnm G hl
  have hl : lv_has ls 4 [(0, .ref m), (1, .int t), (2, .int li)] := hl
  have hx := S.1
  have hb := S.2.1
  refine lv_aload_n hx hb dX5_run_0 rfl (lv_at hl 0 rfl) ?_
  refine lv_iload_n hx hb dX5_run_1 rfl (lv_at hl 1 rfl) ?_
  rcases tin_c n t (by omega) with ⟨tk1, ok1⟩ | ⟨k1, hk1, ek1⟩
  · skip
    refine g_Vi (n := 1) (rest := []) S G hl (c_X5_isThing l R Kn t) gX5_run_X5_isThing rfl (by decide +kernel) (Rm_m R) rfl rfl rfl (Nat.le_of_ble_eq_true rfl) ⟨Nat.le_of_ble_eq_true rfl, Nat.le_of_ble_eq_true rfl⟩ ⟨Nat.le_of_ble_eq_true rfl, Nat.le_of_ble_eq_true rfl⟩ dX5_run_2 ?_
    clear G; intro r_ w1 H locs hp G
    obtain ⟨rfl, hq_⟩ := hp
    rw [tk1] at hq_
    simp only [Bool.false_eq_true, ↓reduceIte] at hq_
    subst hq_
    refine lv_if_eq (tgt := 20) hx hb dX5_run_5 (by decide) (fun c2 => ?_) (fun c2 => absurd (by decide) c2)
    refine lv_ldc hx hb S.2.2.2.1 (S.2.2.2.2 (.constant RX5 48 (-2000000001)) (by decide +kernel)) dX5_run_20 ?_
    refine r_int S hret hlk G rfl (Nat.le_of_ble_eq_true rfl) (Nat.le_of_ble_eq_true rfl) dX5_run_22 ?_
    refine ⟨by simp only [S_run, tk1, n_of, lk_of, vs_of, hd_of, nmS, s_end, put_vs, put_it, ↓reduceIte, Bool.false_eq_true, pk_us, and_self], ?_⟩
    simp only [S_run, tk1, n_of, lk_of, vs_of, hd_of, nmS, s_end, put_vs, put_it, ↓reduceIte, Bool.false_eq_true, pk_us, and_self]
    exact ⟨_, _, _, _, _, _, _, _, _, R⟩
  · skip
    refine g_Vi (n := 1) (rest := []) S G hl (c_X5_isThing l R Kn t) gX5_run_X5_isThing rfl (by decide +kernel) (Rm_m R) rfl rfl rfl (Nat.le_of_ble_eq_true rfl) ⟨Nat.le_of_ble_eq_true rfl, Nat.le_of_ble_eq_true rfl⟩ ⟨Nat.le_of_ble_eq_true rfl, Nat.le_of_ble_eq_true rfl⟩ dX5_run_2 ?_
    clear G; intro r_ w1 H locs hp G
    obtain ⟨rfl, hq_⟩ := hp
    rw [if_pos (tin_e ek1 hk1 (by omega))] at hq_
    subst hq_
    refine lv_if_eq (tgt := 20) hx hb dX5_run_5 (by decide) (fun c3 => absurd c3 (by decide)) (fun c3 => ?_)
    refine lv_iload_n hx hb dX5_run_8 rfl (lv_at hl 2 rfl) ?_
    refine lv_i2l (v := (Int32.toInt64 li)) hx hb dX5_run_9 rfl ?_
    refine lv_lconst (v := 1) hx hb dX5_run_10 (by decide) ?_
    refine lv_ldc2 hx hb S.2.2.2.1 (S.2.2.2.2 (.constantLong RX5 109 (100)) (by decide +kernel)) dX5_run_11 ?_
    by_cases i4 : lin li = true
    · skip
      refine g_Si (n := 3) (rest := []) S G hl (c_X5_in l (Int32.toInt64 li) 1 (100)) gX5_run_X5_in rfl (by decide +kernel) rfl rfl (Nat.le_of_ble_eq_true rfl) ⟨Nat.le_of_ble_eq_true rfl, Nat.le_of_ble_eq_true rfl⟩ ⟨Nat.le_of_ble_eq_true rfl, Nat.le_of_ble_eq_true rfl⟩ dX5_run_14 ?_
      clear G; intro r_ w1 H locs hp G
      obtain ⟨rfl, hq_⟩ := hp
      rw [if_pos (show (1 : Int64) ≤ Int32.toInt64 li ∧ Int32.toInt64 li ≤ 100 from (in_lim li).mpr i4)] at hq_
      subst hq_
      refine lv_if_ne (tgt := 23) hx hb dX5_run_17 (by decide) (fun c5 => ?_) (fun c5 => absurd c5 (by decide))
      refine lv_aload_n hx hb dX5_run_23 rfl (lv_at hl 0 rfl) ?_
      refine lv_iconst (v := 0) hx hb dX5_run_24 (by decide) ?_
      refine g_put (fs' := [.int (nI n), .ref aC, .ref aV, .ref aL, .ref aH, .int (nI nr), .ref aS, .ref aZ, .ref aI, .int oc, .int ow, .int 0, .int dp, .ref aT, .int to, .int rs, .int nx]) (ty := .int) (v := .int 0) S G (Rm_m R) rfl tyX5 tyX5_ok nmX5 (by decide +kernel) 11 (by decide) (by decide +kernel) rfl (by decide +kernel) rfl rfl (Nat.le_of_ble_eq_true rfl) rfl dX5_run_25 (fun H locs G => ?_)
      obtain ⟨w, R, G⟩ := Rm_ex (Rm_p_bg R 0) G
      refine lv_aload_n hx hb dX5_run_28 rfl (lv_at hl 0 rfl) ?_
      refine lv_iload_n hx hb dX5_run_29 rfl (lv_at hl 1 rfl) ?_
      refine lv_iload_n hx hb dX5_run_30 rfl (lv_at hl 2 rfl) ?_
      refine g_Vi (n := 2) (rest := []) S G hl (c_X5_number l R K ek1 hk1 li) gX5_run_X5_number rfl (by decide +kernel) (Rm_m R) rfl rfl rfl (Nat.le_of_ble_eq_true rfl) ⟨Nat.le_of_ble_eq_true rfl, Nat.le_of_ble_eq_true rfl⟩ ⟨Nat.le_of_ble_eq_true rfl, Nat.le_of_ble_eq_true rfl⟩ dX5_run_31 ?_
      clear G; intro r_ w1 H locs hp G
      have hoq6 := nm_o (cl := cl) (vs := vs) (lk := lk) (hd := hd) (so := so) (sz := sz) (it := it) (lim := li) 30 k1 0
      generalize hQq6 : nm cl vs lk hd so sz it li 30 k1 0 = q6 at hp hoq6
      obtain ⟨oq6, rq6, bq6, dq6, tq6⟩ := q6
      obtain ⟨hr_, toq6, rsq6, nxq6, R, hsq6, htq6⟩ := hp
      subst r_
      dsimp only at hsq6 htq6 R hoq6 ⊢
      obtain ⟨jq6, hjq6, ejq6⟩ := hoq6
      refine lv_istore_n (lv' := [(3, .int oq6), (0, .ref m), (1, .int t), (2, .int li)]) hx hb dX5_run_34 rfl hl (by decide) rfl (fun ls hl => ?_)
      refine lv_aload_n hx hb dX5_run_35 rfl (lv_at hl 1 rfl) ?_
      refine lv_iload_n hx hb dX5_run_36 rfl (lv_at hl 0 rfl) ?_
      refine lv_aload_n hx hb dX5_run_37 rfl (lv_at hl 1 rfl) ?_
      refine g_get S G (Rm_m R) rfl (by decide +kernel) 15 (by decide) (by decide +kernel) rfl dX5_run_38 ?_
      refine g_Vi (n := 2) (rest := []) S G hl (c_X5_ended l R (o := oq6) ejq6 hjq6 rsq6) gX5_run_X5_ended rfl (by decide +kernel) (Rm_m R) rfl rfl rfl (Nat.le_of_ble_eq_true rfl) ⟨Nat.le_of_ble_eq_true rfl, Nat.le_of_ble_eq_true rfl⟩ ⟨Nat.le_of_ble_eq_true rfl, Nat.le_of_ble_eq_true rfl⟩ dX5_run_41 ?_
      clear G; intro r_ w1 H locs hp G
      obtain ⟨hr_, R⟩ := hp
      subst r_
      refine r_int S hret hlk G rfl (Nat.le_of_ble_eq_true rfl) (Nat.le_of_ble_eq_true rfl) dX5_run_44 ?_
      have yk1 := tin_e ek1 hk1 (show n ≤ 1000 by omega)
      have zk1 := cn_e ek1 (show k1 < 1000 by omega)
      rw [ow_r htq6] at R
      refine ⟨by
        simp only [S_run, yk1, zk1, i4, hQq6, n_of, lk_of, vs_of, hd_of, nmS, s_end, put_vs, put_it, ↓reduceIte, Bool.false_eq_true, pk_us, and_self]
        by_cases z : oq6 = 0
        · rw [if_pos z, if_pos z, hsq6 z]
        · rw [if_neg z, if_neg z], ?_⟩
      simp only [S_run, yk1, zk1, i4, hQq6, n_of, lk_of, vs_of, hd_of, nmS, s_end, put_vs, put_it, ↓reduceIte, Bool.false_eq_true, pk_us, and_self]
      exact ⟨_, _, _, _, _, _, _, _, _, R⟩
    · skip
      refine g_Si (n := 3) (rest := []) S G hl (c_X5_in l (Int32.toInt64 li) 1 (100)) gX5_run_X5_in rfl (by decide +kernel) rfl rfl (Nat.le_of_ble_eq_true rfl) ⟨Nat.le_of_ble_eq_true rfl, Nat.le_of_ble_eq_true rfl⟩ ⟨Nat.le_of_ble_eq_true rfl, Nat.le_of_ble_eq_true rfl⟩ dX5_run_14 ?_
      clear G; intro r_ w1 H locs hp G
      obtain ⟨rfl, hq_⟩ := hp
      rw [if_neg (fun z : (1 : Int64) ≤ Int32.toInt64 li ∧ Int32.toInt64 li ≤ 100 => i4 ((in_lim li).mp z))] at hq_
      subst hq_
      refine lv_if_ne (tgt := 23) hx hb dX5_run_17 (by decide) (fun c7 => absurd (by decide) c7) (fun c7 => ?_)
      refine lv_ldc hx hb S.2.2.2.1 (S.2.2.2.2 (.constant RX5 48 (-2000000001)) (by decide +kernel)) dX5_run_20 ?_
      refine r_int S hret hlk G rfl (Nat.le_of_ble_eq_true rfl) (Nat.le_of_ble_eq_true rfl) dX5_run_22 ?_
      have yk1 := tin_e ek1 hk1 (show n ≤ 1000 by omega)
      have zk1 := cn_e ek1 (show k1 < 1000 by omega)
      refine ⟨by simp only [S_run, yk1, zk1, i4, n_of, lk_of, vs_of, hd_of, nmS, s_end, put_vs, put_it, ↓reduceIte, Bool.false_eq_true, pk_us, and_self], ?_⟩
      simp only [S_run, yk1, zk1, i4, n_of, lk_of, vs_of, hd_of, nmS, s_end, put_vs, put_it, ↓reduceIte, Bool.false_eq_true, pk_us, and_self]
      exact ⟨_, _, _, _, _, _, _, _, _, R⟩

set_option maxHeartbeats 4000000 in
set_option maxRecDepth 100000 in
theorem M_either (l : Launch) {E : EV} {w : wo} {m : Nat} {σ : ST} (X : RmX E w m σ) (K : Gd σ) (t : Int32) (o : Int32) (li : Int32) : ct_i l E yX5_either wsX5_either 4 0 0 [.ref m, .int t, .int o, .int li] w (fun r w' => r = (S_either t o li σ).1 ∧ RmX E w' m (S_either t o li σ).2) := by
  obtain ⟨aC, aV, aL, aH, aS, aZ, aI, aT, ⟨to, rs, nx⟩, R⟩ := X
  obtain ⟨n, cl, vs, lk, hd, nr, so, sz, it, oc, ow, bg, dp, td⟩ := σ
  have K9 := K
  obtain ⟨Kn, Kr, Kc, Kl, Kh, Ks, Kz, Ki⟩ := K9
  intro zz
  refine wo_body (Qc := fun A => va_Qi _ (wo_B E A) A) (ret := (some .int)) (by decide) rfl (Nat.le_of_ble_eq_true rfl) ?_
  intro p_ e_ s_ m_ args_ below_ meth_ code_ A_ ls S hret hlk hnm G hl
  have hl : lv_has ls 5 [(0, .ref m), (1, .int t), (2, .int o), (3, .int li)] := hl
  have hx := S.1
  have hb := S.2.1
  refine lv_aload_n hx hb dX5_either_0 rfl (lv_at hl 0 rfl) ?_
  refine lv_iload_n hx hb dX5_either_1 rfl (lv_at hl 1 rfl) ?_
  rcases tin_c n t (by omega) with ⟨tk1, ok1⟩ | ⟨k1, hk1, ek1⟩
  · skip
    refine g_Vi (n := 1) (rest := []) S G hl (c_X5_isThing l R Kn t) gX5_either_X5_isThing rfl (by decide +kernel) (Rm_m R) rfl rfl rfl (Nat.le_of_ble_eq_true rfl) ⟨Nat.le_of_ble_eq_true rfl, Nat.le_of_ble_eq_true rfl⟩ ⟨Nat.le_of_ble_eq_true rfl, Nat.le_of_ble_eq_true rfl⟩ dX5_either_2 ?_
    clear G; intro r_ w1 H locs hp G
    obtain ⟨rfl, hq_⟩ := hp
    rw [tk1] at hq_
    simp only [Bool.false_eq_true, ↓reduceIte] at hq_
    subst hq_
    refine lv_if_eq (tgt := 28) hx hb dX5_either_5 (by decide) (fun c2 => ?_) (fun c2 => absurd (by decide) c2)
    refine lv_ldc hx hb S.2.2.2.1 (S.2.2.2.2 (.constant RX5 48 (-2000000001)) (by decide +kernel)) dX5_either_28 ?_
    refine r_int S hret hlk G rfl (Nat.le_of_ble_eq_true rfl) (Nat.le_of_ble_eq_true rfl) dX5_either_30 ?_
    refine ⟨by simp only [S_either, tk1, n_of, lk_of, vs_of, hd_of, nmS, s_end, put_vs, put_it, ↓reduceIte, Bool.false_eq_true, pk_us, and_self], ?_⟩
    simp only [S_either, tk1, n_of, lk_of, vs_of, hd_of, nmS, s_end, put_vs, put_it, ↓reduceIte, Bool.false_eq_true, pk_us, and_self]
    exact ⟨_, _, _, _, _, _, _, _, _, R⟩
  · skip
    refine g_Vi (n := 1) (rest := []) S G hl (c_X5_isThing l R Kn t) gX5_either_X5_isThing rfl (by decide +kernel) (Rm_m R) rfl rfl rfl (Nat.le_of_ble_eq_true rfl) ⟨Nat.le_of_ble_eq_true rfl, Nat.le_of_ble_eq_true rfl⟩ ⟨Nat.le_of_ble_eq_true rfl, Nat.le_of_ble_eq_true rfl⟩ dX5_either_2 ?_
    clear G; intro r_ w1 H locs hp G
    obtain ⟨rfl, hq_⟩ := hp
    rw [if_pos (tin_e ek1 hk1 (by omega))] at hq_
    subst hq_
    refine lv_if_eq (tgt := 28) hx hb dX5_either_5 (by decide) (fun c3 => absurd c3 (by decide)) (fun c3 => ?_)
    refine lv_aload_n hx hb dX5_either_8 rfl (lv_at hl 0 rfl) ?_
    refine lv_iload_n hx hb dX5_either_9 rfl (lv_at hl 2 rfl) ?_
    rcases tin_c n o (by omega) with ⟨tk4, ok4⟩ | ⟨k4, hk4, ek4⟩
    · skip
      refine g_Vi (n := 1) (rest := []) S G hl (c_X5_isThing l R Kn o) gX5_either_X5_isThing rfl (by decide +kernel) (Rm_m R) rfl rfl rfl (Nat.le_of_ble_eq_true rfl) ⟨Nat.le_of_ble_eq_true rfl, Nat.le_of_ble_eq_true rfl⟩ ⟨Nat.le_of_ble_eq_true rfl, Nat.le_of_ble_eq_true rfl⟩ dX5_either_10 ?_
      clear G; intro r_ w1 H locs hp G
      obtain ⟨rfl, hq_⟩ := hp
      rw [tk4] at hq_
      simp only [Bool.false_eq_true, ↓reduceIte] at hq_
      subst hq_
      refine lv_if_eq (tgt := 28) hx hb dX5_either_13 (by decide) (fun c5 => ?_) (fun c5 => absurd (by decide) c5)
      refine lv_ldc hx hb S.2.2.2.1 (S.2.2.2.2 (.constant RX5 48 (-2000000001)) (by decide +kernel)) dX5_either_28 ?_
      refine r_int S hret hlk G rfl (Nat.le_of_ble_eq_true rfl) (Nat.le_of_ble_eq_true rfl) dX5_either_30 ?_
      have yk1 := tin_e ek1 hk1 (show n ≤ 1000 by omega)
      have zk1 := cn_e ek1 (show k1 < 1000 by omega)
      refine ⟨by simp only [S_either, yk1, zk1, tk4, n_of, lk_of, vs_of, hd_of, nmS, s_end, put_vs, put_it, ↓reduceIte, Bool.false_eq_true, pk_us, and_self], ?_⟩
      simp only [S_either, yk1, zk1, tk4, n_of, lk_of, vs_of, hd_of, nmS, s_end, put_vs, put_it, ↓reduceIte, Bool.false_eq_true, pk_us, and_self]
      exact ⟨_, _, _, _, _, _, _, _, _, R⟩
    · skip
      refine g_Vi (n := 1) (rest := []) S G hl (c_X5_isThing l R Kn o) gX5_either_X5_isThing rfl (by decide +kernel) (Rm_m R) rfl rfl rfl (Nat.le_of_ble_eq_true rfl) ⟨Nat.le_of_ble_eq_true rfl, Nat.le_of_ble_eq_true rfl⟩ ⟨Nat.le_of_ble_eq_true rfl, Nat.le_of_ble_eq_true rfl⟩ dX5_either_10 ?_
      clear G; intro r_ w1 H locs hp G
      obtain ⟨rfl, hq_⟩ := hp
      rw [if_pos (tin_e ek4 hk4 (by omega))] at hq_
      subst hq_
      refine lv_if_eq (tgt := 28) hx hb dX5_either_13 (by decide) (fun c6 => absurd c6 (by decide)) (fun c6 => ?_)
      refine lv_iload_n hx hb dX5_either_16 rfl (lv_at hl 3 rfl) ?_
      refine lv_i2l (v := (Int32.toInt64 li)) hx hb dX5_either_17 rfl ?_
      refine lv_lconst (v := 1) hx hb dX5_either_18 (by decide) ?_
      refine lv_ldc2 hx hb S.2.2.2.1 (S.2.2.2.2 (.constantLong RX5 109 (100)) (by decide +kernel)) dX5_either_19 ?_
      by_cases i7 : lin li = true
      · skip
        refine g_Si (n := 3) (rest := []) S G hl (c_X5_in l (Int32.toInt64 li) 1 (100)) gX5_either_X5_in rfl (by decide +kernel) rfl rfl (Nat.le_of_ble_eq_true rfl) ⟨Nat.le_of_ble_eq_true rfl, Nat.le_of_ble_eq_true rfl⟩ ⟨Nat.le_of_ble_eq_true rfl, Nat.le_of_ble_eq_true rfl⟩ dX5_either_22 ?_
        clear G; intro r_ w1 H locs hp G
        obtain ⟨rfl, hq_⟩ := hp
        rw [if_pos (show (1 : Int64) ≤ Int32.toInt64 li ∧ Int32.toInt64 li ≤ 100 from (in_lim li).mpr i7)] at hq_
        subst hq_
        refine lv_if_ne (tgt := 31) hx hb dX5_either_25 (by decide) (fun c8 => ?_) (fun c8 => absurd c8 (by decide))
        refine lv_aload_n hx hb dX5_either_31 rfl (lv_at hl 0 rfl) ?_
        refine lv_iconst (v := 0) hx hb dX5_either_32 (by decide) ?_
        refine g_put (fs' := [.int (nI n), .ref aC, .ref aV, .ref aL, .ref aH, .int (nI nr), .ref aS, .ref aZ, .ref aI, .int oc, .int ow, .int 0, .int dp, .ref aT, .int to, .int rs, .int nx]) (ty := .int) (v := .int 0) S G (Rm_m R) rfl tyX5 tyX5_ok nmX5 (by decide +kernel) 11 (by decide) (by decide +kernel) rfl (by decide +kernel) rfl rfl (Nat.le_of_ble_eq_true rfl) rfl dX5_either_33 (fun H locs G => ?_)
        obtain ⟨w, R, G⟩ := Rm_ex (Rm_p_bg R 0) G
        refine lv_aload_n hx hb dX5_either_36 rfl (lv_at hl 0 rfl) ?_
        refine lv_iload_n hx hb dX5_either_37 rfl (lv_at hl 1 rfl) ?_
        refine lv_iload_n hx hb dX5_either_38 rfl (lv_at hl 3 rfl) ?_
        refine g_Vi (n := 2) (rest := []) S G hl (c_X5_number l R K ek1 hk1 li) gX5_either_X5_number rfl (by decide +kernel) (Rm_m R) rfl rfl rfl (Nat.le_of_ble_eq_true rfl) ⟨Nat.le_of_ble_eq_true rfl, Nat.le_of_ble_eq_true rfl⟩ ⟨Nat.le_of_ble_eq_true rfl, Nat.le_of_ble_eq_true rfl⟩ dX5_either_39 ?_
        clear G; intro r_ w1 H locs hp G
        have hoq9 := nm_o (cl := cl) (vs := vs) (lk := lk) (hd := hd) (so := so) (sz := sz) (it := it) (lim := li) 30 k1 0
        generalize hQq9 : nm cl vs lk hd so sz it li 30 k1 0 = q9 at hp hoq9
        obtain ⟨oq9, rq9, bq9, dq9, tq9⟩ := q9
        obtain ⟨hr_, toq9, rsq9, nxq9, R, hsq9, htq9⟩ := hp
        subst r_
        dsimp only at hsq9 htq9 R hoq9 ⊢
        obtain ⟨jq9, hjq9, ejq9⟩ := hoq9
        refine lv_istore (lv' := [(4, .int oq9), (0, .ref m), (1, .int t), (2, .int o), (3, .int li)]) hx hb dX5_either_42 hl (by decide) rfl (fun ls hl => ?_)
        refine lv_iload hx hb dX5_either_44 (lv_at hl 0 rfl) ?_
        refine lv_iconst (v := 1) hx hb dX5_either_46 (by decide) ?_
        refine lv_icmp_lt (tgt := 65) hx hb dX5_either_47 (by decide) (fun c10 => ?_) (fun c10 => ?_)
        · skip
          refine lv_aload_n hx hb dX5_either_65 rfl (lv_at hl 1 rfl) ?_
          refine lv_iload hx hb dX5_either_66 (lv_at hl 0 rfl) ?_
          refine lv_aload_n hx hb dX5_either_68 rfl (lv_at hl 1 rfl) ?_
          refine g_get S G (Rm_m R) rfl (by decide +kernel) 15 (by decide) (by decide +kernel) rfl dX5_either_69 ?_
          refine g_Vi (n := 2) (rest := []) S G hl (c_X5_ended l R (o := oq9) ejq9 hjq9 rsq9) gX5_either_X5_ended rfl (by decide +kernel) (Rm_m R) rfl rfl rfl (Nat.le_of_ble_eq_true rfl) ⟨Nat.le_of_ble_eq_true rfl, Nat.le_of_ble_eq_true rfl⟩ ⟨Nat.le_of_ble_eq_true rfl, Nat.le_of_ble_eq_true rfl⟩ dX5_either_72 ?_
          clear G; intro r_ w1 H locs hp G
          obtain ⟨hr_, R⟩ := hp
          subst r_
          refine r_int S hret hlk G rfl (Nat.le_of_ble_eq_true rfl) (Nat.le_of_ble_eq_true rfl) dX5_either_75 ?_
          have yk1 := tin_e ek1 hk1 (show n ≤ 1000 by omega)
          have zk1 := cn_e ek1 (show k1 < 1000 by omega)
          have yk4 := tin_e ek4 hk4 (show n ≤ 1000 by omega)
          have zk4 := cn_e ek4 (show k4 < 1000 by omega)
          have e9 : ¬ (1 ≤ oq9 ∧ oq9 ≤ 7) := fun z => Int32.not_lt.mpr z.1 c10
          rw [ow_r htq9] at R
          refine ⟨by
            simp only [S_either, yk1, zk1, yk4, zk4, i7, hQq9, e9, n_of, lk_of, vs_of, hd_of, nmS, s_end, put_vs, put_it, ↓reduceIte, Bool.false_eq_true, pk_us, and_self]
            by_cases z : oq9 = 0
            · rw [if_pos z, if_pos z, hsq9 z]
            · rw [if_neg z, if_neg z], ?_⟩
          simp only [S_either, yk1, zk1, yk4, zk4, i7, hQq9, e9, n_of, lk_of, vs_of, hd_of, nmS, s_end, put_vs, put_it, ↓reduceIte, Bool.false_eq_true, pk_us, and_self]
          exact ⟨_, _, _, _, _, _, _, _, _, R⟩
        · skip
          refine lv_iload hx hb dX5_either_50 (lv_at hl 0 rfl) ?_
          refine lv_bipush (v := 7) hx hb dX5_either_52 (by decide) ?_
          refine lv_icmp_gt (tgt := 65) hx hb dX5_either_54 (by decide) (fun c11 => ?_) (fun c11 => ?_)
          · skip
            refine lv_aload_n hx hb dX5_either_65 rfl (lv_at hl 1 rfl) ?_
            refine lv_iload hx hb dX5_either_66 (lv_at hl 0 rfl) ?_
            refine lv_aload_n hx hb dX5_either_68 rfl (lv_at hl 1 rfl) ?_
            refine g_get S G (Rm_m R) rfl (by decide +kernel) 15 (by decide) (by decide +kernel) rfl dX5_either_69 ?_
            refine g_Vi (n := 2) (rest := []) S G hl (c_X5_ended l R (o := oq9) ejq9 hjq9 rsq9) gX5_either_X5_ended rfl (by decide +kernel) (Rm_m R) rfl rfl rfl (Nat.le_of_ble_eq_true rfl) ⟨Nat.le_of_ble_eq_true rfl, Nat.le_of_ble_eq_true rfl⟩ ⟨Nat.le_of_ble_eq_true rfl, Nat.le_of_ble_eq_true rfl⟩ dX5_either_72 ?_
            clear G; intro r_ w1 H locs hp G
            obtain ⟨hr_, R⟩ := hp
            subst r_
            refine r_int S hret hlk G rfl (Nat.le_of_ble_eq_true rfl) (Nat.le_of_ble_eq_true rfl) dX5_either_75 ?_
            have yk1 := tin_e ek1 hk1 (show n ≤ 1000 by omega)
            have zk1 := cn_e ek1 (show k1 < 1000 by omega)
            have yk4 := tin_e ek4 hk4 (show n ≤ 1000 by omega)
            have zk4 := cn_e ek4 (show k4 < 1000 by omega)
            have e9 : ¬ (1 ≤ oq9 ∧ oq9 ≤ 7) := fun z => Int32.not_lt.mpr z.2 c11
            rw [ow_r htq9] at R
            refine ⟨by
              simp only [S_either, yk1, zk1, yk4, zk4, i7, hQq9, e9, n_of, lk_of, vs_of, hd_of, nmS, s_end, put_vs, put_it, ↓reduceIte, Bool.false_eq_true, pk_us, and_self]
              by_cases z : oq9 = 0
              · rw [if_pos z, if_pos z, hsq9 z]
              · rw [if_neg z, if_neg z], ?_⟩
            simp only [S_either, yk1, zk1, yk4, zk4, i7, hQq9, e9, n_of, lk_of, vs_of, hd_of, nmS, s_end, put_vs, put_it, ↓reduceIte, Bool.false_eq_true, pk_us, and_self]
            exact ⟨_, _, _, _, _, _, _, _, _, R⟩
          · skip
            refine lv_aload_n hx hb dX5_either_57 rfl (lv_at hl 1 rfl) ?_
            refine lv_iload_n hx hb dX5_either_58 rfl (lv_at hl 3 rfl) ?_
            refine lv_iload_n hx hb dX5_either_59 rfl (lv_at hl 4 rfl) ?_
            refine g_Vi (n := 2) (rest := []) S G hl (c_X5_number l R K ek4 hk4 li) gX5_either_X5_number rfl (by decide +kernel) (Rm_m R) rfl rfl rfl (Nat.le_of_ble_eq_true rfl) ⟨Nat.le_of_ble_eq_true rfl, Nat.le_of_ble_eq_true rfl⟩ ⟨Nat.le_of_ble_eq_true rfl, Nat.le_of_ble_eq_true rfl⟩ dX5_either_60 ?_
            clear G; intro r_ w1 H locs hp G
            have hoq12 := nm_o (cl := cl) (vs := vs) (lk := lk) (hd := hd) (so := so) (sz := sz) (it := it) (lim := li) 30 k4 bq9
            generalize hQq12 : nm cl vs lk hd so sz it li 30 k4 bq9 = q12 at hp hoq12
            obtain ⟨oq12, rq12, bq12, dq12, tq12⟩ := q12
            obtain ⟨hr_, toq12, rsq12, nxq12, R, hsq12, htq12⟩ := hp
            subst r_
            dsimp only at hsq12 htq12 R hoq12 ⊢
            obtain ⟨jq12, hjq12, ejq12⟩ := hoq12
            refine lv_istore (lv' := [(4, .int oq12), (0, .ref m), (1, .int t), (2, .int o), (3, .int li)]) hx hb dX5_either_63 hl (by decide) rfl (fun ls hl => ?_)
            refine lv_aload_n hx hb dX5_either_65 rfl (lv_at hl 1 rfl) ?_
            refine lv_iload hx hb dX5_either_66 (lv_at hl 0 rfl) ?_
            refine lv_aload_n hx hb dX5_either_68 rfl (lv_at hl 1 rfl) ?_
            refine g_get S G (Rm_m R) rfl (by decide +kernel) 15 (by decide) (by decide +kernel) rfl dX5_either_69 ?_
            refine g_Vi (n := 2) (rest := []) S G hl (c_X5_ended l R (o := oq12) ejq12 hjq12 rsq12) gX5_either_X5_ended rfl (by decide +kernel) (Rm_m R) rfl rfl rfl (Nat.le_of_ble_eq_true rfl) ⟨Nat.le_of_ble_eq_true rfl, Nat.le_of_ble_eq_true rfl⟩ ⟨Nat.le_of_ble_eq_true rfl, Nat.le_of_ble_eq_true rfl⟩ dX5_either_72 ?_
            clear G; intro r_ w1 H locs hp G
            obtain ⟨hr_, R⟩ := hp
            subst r_
            refine r_int S hret hlk G rfl (Nat.le_of_ble_eq_true rfl) (Nat.le_of_ble_eq_true rfl) dX5_either_75 ?_
            have yk1 := tin_e ek1 hk1 (show n ≤ 1000 by omega)
            have zk1 := cn_e ek1 (show k1 < 1000 by omega)
            have yk4 := tin_e ek4 hk4 (show n ≤ 1000 by omega)
            have zk4 := cn_e ek4 (show k4 < 1000 by omega)
            have e9 : 1 ≤ oq9 ∧ oq9 ≤ 7 := ⟨Int32.not_lt.mp c10, Int32.not_lt.mp c11⟩
            rw [ow_r htq12] at R
            refine ⟨by
              simp only [S_either, yk1, zk1, yk4, zk4, i7, hQq9, hQq12, e9, n_of, lk_of, vs_of, hd_of, nmS, s_end, put_vs, put_it, ↓reduceIte, Bool.false_eq_true, pk_us, and_self]
              by_cases z : oq12 = 0
              · rw [if_pos z, if_pos z, hsq12 z]
              · rw [if_neg z, if_neg z], ?_⟩
            simp only [S_either, yk1, zk1, yk4, zk4, i7, hQq9, hQq12, e9, n_of, lk_of, vs_of, hd_of, nmS, s_end, put_vs, put_it, ↓reduceIte, Bool.false_eq_true, pk_us, and_self]
            exact ⟨_, _, _, _, _, _, _, _, _, R⟩
      · skip
        refine g_Si (n := 3) (rest := []) S G hl (c_X5_in l (Int32.toInt64 li) 1 (100)) gX5_either_X5_in rfl (by decide +kernel) rfl rfl (Nat.le_of_ble_eq_true rfl) ⟨Nat.le_of_ble_eq_true rfl, Nat.le_of_ble_eq_true rfl⟩ ⟨Nat.le_of_ble_eq_true rfl, Nat.le_of_ble_eq_true rfl⟩ dX5_either_22 ?_
        clear G; intro r_ w1 H locs hp G
        obtain ⟨rfl, hq_⟩ := hp
        rw [if_neg (fun z : (1 : Int64) ≤ Int32.toInt64 li ∧ Int32.toInt64 li ≤ 100 => i7 ((in_lim li).mp z))] at hq_
        subst hq_
        refine lv_if_ne (tgt := 31) hx hb dX5_either_25 (by decide) (fun c13 => absurd (by decide) c13) (fun c13 => ?_)
        refine lv_ldc hx hb S.2.2.2.1 (S.2.2.2.2 (.constant RX5 48 (-2000000001)) (by decide +kernel)) dX5_either_28 ?_
        refine r_int S hret hlk G rfl (Nat.le_of_ble_eq_true rfl) (Nat.le_of_ble_eq_true rfl) dX5_either_30 ?_
        have yk1 := tin_e ek1 hk1 (show n ≤ 1000 by omega)
        have zk1 := cn_e ek1 (show k1 < 1000 by omega)
        have yk4 := tin_e ek4 hk4 (show n ≤ 1000 by omega)
        have zk4 := cn_e ek4 (show k4 < 1000 by omega)
        refine ⟨by simp only [S_either, yk1, zk1, yk4, zk4, i7, n_of, lk_of, vs_of, hd_of, nmS, s_end, put_vs, put_it, ↓reduceIte, Bool.false_eq_true, pk_us, and_self], ?_⟩
        simp only [S_either, yk1, zk1, yk4, zk4, i7, n_of, lk_of, vs_of, hd_of, nmS, s_end, put_vs, put_it, ↓reduceIte, Bool.false_eq_true, pk_us, and_self]
        exact ⟨_, _, _, _, _, _, _, _, _, R⟩

set_option maxHeartbeats 4000000 in
set_option maxRecDepth 100000 in
theorem M_gather (l : Launch) {E : EV} {w : wo} {m : Nat} {σ : ST} (X : RmX E w m σ) (K : Gd σ) (t : Int32) (li : Int32) : ct_i l E yX5_gather wsX5_gather 4 0 0 [.ref m, .int t, .int li] w (fun r w' => r = (S_gather t li σ).1 ∧ RmX E w' m (S_gather t li σ).2) := by
  obtain ⟨aC, aV, aL, aH, aS, aZ, aI, aT, ⟨to, rs, nx⟩, R⟩ := X
  obtain ⟨n, cl, vs, lk, hd, nr, so, sz, it, oc, ow, bg, dp, td⟩ := σ
  have K9 := K
  obtain ⟨Kn, Kr, Kc, Kl, Kh, Ks, Kz, Ki⟩ := K9
  intro zz
  refine wo_body (Qc := fun A => va_Qi _ (wo_B E A) A) (ret := (some .int)) (by decide) rfl (Nat.le_of_ble_eq_true rfl) ?_
  intro p_ e_ s_ m_ args_ below_ meth_ code_ A_ ls S hret hlk hnm G hl
  have hl : lv_has ls 4 [(0, .ref m), (1, .int t), (2, .int li)] := hl
  have hx := S.1
  have hb := S.2.1
  refine lv_aload_n hx hb dX5_gather_0 rfl (lv_at hl 0 rfl) ?_
  refine lv_iload_n hx hb dX5_gather_1 rfl (lv_at hl 1 rfl) ?_
  rcases tin_c n t (by omega) with ⟨tk1, ok1⟩ | ⟨k1, hk1, ek1⟩
  · skip
    refine g_Vi (n := 1) (rest := []) S G hl (c_X5_isThing l R Kn t) gX5_gather_X5_isThing rfl (by decide +kernel) (Rm_m R) rfl rfl rfl (Nat.le_of_ble_eq_true rfl) ⟨Nat.le_of_ble_eq_true rfl, Nat.le_of_ble_eq_true rfl⟩ ⟨Nat.le_of_ble_eq_true rfl, Nat.le_of_ble_eq_true rfl⟩ dX5_gather_2 ?_
    clear G; intro r_ w1 H locs hp G
    obtain ⟨rfl, hq_⟩ := hp
    rw [tk1] at hq_
    simp only [Bool.false_eq_true, ↓reduceIte] at hq_
    subst hq_
    refine lv_if_eq (tgt := 20) hx hb dX5_gather_5 (by decide) (fun c2 => ?_) (fun c2 => absurd (by decide) c2)
    refine lv_ldc hx hb S.2.2.2.1 (S.2.2.2.2 (.constant RX5 48 (-2000000001)) (by decide +kernel)) dX5_gather_20 ?_
    refine r_int S hret hlk G rfl (Nat.le_of_ble_eq_true rfl) (Nat.le_of_ble_eq_true rfl) dX5_gather_22 ?_
    refine ⟨by simp only [S_gather, tk1, n_of, lk_of, vs_of, hd_of, nmS, s_end, put_vs, put_it, ↓reduceIte, Bool.false_eq_true, pk_us, and_self], ?_⟩
    simp only [S_gather, tk1, n_of, lk_of, vs_of, hd_of, nmS, s_end, put_vs, put_it, ↓reduceIte, Bool.false_eq_true, pk_us, and_self]
    exact ⟨_, _, _, _, _, _, _, _, _, R⟩
  · skip
    refine g_Vi (n := 1) (rest := []) S G hl (c_X5_isThing l R Kn t) gX5_gather_X5_isThing rfl (by decide +kernel) (Rm_m R) rfl rfl rfl (Nat.le_of_ble_eq_true rfl) ⟨Nat.le_of_ble_eq_true rfl, Nat.le_of_ble_eq_true rfl⟩ ⟨Nat.le_of_ble_eq_true rfl, Nat.le_of_ble_eq_true rfl⟩ dX5_gather_2 ?_
    clear G; intro r_ w1 H locs hp G
    obtain ⟨rfl, hq_⟩ := hp
    rw [if_pos (tin_e ek1 hk1 (by omega))] at hq_
    subst hq_
    refine lv_if_eq (tgt := 20) hx hb dX5_gather_5 (by decide) (fun c3 => absurd c3 (by decide)) (fun c3 => ?_)
    refine lv_iload_n hx hb dX5_gather_8 rfl (lv_at hl 2 rfl) ?_
    refine lv_i2l (v := (Int32.toInt64 li)) hx hb dX5_gather_9 rfl ?_
    refine lv_lconst (v := 1) hx hb dX5_gather_10 (by decide) ?_
    refine lv_ldc2 hx hb S.2.2.2.1 (S.2.2.2.2 (.constantLong RX5 109 (100)) (by decide +kernel)) dX5_gather_11 ?_
    by_cases i4 : lin li = true
    · skip
      refine g_Si (n := 3) (rest := []) S G hl (c_X5_in l (Int32.toInt64 li) 1 (100)) gX5_gather_X5_in rfl (by decide +kernel) rfl rfl (Nat.le_of_ble_eq_true rfl) ⟨Nat.le_of_ble_eq_true rfl, Nat.le_of_ble_eq_true rfl⟩ ⟨Nat.le_of_ble_eq_true rfl, Nat.le_of_ble_eq_true rfl⟩ dX5_gather_14 ?_
      clear G; intro r_ w1 H locs hp G
      obtain ⟨rfl, hq_⟩ := hp
      rw [if_pos (show (1 : Int64) ≤ Int32.toInt64 li ∧ Int32.toInt64 li ≤ 100 from (in_lim li).mpr i4)] at hq_
      subst hq_
      refine lv_if_ne (tgt := 23) hx hb dX5_gather_17 (by decide) (fun c5 => ?_) (fun c5 => absurd c5 (by decide))
      refine lv_aload_n hx hb dX5_gather_23 rfl (lv_at hl 0 rfl) ?_
      refine lv_iconst (v := 0) hx hb dX5_gather_24 (by decide) ?_
      refine g_put (fs' := [.int (nI n), .ref aC, .ref aV, .ref aL, .ref aH, .int (nI nr), .ref aS, .ref aZ, .ref aI, .int oc, .int ow, .int 0, .int dp, .ref aT, .int to, .int rs, .int nx]) (ty := .int) (v := .int 0) S G (Rm_m R) rfl tyX5 tyX5_ok nmX5 (by decide +kernel) 11 (by decide) (by decide +kernel) rfl (by decide +kernel) rfl rfl (Nat.le_of_ble_eq_true rfl) rfl dX5_gather_25 (fun H locs G => ?_)
      obtain ⟨w, R, G⟩ := Rm_ex (Rm_p_bg R 0) G
      refine lv_aload_n hx hb dX5_gather_28 rfl (lv_at hl 0 rfl) ?_
      refine lv_iconst (v := 0) hx hb dX5_gather_29 (by decide) ?_
      refine g_put (fs' := [.int (nI n), .ref aC, .ref aV, .ref aL, .ref aH, .int (nI nr), .ref aS, .ref aZ, .ref aI, .int oc, .int ow, .int 0, .int 0, .ref aT, .int to, .int rs, .int nx]) (ty := .int) (v := .int 0) S G (Rm_m R) rfl tyX5 tyX5_ok nmX5 (by decide +kernel) 12 (by decide) (by decide +kernel) rfl (by decide +kernel) rfl rfl (Nat.le_of_ble_eq_true rfl) rfl dX5_gather_30 (fun H locs G => ?_)
      obtain ⟨w, R, G⟩ := Rm_ex (Rm_p_dp R 0) G
      refine lv_aload_n hx hb dX5_gather_33 rfl (lv_at hl 0 rfl) ?_
      refine g_get S G (Rm_m R) rfl (by decide +kernel) 3 (by decide) (by decide +kernel) rfl dX5_gather_34 ?_
      refine lv_iload_n hx hb dX5_gather_37 rfl (lv_at hl 1 rfl) ?_
      refine g_iald S G (Rm_L R) (vin_e ek1 (show k1 < 40 by omega) (by omega)) dX5_gather_38 ?_
      rw [show Int32.toNatClampNeg t = k1 by rw [ek1]; exact nI_clamp (by omega)]
      rcases Kl k1 hk1 with ek6 | ⟨k6, hk6, ek6⟩
      · skip
        refine lv_iconst (v := (-1)) hx hb dX5_gather_39 (by decide) ?_
        refine lv_icmp_ne (tgt := 47) hx hb dX5_gather_40 (by decide) (fun c7 => absurd ek6 c7) (fun c7 => ?_)
        refine lv_iconst (v := 1) hx hb dX5_gather_43 (by decide) ?_
        refine lv_goto (tgt := 58) hx hb dX5_gather_44 (by decide) ?_
        refine lv_istore_n (lv' := [(3, .int 1), (0, .ref m), (1, .int t), (2, .int li)]) hx hb dX5_gather_58 rfl hl (by decide) rfl (fun ls hl => ?_)
        refine lv_aload_n hx hb dX5_gather_59 rfl (lv_at hl 1 rfl) ?_
        refine g_get S G (Rm_m R) rfl (by decide +kernel) 2 (by decide) (by decide +kernel) rfl dX5_gather_60 ?_
        refine lv_iload_n hx hb dX5_gather_63 rfl (lv_at hl 2 rfl) ?_
        refine lv_dup2_11 hx hb dX5_gather_64 rfl rfl ?_
        refine g_iald S G (Rm_V R) (vin_e ek1 (show k1 < 40 by omega) (by omega)) dX5_gather_65 ?_
        rw [show Int32.toNatClampNeg t = k1 by rw [ek1]; exact nI_clamp (by omega)]
        refine lv_iload_n hx hb dX5_gather_66 rfl (lv_at hl 0 rfl) ?_
        refine lv_if_ne (tgt := 77) hx hb dX5_gather_67 (by decide) (fun c8 => ?_) (fun c8 => absurd c8 (by decide))
        refine lv_iconst (v := 0) hx hb dX5_gather_77 (by decide) ?_
        refine lv_iadd hx hb dX5_gather_78 ?_
        refine lv_topi (fun a9 ea9 => ?_)
        refine g_iast S G (Rm_V R) (vin_e ek1 (show k1 < 40 by omega) (by omega)) dX5_gather_79 (fun H locs G => ?_)
        rw [show Int32.toNatClampNeg t = k1 by rw [ek1]; exact nI_clamp (by omega)] at G
        obtain ⟨w, R, G⟩ := Rm_ex (Rm_p_vs R (upd vs k1 a9)) G
        refine lv_aload_n hx hb dX5_gather_80 rfl (lv_at hl 1 rfl) ?_
        refine lv_iload_n hx hb dX5_gather_81 rfl (lv_at hl 0 rfl) ?_
        refine lv_aload_n hx hb dX5_gather_82 rfl (lv_at hl 1 rfl) ?_
        refine g_get S G (Rm_m R) rfl (by decide +kernel) 2 (by decide) (by decide +kernel) rfl dX5_gather_83 ?_
        refine lv_iload_n hx hb dX5_gather_86 rfl (lv_at hl 2 rfl) ?_
        refine g_iald S G (Rm_V R) (vin_e ek1 (show k1 < 40 by omega) (by omega)) dX5_gather_87 ?_
        rw [show Int32.toNatClampNeg t = k1 by rw [ek1]; exact nI_clamp (by omega)]
        refine g_Vi (n := 2) (rest := []) S G hl (c_X5_ended l R (j := 1) (o := 1) rfl (by decide) ((upd vs k1 a9) k1)) gX5_gather_X5_ended rfl (by decide +kernel) (Rm_m R) rfl rfl rfl (Nat.le_of_ble_eq_true rfl) ⟨Nat.le_of_ble_eq_true rfl, Nat.le_of_ble_eq_true rfl⟩ ⟨Nat.le_of_ble_eq_true rfl, Nat.le_of_ble_eq_true rfl⟩ dX5_gather_88 ?_
        clear G; intro r_ w1 H locs hp G
        obtain ⟨hr_, R⟩ := hp
        subst r_
        refine r_int S hret hlk G rfl (Nat.le_of_ble_eq_true rfl) (Nat.le_of_ble_eq_true rfl) dX5_gather_91 ?_
        have yk1 := tin_e ek1 hk1 (show n ≤ 1000 by omega)
        have zk1 := cn_e ek1 (show k1 < 1000 by omega)
        rw [ea9, upd_self, if_neg (show ¬ ((1 : Int32) = 7) by decide)] at R
        refine ⟨by simp only [S_gather, yk1, zk1, ek6, i4, n_of, lk_of, vs_of, hd_of, nmS, s_end, put_vs, put_it, ↓reduceIte, Bool.false_eq_true, pk_us, and_self, show ¬ ((1 : Int32) = 7) by decide, show ¬ ((1 : Int32) = 0) by decide], ?_⟩
        simp only [S_gather, yk1, zk1, ek6, i4, n_of, lk_of, vs_of, hd_of, nmS, s_end, put_vs, put_it, ↓reduceIte, Bool.false_eq_true, pk_us, and_self, show ¬ ((1 : Int32) = 7) by decide, show ¬ ((1 : Int32) = 0) by decide]
        exact ⟨_, _, _, _, _, _, _, _, _, R⟩
      · skip
        refine lv_iconst (v := (-1)) hx hb dX5_gather_39 (by decide) ?_
        refine lv_icmp_ne (tgt := 47) hx hb dX5_gather_40 (by decide) (fun c10 => ?_) (fun c10 => absurd c10 (by rw [ek6]; exact nm1 (by omega)))
        refine lv_aload_n hx hb dX5_gather_47 rfl (lv_at hl 0 rfl) ?_
        refine lv_aload_n hx hb dX5_gather_48 rfl (lv_at hl 0 rfl) ?_
        refine g_get S G (Rm_m R) rfl (by decide +kernel) 3 (by decide) (by decide +kernel) rfl dX5_gather_49 ?_
        refine lv_iload_n hx hb dX5_gather_52 rfl (lv_at hl 1 rfl) ?_
        refine g_iald S G (Rm_L R) (vin_e ek1 (show k1 < 40 by omega) (by omega)) dX5_gather_53 ?_
        rw [show Int32.toNatClampNeg t = k1 by rw [ek1]; exact nI_clamp (by omega)]
        refine lv_iload_n hx hb dX5_gather_54 rfl (lv_at hl 2 rfl) ?_
        refine g_Vi (n := 2) (rest := []) S G hl (c_X5_number l R K ek6 hk6 li) gX5_gather_X5_number rfl (by decide +kernel) (Rm_m R) rfl rfl rfl (Nat.le_of_ble_eq_true rfl) ⟨Nat.le_of_ble_eq_true rfl, Nat.le_of_ble_eq_true rfl⟩ ⟨Nat.le_of_ble_eq_true rfl, Nat.le_of_ble_eq_true rfl⟩ dX5_gather_55 ?_
        clear G; intro r_ w1 H locs hp G
        have hoq11 := nm_o (cl := cl) (vs := vs) (lk := lk) (hd := hd) (so := so) (sz := sz) (it := it) (lim := li) 30 k6 0
        generalize hQq11 : nm cl vs lk hd so sz it li 30 k6 0 = q11 at hp hoq11
        obtain ⟨oq11, rq11, bq11, dq11, tq11⟩ := q11
        obtain ⟨hr_, toq11, rsq11, nxq11, R, hsq11, htq11⟩ := hp
        subst r_
        dsimp only at hsq11 htq11 R hoq11 ⊢
        obtain ⟨jq11, hjq11, ejq11⟩ := hoq11
        refine lv_istore_n (lv' := [(3, .int oq11), (0, .ref m), (1, .int t), (2, .int li)]) hx hb dX5_gather_58 rfl hl (by decide) rfl (fun ls hl => ?_)
        refine lv_aload_n hx hb dX5_gather_59 rfl (lv_at hl 1 rfl) ?_
        refine g_get S G (Rm_m R) rfl (by decide +kernel) 2 (by decide) (by decide +kernel) rfl dX5_gather_60 ?_
        refine lv_iload_n hx hb dX5_gather_63 rfl (lv_at hl 2 rfl) ?_
        refine lv_dup2_11 hx hb dX5_gather_64 rfl rfl ?_
        refine g_iald S G (Rm_V R) (vin_e ek1 (show k1 < 40 by omega) (by omega)) dX5_gather_65 ?_
        rw [show Int32.toNatClampNeg t = k1 by rw [ek1]; exact nI_clamp (by omega)]
        refine lv_iload_n hx hb dX5_gather_66 rfl (lv_at hl 0 rfl) ?_
        refine lv_if_ne (tgt := 77) hx hb dX5_gather_67 (by decide) (fun c12 => ?_) (fun c12 => ?_)
        · skip
          refine lv_iconst (v := 0) hx hb dX5_gather_77 (by decide) ?_
          refine lv_iadd hx hb dX5_gather_78 ?_
          refine lv_topi (fun a13 ea13 => ?_)
          refine g_iast S G (Rm_V R) (vin_e ek1 (show k1 < 40 by omega) (by omega)) dX5_gather_79 (fun H locs G => ?_)
          rw [show Int32.toNatClampNeg t = k1 by rw [ek1]; exact nI_clamp (by omega)] at G
          obtain ⟨w, R, G⟩ := Rm_ex (Rm_p_vs R (upd vs k1 a13)) G
          refine lv_aload_n hx hb dX5_gather_80 rfl (lv_at hl 1 rfl) ?_
          refine lv_iload_n hx hb dX5_gather_81 rfl (lv_at hl 0 rfl) ?_
          refine lv_aload_n hx hb dX5_gather_82 rfl (lv_at hl 1 rfl) ?_
          refine g_get S G (Rm_m R) rfl (by decide +kernel) 2 (by decide) (by decide +kernel) rfl dX5_gather_83 ?_
          refine lv_iload_n hx hb dX5_gather_86 rfl (lv_at hl 2 rfl) ?_
          refine g_iald S G (Rm_V R) (vin_e ek1 (show k1 < 40 by omega) (by omega)) dX5_gather_87 ?_
          rw [show Int32.toNatClampNeg t = k1 by rw [ek1]; exact nI_clamp (by omega)]
          refine g_Vi (n := 2) (rest := []) S G hl (c_X5_ended l R (o := oq11) ejq11 hjq11 ((upd vs k1 a13) k1)) gX5_gather_X5_ended rfl (by decide +kernel) (Rm_m R) rfl rfl rfl (Nat.le_of_ble_eq_true rfl) ⟨Nat.le_of_ble_eq_true rfl, Nat.le_of_ble_eq_true rfl⟩ ⟨Nat.le_of_ble_eq_true rfl, Nat.le_of_ble_eq_true rfl⟩ dX5_gather_88 ?_
          clear G; intro r_ w1 H locs hp G
          obtain ⟨hr_, R⟩ := hp
          subst r_
          refine r_int S hret hlk G rfl (Nat.le_of_ble_eq_true rfl) (Nat.le_of_ble_eq_true rfl) dX5_gather_91 ?_
          have yk1 := tin_e ek1 hk1 (show n ≤ 1000 by omega)
          have zk1 := cn_e ek1 (show k1 < 1000 by omega)
          have qk6 := nm1 (show k6 < 100000 by omega)
          rw [ow_r htq11, ea13, upd_self] at R
          refine ⟨by simp only [S_gather, yk1, zk1, ek6, qk6, cn_nI (show k6 < 2 ^ 31 by omega), i4, hQq11, n_of, lk_of, vs_of, hd_of, nmS, s_end, put_vs, put_it, ↓reduceIte, Bool.false_eq_true, pk_us, and_self]; rw [if_neg c12, if_neg c12], ?_⟩
          simp only [S_gather, yk1, zk1, ek6, qk6, cn_nI (show k6 < 2 ^ 31 by omega), i4, hQq11, n_of, lk_of, vs_of, hd_of, nmS, s_end, put_vs, put_it, ↓reduceIte, Bool.false_eq_true, pk_us, and_self]
          rw [if_neg c12]
          exact ⟨_, _, _, _, _, _, _, _, _, R⟩
        · skip
          refine lv_aload_n hx hb dX5_gather_70 rfl (lv_at hl 1 rfl) ?_
          refine g_get S G (Rm_m R) rfl (by decide +kernel) 15 (by decide) (by decide +kernel) rfl dX5_gather_71 ?_
          refine lv_goto (tgt := 78) hx hb dX5_gather_74 (by decide) ?_
          refine lv_iadd hx hb dX5_gather_78 ?_
          refine lv_topi (fun a14 ea14 => ?_)
          refine g_iast S G (Rm_V R) (vin_e ek1 (show k1 < 40 by omega) (by omega)) dX5_gather_79 (fun H locs G => ?_)
          rw [show Int32.toNatClampNeg t = k1 by rw [ek1]; exact nI_clamp (by omega)] at G
          obtain ⟨w, R, G⟩ := Rm_ex (Rm_p_vs R (upd vs k1 a14)) G
          refine lv_aload_n hx hb dX5_gather_80 rfl (lv_at hl 1 rfl) ?_
          refine lv_iload_n hx hb dX5_gather_81 rfl (lv_at hl 0 rfl) ?_
          refine lv_aload_n hx hb dX5_gather_82 rfl (lv_at hl 1 rfl) ?_
          refine g_get S G (Rm_m R) rfl (by decide +kernel) 2 (by decide) (by decide +kernel) rfl dX5_gather_83 ?_
          refine lv_iload_n hx hb dX5_gather_86 rfl (lv_at hl 2 rfl) ?_
          refine g_iald S G (Rm_V R) (vin_e ek1 (show k1 < 40 by omega) (by omega)) dX5_gather_87 ?_
          rw [show Int32.toNatClampNeg t = k1 by rw [ek1]; exact nI_clamp (by omega)]
          refine g_Vi (n := 2) (rest := []) S G hl (c_X5_ended l R (o := oq11) ejq11 hjq11 ((upd vs k1 a14) k1)) gX5_gather_X5_ended rfl (by decide +kernel) (Rm_m R) rfl rfl rfl (Nat.le_of_ble_eq_true rfl) ⟨Nat.le_of_ble_eq_true rfl, Nat.le_of_ble_eq_true rfl⟩ ⟨Nat.le_of_ble_eq_true rfl, Nat.le_of_ble_eq_true rfl⟩ dX5_gather_88 ?_
          clear G; intro r_ w1 H locs hp G
          obtain ⟨hr_, R⟩ := hp
          subst r_
          refine r_int S hret hlk G rfl (Nat.le_of_ble_eq_true rfl) (Nat.le_of_ble_eq_true rfl) dX5_gather_91 ?_
          have yk1 := tin_e ek1 hk1 (show n ≤ 1000 by omega)
          have zk1 := cn_e ek1 (show k1 < 1000 by omega)
          have qk6 := nm1 (show k6 < 100000 by omega)
          rw [ow_r htq11, ea14, hsq11 c12] at R
          rw [ea14, hsq11 c12]
          refine ⟨by simp only [S_gather, yk1, zk1, ek6, qk6, cn_nI (show k6 < 2 ^ 31 by omega), i4, hQq11, n_of, lk_of, vs_of, hd_of, nmS, s_end, put_vs, put_it, ↓reduceIte, Bool.false_eq_true, pk_us, and_self]; rw [if_pos c12, if_pos c12], ?_⟩
          simp only [S_gather, yk1, zk1, ek6, qk6, cn_nI (show k6 < 2 ^ 31 by omega), i4, hQq11, n_of, lk_of, vs_of, hd_of, nmS, s_end, put_vs, put_it, ↓reduceIte, Bool.false_eq_true, pk_us, and_self]
          rw [if_pos c12]
          exact ⟨_, _, _, _, _, _, _, _, _, R⟩
    · skip
      refine g_Si (n := 3) (rest := []) S G hl (c_X5_in l (Int32.toInt64 li) 1 (100)) gX5_gather_X5_in rfl (by decide +kernel) rfl rfl (Nat.le_of_ble_eq_true rfl) ⟨Nat.le_of_ble_eq_true rfl, Nat.le_of_ble_eq_true rfl⟩ ⟨Nat.le_of_ble_eq_true rfl, Nat.le_of_ble_eq_true rfl⟩ dX5_gather_14 ?_
      clear G; intro r_ w1 H locs hp G
      obtain ⟨rfl, hq_⟩ := hp
      rw [if_neg (fun z : (1 : Int64) ≤ Int32.toInt64 li ∧ Int32.toInt64 li ≤ 100 => i4 ((in_lim li).mp z))] at hq_
      subst hq_
      refine lv_if_ne (tgt := 23) hx hb dX5_gather_17 (by decide) (fun c15 => absurd (by decide) c15) (fun c15 => ?_)
      refine lv_ldc hx hb S.2.2.2.1 (S.2.2.2.2 (.constant RX5 48 (-2000000001)) (by decide +kernel)) dX5_gather_20 ?_
      refine r_int S hret hlk G rfl (Nat.le_of_ble_eq_true rfl) (Nat.le_of_ble_eq_true rfl) dX5_gather_22 ?_
      have yk1 := tin_e ek1 hk1 (show n ≤ 1000 by omega)
      have zk1 := cn_e ek1 (show k1 < 1000 by omega)
      refine ⟨by simp only [S_gather, yk1, zk1, i4, n_of, lk_of, vs_of, hd_of, nmS, s_end, put_vs, put_it, ↓reduceIte, Bool.false_eq_true, pk_us, and_self], ?_⟩
      simp only [S_gather, yk1, zk1, i4, n_of, lk_of, vs_of, hd_of, nmS, s_end, put_vs, put_it, ↓reduceIte, Bool.false_eq_true, pk_us, and_self]
      exact ⟨_, _, _, _, _, _, _, _, _, R⟩

set_option maxHeartbeats 4000000 in
set_option maxRecDepth 100000 in
theorem M_keep (l : Launch) {E : EV} {w : wo} {m : Nat} {σ : ST} (X : RmX E w m σ) (K : Gd σ) (t : Int32) (o : Int32) (k : Int32) (li : Int32) : ct_i l E yX5_keep wsX5_keep 4 0 0 [.ref m, .int t, .int o, .int k, .int li] w (fun r w' => r = (S_keep t o k li σ).1 ∧ RmX E w' m (S_keep t o k li σ).2) := by
  obtain ⟨aC, aV, aL, aH, aS, aZ, aI, aT, ⟨to, rs, nx⟩, R⟩ := X
  obtain ⟨n, cl, vs, lk, hd, nr, so, sz, it, oc, ow, bg, dp, td⟩ := σ
  have K9 := K
  obtain ⟨Kn, Kr, Kc, Kl, Kh, Ks, Kz, Ki⟩ := K9
  intro zz
  refine wo_body (Qc := fun A => va_Qi _ (wo_B E A) A) (ret := (some .int)) (by decide) rfl (Nat.le_of_ble_eq_true rfl) ?_
  intro p_ e_ s_ m_ args_ below_ meth_ code_ A_ ls S hret hlk hnm G hl
  have hl : lv_has ls 7 [(0, .ref m), (1, .int t), (2, .int o), (3, .int k), (4, .int li)] := hl
  have hx := S.1
  have hb := S.2.1
  refine lv_aload_n hx hb dX5_keep_0 rfl (lv_at hl 0 rfl) ?_
  refine lv_iload_n hx hb dX5_keep_1 rfl (lv_at hl 1 rfl) ?_
  rcases tin_c n t (by omega) with ⟨tk1, ok1⟩ | ⟨k1, hk1, ek1⟩
  · skip
    refine g_Vi (n := 1) (rest := []) S G hl (c_X5_isThing l R Kn t) gX5_keep_X5_isThing rfl (by decide +kernel) (Rm_m R) rfl rfl rfl (Nat.le_of_ble_eq_true rfl) ⟨Nat.le_of_ble_eq_true rfl, Nat.le_of_ble_eq_true rfl⟩ ⟨Nat.le_of_ble_eq_true rfl, Nat.le_of_ble_eq_true rfl⟩ dX5_keep_2 ?_
    clear G; intro r_ w1 H locs hp G
    obtain ⟨rfl, hq_⟩ := hp
    rw [tk1] at hq_
    simp only [Bool.false_eq_true, ↓reduceIte] at hq_
    subst hq_
    refine lv_if_eq (tgt := 29) hx hb dX5_keep_5 (by decide) (fun c2 => ?_) (fun c2 => absurd (by decide) c2)
    refine lv_ldc hx hb S.2.2.2.1 (S.2.2.2.2 (.constant RX5 48 (-2000000001)) (by decide +kernel)) dX5_keep_29 ?_
    refine r_int S hret hlk G rfl (Nat.le_of_ble_eq_true rfl) (Nat.le_of_ble_eq_true rfl) dX5_keep_31 ?_
    refine ⟨by simp only [S_keep, tk1, n_of, lk_of, vs_of, hd_of, nmS, s_end, put_vs, put_it, ↓reduceIte, Bool.false_eq_true, pk_us, and_self], ?_⟩
    simp only [S_keep, tk1, n_of, lk_of, vs_of, hd_of, nmS, s_end, put_vs, put_it, ↓reduceIte, Bool.false_eq_true, pk_us, and_self]
    exact ⟨_, _, _, _, _, _, _, _, _, R⟩
  · skip
    refine g_Vi (n := 1) (rest := []) S G hl (c_X5_isThing l R Kn t) gX5_keep_X5_isThing rfl (by decide +kernel) (Rm_m R) rfl rfl rfl (Nat.le_of_ble_eq_true rfl) ⟨Nat.le_of_ble_eq_true rfl, Nat.le_of_ble_eq_true rfl⟩ ⟨Nat.le_of_ble_eq_true rfl, Nat.le_of_ble_eq_true rfl⟩ dX5_keep_2 ?_
    clear G; intro r_ w1 H locs hp G
    obtain ⟨rfl, hq_⟩ := hp
    rw [if_pos (tin_e ek1 hk1 (by omega))] at hq_
    subst hq_
    refine lv_if_eq (tgt := 29) hx hb dX5_keep_5 (by decide) (fun c3 => absurd c3 (by decide)) (fun c3 => ?_)
    refine lv_aload_n hx hb dX5_keep_8 rfl (lv_at hl 0 rfl) ?_
    refine lv_iload_n hx hb dX5_keep_9 rfl (lv_at hl 2 rfl) ?_
    rcases tin_c n o (by omega) with ⟨tk4, ok4⟩ | ⟨k4, hk4, ek4⟩
    · skip
      refine g_Vi (n := 1) (rest := []) S G hl (c_X5_isThing l R Kn o) gX5_keep_X5_isThing rfl (by decide +kernel) (Rm_m R) rfl rfl rfl (Nat.le_of_ble_eq_true rfl) ⟨Nat.le_of_ble_eq_true rfl, Nat.le_of_ble_eq_true rfl⟩ ⟨Nat.le_of_ble_eq_true rfl, Nat.le_of_ble_eq_true rfl⟩ dX5_keep_10 ?_
      clear G; intro r_ w1 H locs hp G
      obtain ⟨rfl, hq_⟩ := hp
      rw [tk4] at hq_
      simp only [Bool.false_eq_true, ↓reduceIte] at hq_
      subst hq_
      refine lv_if_eq (tgt := 29) hx hb dX5_keep_13 (by decide) (fun c5 => ?_) (fun c5 => absurd (by decide) c5)
      refine lv_ldc hx hb S.2.2.2.1 (S.2.2.2.2 (.constant RX5 48 (-2000000001)) (by decide +kernel)) dX5_keep_29 ?_
      refine r_int S hret hlk G rfl (Nat.le_of_ble_eq_true rfl) (Nat.le_of_ble_eq_true rfl) dX5_keep_31 ?_
      have yk1 := tin_e ek1 hk1 (show n ≤ 1000 by omega)
      have zk1 := cn_e ek1 (show k1 < 1000 by omega)
      refine ⟨by simp only [S_keep, yk1, zk1, tk4, n_of, lk_of, vs_of, hd_of, nmS, s_end, put_vs, put_it, ↓reduceIte, Bool.false_eq_true, pk_us, and_self], ?_⟩
      simp only [S_keep, yk1, zk1, tk4, n_of, lk_of, vs_of, hd_of, nmS, s_end, put_vs, put_it, ↓reduceIte, Bool.false_eq_true, pk_us, and_self]
      exact ⟨_, _, _, _, _, _, _, _, _, R⟩
    · skip
      refine g_Vi (n := 1) (rest := []) S G hl (c_X5_isThing l R Kn o) gX5_keep_X5_isThing rfl (by decide +kernel) (Rm_m R) rfl rfl rfl (Nat.le_of_ble_eq_true rfl) ⟨Nat.le_of_ble_eq_true rfl, Nat.le_of_ble_eq_true rfl⟩ ⟨Nat.le_of_ble_eq_true rfl, Nat.le_of_ble_eq_true rfl⟩ dX5_keep_10 ?_
      clear G; intro r_ w1 H locs hp G
      obtain ⟨rfl, hq_⟩ := hp
      rw [if_pos (tin_e ek4 hk4 (by omega))] at hq_
      subst hq_
      refine lv_if_eq (tgt := 29) hx hb dX5_keep_13 (by decide) (fun c6 => absurd c6 (by decide)) (fun c6 => ?_)
      refine lv_iload hx hb dX5_keep_16 (lv_at hl 4 rfl) ?_
      refine lv_i2l (v := (Int32.toInt64 li)) hx hb dX5_keep_18 rfl ?_
      refine lv_lconst (v := 1) hx hb dX5_keep_19 (by decide) ?_
      refine lv_ldc2 hx hb S.2.2.2.1 (S.2.2.2.2 (.constantLong RX5 109 (100)) (by decide +kernel)) dX5_keep_20 ?_
      by_cases i7 : lin li = true
      · skip
        refine g_Si (n := 3) (rest := []) S G hl (c_X5_in l (Int32.toInt64 li) 1 (100)) gX5_keep_X5_in rfl (by decide +kernel) rfl rfl (Nat.le_of_ble_eq_true rfl) ⟨Nat.le_of_ble_eq_true rfl, Nat.le_of_ble_eq_true rfl⟩ ⟨Nat.le_of_ble_eq_true rfl, Nat.le_of_ble_eq_true rfl⟩ dX5_keep_23 ?_
        clear G; intro r_ w1 H locs hp G
        obtain ⟨rfl, hq_⟩ := hp
        rw [if_pos (show (1 : Int64) ≤ Int32.toInt64 li ∧ Int32.toInt64 li ≤ 100 from (in_lim li).mpr i7)] at hq_
        subst hq_
        refine lv_if_ne (tgt := 32) hx hb dX5_keep_26 (by decide) (fun c8 => ?_) (fun c8 => absurd c8 (by decide))
        refine lv_aload_n hx hb dX5_keep_32 rfl (lv_at hl 0 rfl) ?_
        refine lv_iconst (v := 0) hx hb dX5_keep_33 (by decide) ?_
        refine g_put (fs' := [.int (nI n), .ref aC, .ref aV, .ref aL, .ref aH, .int (nI nr), .ref aS, .ref aZ, .ref aI, .int oc, .int ow, .int 0, .int dp, .ref aT, .int to, .int rs, .int nx]) (ty := .int) (v := .int 0) S G (Rm_m R) rfl tyX5 tyX5_ok nmX5 (by decide +kernel) 11 (by decide) (by decide +kernel) rfl (by decide +kernel) rfl rfl (Nat.le_of_ble_eq_true rfl) rfl dX5_keep_34 (fun H locs G => ?_)
        obtain ⟨w, R, G⟩ := Rm_ex (Rm_p_bg R 0) G
        refine lv_aload_n hx hb dX5_keep_37 rfl (lv_at hl 0 rfl) ?_
        refine lv_iload_n hx hb dX5_keep_38 rfl (lv_at hl 1 rfl) ?_
        refine lv_iload hx hb dX5_keep_39 (lv_at hl 4 rfl) ?_
        refine g_Vi (n := 2) (rest := []) S G hl (c_X5_number l R K ek1 hk1 li) gX5_keep_X5_number rfl (by decide +kernel) (Rm_m R) rfl rfl rfl (Nat.le_of_ble_eq_true rfl) ⟨Nat.le_of_ble_eq_true rfl, Nat.le_of_ble_eq_true rfl⟩ ⟨Nat.le_of_ble_eq_true rfl, Nat.le_of_ble_eq_true rfl⟩ dX5_keep_41 ?_
        clear G; intro r_ w1 H locs hp G
        have hoq9 := nm_o (cl := cl) (vs := vs) (lk := lk) (hd := hd) (so := so) (sz := sz) (it := it) (lim := li) 30 k1 0
        generalize hQq9 : nm cl vs lk hd so sz it li 30 k1 0 = q9 at hp hoq9
        obtain ⟨oq9, rq9, bq9, dq9, tq9⟩ := q9
        obtain ⟨hr_, toq9, rsq9, nxq9, R, hsq9, htq9⟩ := hp
        subst r_
        dsimp only at hsq9 htq9 R hoq9 ⊢
        obtain ⟨jq9, hjq9, ejq9⟩ := hoq9
        refine lv_istore (lv' := [(5, .int oq9), (0, .ref m), (1, .int t), (2, .int o), (3, .int k), (4, .int li)]) hx hb dX5_keep_44 hl (by decide) rfl (fun ls hl => ?_)
        refine lv_aload_n hx hb dX5_keep_46 rfl (lv_at hl 1 rfl) ?_
        refine g_get S G (Rm_m R) rfl (by decide +kernel) 4 (by decide) (by decide +kernel) rfl dX5_keep_47 ?_
        refine lv_iload_n hx hb dX5_keep_50 rfl (lv_at hl 3 rfl) ?_
        refine g_iald S G (Rm_H R) (vin_e ek4 (show k4 < 40 by omega) (by omega)) dX5_keep_51 ?_
        rw [show Int32.toNatClampNeg o = k4 by rw [ek4]; exact nI_clamp (by omega)]
        rcases Kh k4 hk4 with er10 | ⟨r10, hr10, er10⟩
        · skip
          refine lv_istore (lv' := [(6, .int (hd k4)), (5, .int oq9), (0, .ref m), (1, .int t), (2, .int o), (3, .int k), (4, .int li)]) hx hb dX5_keep_52 hl (by decide) rfl (fun ls hl => ?_)
          refine lv_iload hx hb dX5_keep_54 (lv_at hl 1 rfl) ?_
          refine lv_if_ne (tgt := 99) hx hb dX5_keep_56 (by decide) (fun c11 => ?_) (fun c11 => ?_)
          · skip
            refine lv_iload hx hb dX5_keep_99 (lv_at hl 1 rfl) ?_
            refine lv_if_ne (tgt := 121) hx hb dX5_keep_101 (by decide) (fun c12 => ?_) (fun c12 => absurd c12 c11)
            refine lv_aload_n hx hb dX5_keep_121 rfl (lv_at hl 2 rfl) ?_
            refine lv_iload hx hb dX5_keep_122 (lv_at hl 1 rfl) ?_
            refine lv_aload_n hx hb dX5_keep_124 rfl (lv_at hl 2 rfl) ?_
            refine g_get S G (Rm_m R) rfl (by decide +kernel) 15 (by decide) (by decide +kernel) rfl dX5_keep_125 ?_
            refine g_Vi (n := 2) (rest := []) S G hl (c_X5_ended l R (o := oq9) ejq9 hjq9 rsq9) gX5_keep_X5_ended rfl (by decide +kernel) (Rm_m R) rfl rfl rfl (Nat.le_of_ble_eq_true rfl) ⟨Nat.le_of_ble_eq_true rfl, Nat.le_of_ble_eq_true rfl⟩ ⟨Nat.le_of_ble_eq_true rfl, Nat.le_of_ble_eq_true rfl⟩ dX5_keep_128 ?_
            clear G; intro r_ w1 H locs hp G
            obtain ⟨hr_, R⟩ := hp
            subst r_
            refine r_int S hret hlk G rfl (Nat.le_of_ble_eq_true rfl) (Nat.le_of_ble_eq_true rfl) dX5_keep_131 ?_
            have yk1 := tin_e ek1 hk1 (show n ≤ 1000 by omega)
            have zk1 := cn_e ek1 (show k1 < 1000 by omega)
            have yk4 := tin_e ek4 hk4 (show n ≤ 1000 by omega)
            have zk4 := cn_e ek4 (show k4 < 1000 by omega)
            rw [ow_r htq9] at R
            refine ⟨by simp only [S_keep, yk1, zk1, yk4, zk4, er10, i7, hQq9, n_of, lk_of, vs_of, hd_of, nmS, s_end, put_vs, put_it, ↓reduceIte, Bool.false_eq_true, pk_us, and_self]; rw [if_neg c11, if_neg c11], ?_⟩
            simp only [S_keep, yk1, zk1, yk4, zk4, er10, i7, hQq9, n_of, lk_of, vs_of, hd_of, nmS, s_end, put_vs, put_it, ↓reduceIte, Bool.false_eq_true, pk_us, and_self]
            rw [if_neg c11]
            exact ⟨_, _, _, _, _, _, _, _, _, R⟩
          · skip
            refine lv_iload hx hb dX5_keep_59 (lv_at hl 0 rfl) ?_
            refine lv_iconst (v := (-1)) hx hb dX5_keep_61 (by decide) ?_
            refine lv_icmp_ne (tgt := 69) hx hb dX5_keep_62 (by decide) (fun c13 => absurd er10 c13) (fun c13 => ?_)
            refine lv_iconst (v := 1) hx hb dX5_keep_65 (by decide) ?_
            refine lv_goto (tgt := 97) hx hb dX5_keep_66 (by decide) ?_
            refine lv_istore (lv' := [(5, .int 1), (6, .int (hd k4)), (0, .ref m), (1, .int t), (2, .int o), (3, .int k), (4, .int li)]) hx hb dX5_keep_97 hl (by decide) rfl (fun ls hl => ?_)
            refine lv_iload hx hb dX5_keep_99 (lv_at hl 0 rfl) ?_
            refine lv_if_ne (tgt := 121) hx hb dX5_keep_101 (by decide) (fun c14 => ?_) (fun c14 => absurd c14 (by decide))
            refine lv_aload_n hx hb dX5_keep_121 rfl (lv_at hl 2 rfl) ?_
            refine lv_iload hx hb dX5_keep_122 (lv_at hl 0 rfl) ?_
            refine lv_aload_n hx hb dX5_keep_124 rfl (lv_at hl 2 rfl) ?_
            refine g_get S G (Rm_m R) rfl (by decide +kernel) 15 (by decide) (by decide +kernel) rfl dX5_keep_125 ?_
            refine g_Vi (n := 2) (rest := []) S G hl (c_X5_ended l R (j := 1) (o := 1) rfl (by decide) rsq9) gX5_keep_X5_ended rfl (by decide +kernel) (Rm_m R) rfl rfl rfl (Nat.le_of_ble_eq_true rfl) ⟨Nat.le_of_ble_eq_true rfl, Nat.le_of_ble_eq_true rfl⟩ ⟨Nat.le_of_ble_eq_true rfl, Nat.le_of_ble_eq_true rfl⟩ dX5_keep_128 ?_
            clear G; intro r_ w1 H locs hp G
            obtain ⟨hr_, R⟩ := hp
            subst r_
            refine r_int S hret hlk G rfl (Nat.le_of_ble_eq_true rfl) (Nat.le_of_ble_eq_true rfl) dX5_keep_131 ?_
            have yk1 := tin_e ek1 hk1 (show n ≤ 1000 by omega)
            have zk1 := cn_e ek1 (show k1 < 1000 by omega)
            have yk4 := tin_e ek4 hk4 (show n ≤ 1000 by omega)
            have zk4 := cn_e ek4 (show k4 < 1000 by omega)
            rw [c11] at hQq9
            rw [if_neg (show ¬ ((1 : Int32) = 7) by decide)] at R
            refine ⟨by simp only [S_keep, agi, yk1, zk1, yk4, zk4, er10, i7, hQq9, n_of, lk_of, vs_of, hd_of, nmS, s_end, put_vs, put_it, ↓reduceIte, Bool.false_eq_true, pk_us, and_self, show ¬ ((0 : Int32) = 7) by decide, show ¬ ((1 : Int32) = 0) by decide, show ¬ ((1 : Int32) = 7) by decide, show ¬ ((2 : Int32) = 0) by decide, show ¬ ((2 : Int32) = 7) by decide, show ¬ ((3 : Int32) = 0) by decide, show ¬ ((3 : Int32) = 7) by decide], ?_⟩
            simp only [S_keep, agi, yk1, zk1, yk4, zk4, er10, i7, hQq9, n_of, lk_of, vs_of, hd_of, nmS, s_end, put_vs, put_it, ↓reduceIte, Bool.false_eq_true, pk_us, and_self, show ¬ ((0 : Int32) = 7) by decide, show ¬ ((1 : Int32) = 0) by decide, show ¬ ((1 : Int32) = 7) by decide, show ¬ ((2 : Int32) = 0) by decide, show ¬ ((2 : Int32) = 7) by decide, show ¬ ((3 : Int32) = 0) by decide, show ¬ ((3 : Int32) = 7) by decide]
            exact ⟨_, _, _, _, _, _, _, _, _, R⟩
        · skip
          have zr10 := sz_le (Kz r10 hr10)
          refine lv_istore (lv' := [(6, .int (hd k4)), (5, .int oq9), (0, .ref m), (1, .int t), (2, .int o), (3, .int k), (4, .int li)]) hx hb dX5_keep_52 hl (by decide) rfl (fun ls hl => ?_)
          refine lv_iload hx hb dX5_keep_54 (lv_at hl 1 rfl) ?_
          refine lv_if_ne (tgt := 99) hx hb dX5_keep_56 (by decide) (fun c15 => ?_) (fun c15 => ?_)
          · skip
            refine lv_iload hx hb dX5_keep_99 (lv_at hl 1 rfl) ?_
            refine lv_if_ne (tgt := 121) hx hb dX5_keep_101 (by decide) (fun c16 => ?_) (fun c16 => absurd c16 c15)
            refine lv_aload_n hx hb dX5_keep_121 rfl (lv_at hl 2 rfl) ?_
            refine lv_iload hx hb dX5_keep_122 (lv_at hl 1 rfl) ?_
            refine lv_aload_n hx hb dX5_keep_124 rfl (lv_at hl 2 rfl) ?_
            refine g_get S G (Rm_m R) rfl (by decide +kernel) 15 (by decide) (by decide +kernel) rfl dX5_keep_125 ?_
            refine g_Vi (n := 2) (rest := []) S G hl (c_X5_ended l R (o := oq9) ejq9 hjq9 rsq9) gX5_keep_X5_ended rfl (by decide +kernel) (Rm_m R) rfl rfl rfl (Nat.le_of_ble_eq_true rfl) ⟨Nat.le_of_ble_eq_true rfl, Nat.le_of_ble_eq_true rfl⟩ ⟨Nat.le_of_ble_eq_true rfl, Nat.le_of_ble_eq_true rfl⟩ dX5_keep_128 ?_
            clear G; intro r_ w1 H locs hp G
            obtain ⟨hr_, R⟩ := hp
            subst r_
            refine r_int S hret hlk G rfl (Nat.le_of_ble_eq_true rfl) (Nat.le_of_ble_eq_true rfl) dX5_keep_131 ?_
            have yk1 := tin_e ek1 hk1 (show n ≤ 1000 by omega)
            have zk1 := cn_e ek1 (show k1 < 1000 by omega)
            have yk4 := tin_e ek4 hk4 (show n ≤ 1000 by omega)
            have zk4 := cn_e ek4 (show k4 < 1000 by omega)
            have qr10 := nm1 (show r10 < 100000 by omega)
            rw [ow_r htq9] at R
            refine ⟨by simp only [S_keep, yk1, zk1, yk4, zk4, er10, qr10, cn_nI (show r10 < 2 ^ 31 by omega), i7, hQq9, n_of, lk_of, vs_of, hd_of, nmS, s_end, put_vs, put_it, ↓reduceIte, Bool.false_eq_true, pk_us, and_self]; rw [if_neg c15, if_neg c15], ?_⟩
            simp only [S_keep, yk1, zk1, yk4, zk4, er10, qr10, cn_nI (show r10 < 2 ^ 31 by omega), i7, hQq9, n_of, lk_of, vs_of, hd_of, nmS, s_end, put_vs, put_it, ↓reduceIte, Bool.false_eq_true, pk_us, and_self]
            rw [if_neg c15]
            exact ⟨_, _, _, _, _, _, _, _, _, R⟩
          · skip
            refine lv_iload hx hb dX5_keep_59 (lv_at hl 0 rfl) ?_
            refine lv_iconst (v := (-1)) hx hb dX5_keep_61 (by decide) ?_
            refine lv_icmp_ne (tgt := 69) hx hb dX5_keep_62 (by decide) (fun c17 => ?_) (fun c17 => absurd c17 (by rw [er10]; exact nm1 (by omega)))
            refine lv_aload_n hx hb dX5_keep_69 rfl (lv_at hl 2 rfl) ?_
            refine g_get S G (Rm_m R) rfl (by decide +kernel) 6 (by decide) (by decide +kernel) rfl dX5_keep_70 ?_
            refine lv_iload hx hb dX5_keep_73 (lv_at hl 0 rfl) ?_
            refine g_iald S G (Rm_S R) (vin_e er10 (show r10 < 520 by omega) (by omega)) dX5_keep_75 ?_
            rw [show Int32.toNatClampNeg (hd k4) = r10 by rw [er10]; exact nI_clamp (by omega)]
            refine lv_if_eq (tgt := 83) hx hb dX5_keep_76 (by decide) (fun c18 => ?_) (fun c18 => ?_)
            · skip
              refine lv_aload_n hx hb dX5_keep_83 rfl (lv_at hl 2 rfl) ?_
              refine lv_iload_n hx hb dX5_keep_84 rfl (lv_at hl 4 rfl) ?_
              refine lv_iload_n hx hb dX5_keep_85 rfl (lv_at hl 5 rfl) ?_
              rcases tin_c (cn (sz r10)) k (by omega) with ⟨tk19, ok19⟩ | ⟨k19, hk19, ek19⟩
              · skip
                refine g_Vi (n := 2) (rest := []) S G hl (c_X5_isItem l R ek4 hk4 Kn er10 hr10 Kr (Kz r10 hr10) k) gX5_keep_X5_isItem rfl (by decide +kernel) (Rm_m R) rfl rfl rfl (Nat.le_of_ble_eq_true rfl) ⟨Nat.le_of_ble_eq_true rfl, Nat.le_of_ble_eq_true rfl⟩ ⟨Nat.le_of_ble_eq_true rfl, Nat.le_of_ble_eq_true rfl⟩ dX5_keep_86 ?_
                clear G; intro r_ w1 H locs hp G
                obtain ⟨rfl, hq_⟩ := hp
                rw [tk19] at hq_
                simp only [Bool.false_eq_true, ↓reduceIte] at hq_
                subst hq_
                refine lv_if_eq (tgt := 96) hx hb dX5_keep_89 (by decide) (fun c20 => ?_) (fun c20 => absurd (by decide) c20)
                refine lv_iconst (v := 3) hx hb dX5_keep_96 (by decide) ?_
                refine lv_istore (lv' := [(5, .int 3), (6, .int (hd k4)), (0, .ref m), (1, .int t), (2, .int o), (3, .int k), (4, .int li)]) hx hb dX5_keep_97 hl (by decide) rfl (fun ls hl => ?_)
                refine lv_iload hx hb dX5_keep_99 (lv_at hl 0 rfl) ?_
                refine lv_if_ne (tgt := 121) hx hb dX5_keep_101 (by decide) (fun c21 => ?_) (fun c21 => absurd c21 (by decide))
                refine lv_aload_n hx hb dX5_keep_121 rfl (lv_at hl 2 rfl) ?_
                refine lv_iload hx hb dX5_keep_122 (lv_at hl 0 rfl) ?_
                refine lv_aload_n hx hb dX5_keep_124 rfl (lv_at hl 2 rfl) ?_
                refine g_get S G (Rm_m R) rfl (by decide +kernel) 15 (by decide) (by decide +kernel) rfl dX5_keep_125 ?_
                refine g_Vi (n := 2) (rest := []) S G hl (c_X5_ended l R (j := 3) (o := 3) rfl (by decide) rsq9) gX5_keep_X5_ended rfl (by decide +kernel) (Rm_m R) rfl rfl rfl (Nat.le_of_ble_eq_true rfl) ⟨Nat.le_of_ble_eq_true rfl, Nat.le_of_ble_eq_true rfl⟩ ⟨Nat.le_of_ble_eq_true rfl, Nat.le_of_ble_eq_true rfl⟩ dX5_keep_128 ?_
                clear G; intro r_ w1 H locs hp G
                obtain ⟨hr_, R⟩ := hp
                subst r_
                refine r_int S hret hlk G rfl (Nat.le_of_ble_eq_true rfl) (Nat.le_of_ble_eq_true rfl) dX5_keep_131 ?_
                have yk1 := tin_e ek1 hk1 (show n ≤ 1000 by omega)
                have zk1 := cn_e ek1 (show k1 < 1000 by omega)
                have yk4 := tin_e ek4 hk4 (show n ≤ 1000 by omega)
                have zk4 := cn_e ek4 (show k4 < 1000 by omega)
                have qr10 := nm1 (show r10 < 100000 by omega)
                rw [c15] at hQq9
                rw [if_neg (show ¬ ((3 : Int32) = 7) by decide)] at R
                refine ⟨by simp only [S_keep, agi, yk1, zk1, yk4, zk4, er10, qr10, cn_nI (show r10 < 2 ^ 31 by omega), i7, tk19, hQq9, c18, n_of, lk_of, vs_of, hd_of, nmS, s_end, put_vs, put_it, ↓reduceIte, Bool.false_eq_true, pk_us, and_self, show ¬ ((0 : Int32) = 7) by decide, show ¬ ((1 : Int32) = 0) by decide, show ¬ ((1 : Int32) = 7) by decide, show ¬ ((2 : Int32) = 0) by decide, show ¬ ((2 : Int32) = 7) by decide, show ¬ ((3 : Int32) = 0) by decide, show ¬ ((3 : Int32) = 7) by decide], ?_⟩
                simp only [S_keep, agi, yk1, zk1, yk4, zk4, er10, qr10, cn_nI (show r10 < 2 ^ 31 by omega), i7, tk19, hQq9, c18, n_of, lk_of, vs_of, hd_of, nmS, s_end, put_vs, put_it, ↓reduceIte, Bool.false_eq_true, pk_us, and_self, show ¬ ((0 : Int32) = 7) by decide, show ¬ ((1 : Int32) = 0) by decide, show ¬ ((1 : Int32) = 7) by decide, show ¬ ((2 : Int32) = 0) by decide, show ¬ ((2 : Int32) = 7) by decide, show ¬ ((3 : Int32) = 0) by decide, show ¬ ((3 : Int32) = 7) by decide]
                exact ⟨_, _, _, _, _, _, _, _, _, R⟩
              · skip
                have yk19 := tin_e ek19 hk19 (show cn (sz r10) ≤ 1000 by omega)
                have zk19 := cn_e ek19 (show k19 < 1000 by omega)
                refine g_Vi (n := 2) (rest := []) S G hl (c_X5_isItem l R ek4 hk4 Kn er10 hr10 Kr (Kz r10 hr10) k) gX5_keep_X5_isItem rfl (by decide +kernel) (Rm_m R) rfl rfl rfl (Nat.le_of_ble_eq_true rfl) ⟨Nat.le_of_ble_eq_true rfl, Nat.le_of_ble_eq_true rfl⟩ ⟨Nat.le_of_ble_eq_true rfl, Nat.le_of_ble_eq_true rfl⟩ dX5_keep_86 ?_
                clear G; intro r_ w1 H locs hp G
                obtain ⟨rfl, hq_⟩ := hp
                rw [if_pos yk19] at hq_
                subst hq_
                refine lv_if_eq (tgt := 96) hx hb dX5_keep_89 (by decide) (fun c22 => absurd c22 (by decide)) (fun c22 => ?_)
                refine lv_iconst (v := 0) hx hb dX5_keep_92 (by decide) ?_
                refine lv_goto (tgt := 97) hx hb dX5_keep_93 (by decide) ?_
                refine lv_istore (lv' := [(5, .int 0), (6, .int (hd k4)), (0, .ref m), (1, .int t), (2, .int o), (3, .int k), (4, .int li)]) hx hb dX5_keep_97 hl (by decide) rfl (fun ls hl => ?_)
                refine lv_iload hx hb dX5_keep_99 (lv_at hl 0 rfl) ?_
                refine lv_if_ne (tgt := 121) hx hb dX5_keep_101 (by decide) (fun c23 => absurd (by decide) c23) (fun c23 => ?_)
                refine lv_aload_n hx hb dX5_keep_104 rfl (lv_at hl 2 rfl) ?_
                refine g_get S G (Rm_m R) rfl (by decide +kernel) 8 (by decide) (by decide +kernel) rfl dX5_keep_105 ?_
                refine lv_bipush (v := 12) hx hb dX5_keep_108 (by decide) ?_
                refine lv_iload hx hb dX5_keep_110 (lv_at hl 1 rfl) ?_
                refine lv_imul hx hb dX5_keep_112 ?_
                refine lv_topi (fun a24 ea24 => ?_)
                have da24 : a24 = nI (12 * r10) := by rw [ea24, er10]; exact pk_mul 12 r10
                refine lv_iload_n hx hb dX5_keep_113 rfl (lv_at hl 5 rfl) ?_
                refine lv_iadd hx hb dX5_keep_114 ?_
                refine lv_topi (fun a25 ea25 => ?_)
                have da25 : a25 = nI (12 * r10 + k19) := by rw [ea25, da24, ek19]; exact nI_add (12 * r10) k19
                refine lv_aload_n hx hb dX5_keep_115 rfl (lv_at hl 2 rfl) ?_
                refine g_get S G (Rm_m R) rfl (by decide +kernel) 15 (by decide) (by decide +kernel) rfl dX5_keep_116 ?_
                refine lv_i2l (v := (Int32.toInt64 rsq9)) hx hb dX5_keep_119 rfl ?_
                refine g_last S G (Rm_I R) (vin_e da25 (show 12 * r10 + k19 < 6240 by omega) (by omega)) dX5_keep_120 (fun H locs G => ?_)
                rw [show Int32.toNatClampNeg a25 = 12 * r10 + k19 by rw [da25]; exact nI_clamp (by omega)] at G
                obtain ⟨w, R, G⟩ := Rm_ex (Rm_p_it R (vp_updL it (12 * r10 + k19) (Int32.toInt64 rsq9))) G
                refine lv_aload_n hx hb dX5_keep_121 rfl (lv_at hl 2 rfl) ?_
                refine lv_iload hx hb dX5_keep_122 (lv_at hl 0 rfl) ?_
                refine lv_aload_n hx hb dX5_keep_124 rfl (lv_at hl 2 rfl) ?_
                refine g_get S G (Rm_m R) rfl (by decide +kernel) 15 (by decide) (by decide +kernel) rfl dX5_keep_125 ?_
                refine g_Vi (n := 2) (rest := []) S G hl (c_X5_ended l R (j := 0) (o := 0) rfl (by decide) rsq9) gX5_keep_X5_ended rfl (by decide +kernel) (Rm_m R) rfl rfl rfl (Nat.le_of_ble_eq_true rfl) ⟨Nat.le_of_ble_eq_true rfl, Nat.le_of_ble_eq_true rfl⟩ ⟨Nat.le_of_ble_eq_true rfl, Nat.le_of_ble_eq_true rfl⟩ dX5_keep_128 ?_
                clear G; intro r_ w1 H locs hp G
                obtain ⟨hr_, R⟩ := hp
                subst r_
                refine r_int S hret hlk G rfl (Nat.le_of_ble_eq_true rfl) (Nat.le_of_ble_eq_true rfl) dX5_keep_131 ?_
                have yk1 := tin_e ek1 hk1 (show n ≤ 1000 by omega)
                have zk1 := cn_e ek1 (show k1 < 1000 by omega)
                have yk4 := tin_e ek4 hk4 (show n ≤ 1000 by omega)
                have zk4 := cn_e ek4 (show k4 < 1000 by omega)
                have qr10 := nm1 (show r10 < 100000 by omega)
                rw [c15] at hQq9
                rw [if_neg (show ¬ ((0 : Int32) = 7) by decide)] at R
                rw [hsq9 c15] at R
                refine ⟨by simp only [S_keep, agi, yk1, zk1, yk4, zk4, er10, qr10, cn_nI (show r10 < 2 ^ 31 by omega), i7, yk19, zk19, hQq9, c18, n_of, lk_of, vs_of, hd_of, nmS, s_end, put_vs, put_it, ↓reduceIte, Bool.false_eq_true, pk_us, and_self, show ¬ ((0 : Int32) = 7) by decide, show ¬ ((1 : Int32) = 0) by decide, show ¬ ((1 : Int32) = 7) by decide, show ¬ ((2 : Int32) = 0) by decide, show ¬ ((2 : Int32) = 7) by decide, show ¬ ((3 : Int32) = 0) by decide, show ¬ ((3 : Int32) = 7) by decide]; exact hsq9 c15, ?_⟩
                simp only [S_keep, agi, yk1, zk1, yk4, zk4, er10, qr10, cn_nI (show r10 < 2 ^ 31 by omega), i7, yk19, zk19, hQq9, c18, n_of, lk_of, vs_of, hd_of, nmS, s_end, put_vs, put_it, ↓reduceIte, Bool.false_eq_true, pk_us, and_self, show ¬ ((0 : Int32) = 7) by decide, show ¬ ((1 : Int32) = 0) by decide, show ¬ ((1 : Int32) = 7) by decide, show ¬ ((2 : Int32) = 0) by decide, show ¬ ((2 : Int32) = 7) by decide, show ¬ ((3 : Int32) = 0) by decide, show ¬ ((3 : Int32) = 7) by decide]
                exact ⟨_, _, _, _, _, _, _, _, _, R⟩
            · skip
              refine lv_iconst (v := 2) hx hb dX5_keep_79 (by decide) ?_
              refine lv_goto (tgt := 97) hx hb dX5_keep_80 (by decide) ?_
              refine lv_istore (lv' := [(5, .int 2), (6, .int (hd k4)), (0, .ref m), (1, .int t), (2, .int o), (3, .int k), (4, .int li)]) hx hb dX5_keep_97 hl (by decide) rfl (fun ls hl => ?_)
              refine lv_iload hx hb dX5_keep_99 (lv_at hl 0 rfl) ?_
              refine lv_if_ne (tgt := 121) hx hb dX5_keep_101 (by decide) (fun c26 => ?_) (fun c26 => absurd c26 (by decide))
              refine lv_aload_n hx hb dX5_keep_121 rfl (lv_at hl 2 rfl) ?_
              refine lv_iload hx hb dX5_keep_122 (lv_at hl 0 rfl) ?_
              refine lv_aload_n hx hb dX5_keep_124 rfl (lv_at hl 2 rfl) ?_
              refine g_get S G (Rm_m R) rfl (by decide +kernel) 15 (by decide) (by decide +kernel) rfl dX5_keep_125 ?_
              refine g_Vi (n := 2) (rest := []) S G hl (c_X5_ended l R (j := 2) (o := 2) rfl (by decide) rsq9) gX5_keep_X5_ended rfl (by decide +kernel) (Rm_m R) rfl rfl rfl (Nat.le_of_ble_eq_true rfl) ⟨Nat.le_of_ble_eq_true rfl, Nat.le_of_ble_eq_true rfl⟩ ⟨Nat.le_of_ble_eq_true rfl, Nat.le_of_ble_eq_true rfl⟩ dX5_keep_128 ?_
              clear G; intro r_ w1 H locs hp G
              obtain ⟨hr_, R⟩ := hp
              subst r_
              refine r_int S hret hlk G rfl (Nat.le_of_ble_eq_true rfl) (Nat.le_of_ble_eq_true rfl) dX5_keep_131 ?_
              have yk1 := tin_e ek1 hk1 (show n ≤ 1000 by omega)
              have zk1 := cn_e ek1 (show k1 < 1000 by omega)
              have yk4 := tin_e ek4 hk4 (show n ≤ 1000 by omega)
              have zk4 := cn_e ek4 (show k4 < 1000 by omega)
              have qr10 := nm1 (show r10 < 100000 by omega)
              rw [c15] at hQq9
              rw [if_neg (show ¬ ((2 : Int32) = 7) by decide)] at R
              refine ⟨by simp only [S_keep, agi, yk1, zk1, yk4, zk4, er10, qr10, cn_nI (show r10 < 2 ^ 31 by omega), i7, hQq9, c18, n_of, lk_of, vs_of, hd_of, nmS, s_end, put_vs, put_it, ↓reduceIte, Bool.false_eq_true, pk_us, and_self, show ¬ ((0 : Int32) = 7) by decide, show ¬ ((1 : Int32) = 0) by decide, show ¬ ((1 : Int32) = 7) by decide, show ¬ ((2 : Int32) = 0) by decide, show ¬ ((2 : Int32) = 7) by decide, show ¬ ((3 : Int32) = 0) by decide, show ¬ ((3 : Int32) = 7) by decide], ?_⟩
              simp only [S_keep, agi, yk1, zk1, yk4, zk4, er10, qr10, cn_nI (show r10 < 2 ^ 31 by omega), i7, hQq9, c18, n_of, lk_of, vs_of, hd_of, nmS, s_end, put_vs, put_it, ↓reduceIte, Bool.false_eq_true, pk_us, and_self, show ¬ ((0 : Int32) = 7) by decide, show ¬ ((1 : Int32) = 0) by decide, show ¬ ((1 : Int32) = 7) by decide, show ¬ ((2 : Int32) = 0) by decide, show ¬ ((2 : Int32) = 7) by decide, show ¬ ((3 : Int32) = 0) by decide, show ¬ ((3 : Int32) = 7) by decide]
              exact ⟨_, _, _, _, _, _, _, _, _, R⟩
      · skip
        refine g_Si (n := 3) (rest := []) S G hl (c_X5_in l (Int32.toInt64 li) 1 (100)) gX5_keep_X5_in rfl (by decide +kernel) rfl rfl (Nat.le_of_ble_eq_true rfl) ⟨Nat.le_of_ble_eq_true rfl, Nat.le_of_ble_eq_true rfl⟩ ⟨Nat.le_of_ble_eq_true rfl, Nat.le_of_ble_eq_true rfl⟩ dX5_keep_23 ?_
        clear G; intro r_ w1 H locs hp G
        obtain ⟨rfl, hq_⟩ := hp
        rw [if_neg (fun z : (1 : Int64) ≤ Int32.toInt64 li ∧ Int32.toInt64 li ≤ 100 => i7 ((in_lim li).mp z))] at hq_
        subst hq_
        refine lv_if_ne (tgt := 32) hx hb dX5_keep_26 (by decide) (fun c27 => absurd (by decide) c27) (fun c27 => ?_)
        refine lv_ldc hx hb S.2.2.2.1 (S.2.2.2.2 (.constant RX5 48 (-2000000001)) (by decide +kernel)) dX5_keep_29 ?_
        refine r_int S hret hlk G rfl (Nat.le_of_ble_eq_true rfl) (Nat.le_of_ble_eq_true rfl) dX5_keep_31 ?_
        have yk1 := tin_e ek1 hk1 (show n ≤ 1000 by omega)
        have zk1 := cn_e ek1 (show k1 < 1000 by omega)
        have yk4 := tin_e ek4 hk4 (show n ≤ 1000 by omega)
        have zk4 := cn_e ek4 (show k4 < 1000 by omega)
        refine ⟨by simp only [S_keep, yk1, zk1, yk4, zk4, i7, n_of, lk_of, vs_of, hd_of, nmS, s_end, put_vs, put_it, ↓reduceIte, Bool.false_eq_true, pk_us, and_self], ?_⟩
        simp only [S_keep, yk1, zk1, yk4, zk4, i7, n_of, lk_of, vs_of, hd_of, nmS, s_end, put_vs, put_it, ↓reduceIte, Bool.false_eq_true, pk_us, and_self]
        exact ⟨_, _, _, _, _, _, _, _, _, R⟩
