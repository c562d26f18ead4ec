/-! THE CLASS: Store.find, tell, refuse, the Work's stop .. -/
theorem Rc_Tn {E : EV} {w : wo} {x st wk tl ta : Nat} {tf : Nat → Option Nat} {T Rw Ia : Nat → Nat} {F : Nat → Nat → Int64} {n : Nat} {cl vs lk hd : Nat → Int32} {nr : Nat} {so sz : Nat → Int32} {it : Nat → Int64} {oc ow bg dp : Int32} {td : Nat → Int32} {lim wou th : Int32} (R : Rc E w (x, st, wk, tl, ta, tf, T, Rw, Ia, F) (n, cl, vs, lk, hd, nr, so, sz, it, oc, ow, bg, dp, td) (lim, wou, th)) {k : Nat} (hk : k < n) (e : hd k = -1) : w (T k) = some (.inr (2, [.int (cl k), .int (vs k), .int (lk k), .null])) := by
  have q := Rc_T R k hk
  rw [show ro Rw (hd k) = none by simp [ro, e]] at q
  exact q
theorem Rc_Ty {E : EV} {w : wo} {x st wk tl ta : Nat} {tf : Nat → Option Nat} {T Rw Ia : Nat → Nat} {F : Nat → Nat → Int64} {n : Nat} {cl vs lk hd : Nat → Int32} {nr : Nat} {so sz : Nat → Int32} {it : Nat → Int64} {oc ow bg dp : Int32} {td : Nat → Int32} {lim wou th : Int32} (R : Rc E w (x, st, wk, tl, ta, tf, T, Rw, Ia, F) (n, cl, vs, lk, hd, nr, so, sz, it, oc, ow, bg, dp, td) (lim, wou, th)) {k r : Nat} (hk : k < n) (e : hd k = nI r) (hr : r < nr) (hnr : nr ≤ 512) : w (T k) = some (.inr (2, [.int (cl k), .int (vs k), .int (lk k), .ref (Rw r)])) := by
  have q := Rc_T R k hk
  have h0 : ¬ nI r = -1 := fun z => by
    have h1 := congrArg Int32.toInt z
    rw [nI_toInt (show r < 2 ^ 31 by omega)] at h1
    have h2 : (-1 : Int32).toInt = -1 := by decide
    omega
  rw [show ro Rw (hd k) = some (Rw r) by simp [ro, e, h0, cn_nI (show r < 2 ^ 31 by omega)]] at q
  exact q
theorem Rc_p_hdn {E : EV} {w : wo} {x st wk tl ta : Nat} {tf : Nat → Option Nat} {T Rw Ia : Nat → Nat} {F : Nat → Nat → Int64} {n : Nat} {cl vs lk hd : Nat → Int32} {nr : Nat} {so sz : Nat → Int32} {it : Nat → Int64} {oc ow bg dp : Int32} {td : Nat → Int32} {lim wou th : Int32} (R : Rc E w (x, st, wk, tl, ta, tf, T, Rw, Ia, F) (n, cl, vs, lk, hd, nr, so, sz, it, oc, ow, bg, dp, td) (lim, wou, th)) {k0 : Nat} (h : k0 < n) : Rc E (wo_up w (T k0) (.inr (2, [.int (cl k0), .int (vs k0), .int (lk k0), .null]))) (x, st, wk, tl, ta, tf, T, Rw, Ia, F) (n, cl, vs, lk, upd hd k0 (-1), nr, so, sz, it, oc, ow, bg, dp, td) (lim, wou, th) := by
  have q := Rc_p_hd R h (-1)
  rw [show ro Rw (-1) = none by simp [ro]] at q
  exact q
set_option maxHeartbeats 4000000 in
set_option maxRecDepth 100000 in
theorem c_X1_find_y (l : Launch) {E : EV} {w : wo} {x st wk tl ta : Nat} {tf : Nat → Option Nat} {T Rw Ia : Nat → Nat} {F : Nat → Nat → Int64} {n : Nat} {cl vs lk hd : Nat → Int32} {nr : Nat} {so sz : Nat → Int32} {it : Nat → Int64} {oc ow bg dp : Int32} {td : Nat → Int32} {lim wou th : Int32} (R : Rc E w (x, st, wk, tl, ta, tf, T, Rw, Ia, F) (n, cl, vs, lk, hd, nr, so, sz, it, oc, ow, bg, dp, td) (lim, wou, th)) (Kn : n ≤ 40) {t : Int32} {k : Nat} (ek : t = nI k) (hk : k < n) : ct_q l E yX1_find wsX1_find 0 0 0 [.ref st, .int t] w (fun r w' => w' = w ∧ r = some (T k)) := by
  intro zz
  refine wo_body (Qc := fun A => va_Qq _ (wo_B E A) A) (ret := (some (.object "ClassRunner$Thing"))) (by decide) rfl (Nat.le_of_ble_eq_true rfl) ?_
  intro p_ e_ s_ m_ args_ below_ meth_ code_ A_ ls S hret hlk hnm G hl
  have hl : lv_has ls 2 [(0, .ref st), (1, .int t)] := hl
  have hx := S.1
  have hb := S.2.1
  refine lv_iload_n hx hb dX1_find_0 rfl (lv_at hl 1 rfl) ?_
  refine lv_if_lt (tgt := 21) hx hb dX1_find_1 (by decide) (fun c1 => absurd c1 (by rw [ek]; exact nI_pos (by omega))) (fun c1 => ?_)
  refine lv_iload_n hx hb dX1_find_4 rfl (lv_at hl 1 rfl) ?_
  refine lv_aload_n hx hb dX1_find_5 rfl (lv_at hl 0 rfl) ?_
  refine g_get S G (Rc_st R) rfl (by decide +kernel) 1 (by decide) (by decide +kernel) rfl dX1_find_6 ?_
  refine lv_icmp_ge (tgt := 21) hx hb dX1_find_9 (by decide) (fun c2 => absurd c2 (by rw [ek]; exact nI_ge hk (by omega))) (fun c2 => ?_)
  refine lv_aload_n hx hb dX1_find_12 rfl (lv_at hl 0 rfl) ?_
  refine g_get S G (Rc_st R) rfl (by decide +kernel) 0 (by decide) (by decide +kernel) rfl dX1_find_13 ?_
  refine lv_iload_n hx hb dX1_find_16 rfl (lv_at hl 1 rfl) ?_
  refine g_aald S G (Rc_ta R) (vin_e ek (show k < 40 by omega) (by omega)) dX1_find_17 ?_
  rw [show Int32.toNatClampNeg t = k from cn_e ek (by omega), Rc_tf R k hk]
  refine lv_goto (tgt := 22) hx hb dX1_find_18 (by decide) ?_
  refine r_ref (r := (some (T k))) S hret hlk G rfl (Nat.le_of_ble_eq_true rfl) (Nat.le_of_ble_eq_true rfl) dX1_find_22 ?_
  exact ⟨rfl, rfl⟩

set_option maxHeartbeats 4000000 in
set_option maxRecDepth 100000 in
theorem c_X1_find_n (l : Launch) {E : EV} {w : wo} {x st wk tl ta : Nat} {tf : Nat → Option Nat} {T Rw Ia : Nat → Nat} {F : Nat → Nat → Int64} {n : Nat} {cl vs lk hd : Nat → Int32} {nr : Nat} {so sz : Nat → Int32} {it : Nat → Int64} {oc ow bg dp : Int32} {td : Nat → Int32} {lim wou th : Int32} (R : Rc E w (x, st, wk, tl, ta, tf, T, Rw, Ia, F) (n, cl, vs, lk, hd, nr, so, sz, it, oc, ow, bg, dp, td) (lim, wou, th)) (Kn : n ≤ 40) {t : Int32} (ho : t < 0 ∨ nI n ≤ t) : ct_q l E yX1_find wsX1_find 0 0 0 [.ref st, .int t] w (fun r w' => w' = w ∧ r = none) := by
  intro zz
  refine wo_body (Qc := fun A => va_Qq _ (wo_B E A) A) (ret := (some (.object "ClassRunner$Thing"))) (by decide) rfl (Nat.le_of_ble_eq_true rfl) ?_
  intro p_ e_ s_ m_ args_ below_ meth_ code_ A_ ls S hret hlk hnm G hl
  have hl : lv_has ls 2 [(0, .ref st), (1, .int t)] := hl
  have hx := S.1
  have hb := S.2.1
  refine lv_iload_n hx hb dX1_find_0 rfl (lv_at hl 1 rfl) ?_
  refine lv_if_lt (tgt := 21) hx hb dX1_find_1 (by decide) (fun c1 => ?_) (fun c1 => ?_)
  · skip
    refine lv_null hx hb dX1_find_21 ?_
    refine r_ref (r := none) S hret hlk G rfl (Nat.le_of_ble_eq_true rfl) (Nat.le_of_ble_eq_true rfl) dX1_find_22 ?_
    exact ⟨rfl, rfl⟩
  · skip
    refine lv_iload_n hx hb dX1_find_4 rfl (lv_at hl 1 rfl) ?_
    refine lv_aload_n hx hb dX1_find_5 rfl (lv_at hl 0 rfl) ?_
    refine g_get S G (Rc_st R) rfl (by decide +kernel) 1 (by decide) (by decide +kernel) rfl dX1_find_6 ?_
    refine lv_icmp_ge (tgt := 21) hx hb dX1_find_9 (by decide) (fun c2 => ?_) (fun c2 => ?_)
    · skip
      refine lv_null hx hb dX1_find_21 ?_
      refine r_ref (r := none) S hret hlk G rfl (Nat.le_of_ble_eq_true rfl) (Nat.le_of_ble_eq_true rfl) dX1_find_22 ?_
      exact ⟨rfl, rfl⟩
    · skip
      exact ho.elim (fun q => absurd q c1) (fun q => absurd q c2)

set_option maxHeartbeats 4000000 in
set_option maxRecDepth 100000 in
theorem c_X4_tell (l : Launch) {E : EV} {w : wo} {x st wk tl ta : Nat} {tf : Nat → Option Nat} {T Rw Ia : Nat → Nat} {F : Nat → Nat → Int64} {n : Nat} {cl vs lk hd : Nat → Int32} {nr : Nat} {so sz : Nat → Int32} {it : Nat → Int64} {oc ow bg dp : Int32} {td : Nat → Int32} {lim wou th : Int32} (R : Rc E w (x, st, wk, tl, ta, tf, T, Rw, Ia, F) (n, cl, vs, lk, hd, nr, so, sz, it, oc, ow, bg, dp, td) (lim, wou, th)) {o : Int32} {j : Nat} (ej : o = nI j) (hj : j < 10) : ct_i l E yX4_tell wsX4_tell 0 0 0 [.ref x, .int o] w (fun r w' => r = o ∧ Rc E w' (x, st, wk, tl, ta, tf, T, Rw, Ia, F) (n, cl, vs, lk, hd, nr, so, sz, it, o, if o = 7 then th else ow, bg, dp, upd td (cn o) (td (cn o) + 1)) (lim, wou, th)) := by
  intro zz
  refine wo_body (Qc := fun A => va_Qi _ (wo_B E A) A) (ret := (some .int)) (by decide) rfl (Nat.le_of_ble_eq_true rfl) ?_
  intro p_ e_ s_ m_ args_ below_ meth_ code_ A_ ls S hret hlk hnm G hl
  have hl : lv_has ls 2 [(0, .ref x), (1, .int o)] := hl
  have hx := S.1
  have hb := S.2.1
  refine lv_aload_n hx hb dX4_tell_0 rfl (lv_at hl 0 rfl) ?_
  refine lv_iload_n hx hb dX4_tell_1 rfl (lv_at hl 1 rfl) ?_
  refine g_put (fs' := [.ref st, .ref wk, .ref tl, .int o, .int ow]) (ty := .int) (v := .int o) S G (Rc_x R) rfl tyX4 tyX4_ok nmX4 (by decide +kernel) 3 (by decide) (by decide +kernel) rfl (by decide +kernel) rfl rfl (Nat.le_of_ble_eq_true rfl) rfl dX4_tell_2 (fun H locs G => ?_)
  obtain ⟨w, R, G⟩ := Rc_ex (Rc_p_oc R o) G
  refine lv_aload_n hx hb dX4_tell_5 rfl (lv_at hl 0 rfl) ?_
  refine g_get S G (Rc_x R) rfl (by decide +kernel) 2 (by decide) (by decide +kernel) rfl dX4_tell_6 ?_
  refine lv_iload_n hx hb dX4_tell_9 rfl (lv_at hl 1 rfl) ?_
  refine lv_dup2_11 hx hb dX4_tell_10 rfl rfl ?_
  refine g_iald S G (Rc_tl R) (vin_e ej hj (by omega)) dX4_tell_11 ?_
  refine lv_iconst (v := 1) hx hb dX4_tell_12 (by decide) ?_
  refine lv_iadd hx hb dX4_tell_13 ?_
  refine g_iast S G (Rc_tl R) (vin_e ej hj (by omega)) dX4_tell_14 (fun H locs G => ?_)
  obtain ⟨w, R, G⟩ := Rc_ex (Rc_p_td R (upd td (Int32.toNatClampNeg o) ((td (Int32.toNatClampNeg o)) + 1))) G
  refine lv_iload_n hx hb dX4_tell_15 rfl (lv_at hl 1 rfl) ?_
  refine lv_bipush (v := 7) hx hb dX4_tell_16 (by decide) ?_
  refine lv_icmp_ne (tgt := 32) hx hb dX4_tell_18 (by decide) (fun c1 => ?_) (fun c1 => ?_)
  · skip
    refine lv_iload_n hx hb dX4_tell_32 rfl (lv_at hl 1 rfl) ?_
    refine r_int S hret hlk G rfl (Nat.le_of_ble_eq_true rfl) (Nat.le_of_ble_eq_true rfl) dX4_tell_33 ?_
    rw [if_neg c1]
    exact ⟨rfl, R⟩
  · skip
    refine lv_aload_n hx hb dX4_tell_21 rfl (lv_at hl 0 rfl) ?_
    refine lv_aload_n hx hb dX4_tell_22 rfl (lv_at hl 0 rfl) ?_
    refine g_get S G (Rc_x R) rfl (by decide +kernel) 1 (by decide) (by decide +kernel) rfl dX4_tell_23 ?_
    refine g_get S G (Rc_wk R) rfl (by decide +kernel) 5 (by decide) (by decide +kernel) rfl dX4_tell_26 ?_
    refine g_put (fs' := [.ref st, .ref wk, .ref tl, .int o, .int th]) (ty := .int) (v := .int th) S G (Rc_x R) rfl tyX4 tyX4_ok nmX4 (by decide +kernel) 4 (by decide) (by decide +kernel) rfl (by decide +kernel) rfl rfl (Nat.le_of_ble_eq_true rfl) rfl dX4_tell_29 (fun H locs G => ?_)
    obtain ⟨w, R, G⟩ := Rc_ex (Rc_p_ow R th) G
    refine lv_iload_n hx hb dX4_tell_32 rfl (lv_at hl 1 rfl) ?_
    refine r_int S hret hlk G rfl (Nat.le_of_ble_eq_true rfl) (Nat.le_of_ble_eq_true rfl) dX4_tell_33 ?_
    rw [if_pos c1]
    exact ⟨rfl, R⟩

set_option maxHeartbeats 4000000 in
set_option maxRecDepth 100000 in
theorem c_X4_refuse (l : Launch) {E : EV} {w : wo} {x st wk tl ta : Nat} {tf : Nat → Option Nat} {T Rw Ia : Nat → Nat} {F : Nat → Nat → Int64} {n : Nat} {cl vs lk hd : Nat → Int32} {nr : Nat} {so sz : Nat → Int32} {it : Nat → Int64} {oc ow bg dp : Int32} {td : Nat → Int32} {lim wou th : Int32} (R : Rc E w (x, st, wk, tl, ta, tf, T, Rw, Ia, F) (n, cl, vs, lk, hd, nr, so, sz, it, oc, ow, bg, dp, td) (lim, wou, th)) {o : Int32} {j : Nat} (ej : o = nI j) (hj : j < 10) : ct_i l E yX4_refuse wsX4_refuse 1 0 0 [.ref x, .int o] w (fun r w' => r = 0 ∧ Rc E w' (x, st, wk, tl, ta, tf, T, Rw, Ia, F) (n, cl, vs, lk, hd, nr, so, sz, it, o, if o = 7 then th else ow, bg, dp, upd td (cn o) (td (cn o) + 1)) (lim, wou, th)) := by
  intro zz
  refine wo_body (Qc := fun A => va_Qi _ (wo_B E A) A) (ret := (some .int)) (by decide) rfl (Nat.le_of_ble_eq_true rfl) ?_
  intro p_ e_ s_ m_ args_ below_ meth_ code_ A_ ls S hret hlk hnm G hl
  have hl : lv_has ls 2 [(0, .ref x), (1, .int o)] := hl
  have hx := S.1
  have hb := S.2.1
  refine lv_aload_n hx hb dX4_refuse_0 rfl (lv_at hl 0 rfl) ?_
  refine lv_iload_n hx hb dX4_refuse_1 rfl (lv_at hl 1 rfl) ?_
  refine g_Vi (n := 1) (rest := []) S G hl (c_X4_tell l R (o := o) ej hj) gX4_refuse_X4_tell rfl (by decide +kernel) (Rc_x R) rfl rfl rfl (Nat.le_of_ble_eq_true rfl) ⟨Nat.le_of_ble_eq_true rfl, Nat.le_of_ble_eq_true rfl⟩ ⟨Nat.le_of_ble_eq_true rfl, Nat.le_of_ble_eq_true rfl⟩ dX4_refuse_2 ?_
  clear G; intro r_ w1 H locs hp G
  obtain ⟨hr_, R⟩ := hp
  subst r_
  refine lv_pop hx hb dX4_refuse_5 rfl ?_
  refine lv_iconst (v := 0) hx hb dX4_refuse_6 (by decide) ?_
  refine r_int S hret hlk G rfl (Nat.le_of_ble_eq_true rfl) (Nat.le_of_ble_eq_true rfl) dX4_refuse_7 ?_
  exact ⟨rfl, R⟩

set_option maxHeartbeats 4000000 in
set_option maxRecDepth 100000 in
theorem c_X3_stop (l : Launch) {E : EV} {w : wo} {x st wk tl ta : Nat} {tf : Nat → Option Nat} {T Rw Ia : Nat → Nat} {F : Nat → Nat → Int64} {n : Nat} {cl vs lk hd : Nat → Int32} {nr : Nat} {so sz : Nat → Int32} {it : Nat → Int64} {oc ow bg dp : Int32} {td : Nat → Int32} {lim wou th : Int32} (R : Rc E w (x, st, wk, tl, ta, tf, T, Rw, Ia, F) (n, cl, vs, lk, hd, nr, so, sz, it, oc, ow, bg, dp, td) (lim, wou, th)) (o u : Int32) : ct_i l E yX3_stop wsX3_stop 0 0 0 [.ref wk, .int o, .int u] w (fun r w' => r = 0 ∧ Rc E w' (x, st, wk, tl, ta, tf, T, Rw, Ia, F) (n, cl, vs, lk, hd, nr, so, sz, it, oc, ow, bg, u, td) (lim, o, th)) := by
  intro zz
  refine wo_body (Qc := fun A => va_Qi _ (wo_B E A) A) (ret := (some .int)) (by decide) rfl (Nat.le_of_ble_eq_true rfl) ?_
  intro p_ e_ s_ m_ args_ below_ meth_ code_ A_ ls S hret hlk hnm G hl
  have hl : lv_has ls 3 [(0, .ref wk), (1, .int o), (2, .int u)] := hl
  have hx := S.1
  have hb := S.2.1
  refine lv_aload_n hx hb dX3_stop_0 rfl (lv_at hl 0 rfl) ?_
  refine lv_iload_n hx hb dX3_stop_1 rfl (lv_at hl 1 rfl) ?_
  refine g_put (fs' := [.ref st, .int lim, .int bg, .int o, .int dp, .int th]) (ty := .int) (v := .int o) S G (Rc_wk R) rfl tyX3 tyX3_ok nmX3 (by decide +kernel) 3 (by decide) (by decide +kernel) rfl (by decide +kernel) rfl rfl (Nat.le_of_ble_eq_true rfl) rfl dX3_stop_2 (fun H locs G => ?_)
  obtain ⟨w, R, G⟩ := Rc_ex (Rc_p_wou R o) G
  refine lv_aload_n hx hb dX3_stop_5 rfl (lv_at hl 0 rfl) ?_
  refine lv_iload_n hx hb dX3_stop_6 rfl (lv_at hl 2 rfl) ?_
  refine g_put (fs' := [.ref st, .int lim, .int bg, .int o, .int u, .int th]) (ty := .int) (v := .int u) S G (Rc_wk R) rfl tyX3 tyX3_ok nmX3 (by decide +kernel) 4 (by decide) (by decide +kernel) rfl (by decide +kernel) rfl rfl (Nat.le_of_ble_eq_true rfl) rfl dX3_stop_7 (fun H locs G => ?_)
  obtain ⟨w, R, G⟩ := Rc_ex (Rc_p_dp R u) G
  refine lv_iconst (v := 0) hx hb dX3_stop_10 (by decide) ?_
  refine r_int S hret hlk G rfl (Nat.le_of_ble_eq_true rfl) (Nat.le_of_ble_eq_true rfl) dX3_stop_11 ?_
  exact ⟨rfl, R⟩
