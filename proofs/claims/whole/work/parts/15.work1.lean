/-! THE CLASS: Work: the numbers -/
theorem nm_spent {cl vs lk hd so sz : Nat → Int32} {it : Nat → Int64} {lim bg : Int32} {d a : Nat} (h : bg = lim) : nm cl vs lk hd so sz it lim (d + 1) a bg = (9, 0, bg, nI (29 - d), 0) := by
  simp [nm, tk, pl, h]
theorem nm_c0 {cl vs lk hd so sz : Nat → Int32} {it : Nat → Int64} {lim bg : Int32} {d a : Nat} (h : ¬ bg = lim) (ec : cl a = 0) : nm cl vs lk hd so sz it lim (d + 1) a bg = (0, vs a, bg + 1, 0, 0) := by
  simp [nm, tk, pl, h, ec]
theorem nm_c1 {cl vs lk hd so sz : Nat → Int32} {it : Nat → Int64} {lim bg : Int32} {d a : Nat} (h : ¬ bg = lim) (ec : cl a = 1) : nm cl vs lk hd so sz it lim (d + 1) a bg = (0, 2 * vs a, bg + 1, 0, 0) := by
  simp [nm, tk, pl, h, ec]
theorem nm_c2 {cl vs lk hd so sz : Nat → Int32} {it : Nat → Int64} {lim bg : Int32} {d a : Nat} (h : ¬ bg = lim) (ec : cl a = 2) : nm cl vs lk hd so sz it lim (d + 1) a bg = (0, 3 * vs a, bg + 1, 0, 0) := by
  simp [nm, tk, pl, h, ec]
theorem nm_c3z {cl vs lk hd so sz : Nat → Int32} {it : Nat → Int64} {lim bg : Int32} {d a : Nat} (h : ¬ bg = lim) (ec : cl a = 3) (e : vs a = 0) : nm cl vs lk hd so sz it lim (d + 1) a bg = (6, 0, bg + 1, nI (30 - d), 0) := by
  simp [nm, tk, pl, h, ec, e]
theorem nm_c3 {cl vs lk hd so sz : Nat → Int32} {it : Nat → Int64} {lim bg : Int32} {d a : Nat} (h : ¬ bg = lim) (ec : cl a = 3) (e : ¬ vs a = 0) : nm cl vs lk hd so sz it lim (d + 1) a bg = (0, 1000 / vs a, bg + 1, 0, 0) := by
  simp [nm, tk, pl, h, ec, e]
theorem nm_c4n {cl vs lk hd so sz : Nat → Int32} {it : Nat → Int64} {lim bg : Int32} {d a : Nat} (h : ¬ bg = lim) (ec : cl a = 4) (e : lk a = -1) : nm cl vs lk hd so sz it lim (d + 1) a bg = (1, 0, bg + 1, nI (30 - d), 0) := by
  simp [nm, tk, pl, h, ec, e]
theorem nm_c4 {cl vs lk hd so sz : Nat → Int32} {it : Nat → Int64} {lim bg : Int32} {d a : Nat} (h : ¬ bg = lim) {j : Nat} (hj : j < 1000) (ec : cl a = 4) (e : lk a = nI j) : nm cl vs lk hd so sz it lim (d + 1) a bg = ((nm cl vs lk hd so sz it lim d j (bg + 1)).1, (nm cl vs lk hd so sz it lim d j (bg + 1)).2.1 + 1, (nm cl vs lk hd so sz it lim d j (bg + 1)).2.2) := by
  simp [nm, tk, pl, h, ec, e, nm1 (show j < 100000 by omega), cn_nI (show j < 2 ^ 31 by omega)]
theorem nm_c5z {cl vs lk hd so sz : Nat → Int32} {it : Nat → Int64} {lim bg : Int32} {d a : Nat} (h : ¬ bg = lim) (ec : cl a = 5) (e : vs a = 0) : nm cl vs lk hd so sz it lim (d + 1) a bg = (1, 0, bg + 1, nI (30 - d), 0) := by
  simp [nm, tk, pl, h, ec, e]
theorem nm_c5 {cl vs lk hd so sz : Nat → Int32} {it : Nat → Int64} {lim bg : Int32} {d a : Nat} (h : ¬ bg = lim) (ec : cl a = 5) (e : ¬ vs a = 0) : nm cl vs lk hd so sz it lim (d + 1) a bg = (7, 0, bg + 1, nI (30 - d), vs a) := by
  simp [nm, tk, pl, h, ec, e]
theorem nm_c6n {cl vs lk hd so sz : Nat → Int32} {it : Nat → Int64} {lim bg : Int32} {d a : Nat} (h : ¬ bg = lim) (ec : cl a = 6) (e : hd a = -1) : nm cl vs lk hd so sz it lim (d + 1) a bg = (1, 0, bg + 1, nI (30 - d), 0) := by
  simp [nm, tk, pl, h, ec, e]
theorem nm_c6e {cl vs lk hd so sz : Nat → Int32} {it : Nat → Int64} {lim bg : Int32} {d a : Nat} (h : ¬ bg = lim) {r : Nat} (hr : r < 1000) (ec : cl a = 6) (e : hd a = nI r) (z : sz r = 0) : nm cl vs lk hd so sz it lim (d + 1) a bg = (3, 0, bg + 1, nI (30 - d), 0) := by
  simp [nm, tk, pl, h, ec, e, nm1 (show r < 100000 by omega), cn_nI (show r < 2 ^ 31 by omega), z]
theorem nm_c6i {cl vs lk hd so sz : Nat → Int32} {it : Nat → Int64} {lim bg : Int32} {d a : Nat} (h : ¬ bg = lim) {r : Nat} (hr : r < 1000) (ec : cl a = 6) (e : hd a = nI r) (z : ¬ sz r = 0) (s : so r < 2) : nm cl vs lk hd so sz it lim (d + 1) a bg = (0, (it (12 * r)).toInt32, bg + 1, 0, 0) := by
  simp [nm, tk, pl, h, ec, e, nm1 (show r < 100000 by omega), cn_nI (show r < 2 ^ 31 by omega), z, s]
theorem nm_c6m {cl vs lk hd so sz : Nat → Int32} {it : Nat → Int64} {lim bg : Int32} {d a : Nat} (h : ¬ bg = lim) {r : Nat} (hr : r < 1000) (ec : cl a = 6) (e : hd a = nI r) (z : ¬ sz r = 0) (s : ¬ so r < 2) (i : (it (12 * r)).toInt32 = -1) : nm cl vs lk hd so sz it lim (d + 1) a bg = (1, 0, bg + 1, nI (30 - d), 0) := by
  simp [nm, tk, pl, h, ec, e, nm1 (show r < 100000 by omega), cn_nI (show r < 2 ^ 31 by omega), z, s, i]
theorem nm_c6 {cl vs lk hd so sz : Nat → Int32} {it : Nat → Int64} {lim bg : Int32} {d a : Nat} (h : ¬ bg = lim) {r : Nat} (hr : r < 1000) (ec : cl a = 6) (e : hd a = nI r) {j : Nat} (hj : j < 1000) (z : ¬ sz r = 0) (s : ¬ so r < 2) (i : (it (12 * r)).toInt32 = nI j) : nm cl vs lk hd so sz it lim (d + 1) a bg = ((nm cl vs lk hd so sz it lim d j (bg + 1)).1, (nm cl vs lk hd so sz it lim d j (bg + 1)).2.1, (nm cl vs lk hd so sz it lim d j (bg + 1)).2.2) := by
  simp [nm, tk, pl, h, ec, e, nm1 (show r < 100000 by omega), cn_nI (show r < 2 ^ 31 by omega), z, s, i, nm1 (show j < 100000 by omega), cn_nI (show j < 2 ^ 31 by omega)]
theorem nm_c7n {cl vs lk hd so sz : Nat → Int32} {it : Nat → Int64} {lim bg : Int32} {d a : Nat} (h : ¬ bg = lim) (ec : cl a = 7) (e : hd a = -1) : nm cl vs lk hd so sz it lim (d + 1) a bg = (1, 0, bg + 1, nI (30 - d), 0) := by
  simp [nm, tk, pl, h, ec, e]
theorem nm_c7c {cl vs lk hd so sz : Nat → Int32} {it : Nat → Int64} {lim bg : Int32} {d a : Nat} (h : ¬ bg = lim) {r : Nat} (hr : r < 1000) (ec : cl a = 7) (e : hd a = nI r) (s : ¬ so r = 0) : nm cl vs lk hd so sz it lim (d + 1) a bg = (2, 0, bg + 1, nI (30 - d), 0) := by
  simp [nm, tk, pl, h, ec, e, nm1 (show r < 100000 by omega), cn_nI (show r < 2 ^ 31 by omega), s]
theorem nm_c7 {cl vs lk hd so sz : Nat → Int32} {it : Nat → Int64} {lim bg : Int32} {d a : Nat} (h : ¬ bg = lim) {r : Nat} (hr : r < 1000) (ec : cl a = 7) (e : hd a = nI r) (s : so r = 0) : nm cl vs lk hd so sz it lim (d + 1) a bg = (0, sm it (12 * r) (cn (sz r)), bg + 1, 0, 0) := by
  simp [nm, tk, pl, h, ec, e, nm1 (show r < 100000 by omega), cn_nI (show r < 2 ^ 31 by omega), s]
def sf (f : Nat → Int64) : Nat → Int32
  | 0 => 0
  | k + 1 => sf f k + (f k).toInt32
theorem sf_sm {f it : Nat → Int64} {b : Nat} : ∀ (N : Nat), (∀ k, k < N → f k = it (b + k)) → sf f N = sm it b N := by
  intro N
  induction N with
  | zero => intro _; rfl
  | succ N ih =>
    intro h
    rw [sf, sm, ih (fun k hk => h k (by omega)), h N (by omega)]
set_option maxHeartbeats 4000000 in
set_option maxRecDepth 100000 in
theorem c_X3_throwOwn (l : Launch) {E : EV} {w : wo} {x st wk tl ta : Nat} {tf : Nat → Option Nat} {T Rw Ia : Nat → Nat} {F : Nat → Nat → Int64} {n : Nat} {cl vs lk hd : Nat → Int32} {nr : Nat} {so sz : Nat → Int32} {it : Nat → Int64} {oc ow bg dp : Int32} {td : Nat → Int32} {lim wou th : Int32} (R : Rc E w (x, st, wk, tl, ta, tf, T, Rw, Ia, F) (n, cl, vs, lk, hd, nr, so, sz, it, oc, ow, bg, dp, td) (lim, wou, th)) (v u : Int32) : ct_i l E yX3_throwOwn wsX3_throwOwn 1 0 0 [.ref wk, .int v, .int u] w (fun r w' => r = 0 ∧ Rc E w' (x, st, wk, tl, ta, tf, T, Rw, Ia, F) (n, cl, vs, lk, hd, nr, so, sz, it, oc, ow, bg, u, td) (lim, if v = 0 then 1 else 7, if v = 0 then th else v)) := by
  intro zz
  refine wo_body (Qc := fun A => va_Qi _ (wo_B E A) A) (ret := (some .int)) (by decide) rfl (Nat.le_of_ble_eq_true rfl) ?_
  intro p_ e_ s_ m_ args_ below_ meth_ code_ A_ ls S hret hlk hnm G hl
  have hl : lv_has ls 3 [(0, .ref wk), (1, .int v), (2, .int u)] := hl
  have hx := S.1
  have hb := S.2.1
  refine lv_iload_n hx hb dX3_throwOwn_0 rfl (lv_at hl 1 rfl) ?_
  refine lv_if_ne (tgt := 11) hx hb dX3_throwOwn_1 (by decide) (fun c1 => ?_) (fun c1 => ?_)
  · skip
    refine lv_aload_n hx hb dX3_throwOwn_11 rfl (lv_at hl 0 rfl) ?_
    refine lv_iload_n hx hb dX3_throwOwn_12 rfl (lv_at hl 1 rfl) ?_
    refine g_put (fs' := [.ref st, .int lim, .int bg, .int wou, .int dp, .int v]) (ty := .int) (v := .int v) S G (Rc_wk R) rfl tyX3 tyX3_ok nmX3 (by decide +kernel) 5 (by decide) (by decide +kernel) rfl (by decide +kernel) rfl rfl (Nat.le_of_ble_eq_true rfl) rfl dX3_throwOwn_13 (fun H locs G => ?_)
    obtain ⟨w, R, G⟩ := Rc_ex (Rc_p_th R v) G
    refine lv_aload_n hx hb dX3_throwOwn_16 rfl (lv_at hl 0 rfl) ?_
    refine lv_bipush (v := 7) hx hb dX3_throwOwn_17 (by decide) ?_
    refine lv_iload_n hx hb dX3_throwOwn_19 rfl (lv_at hl 2 rfl) ?_
    refine g_Vi (n := 2) (rest := []) S G hl (c_X3_stop l R 7 u) gX3_throwOwn_X3_stop rfl (by decide +kernel) (Rc_wk R) rfl rfl rfl (Nat.le_of_ble_eq_true rfl) ⟨Nat.le_of_ble_eq_true rfl, Nat.le_of_ble_eq_true rfl⟩ ⟨Nat.le_of_ble_eq_true rfl, Nat.le_of_ble_eq_true rfl⟩ dX3_throwOwn_20 ?_
    clear G; intro r_ w1 H locs hp G
    obtain ⟨rfl, R⟩ := hp
    refine r_int S hret hlk G rfl (Nat.le_of_ble_eq_true rfl) (Nat.le_of_ble_eq_true rfl) dX3_throwOwn_23 ?_
    rw [if_neg c1, if_neg c1]
    exact ⟨rfl, R⟩
  · skip
    refine lv_aload_n hx hb dX3_throwOwn_4 rfl (lv_at hl 0 rfl) ?_
    refine lv_iconst (v := 1) hx hb dX3_throwOwn_5 (by decide) ?_
    refine lv_iload_n hx hb dX3_throwOwn_6 rfl (lv_at hl 2 rfl) ?_
    refine g_Vi (n := 2) (rest := []) S G hl (c_X3_stop l R 1 u) gX3_throwOwn_X3_stop rfl (by decide +kernel) (Rc_wk R) rfl rfl rfl (Nat.le_of_ble_eq_true rfl) ⟨Nat.le_of_ble_eq_true rfl, Nat.le_of_ble_eq_true rfl⟩ ⟨Nat.le_of_ble_eq_true rfl, Nat.le_of_ble_eq_true rfl⟩ dX3_throwOwn_7 ?_
    clear G; intro r_ w1 H locs hp G
    obtain ⟨rfl, R⟩ := hp
    refine r_int S hret hlk G rfl (Nat.le_of_ble_eq_true rfl) (Nat.le_of_ble_eq_true rfl) dX3_throwOwn_10 ?_
    rw [if_pos c1, if_pos c1]
    exact ⟨rfl, R⟩

set_option maxHeartbeats 4000000 in
set_option maxRecDepth 100000 in
theorem lp_X3_sumOf {p_ : Program} {l : Launch} {e_ : Env} {R_ : Room} {s_ : State} {m_ : MethodId} {args_ : Array Value} {below_ : List Frame} {meth_ : Method} {code_ : Code} {cells slots : Nat} {Q_ : State → Prop} {E : EV} {A_ : Nat → Prop} {H : Heap} {locs : List Loc} {w : wo} (S : CallFix p_ m_ code_ cX3_sumOf 9 s_ args_ wsX3_sumOf yX3_sumOf.cls) (G : wo_G E A_ s_ w H locs) {b N : Nat} {f : Nat → Int64} (hN : N ≤ 1000) (ha : w b = some (.inl (E.2.2.1, N, .inr (.inl f)))) (kx : ∀ ls : Array Slot, lv_has ls 9 [(3, .int (sf f N))] → W p_ l e_ R_ s_ m_ args_ below_ meth_ code_ H locs cells slots Q_ (F0 m_ 67 ls [])) : ∀ (mm j : Nat) (sj jv : Int32), j + mm = N → sj = sf f j → jv = nI j → ∀ ls : Array Slot, lv_has ls 9 [(3, .int sj), (4, .ref b), (5, .int (nI N)), (6, .int jv)] → W p_ l e_ R_ s_ m_ args_ below_ meth_ code_ H locs cells slots Q_ (F0 m_ 41 ls []) := by
  have hx := S.1
  have hb := S.2.1
  intro mm
  induction mm with
  | zero =>
    intro j sj jv hj es ej ls hl
    refine lv_iload hx hb dX3_sumOf_41 (lv_at hl 3 rfl) ?_
    refine lv_iload hx hb dX3_sumOf_43 (lv_at hl 2 rfl) ?_
    refine lv_icmp_ge (tgt := 67) hx hb dX3_sumOf_45 (by decide) (fun c1 => ?_) (fun c1 => absurd (by rw [ej]; exact nI_le (by omega) (by omega)) c1)
    exact kx ls (by rw [es, show j = N by omega] at hl; exact lv_sub hl [0] rfl)
  | succ mm ih =>
    intro j sj jv hj es ej ls hl
    refine lv_iload hx hb dX3_sumOf_41 (lv_at hl 3 rfl) ?_
    refine lv_iload hx hb dX3_sumOf_43 (lv_at hl 2 rfl) ?_
    refine lv_icmp_ge (tgt := 67) hx hb dX3_sumOf_45 (by decide) (fun c1 => absurd c1 (by rw [ej]; exact nI_ge (by omega) (by omega))) (fun c1 => ?_)
    refine lv_aload hx hb dX3_sumOf_48 (lv_at hl 1 rfl) ?_
    refine lv_iload hx hb dX3_sumOf_50 (lv_at hl 3 rfl) ?_
    refine g_lald S G ha (vin_e ej (show j < N by omega) (by omega)) dX3_sumOf_52 ?_
    refine lv_lstore (lv' := [(7, .long (f (Int32.toNatClampNeg jv))), (3, .int sj), (4, .ref b), (5, .int (nI N)), (6, .int jv)]) hx hb dX3_sumOf_53 hl (by decide) rfl (fun ls hl => ?_)
    refine lv_iload_n hx hb dX3_sumOf_55 rfl (lv_at hl 1 rfl) ?_
    refine lv_lload hx hb dX3_sumOf_56 (lv_at hl 0 rfl) ?_
    refine lv_l2i (v := (Int64.toInt32 (f (Int32.toNatClampNeg jv)))) hx hb dX3_sumOf_58 rfl ?_
    refine lv_iadd hx hb dX3_sumOf_59 ?_
    refine lv_topi (fun a2 ea2 => ?_)
    refine lv_istore_n (lv' := [(3, .int a2), (7, .long (f (Int32.toNatClampNeg jv))), (4, .ref b), (5, .int (nI N)), (6, .int jv)]) hx hb dX3_sumOf_60 rfl hl (by decide) rfl (fun ls hl => ?_)
    obtain ⟨a3, ea3⟩ : ∃ y : Int32, y = jv + 1 := ⟨_, rfl⟩
    refine lv_iinc (v := a3) (lv' := [(6, .int a3), (3, .int a2), (7, .long (f (Int32.toNatClampNeg jv))), (4, .ref b), (5, .int (nI N))]) hx hb dX3_sumOf_61 hl (k := 4) rfl (by rw [ea3]; rfl) (by decide) rfl (fun ls hl => ?_)
    refine lv_goto (tgt := 41) hx hb dX3_sumOf_64 (by decide) ?_
    exact ih (j + 1) a2 a3 (by omega) (by rw [ea2, es, show Int32.toNatClampNeg jv = j from cn_e ej (by omega)]; rfl) (by rw [ea3, ej]; exact nI_1 j) ls (lv_sub hl [1, 3, 4, 0] rfl)
set_option maxHeartbeats 4000000 in
set_option maxRecDepth 100000 in
theorem c_X3_sumOf_n (l : Launch) {E : EV} {w : wo} {x st wk tl ta : Nat} {tf : Nat → Option Nat} {T Rw Ia : Nat → Nat} {F : Nat → Nat → Int64} {n : Nat} {cl vs lk hd : Nat → Int32} {nr : Nat} {so sz : Nat → Int32} {it : Nat → Int64} {oc ow bg dp : Int32} {td : Nat → Int32} {lim wou th : Int32} (R : Rc E w (x, st, wk, tl, ta, tf, T, Rw, Ia, F) (n, cl, vs, lk, hd, nr, so, sz, it, oc, ow, bg, dp, td) (lim, wou, th)) (u : Int32) : ct_i l E yX3_sumOf wsX3_sumOf 1 0 0 [.ref wk, .null, .int u] w (fun r w' => r = 0 ∧ Rc E w' (x, st, wk, tl, ta, tf, T, Rw, Ia, F) (n, cl, vs, lk, hd, nr, so, sz, it, oc, ow, bg, u, td) (lim, 1, th)) := by
  intro zz
  refine wo_body (Qc := fun A => va_Qi _ (wo_B E A) A) (ret := (some .int)) (by decide) rfl (Nat.le_of_ble_eq_true rfl) ?_
  intro p_ e_ s_ m_ args_ below_ meth_ code_ A_ ls S hret hlk hnm G hl
  have hl : lv_has ls 9 [(0, .ref wk), (1, .null), (2, .int u)] := hl
  have hx := S.1
  have hb := S.2.1
  refine lv_aload_nN hx hb dX3_sumOf_0 rfl (lv_at hl 1 rfl) ?_
  refine lv_ifnonnullN hx hb dX3_sumOf_1 ?_
  refine lv_aload_n hx hb dX3_sumOf_4 rfl (lv_at hl 0 rfl) ?_
  refine lv_iconst (v := 1) hx hb dX3_sumOf_5 (by decide) ?_
  refine lv_iload_n hx hb dX3_sumOf_6 rfl (lv_at hl 2 rfl) ?_
  refine g_Vi (n := 2) (rest := []) S G hl (c_X3_stop l R 1 u) gX3_sumOf_X3_stop rfl (by decide +kernel) (Rc_wk R) rfl rfl rfl (Nat.le_of_ble_eq_true rfl) ⟨Nat.le_of_ble_eq_true rfl, Nat.le_of_ble_eq_true rfl⟩ ⟨Nat.le_of_ble_eq_true rfl, Nat.le_of_ble_eq_true rfl⟩ dX3_sumOf_7 ?_
  clear G; intro r_ w1 H locs hp G
  obtain ⟨rfl, R⟩ := hp
  refine r_int S hret hlk G rfl (Nat.le_of_ble_eq_true rfl) (Nat.le_of_ble_eq_true rfl) dX3_sumOf_10 ?_
  exact ⟨rfl, R⟩

set_option maxHeartbeats 4000000 in
set_option maxRecDepth 100000 in
theorem c_X3_sumOf_y (l : Launch) {E : EV} {w : wo} {x st wk tl ta : Nat} {tf : Nat → Option Nat} {T Rw Ia : Nat → Nat} {F : Nat → Nat → Int64} {n : Nat} {cl vs lk hd : Nat → Int32} {nr : Nat} {so sz : Nat → Int32} {it : Nat → Int64} {oc ow bg dp : Int32} {td : Nat → Int32} {lim wou th : Int32} (R : Rc E w (x, st, wk, tl, ta, tf, T, Rw, Ia, F) (n, cl, vs, lk, hd, nr, so, sz, it, oc, ow, bg, dp, td) (lim, wou, th)) {r : Nat} (hr : r < nr) (hz : cn (sz r) ≤ 12) (u : Int32) : ct_i l E yX3_sumOf wsX3_sumOf 1 0 0 [.ref wk, .ref (Rw r), .int u] w (fun q w' => (so r = 0 ∧ q = sm it (12 * r) (cn (sz r)) ∧ Rc E w' (x, st, wk, tl, ta, tf, T, Rw, Ia, F) (n, cl, vs, lk, hd, nr, so, sz, it, oc, ow, bg, dp, td) (lim, wou, th)) ∨ (¬ so r = 0 ∧ q = 0 ∧ Rc E w' (x, st, wk, tl, ta, tf, T, Rw, Ia, F) (n, cl, vs, lk, hd, nr, so, sz, it, oc, ow, bg, u, td) (lim, 2, th))) := by
  intro zz
  refine wo_body (Qc := fun A => va_Qi _ (wo_B E A) A) (ret := (some .int)) (by decide) rfl (Nat.le_of_ble_eq_true rfl) ?_
  intro p_ e_ s_ m_ args_ below_ meth_ code_ A_ ls S hret hlk hnm G hl
  have hl : lv_has ls 9 [(0, .ref wk), (1, .ref (Rw r)), (2, .int u)] := hl
  have hx := S.1
  have hb := S.2.1
  refine lv_aload_n hx hb dX3_sumOf_0 rfl (lv_at hl 1 rfl) ?_
  refine lv_ifnonnull (tgt := 11) hx hb dX3_sumOf_1 (by decide) ?_
  refine lv_aload_n hx hb dX3_sumOf_11 rfl (lv_at hl 1 rfl) ?_
  refine g_get S G (Rc_Rw R r hr) rfl (by decide +kernel) 0 (by decide) (by decide +kernel) rfl dX3_sumOf_12 ?_
  refine lv_if_eq (tgt := 25) hx hb dX3_sumOf_15 (by decide) (fun c1 => ?_) (fun c1 => ?_)
  · skip
    refine lv_iconst (v := 0) hx hb dX3_sumOf_25 (by decide) ?_
    refine lv_istore_n (lv' := [(3, .int 0), (0, .ref wk), (1, .ref (Rw r)), (2, .int u)]) hx hb dX3_sumOf_26 rfl hl (by decide) rfl (fun ls hl => ?_)
    refine lv_aload_n hx hb dX3_sumOf_27 rfl (lv_at hl 2 rfl) ?_
    refine g_get S G (Rc_Rw R r hr) rfl (by decide +kernel) 1 (by decide) (by decide +kernel) rfl dX3_sumOf_28 ?_
    refine lv_astore (lv' := [(4, .ref (Ia r)), (3, .int 0), (0, .ref wk), (1, .ref (Rw r)), (2, .int u)]) hx hb dX3_sumOf_31 hl (by decide) rfl (fun ls hl => ?_)
    refine lv_aload hx hb dX3_sumOf_33 (lv_at hl 0 rfl) ?_
    refine g_llen S G (Rc_Ia R r hr) dX3_sumOf_35 ?_
    refine lv_istore (lv' := [(5, .int (nI (cn (sz r)))), (4, .ref (Ia r)), (3, .int 0), (0, .ref wk), (1, .ref (Rw r)), (2, .int u)]) hx hb dX3_sumOf_36 hl (by decide) rfl (fun ls hl => ?_)
    refine lv_iconst (v := 0) hx hb dX3_sumOf_38 (by decide) ?_
    refine lv_istore (lv' := [(6, .int 0), (5, .int (nI (cn (sz r)))), (4, .ref (Ia r)), (3, .int 0), (0, .ref wk), (1, .ref (Rw r)), (2, .int u)]) hx hb dX3_sumOf_39 hl (by decide) rfl (fun ls hl => ?_)
    refine lp_X3_sumOf S G (Nat.le_trans hz (by decide)) (Rc_Ia R r hr) (fun ls hl => ?_) (cn (sz r)) 0 0 0 (by omega) rfl rfl ls (lv_sub hl [3, 2, 1, 0] rfl)
    refine lv_iload_n hx hb dX3_sumOf_67 rfl (lv_at hl 0 rfl) ?_
    refine r_int S hret hlk G rfl (Nat.le_of_ble_eq_true rfl) (Nat.le_of_ble_eq_true rfl) dX3_sumOf_68 ?_
    exact Or.inl ⟨c1, sf_sm _ (fun k hk => Rc_F R r hr k hk), R⟩
  · skip
    refine lv_aload_n hx hb dX3_sumOf_18 rfl (lv_at hl 0 rfl) ?_
    refine lv_iconst (v := 2) hx hb dX3_sumOf_19 (by decide) ?_
    refine lv_iload_n hx hb dX3_sumOf_20 rfl (lv_at hl 2 rfl) ?_
    refine g_Vi (n := 2) (rest := []) S G hl (c_X3_stop l R 2 u) gX3_sumOf_X3_stop rfl (by decide +kernel) (Rc_wk R) rfl rfl rfl (Nat.le_of_ble_eq_true rfl) ⟨Nat.le_of_ble_eq_true rfl, Nat.le_of_ble_eq_true rfl⟩ ⟨Nat.le_of_ble_eq_true rfl, Nat.le_of_ble_eq_true rfl⟩ dX3_sumOf_21 ?_
    clear G; intro r_ w1 H locs hp G
    obtain ⟨rfl, R⟩ := hp
    refine r_int S hret hlk G rfl (Nat.le_of_ble_eq_true rfl) (Nat.le_of_ble_eq_true rfl) dX3_sumOf_24 ?_
    exact Or.inr ⟨c1, rfl, R⟩
